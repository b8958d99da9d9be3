theorem dL_areAlike_43 : decode cL_areAlike 43 = .ok (.if_icmp .ge 58, 3) := by decide +kernel
theorem dL_areAlike_46 : decode cL_areAlike 46 = .ok (.iconst 0, 1) := by decide +kernel
theorem dL_areAlike_47 : decode cL_areAlike 47 = .ok (.istore 4, 2) := by decide +kernel
theorem dL_areAlike_49 : decode cL_areAlike 49 = .ok (.iload 4, 2) := by decide +kernel
theorem dL_areAlike_51 : decode cL_areAlike 51 = .ok (.bipush 14, 2) := by decide +kernel
theorem dL_areAlike_53 : decode cL_areAlike 53 = .ok (.if_icmp .ge 42, 3) := by decide +kernel
theorem dL_areAlike_56 : decode cL_areAlike 56 = .ok (.iload_n 2, 1) := by decide +kernel
theorem dL_areAlike_57 : decode cL_areAlike 57 = .ok (.ifCond .eq 30, 3) := by decide +kernel
theorem dL_areAlike_60 : decode cL_areAlike 60 = .ok (.iload 4, 2) := by decide +kernel
theorem dL_areAlike_62 : decode cL_areAlike 62 = .ok (.iconst 1, 1) := by decide +kernel
theorem dL_areAlike_63 : decode cL_areAlike 63 = .ok (.if_icmp .eq 20, 3) := by decide +kernel
theorem dL_areAlike_66 : decode cL_areAlike 66 = .ok (.aload_n 0, 1) := by decide +kernel
theorem dL_areAlike_67 : decode cL_areAlike 67 = .ok (.iload_n 3, 1) := by decide +kernel
theorem dL_areAlike_68 : decode cL_areAlike 68 = .ok (.iload 4, 2) := by decide +kernel
theorem dL_areAlike_70 : decode cL_areAlike 70 = .ok (.invokevirtual 33, 3) := by decide +kernel
theorem dL_areAlike_73 : decode cL_areAlike 73 = .ok (.aload_n 1, 1) := by decide +kernel
theorem dL_areAlike_74 : decode cL_areAlike 74 = .ok (.iload_n 3, 1) := by decide +kernel
theorem dL_areAlike_75 : decode cL_areAlike 75 = .ok (.iload 4, 2) := by decide +kernel
theorem dL_areAlike_77 : decode cL_areAlike 77 = .ok (.invokevirtual 33, 3) := by decide +kernel
theorem dL_areAlike_80 : decode cL_areAlike 80 = .ok (.if_icmp .ne 7, 3) := by decide +kernel
theorem dL_areAlike_83 : decode cL_areAlike 83 = .ok (.iconst 1, 1) := by decide +kernel
theorem dL_areAlike_84 : decode cL_areAlike 84 = .ok (.goto 4, 3) := by decide +kernel
theorem dL_areAlike_87 : decode cL_areAlike 87 = .ok (.iconst 0, 1) := by decide +kernel
theorem dL_areAlike_88 : decode cL_areAlike 88 = .ok (.istore_n 2, 1) := by decide +kernel
theorem dL_areAlike_89 : decode cL_areAlike 89 = .ok (.iinc 4 1, 3) := by decide +kernel
theorem dL_areAlike_92 : decode cL_areAlike 92 = .ok (.goto (-43), 3) := by decide +kernel
theorem dL_areAlike_95 : decode cL_areAlike 95 = .ok (.iinc 3 1, 3) := by decide +kernel
theorem dL_areAlike_98 : decode cL_areAlike 98 = .ok (.goto (-57), 3) := by decide +kernel
theorem dL_areAlike_101 : decode cL_areAlike 101 = .ok (.iconst 0, 1) := by decide +kernel
theorem dL_areAlike_102 : decode cL_areAlike 102 = .ok (.istore_n 3, 1) := by decide +kernel
theorem dL_areAlike_103 : decode cL_areAlike 103 = .ok (.iload_n 3, 1) := by decide +kernel
theorem dL_areAlike_104 : decode cL_areAlike 104 = .ok (.aload_n 0, 1) := by decide +kernel
theorem dL_areAlike_105 : decode cL_areAlike 105 = .ok (.iconst 2, 1) := by decide +kernel
theorem dL_areAlike_106 : decode cL_areAlike 106 = .ok (.invokevirtual 21, 3) := by decide +kernel
theorem dL_areAlike_109 : decode cL_areAlike 109 = .ok (.if_icmp .ge 96, 3) := by decide +kernel
theorem dL_areAlike_112 : decode cL_areAlike 112 = .ok (.aload_n 0, 1) := by decide +kernel
theorem dL_areAlike_113 : decode cL_areAlike 113 = .ok (.iload_n 3, 1) := by decide +kernel
theorem dL_areAlike_114 : decode cL_areAlike 114 = .ok (.iconst 1, 1) := by decide +kernel
theorem dL_areAlike_115 : decode cL_areAlike 115 = .ok (.invokevirtual 65, 3) := by decide +kernel
theorem dL_areAlike_118 : decode cL_areAlike 118 = .ok (.bipush (-5), 2) := by decide +kernel
theorem dL_areAlike_120 : decode cL_areAlike 120 = .ok (.if_icmp .eq 7, 3) := by decide +kernel
theorem dL_areAlike_123 : decode cL_areAlike 123 = .ok (.iconst 1, 1) := by decide +kernel
theorem dL_areAlike_124 : decode cL_areAlike 124 = .ok (.goto 4, 3) := by decide +kernel
theorem dL_areAlike_127 : decode cL_areAlike 127 = .ok (.iconst 0, 1) := by decide +kernel
theorem dL_areAlike_128 : decode cL_areAlike 128 = .ok (.istore 4, 2) := by decide +kernel
theorem dL_areAlike_130 : decode cL_areAlike 130 = .ok (.iload_n 2, 1) := by decide +kernel
theorem dL_areAlike_131 : decode cL_areAlike 131 = .ok (.ifCond .eq 66, 3) := by decide +kernel
theorem dL_areAlike_134 : decode cL_areAlike 134 = .ok (.aload_n 0, 1) := by decide +kernel
theorem dL_areAlike_135 : decode cL_areAlike 135 = .ok (.iload_n 3, 1) := by decide +kernel
theorem dL_areAlike_136 : decode cL_areAlike 136 = .ok (.iconst 1, 1) := by decide +kernel
theorem dL_areAlike_137 : decode cL_areAlike 137 = .ok (.invokevirtual 65, 3) := by decide +kernel
theorem dL_areAlike_140 : decode cL_areAlike 140 = .ok (.aload_n 1, 1) := by decide +kernel
theorem dL_areAlike_141 : decode cL_areAlike 141 = .ok (.iload_n 3, 1) := by decide +kernel
theorem dL_areAlike_142 : decode cL_areAlike 142 = .ok (.iconst 1, 1) := by decide +kernel
theorem dL_areAlike_143 : decode cL_areAlike 143 = .ok (.invokevirtual 65, 3) := by decide +kernel
theorem dL_areAlike_146 : decode cL_areAlike 146 = .ok (.if_icmp .ne 51, 3) := by decide +kernel
theorem dL_areAlike_149 : decode cL_areAlike 149 = .ok (.iload 4, 2) := by decide +kernel
theorem dL_areAlike_151 : decode cL_areAlike 151 = .ok (.ifCond .eq 24, 3) := by decide +kernel
theorem dL_areAlike_154 : decode cL_areAlike 154 = .ok (.aload_n 0, 1) := by decide +kernel
theorem dL_areAlike_155 : decode cL_areAlike 155 = .ok (.iload_n 3, 1) := by decide +kernel
theorem dL_areAlike_156 : decode cL_areAlike 156 = .ok (.iconst 0, 1) := by decide +kernel
theorem dL_areAlike_157 : decode cL_areAlike 157 = .ok (.invokevirtual 65, 3) := by decide +kernel
theorem dL_areAlike_160 : decode cL_areAlike 160 = .ok (.aload_n 1, 1) := by decide +kernel
theorem dL_areAlike_161 : decode cL_areAlike 161 = .ok (.iload_n 3, 1) := by decide +kernel
theorem dL_areAlike_162 : decode cL_areAlike 162 = .ok (.iconst 0, 1) := by decide +kernel
theorem dL_areAlike_163 : decode cL_areAlike 163 = .ok (.invokevirtual 65, 3) := by decide +kernel
theorem dL_areAlike_166 : decode cL_areAlike 166 = .ok (.iadd, 1) := by decide +kernel
theorem dL_areAlike_167 : decode cL_areAlike 167 = .ok (.bipush 99, 2) := by decide +kernel
theorem dL_areAlike_169 : decode cL_areAlike 169 = .ok (.if_icmp .ne 28, 3) := by decide +kernel
theorem dL_areAlike_172 : decode cL_areAlike 172 = .ok (.goto 21, 3) := by decide +kernel
theorem dL_areAlike_175 : decode cL_areAlike 175 = .ok (.aload_n 0, 1) := by decide +kernel
theorem dL_areAlike_176 : decode cL_areAlike 176 = .ok (.iload_n 3, 1) := by decide +kernel
theorem dL_areAlike_177 : decode cL_areAlike 177 = .ok (.iconst 0, 1) := by decide +kernel
theorem dL_areAlike_178 : decode cL_areAlike 178 = .ok (.invokevirtual 65, 3) := by decide +kernel
theorem dL_areAlike_181 : decode cL_areAlike 181 = .ok (.ifCond .ne 16, 3) := by decide +kernel
theorem dL_areAlike_184 : decode cL_areAlike 184 = .ok (.aload_n 1, 1) := by decide +kernel
theorem dL_areAlike_185 : decode cL_areAlike 185 = .ok (.iload_n 3, 1) := by decide +kernel
theorem dL_areAlike_186 : decode cL_areAlike 186 = .ok (.iconst 0, 1) := by decide +kernel
theorem dL_areAlike_187 : decode cL_areAlike 187 = .ok (.invokevirtual 65, 3) := by decide +kernel
theorem dL_areAlike_190 : decode cL_areAlike 190 = .ok (.ifCond .ne 7, 3) := by decide +kernel
theorem dL_areAlike_193 : decode cL_areAlike 193 = .ok (.iconst 1, 1) := by decide +kernel
theorem dL_areAlike_194 : decode cL_areAlike 194 = .ok (.goto 4, 3) := by decide +kernel
theorem dL_areAlike_197 : decode cL_areAlike 197 = .ok (.iconst 0, 1) := by decide +kernel
theorem dL_areAlike_198 : decode cL_areAlike 198 = .ok (.istore_n 2, 1) := by decide +kernel
theorem dL_areAlike_199 : decode cL_areAlike 199 = .ok (.iinc 3 1, 3) := by decide +kernel
theorem dL_areAlike_202 : decode cL_areAlike 202 = .ok (.goto (-99), 3) := by decide +kernel
theorem dL_areAlike_205 : decode cL_areAlike 205 = .ok (.iconst 0, 1) := by decide +kernel
theorem dL_areAlike_206 : decode cL_areAlike 206 = .ok (.istore_n 3, 1) := by decide +kernel
theorem dL_areAlike_207 : decode cL_areAlike 207 = .ok (.iload_n 3, 1) := by decide +kernel
theorem dL_areAlike_208 : decode cL_areAlike 208 = .ok (.bipush 20, 2) := by decide +kernel
theorem dL_areAlike_210 : decode cL_areAlike 210 = .ok (.if_icmp .ge 72, 3) := by decide +kernel
theorem dL_areAlike_213 : decode cL_areAlike 213 = .ok (.iload_n 3, 1) := by decide +kernel
theorem dL_areAlike_214 : decode cL_areAlike 214 = .ok (.aload_n 0, 1) := by decide +kernel
theorem dL_areAlike_215 : decode cL_areAlike 215 = .ok (.iconst 5, 1) := by decide +kernel
theorem dL_areAlike_216 : decode cL_areAlike 216 = .ok (.invokevirtual 21, 3) := by decide +kernel
theorem dL_areAlike_219 : decode cL_areAlike 219 = .ok (.if_icmp .ge 7, 3) := by decide +kernel
theorem dL_areAlike_222 : decode cL_areAlike 222 = .ok (.iconst 1, 1) := by decide +kernel
theorem dL_areAlike_223 : decode cL_areAlike 223 = .ok (.goto 4, 3) := by decide +kernel
theorem dL_areAlike_226 : decode cL_areAlike 226 = .ok (.iconst 0, 1) := by decide +kernel
theorem dL_areAlike_227 : decode cL_areAlike 227 = .ok (.istore 4, 2) := by decide +kernel
theorem dL_areAlike_229 : decode cL_areAlike 229 = .ok (.iload_n 2, 1) := by decide +kernel
theorem dL_areAlike_230 : decode cL_areAlike 230 = .ok (.ifCond .eq 44, 3) := by decide +kernel
theorem dL_areAlike_233 : decode cL_areAlike 233 = .ok (.iload 4, 2) := by decide +kernel
theorem dL_areAlike_235 : decode cL_areAlike 235 = .ok (.ifCond .eq 22, 3) := by decide +kernel
theorem dL_areAlike_238 : decode cL_areAlike 238 = .ok (.aload_n 0, 1) := by decide +kernel
theorem dL_areAlike_239 : decode cL_areAlike 239 = .ok (.iload_n 3, 1) := by decide +kernel
theorem dL_areAlike_240 : decode cL_areAlike 240 = .ok (.invokevirtual 49, 3) := by decide +kernel
theorem dL_areAlike_243 : decode cL_areAlike 243 = .ok (.aload_n 1, 1) := by decide +kernel
theorem dL_areAlike_244 : decode cL_areAlike 244 = .ok (.iload_n 3, 1) := by decide +kernel
theorem dL_areAlike_245 : decode cL_areAlike 245 = .ok (.invokevirtual 49, 3) := by decide +kernel
theorem dL_areAlike_248 : decode cL_areAlike 248 = .ok (.iadd, 1) := by decide +kernel
theorem dL_areAlike_249 : decode cL_areAlike 249 = .ok (.bipush 99, 2) := by decide +kernel
theorem dL_areAlike_251 : decode cL_areAlike 251 = .ok (.if_icmp .ne 23, 3) := by decide +kernel
theorem dL_areAlike_254 : decode cL_areAlike 254 = .ok (.goto 16, 3) := by decide +kernel
theorem dL_areAlike_257 : decode cL_areAlike 257 = .ok (.aload_n 0, 1) := by decide +kernel
theorem dL_areAlike_258 : decode cL_areAlike 258 = .ok (.iload_n 3, 1) := by decide +kernel
theorem dL_areAlike_259 : decode cL_areAlike 259 = .ok (.invokevirtual 49, 3) := by decide +kernel
theorem dL_areAlike_262 : decode cL_areAlike 262 = .ok (.aload_n 1, 1) := by decide +kernel
theorem dL_areAlike_263 : decode cL_areAlike 263 = .ok (.iload_n 3, 1) := by decide +kernel
theorem dL_areAlike_264 : decode cL_areAlike 264 = .ok (.invokevirtual 49, 3) := by decide +kernel
theorem dL_areAlike_267 : decode cL_areAlike 267 = .ok (.if_icmp .ne 7, 3) := by decide +kernel
theorem dL_areAlike_270 : decode cL_areAlike 270 = .ok (.iconst 1, 1) := by decide +kernel
theorem dL_areAlike_271 : decode cL_areAlike 271 = .ok (.goto 4, 3) := by decide +kernel
theorem dL_areAlike_274 : decode cL_areAlike 274 = .ok (.iconst 0, 1) := by decide +kernel
theorem dL_areAlike_275 : decode cL_areAlike 275 = .ok (.istore_n 2, 1) := by decide +kernel
theorem dL_areAlike_276 : decode cL_areAlike 276 = .ok (.iinc 3 1, 3) := by decide +kernel
theorem dL_areAlike_279 : decode cL_areAlike 279 = .ok (.goto (-72), 3) := by decide +kernel
theorem dL_areAlike_282 : decode cL_areAlike 282 = .ok (.iconst 0, 1) := by decide +kernel
theorem dL_areAlike_283 : decode cL_areAlike 283 = .ok (.istore_n 3, 1) := by decide +kernel
theorem dL_areAlike_284 : decode cL_areAlike 284 = .ok (.iload_n 3, 1) := by decide +kernel
theorem dL_areAlike_285 : decode cL_areAlike 285 = .ok (.bipush 16, 2) := by decide +kernel
theorem dL_areAlike_287 : decode cL_areAlike 287 = .ok (.if_icmp .ge 98, 3) := by decide +kernel
theorem dL_areAlike_290 : decode cL_areAlike 290 = .ok (.aload_n 0, 1) := by decide +kernel
theorem dL_areAlike_291 : decode cL_areAlike 291 = .ok (.iload_n 3, 1) := by decide +kernel
theorem dL_areAlike_292 : decode cL_areAlike 292 = .ok (.invokevirtual 68, 3) := by decide +kernel
theorem dL_areAlike_295 : decode cL_areAlike 295 = .ok (.istore 4, 2) := by decide +kernel
theorem dL_areAlike_297 : decode cL_areAlike 297 = .ok (.aload_n 1, 1) := by decide +kernel
theorem dL_areAlike_298 : decode cL_areAlike 298 = .ok (.iload_n 3, 1) := by decide +kernel
theorem dL_areAlike_299 : decode cL_areAlike 299 = .ok (.invokevirtual 68, 3) := by decide +kernel
theorem dL_areAlike_302 : decode cL_areAlike 302 = .ok (.istore 5, 2) := by decide +kernel
theorem dL_areAlike_304 : decode cL_areAlike 304 = .ok (.iload_n 2, 1) := by decide +kernel
theorem dL_areAlike_305 : decode cL_areAlike 305 = .ok (.ifCond .eq 72, 3) := by decide +kernel
theorem dL_areAlike_308 : decode cL_areAlike 308 = .ok (.iload 4, 2) := by decide +kernel
theorem dL_areAlike_310 : decode cL_areAlike 310 = .ok (.ifCond .ge 13, 3) := by decide +kernel
theorem dL_areAlike_313 : decode cL_areAlike 313 = .ok (.iload 4, 2) := by decide +kernel
theorem dL_areAlike_315 : decode cL_areAlike 315 = .ok (.iload 5, 2) := by decide +kernel
theorem dL_areAlike_317 : decode cL_areAlike 317 = .ok (.if_icmp .ne 60, 3) := by decide +kernel
theorem dL_areAlike_320 : decode cL_areAlike 320 = .ok (.goto 53, 3) := by decide +kernel
theorem dL_areAlike_323 : decode cL_areAlike 323 = .ok (.iload 4, 2) := by decide +kernel
theorem dL_areAlike_325 : decode cL_areAlike 325 = .ok (.bipush 100, 2) := by decide +kernel
theorem dL_areAlike_327 : decode cL_areAlike 327 = .ok (.idiv, 1) := by decide +kernel
theorem dL_areAlike_328 : decode cL_areAlike 328 = .ok (.iload 5, 2) := by decide +kernel
theorem dL_areAlike_330 : decode cL_areAlike 330 = .ok (.bipush 100, 2) := by decide +kernel
theorem dL_areAlike_332 : decode cL_areAlike 332 = .ok (.idiv, 1) := by decide +kernel
theorem dL_areAlike_333 : decode cL_areAlike 333 = .ok (.if_icmp .ne 44, 3) := by decide +kernel
theorem dL_areAlike_336 : decode cL_areAlike 336 = .ok (.iload 4, 2) := by decide +kernel
theorem dL_areAlike_338 : decode cL_areAlike 338 = .ok (.bipush 100, 2) := by decide +kernel
theorem dL_areAlike_340 : decode cL_areAlike 340 = .ok (.irem, 1) := by decide +kernel
theorem dL_areAlike_341 : decode cL_areAlike 341 = .ok (.iload 5, 2) := by decide +kernel
theorem dL_areAlike_343 : decode cL_areAlike 343 = .ok (.bipush 100, 2) := by decide +kernel
theorem dL_areAlike_345 : decode cL_areAlike 345 = .ok (.irem, 1) := by decide +kernel
theorem dL_areAlike_346 : decode cL_areAlike 346 = .ok (.iadd, 1) := by decide +kernel
theorem dL_areAlike_347 : decode cL_areAlike 347 = .ok (.bipush 99, 2) := by decide +kernel
theorem dL_areAlike_349 : decode cL_areAlike 349 = .ok (.if_icmp .eq 24, 3) := by decide +kernel
theorem dL_areAlike_352 : decode cL_areAlike 352 = .ok (.iload 4, 2) := by decide +kernel
theorem dL_areAlike_354 : decode cL_areAlike 354 = .ok (.bipush 100, 2) := by decide +kernel
theorem dL_areAlike_356 : decode cL_areAlike 356 = .ok (.if_icmp .lt 21, 3) := by decide +kernel
theorem dL_areAlike_359 : decode cL_areAlike 359 = .ok (.iload 4, 2) := by decide +kernel
theorem dL_areAlike_361 : decode cL_areAlike 361 = .ok (.bipush 100, 2) := by decide +kernel
theorem dL_areAlike_363 : decode cL_areAlike 363 = .ok (.irem, 1) := by decide +kernel
theorem dL_areAlike_364 : decode cL_areAlike 364 = .ok (.iload 5, 2) := by decide +kernel
theorem dL_areAlike_366 : decode cL_areAlike 366 = .ok (.bipush 100, 2) := by decide +kernel
theorem dL_areAlike_368 : decode cL_areAlike 368 = .ok (.irem, 1) := by decide +kernel
theorem dL_areAlike_369 : decode cL_areAlike 369 = .ok (.iadd, 1) := by decide +kernel
theorem dL_areAlike_370 : decode cL_areAlike 370 = .ok (.ifCond .ne 7, 3) := by decide +kernel
theorem dL_areAlike_373 : decode cL_areAlike 373 = .ok (.iconst 1, 1) := by decide +kernel
theorem dL_areAlike_374 : decode cL_areAlike 374 = .ok (.goto 4, 3) := by decide +kernel
theorem dL_areAlike_377 : decode cL_areAlike 377 = .ok (.iconst 0, 1) := by decide +kernel
theorem dL_areAlike_378 : decode cL_areAlike 378 = .ok (.istore_n 2, 1) := by decide +kernel
theorem dL_areAlike_379 : decode cL_areAlike 379 = .ok (.iinc 3 1, 3) := by decide +kernel
theorem dL_areAlike_382 : decode cL_areAlike 382 = .ok (.goto (-98), 3) := by decide +kernel
theorem dL_areAlike_385 : decode cL_areAlike 385 = .ok (.iload_n 2, 1) := by decide +kernel
theorem dL_areAlike_386 : decode cL_areAlike 386 = .ok (.ifCond .eq 33, 3) := by decide +kernel
theorem dL_areAlike_389 : decode cL_areAlike 389 = .ok (.aload_n 0, 1) := by decide +kernel
theorem dL_areAlike_390 : decode cL_areAlike 390 = .ok (.invokevirtual 29, 3) := by decide +kernel
theorem dL_areAlike_393 : decode cL_areAlike 393 = .ok (.aload_n 1, 1) := by decide +kernel
theorem dL_areAlike_394 : decode cL_areAlike 394 = .ok (.invokevirtual 29, 3) := by decide +kernel
theorem dL_areAlike_397 : decode cL_areAlike 397 = .ok (.if_icmp .ne 22, 3) := by decide +kernel
theorem dL_areAlike_400 : decode cL_areAlike 400 = .ok (.aload_n 0, 1) := by decide +kernel
theorem dL_areAlike_401 : decode cL_areAlike 401 = .ok (.bipush 40, 2) := by decide +kernel
theorem dL_areAlike_403 : decode cL_areAlike 403 = .ok (.invokevirtual 71, 3) := by decide +kernel
theorem dL_areAlike_406 : decode cL_areAlike 406 = .ok (.aload_n 1, 1) := by decide +kernel
theorem dL_areAlike_407 : decode cL_areAlike 407 = .ok (.bipush 40, 2) := by decide +kernel
theorem dL_areAlike_409 : decode cL_areAlike 409 = .ok (.invokevirtual 71, 3) := by decide +kernel
theorem dL_areAlike_412 : decode cL_areAlike 412 = .ok (.if_icmp .ne 7, 3) := by decide +kernel
theorem dL_areAlike_415 : decode cL_areAlike 415 = .ok (.iconst 1, 1) := by decide +kernel
theorem dL_areAlike_416 : decode cL_areAlike 416 = .ok (.goto 4, 3) := by decide +kernel
theorem dL_areAlike_419 : decode cL_areAlike 419 = .ok (.iconst 0, 1) := by decide +kernel
theorem dL_areAlike_420 : decode cL_areAlike 420 = .ok (.ireturn, 1) := by decide +kernel
theorem dL_isWell_0 : decode cL_isWell 0 = .ok (.aload_n 0, 1) := by decide +kernel
theorem dL_isWell_1 : decode cL_isWell 1 = .ok (.iconst 2, 1) := by decide +kernel
theorem dL_isWell_2 : decode cL_isWell 2 = .ok (.invokevirtual 21, 3) := by decide +kernel
theorem dL_isWell_5 : decode cL_isWell 5 = .ok (.istore_n 2, 1) := by decide +kernel
theorem dL_isWell_6 : decode cL_isWell 6 = .ok (.iconst 2, 1) := by decide +kernel
theorem dL_isWell_7 : decode cL_isWell 7 = .ok (.iload_n 2, 1) := by decide +kernel
theorem dL_isWell_8 : decode cL_isWell 8 = .ok (.imul, 1) := by decide +kernel
theorem dL_isWell_9 : decode cL_isWell 9 = .ok (.istore_n 3, 1) := by decide +kernel
theorem dL_isWell_10 : decode cL_isWell 10 = .ok (.aload_n 0, 1) := by decide +kernel
theorem dL_isWell_11 : decode cL_isWell 11 = .ok (.bipush 6, 2) := by decide +kernel
theorem dL_isWell_13 : decode cL_isWell 13 = .ok (.invokevirtual 21, 3) := by decide +kernel
theorem dL_isWell_16 : decode cL_isWell 16 = .ok (.istore 4, 2) := by decide +kernel
theorem dL_isWell_18 : decode cL_isWell 18 = .ok (.aload_n 0, 1) := by decide +kernel
theorem dL_isWell_19 : decode cL_isWell 19 = .ok (.bipush 7, 2) := by decide +kernel
theorem dL_isWell_21 : decode cL_isWell 21 = .ok (.invokevirtual 21, 3) := by decide +kernel
theorem dL_isWell_24 : decode cL_isWell 24 = .ok (.istore 5, 2) := by decide +kernel
theorem dL_isWell_26 : decode cL_isWell 26 = .ok (.iload_n 2, 1) := by decide +kernel
theorem dL_isWell_27 : decode cL_isWell 27 = .ok (.iconst 1, 1) := by decide +kernel
theorem dL_isWell_28 : decode cL_isWell 28 = .ok (.aload_n 0, 1) := by decide +kernel
theorem dL_isWell_29 : decode cL_isWell 29 = .ok (.iconst 1, 1) := by decide +kernel
theorem dL_isWell_30 : decode cL_isWell 30 = .ok (.invokevirtual 21, 3) := by decide +kernel
theorem dL_isWell_33 : decode cL_isWell 33 = .ok (.ishl, 1) := by decide +kernel
theorem dL_isWell_34 : decode cL_isWell 34 = .ok (.if_icmp .ne 70, 3) := by decide +kernel
theorem dL_isWell_37 : decode cL_isWell 37 = .ok (.aload_n 0, 1) := by decide +kernel
theorem dL_isWell_38 : decode cL_isWell 38 = .ok (.iconst 0, 1) := by decide +kernel
theorem dL_isWell_39 : decode cL_isWell 39 = .ok (.iconst 3, 1) := by decide +kernel
theorem dL_isWell_40 : decode cL_isWell 40 = .ok (.invokevirtual 33, 3) := by decide +kernel
theorem dL_isWell_43 : decode cL_isWell 43 = .ok (.iload 4, 2) := by decide +kernel
theorem dL_isWell_45 : decode cL_isWell 45 = .ok (.iload_n 3, 1) := by decide +kernel
theorem dL_isWell_46 : decode cL_isWell 46 = .ok (.irem, 1) := by decide +kernel
theorem dL_isWell_47 : decode cL_isWell 47 = .ok (.if_icmp .ne 57, 3) := by decide +kernel
theorem dL_isWell_50 : decode cL_isWell 50 = .ok (.aload_n 0, 1) := by decide +kernel
theorem dL_isWell_51 : decode cL_isWell 51 = .ok (.iconst 1, 1) := by decide +kernel
theorem dL_isWell_52 : decode cL_isWell 52 = .ok (.iconst 3, 1) := by decide +kernel
theorem dL_isWell_53 : decode cL_isWell 53 = .ok (.invokevirtual 33, 3) := by decide +kernel
theorem dL_isWell_56 : decode cL_isWell 56 = .ok (.iload 5, 2) := by decide +kernel
theorem dL_isWell_58 : decode cL_isWell 58 = .ok (.iload_n 3, 1) := by decide +kernel
theorem dL_isWell_59 : decode cL_isWell 59 = .ok (.irem, 1) := by decide +kernel
theorem dL_isWell_60 : decode cL_isWell 60 = .ok (.if_icmp .ne 44, 3) := by decide +kernel
theorem dL_isWell_63 : decode cL_isWell 63 = .ok (.aload_n 0, 1) := by decide +kernel
theorem dL_isWell_64 : decode cL_isWell 64 = .ok (.bipush 8, 2) := by decide +kernel
theorem dL_isWell_66 : decode cL_isWell 66 = .ok (.invokevirtual 21, 3) := by decide +kernel
theorem dL_isWell_69 : decode cL_isWell 69 = .ok (.aload_n 0, 1) := by decide +kernel
theorem dL_isWell_70 : decode cL_isWell 70 = .ok (.bipush 9, 2) := by decide +kernel
theorem dL_isWell_72 : decode cL_isWell 72 = .ok (.invokevirtual 21, 3) := by decide +kernel
theorem dL_isWell_75 : decode cL_isWell 75 = .ok (.iadd, 1) := by decide +kernel
theorem dL_isWell_76 : decode cL_isWell 76 = .ok (.iload 5, 2) := by decide +kernel
theorem dL_isWell_78 : decode cL_isWell 78 = .ok (.if_icmp .ne 26, 3) := by decide +kernel
theorem dL_isWell_81 : decode cL_isWell 81 = .ok (.aload_n 0, 1) := by decide +kernel
theorem dL_isWell_82 : decode cL_isWell 82 = .ok (.iconst 4, 1) := by decide +kernel
theorem dL_isWell_83 : decode cL_isWell 83 = .ok (.invokevirtual 21, 3) := by decide +kernel
theorem dL_isWell_86 : decode cL_isWell 86 = .ok (.iload 4, 2) := by decide +kernel
theorem dL_isWell_88 : decode cL_isWell 88 = .ok (.iload 5, 2) := by decide +kernel
theorem dL_isWell_90 : decode cL_isWell 90 = .ok (.isub, 1) := by decide +kernel
theorem dL_isWell_91 : decode cL_isWell 91 = .ok (.iload_n 3, 1) := by decide +kernel
theorem dL_isWell_92 : decode cL_isWell 92 = .ok (.irem, 1) := by decide +kernel
theorem dL_isWell_93 : decode cL_isWell 93 = .ok (.iload_n 3, 1) := by decide +kernel
theorem dL_isWell_94 : decode cL_isWell 94 = .ok (.iadd, 1) := by decide +kernel
theorem dL_isWell_95 : decode cL_isWell 95 = .ok (.iload_n 3, 1) := by decide +kernel
theorem dL_isWell_96 : decode cL_isWell 96 = .ok (.irem, 1) := by decide +kernel
theorem dL_isWell_97 : decode cL_isWell 97 = .ok (.if_icmp .ne 7, 3) := by decide +kernel
theorem dL_isWell_100 : decode cL_isWell 100 = .ok (.iconst 1, 1) := by decide +kernel
theorem dL_isWell_101 : decode cL_isWell 101 = .ok (.goto 4, 3) := by decide +kernel
theorem dL_isWell_104 : decode cL_isWell 104 = .ok (.iconst 0, 1) := by decide +kernel
theorem dL_isWell_105 : decode cL_isWell 105 = .ok (.istore 6, 2) := by decide +kernel
theorem dL_isWell_107 : decode cL_isWell 107 = .ok (.iconst 0, 1) := by decide +kernel
theorem dL_isWell_108 : decode cL_isWell 108 = .ok (.istore 7, 2) := by decide +kernel
theorem dL_isWell_110 : decode cL_isWell 110 = .ok (.iload 7, 2) := by decide +kernel
theorem dL_isWell_112 : decode cL_isWell 112 = .ok (.iconst 2, 1) := by decide +kernel
theorem dL_isWell_113 : decode cL_isWell 113 = .ok (.if_icmp .ge 159, 3) := by decide +kernel
theorem dL_isWell_116 : decode cL_isWell 116 = .ok (.aload_n 0, 1) := by decide +kernel
theorem dL_isWell_117 : decode cL_isWell 117 = .ok (.iload 7, 2) := by decide +kernel
theorem dL_isWell_119 : decode cL_isWell 119 = .ok (.bipush 8, 2) := by decide +kernel
theorem dL_isWell_121 : decode cL_isWell 121 = .ok (.invokevirtual 33, 3) := by decide +kernel
theorem dL_isWell_124 : decode cL_isWell 124 = .ok (.istore 8, 2) := by decide +kernel
theorem dL_isWell_126 : decode cL_isWell 126 = .ok (.iload 6, 2) := by decide +kernel
theorem dL_isWell_128 : decode cL_isWell 128 = .ok (.ifCond .eq 135, 3) := by decide +kernel
theorem dL_isWell_131 : decode cL_isWell 131 = .ok (.iload 8, 2) := by decide +kernel
theorem dL_isWell_133 : decode cL_isWell 133 = .ok (.ifCond .lt 130, 3) := by decide +kernel
theorem dL_isWell_136 : decode cL_isWell 136 = .ok (.iload 8, 2) := by decide +kernel
theorem dL_isWell_138 : decode cL_isWell 138 = .ok (.iload_n 3, 1) := by decide +kernel
theorem dL_isWell_139 : decode cL_isWell 139 = .ok (.if_icmp .ge 124, 3) := by decide +kernel
theorem dL_isWell_142 : decode cL_isWell 142 = .ok (.aload_n 0, 1) := by decide +kernel
theorem dL_isWell_143 : decode cL_isWell 143 = .ok (.iload 7, 2) := by decide +kernel
theorem dL_isWell_145 : decode cL_isWell 145 = .ok (.iconst 4, 1) := by decide +kernel
theorem dL_isWell_146 : decode cL_isWell 146 = .ok (.invokevirtual 33, 3) := by decide +kernel
theorem dL_isWell_149 : decode cL_isWell 149 = .ok (.ifCond .lt 114, 3) := by decide +kernel
theorem dL_isWell_152 : decode cL_isWell 152 = .ok (.aload_n 0, 1) := by decide +kernel
theorem dL_isWell_153 : decode cL_isWell 153 = .ok (.iload 7, 2) := by decide +kernel
theorem dL_isWell_155 : decode cL_isWell 155 = .ok (.iconst 4, 1) := by decide +kernel
theorem dL_isWell_156 : decode cL_isWell 156 = .ok (.invokevirtual 33, 3) := by decide +kernel
theorem dL_isWell_159 : decode cL_isWell 159 = .ok (.iload_n 3, 1) := by decide +kernel
theorem dL_isWell_160 : decode cL_isWell 160 = .ok (.if_icmp .ge 103, 3) := by decide +kernel
theorem dL_isWell_163 : decode cL_isWell 163 = .ok (.aload_n 0, 1) := by decide +kernel
theorem dL_isWell_164 : decode cL_isWell 164 = .ok (.iload 7, 2) := by decide +kernel
theorem dL_isWell_166 : decode cL_isWell 166 = .ok (.bipush 13, 2) := by decide +kernel
theorem dL_isWell_168 : decode cL_isWell 168 = .ok (.invokevirtual 33, 3) := by decide +kernel
theorem dL_isWell_171 : decode cL_isWell 171 = .ok (.aload_n 0, 1) := by decide +kernel
theorem dL_isWell_172 : decode cL_isWell 172 = .ok (.iload 7, 2) := by decide +kernel
theorem dL_isWell_174 : decode cL_isWell 174 = .ok (.bipush 12, 2) := by decide +kernel
theorem dL_isWell_176 : decode cL_isWell 176 = .ok (.invokevirtual 33, 3) := by decide +kernel
theorem dL_isWell_179 : decode cL_isWell 179 = .ok (.if_icmp .gt 84, 3) := by decide +kernel
theorem dL_isWell_182 : decode cL_isWell 182 = .ok (.aload_n 0, 1) := by decide +kernel
theorem dL_isWell_183 : decode cL_isWell 183 = .ok (.iload 7, 2) := by decide +kernel
theorem dL_isWell_185 : decode cL_isWell 185 = .ok (.bipush 9, 2) := by decide +kernel
theorem dL_isWell_187 : decode cL_isWell 187 = .ok (.invokevirtual 33, 3) := by decide +kernel
theorem dL_isWell_190 : decode cL_isWell 190 = .ok (.iconst 1, 1) := by decide +kernel
theorem dL_isWell_191 : decode cL_isWell 191 = .ok (.if_icmp .ne 7, 3) := by decide +kernel
theorem dL_isWell_194 : decode cL_isWell 194 = .ok (.iconst 1, 1) := by decide +kernel
theorem dL_isWell_195 : decode cL_isWell 195 = .ok (.goto 4, 3) := by decide +kernel
theorem dL_isWell_198 : decode cL_isWell 198 = .ok (.iconst 0, 1) := by decide +kernel
theorem dL_isWell_199 : decode cL_isWell 199 = .ok (.iload 8, 2) := by decide +kernel
theorem dL_isWell_201 : decode cL_isWell 201 = .ok (.iload 7, 2) := by decide +kernel
theorem dL_isWell_203 : decode cL_isWell 203 = .ok (.ifCond .ne 7, 3) := by decide +kernel
theorem dL_isWell_206 : decode cL_isWell 206 = .ok (.iload_n 2, 1) := by decide +kernel
theorem dL_isWell_207 : decode cL_isWell 207 = .ok (.goto 4, 3) := by decide +kernel
theorem dL_isWell_210 : decode cL_isWell 210 = .ok (.iconst 0, 1) := by decide +kernel
theorem dL_isWell_211 : decode cL_isWell 211 = .ok (.if_icmp .ne 7, 3) := by decide +kernel
theorem dL_isWell_214 : decode cL_isWell 214 = .ok (.iconst 1, 1) := by decide +kernel
theorem dL_isWell_215 : decode cL_isWell 215 = .ok (.goto 4, 3) := by decide +kernel
theorem dL_isWell_218 : decode cL_isWell 218 = .ok (.iconst 0, 1) := by decide +kernel
theorem dL_isWell_219 : decode cL_isWell 219 = .ok (.if_icmp .ne 44, 3) := by decide +kernel
theorem dL_isWell_222 : decode cL_isWell 222 = .ok (.aload_n 0, 1) := by decide +kernel
theorem dL_isWell_223 : decode cL_isWell 223 = .ok (.iload 7, 2) := by decide +kernel
theorem dL_isWell_225 : decode cL_isWell 225 = .ok (.iconst 2, 1) := by decide +kernel
theorem dL_isWell_226 : decode cL_isWell 226 = .ok (.invokevirtual 33, 3) := by decide +kernel
theorem dL_isWell_229 : decode cL_isWell 229 = .ok (.iconst 1, 1) := by decide +kernel
theorem dL_isWell_230 : decode cL_isWell 230 = .ok (.if_icmp .ne 7, 3) := by decide +kernel
theorem dL_isWell_233 : decode cL_isWell 233 = .ok (.iconst 1, 1) := by decide +kernel
theorem dL_isWell_234 : decode cL_isWell 234 = .ok (.goto 4, 3) := by decide +kernel
theorem dL_isWell_237 : decode cL_isWell 237 = .ok (.iconst 0, 1) := by decide +kernel
theorem dL_isWell_238 : decode cL_isWell 238 = .ok (.aload_n 0, 1) := by decide +kernel
theorem dL_isWell_239 : decode cL_isWell 239 = .ok (.iload 7, 2) := by decide +kernel
theorem dL_isWell_241 : decode cL_isWell 241 = .ok (.bipush 11, 2) := by decide +kernel
theorem dL_isWell_243 : decode cL_isWell 243 = .ok (.invokevirtual 33, 3) := by decide +kernel
theorem dL_isWell_246 : decode cL_isWell 246 = .ok (.bipush (-5), 2) := by decide +kernel
theorem dL_isWell_248 : decode cL_isWell 248 = .ok (.if_icmp .eq 7, 3) := by decide +kernel
theorem dL_isWell_251 : decode cL_isWell 251 = .ok (.iconst 1, 1) := by decide +kernel
theorem dL_isWell_252 : decode cL_isWell 252 = .ok (.goto 4, 3) := by decide +kernel
theorem dL_isWell_255 : decode cL_isWell 255 = .ok (.iconst 0, 1) := by decide +kernel
theorem dL_isWell_256 : decode cL_isWell 256 = .ok (.if_icmp .ne 7, 3) := by decide +kernel
theorem dL_isWell_259 : decode cL_isWell 259 = .ok (.iconst 1, 1) := by decide +kernel
theorem dL_isWell_260 : decode cL_isWell 260 = .ok (.goto 4, 3) := by decide +kernel
theorem dL_isWell_263 : decode cL_isWell 263 = .ok (.iconst 0, 1) := by decide +kernel
theorem dL_isWell_264 : decode cL_isWell 264 = .ok (.istore 6, 2) := by decide +kernel
theorem dL_isWell_266 : decode cL_isWell 266 = .ok (.iinc 7 1, 3) := by decide +kernel
theorem dL_isWell_269 : decode cL_isWell 269 = .ok (.goto (-159), 3) := by decide +kernel
theorem dL_isWell_272 : decode cL_isWell 272 = .ok (.iload_n 1, 1) := by decide +kernel
theorem dL_isWell_273 : decode cL_isWell 273 = .ok (.ifCond .eq 159, 3) := by decide +kernel
theorem dL_isWell_276 : decode cL_isWell 276 = .ok (.iload 6, 2) := by decide +kernel
theorem dL_isWell_278 : decode cL_isWell 278 = .ok (.ifCond .eq 73, 3) := by decide +kernel
theorem dL_isWell_281 : decode cL_isWell 281 = .ok (.aload_n 0, 1) := by decide +kernel
theorem dL_isWell_282 : decode cL_isWell 282 = .ok (.bipush 9, 2) := by decide +kernel
theorem dL_isWell_284 : decode cL_isWell 284 = .ok (.invokevirtual 21, 3) := by decide +kernel
theorem dL_isWell_287 : decode cL_isWell 287 = .ok (.ifCond .ne 64, 3) := by decide +kernel
theorem dL_isWell_290 : decode cL_isWell 290 = .ok (.iload 5, 2) := by decide +kernel
theorem dL_isWell_292 : decode cL_isWell 292 = .ok (.iload 4, 2) := by decide +kernel
theorem dL_isWell_294 : decode cL_isWell 294 = .ok (.if_icmp .gt 57, 3) := by decide +kernel
theorem dL_isWell_297 : decode cL_isWell 297 = .ok (.iload 4, 2) := by decide +kernel
theorem dL_isWell_299 : decode cL_isWell 299 = .ok (.iload 5, 2) := by decide +kernel
theorem dL_isWell_301 : decode cL_isWell 301 = .ok (.isub, 1) := by decide +kernel
theorem dL_isWell_302 : decode cL_isWell 302 = .ok (.iload_n 2, 1) := by decide +kernel
theorem dL_isWell_303 : decode cL_isWell 303 = .ok (.if_icmp .gt 48, 3) := by decide +kernel
theorem dL_isWell_306 : decode cL_isWell 306 = .ok (.aload_n 0, 1) := by decide +kernel
theorem dL_isWell_307 : decode cL_isWell 307 = .ok (.iconst 0, 1) := by decide +kernel
theorem dL_isWell_308 : decode cL_isWell 308 = .ok (.bipush 8, 2) := by decide +kernel
theorem dL_isWell_310 : decode cL_isWell 310 = .ok (.invokevirtual 33, 3) := by decide +kernel
theorem dL_isWell_313 : decode cL_isWell 313 = .ok (.iload 4, 2) := by decide +kernel
theorem dL_isWell_315 : decode cL_isWell 315 = .ok (.iload 5, 2) := by decide +kernel
theorem dL_isWell_317 : decode cL_isWell 317 = .ok (.isub, 1) := by decide +kernel
theorem dL_isWell_318 : decode cL_isWell 318 = .ok (.if_icmp .lt 33, 3) := by decide +kernel
theorem dL_isWell_321 : decode cL_isWell 321 = .ok (.aload_n 0, 1) := by decide +kernel
theorem dL_isWell_322 : decode cL_isWell 322 = .ok (.iconst 0, 1) := by decide +kernel
theorem dL_isWell_323 : decode cL_isWell 323 = .ok (.bipush 8, 2) := by decide +kernel
theorem dL_isWell_325 : decode cL_isWell 325 = .ok (.invokevirtual 33, 3) := by decide +kernel
theorem dL_isWell_328 : decode cL_isWell 328 = .ok (.iload_n 2, 1) := by decide +kernel
theorem dL_isWell_329 : decode cL_isWell 329 = .ok (.if_icmp .gt 22, 3) := by decide +kernel
theorem dL_isWell_332 : decode cL_isWell 332 = .ok (.aload_n 0, 1) := by decide +kernel
theorem dL_isWell_333 : decode cL_isWell 333 = .ok (.iconst 1, 1) := by decide +kernel
theorem dL_isWell_334 : decode cL_isWell 334 = .ok (.bipush 8, 2) := by decide +kernel
theorem dL_isWell_336 : decode cL_isWell 336 = .ok (.invokevirtual 33, 3) := by decide +kernel
theorem dL_isWell_339 : decode cL_isWell 339 = .ok (.iload 4, 2) := by decide +kernel
theorem dL_isWell_341 : decode cL_isWell 341 = .ok (.iload 5, 2) := by decide +kernel
theorem dL_isWell_343 : decode cL_isWell 343 = .ok (.isub, 1) := by decide +kernel
theorem dL_isWell_344 : decode cL_isWell 344 = .ok (.if_icmp .gt 7, 3) := by decide +kernel
theorem dL_isWell_347 : decode cL_isWell 347 = .ok (.iconst 1, 1) := by decide +kernel
theorem dL_isWell_348 : decode cL_isWell 348 = .ok (.goto 4, 3) := by decide +kernel
theorem dL_isWell_351 : decode cL_isWell 351 = .ok (.iconst 0, 1) := by decide +kernel
theorem dL_isWell_352 : decode cL_isWell 352 = .ok (.istore 6, 2) := by decide +kernel
theorem dL_isWell_354 : decode cL_isWell 354 = .ok (.iconst 0, 1) := by decide +kernel
theorem dL_isWell_355 : decode cL_isWell 355 = .ok (.istore 7, 2) := by decide +kernel
theorem dL_isWell_357 : decode cL_isWell 357 = .ok (.iload 7, 2) := by decide +kernel
theorem dL_isWell_359 : decode cL_isWell 359 = .ok (.iload_n 2, 1) := by decide +kernel
theorem dL_isWell_360 : decode cL_isWell 360 = .ok (.if_icmp .ge 72, 3) := by decide +kernel
theorem dL_isWell_363 : decode cL_isWell 363 = .ok (.aload_n 0, 1) := by decide +kernel
theorem dL_isWell_364 : decode cL_isWell 364 = .ok (.iload 7, 2) := by decide +kernel
theorem dL_isWell_366 : decode cL_isWell 366 = .ok (.iconst 1, 1) := by decide +kernel
theorem dL_isWell_367 : decode cL_isWell 367 = .ok (.invokevirtual 65, 3) := by decide +kernel
theorem dL_isWell_370 : decode cL_isWell 370 = .ok (.istore 8, 2) := by decide +kernel
theorem dL_isWell_372 : decode cL_isWell 372 = .ok (.iload 6, 2) := by decide +kernel
theorem dL_isWell_374 : decode cL_isWell 374 = .ok (.ifCond .eq 49, 3) := by decide +kernel
theorem dL_isWell_377 : decode cL_isWell 377 = .ok (.iload 8, 2) := by decide +kernel
theorem dL_isWell_379 : decode cL_isWell 379 = .ok (.bipush (-5), 2) := by decide +kernel
theorem dL_isWell_381 : decode cL_isWell 381 = .ok (.if_icmp .ne 13, 3) := by decide +kernel
theorem dL_isWell_384 : decode cL_isWell 384 = .ok (.iload 4, 2) := by decide +kernel
theorem dL_isWell_386 : decode cL_isWell 386 = .ok (.iload 7, 2) := by decide +kernel
theorem dL_isWell_388 : decode cL_isWell 388 = .ok (.if_icmp .gt 35, 3) := by decide +kernel
theorem dL_isWell_391 : decode cL_isWell 391 = .ok (.goto 28, 3) := by decide +kernel
theorem dL_isWell_394 : decode cL_isWell 394 = .ok (.iload 8, 2) := by decide +kernel
theorem dL_isWell_396 : decode cL_isWell 396 = .ok (.iload_n 2, 1) := by decide +kernel
theorem dL_isWell_397 : decode cL_isWell 397 = .ok (.irem, 1) := by decide +kernel
theorem dL_isWell_398 : decode cL_isWell 398 = .ok (.iload 7, 2) := by decide +kernel
theorem dL_isWell_400 : decode cL_isWell 400 = .ok (.if_icmp .ne 23, 3) := by decide +kernel
theorem dL_isWell_403 : decode cL_isWell 403 = .ok (.iload 8, 2) := by decide +kernel
theorem dL_isWell_405 : decode cL_isWell 405 = .ok (.iload 4, 2) := by decide +kernel
theorem dL_isWell_407 : decode cL_isWell 407 = .ok (.if_icmp .ge 16, 3) := by decide +kernel
theorem dL_isWell_410 : decode cL_isWell 410 = .ok (.iload 8, 2) := by decide +kernel
theorem dL_isWell_412 : decode cL_isWell 412 = .ok (.iload 4, 2) := by decide +kernel
theorem dL_isWell_414 : decode cL_isWell 414 = .ok (.iload_n 2, 1) := by decide +kernel
theorem dL_isWell_415 : decode cL_isWell 415 = .ok (.isub, 1) := by decide +kernel
theorem dL_isWell_416 : decode cL_isWell 416 = .ok (.if_icmp .lt 7, 3) := by decide +kernel
theorem dL_isWell_419 : decode cL_isWell 419 = .ok (.iconst 1, 1) := by decide +kernel
theorem dL_isWell_420 : decode cL_isWell 420 = .ok (.goto 4, 3) := by decide +kernel
theorem dL_isWell_423 : decode cL_isWell 423 = .ok (.iconst 0, 1) := by decide +kernel
theorem dL_isWell_424 : decode cL_isWell 424 = .ok (.istore 6, 2) := by decide +kernel
theorem dL_isWell_426 : decode cL_isWell 426 = .ok (.iinc 7 1, 3) := by decide +kernel
theorem dL_isWell_429 : decode cL_isWell 429 = .ok (.goto (-72), 3) := by decide +kernel
theorem dL_isWell_432 : decode cL_isWell 432 = .ok (.aload_n 0, 1) := by decide +kernel
theorem dL_isWell_433 : decode cL_isWell 433 = .ok (.invokevirtual 29, 3) := by decide +kernel
theorem dL_isWell_436 : decode cL_isWell 436 = .ok (.istore 7, 2) := by decide +kernel
theorem dL_isWell_438 : decode cL_isWell 438 = .ok (.iload 6, 2) := by decide +kernel
theorem dL_isWell_440 : decode cL_isWell 440 = .ok (.ifCond .eq 55, 3) := by decide +kernel
theorem dL_isWell_443 : decode cL_isWell 443 = .ok (.iload 7, 2) := by decide +kernel
theorem dL_isWell_445 : decode cL_isWell 445 = .ok (.ifCond .ne 7, 3) := by decide +kernel
theorem dL_isWell_448 : decode cL_isWell 448 = .ok (.iconst 1, 1) := by decide +kernel
theorem dL_isWell_449 : decode cL_isWell 449 = .ok (.goto 4, 3) := by decide +kernel
theorem dL_isWell_452 : decode cL_isWell 452 = .ok (.iconst 0, 1) := by decide +kernel
theorem dL_isWell_453 : decode cL_isWell 453 = .ok (.iload 4, 2) := by decide +kernel
theorem dL_isWell_455 : decode cL_isWell 455 = .ok (.iload 5, 2) := by decide +kernel
theorem dL_isWell_457 : decode cL_isWell 457 = .ok (.if_icmp .ne 15, 3) := by decide +kernel
theorem dL_isWell_460 : decode cL_isWell 460 = .ok (.aload_n 0, 1) := by decide +kernel
theorem dL_isWell_461 : decode cL_isWell 461 = .ok (.iconst 5, 1) := by decide +kernel
theorem dL_isWell_462 : decode cL_isWell 462 = .ok (.invokevirtual 21, 3) := by decide +kernel
theorem dL_isWell_465 : decode cL_isWell 465 = .ok (.ifCond .ne 7, 3) := by decide +kernel
theorem dL_isWell_468 : decode cL_isWell 468 = .ok (.iconst 1, 1) := by decide +kernel
theorem dL_isWell_469 : decode cL_isWell 469 = .ok (.goto 4, 3) := by decide +kernel
theorem dL_isWell_472 : decode cL_isWell 472 = .ok (.iconst 0, 1) := by decide +kernel
theorem dL_isWell_473 : decode cL_isWell 473 = .ok (.if_icmp .ne 22, 3) := by decide +kernel
theorem dL_isWell_476 : decode cL_isWell 476 = .ok (.iload 7, 2) := by decide +kernel
theorem dL_isWell_478 : decode cL_isWell 478 = .ok (.bipush (-5), 2) := by decide +kernel
theorem dL_isWell_480 : decode cL_isWell 480 = .ok (.if_icmp .eq 11, 3) := by decide +kernel
theorem dL_isWell_483 : decode cL_isWell 483 = .ok (.iload 7, 2) := by decide +kernel
theorem dL_isWell_485 : decode cL_isWell 485 = .ok (.sipush 5000, 3) := by decide +kernel
theorem dL_isWell_488 : decode cL_isWell 488 = .ok (.if_icmp .gt 7, 3) := by decide +kernel
theorem dL_isWell_491 : decode cL_isWell 491 = .ok (.iconst 1, 1) := by decide +kernel
theorem dL_isWell_492 : decode cL_isWell 492 = .ok (.goto 4, 3) := by decide +kernel
theorem dL_isWell_495 : decode cL_isWell 495 = .ok (.iconst 0, 1) := by decide +kernel
theorem dL_isWell_496 : decode cL_isWell 496 = .ok (.ireturn, 1) := by decide +kernel
theorem dL_law_0 : decode cL_law 0 = .ok (.new 10, 3) := by decide +kernel
theorem dL_law_3 : decode cL_law 3 = .ok (.dup, 1) := by decide +kernel
theorem dL_law_4 : decode cL_law 4 = .ok (.invokespecial 74, 3) := by decide +kernel
theorem dL_law_7 : decode cL_law 7 = .ok (.astore_n 1, 1) := by decide +kernel
theorem dL_law_8 : decode cL_law 8 = .ok (.new 10, 3) := by decide +kernel
theorem dL_law_11 : decode cL_law 11 = .ok (.dup, 1) := by decide +kernel
theorem dL_law_12 : decode cL_law 12 = .ok (.invokespecial 74, 3) := by decide +kernel
theorem dL_law_15 : decode cL_law 15 = .ok (.astore_n 2, 1) := by decide +kernel
theorem dL_law_16 : decode cL_law 16 = .ok (.iconst 1, 1) := by decide +kernel
theorem dL_law_17 : decode cL_law 17 = .ok (.istore_n 3, 1) := by decide +kernel
theorem dL_law_18 : decode cL_law 18 = .ok (.iconst 0, 1) := by decide +kernel
theorem dL_law_19 : decode cL_law 19 = .ok (.istore 4, 2) := by decide +kernel
theorem dL_law_21 : decode cL_law 21 = .ok (.iload 4, 2) := by decide +kernel
theorem dL_law_23 : decode cL_law 23 = .ok (.bipush 48, 2) := by decide +kernel
theorem dL_law_25 : decode cL_law 25 = .ok (.if_icmp .ge 71, 3) := by decide +kernel
theorem dL_law_28 : decode cL_law 28 = .ok (.iload_n 3, 1) := by decide +kernel
theorem dL_law_29 : decode cL_law 29 = .ok (.ifCond .eq 67, 3) := by decide +kernel
theorem dL_law_32 : decode cL_law 32 = .ok (.aload_n 1, 1) := by decide +kernel
theorem dL_law_33 : decode cL_law 33 = .ok (.aload_n 2, 1) := by decide +kernel
theorem dL_law_34 : decode cL_law 34 = .ok (.aload_n 0, 1) := by decide +kernel
theorem dL_law_35 : decode cL_law 35 = .ok (.iload 4, 2) := by decide +kernel
theorem dL_law_37 : decode cL_law 37 = .ok (.invokestatic 75, 3) := by decide +kernel
theorem dL_law_40 : decode cL_law 40 = .ok (.aload_n 0, 1) := by decide +kernel
theorem dL_law_41 : decode cL_law 41 = .ok (.iload 4, 2) := by decide +kernel
theorem dL_law_43 : decode cL_law 43 = .ok (.iconst 1, 1) := by decide +kernel
theorem dL_law_44 : decode cL_law 44 = .ok (.iadd, 1) := by decide +kernel
theorem dL_law_45 : decode cL_law 45 = .ok (.invokestatic 75, 3) := by decide +kernel
theorem dL_law_48 : decode cL_law 48 = .ok (.iconst 2, 1) := by decide +kernel
theorem dL_law_49 : decode cL_law 49 = .ok (.ishr, 1) := by decide +kernel
theorem dL_law_50 : decode cL_law 50 = .ok (.invokestatic 79, 3) := by decide +kernel
theorem dL_law_53 : decode cL_law 53 = .ok (.ifCond .eq 35, 3) := by decide +kernel
theorem dL_law_56 : decode cL_law 56 = .ok (.iload 4, 2) := by decide +kernel
theorem dL_law_58 : decode cL_law 58 = .ok (.iconst 4, 1) := by decide +kernel
theorem dL_law_59 : decode cL_law 59 = .ok (.irem, 1) := by decide +kernel
theorem dL_law_60 : decode cL_law 60 = .ok (.ifCond .gt 24, 3) := by decide +kernel
theorem dL_law_63 : decode cL_law 63 = .ok (.aload_n 1, 1) := by decide +kernel
theorem dL_law_64 : decode cL_law 64 = .ok (.aload_n 1, 1) := by decide +kernel
theorem dL_law_65 : decode cL_law 65 = .ok (.iconst 3, 1) := by decide +kernel
theorem dL_law_66 : decode cL_law 66 = .ok (.invokevirtual 21, 3) := by decide +kernel
theorem dL_law_69 : decode cL_law 69 = .ok (.iconst 1, 1) := by decide +kernel
theorem dL_law_70 : decode cL_law 70 = .ok (.if_icmp .ne 7, 3) := by decide +kernel
theorem dL_law_73 : decode cL_law 73 = .ok (.iconst 1, 1) := by decide +kernel
theorem dL_law_74 : decode cL_law 74 = .ok (.goto 4, 3) := by decide +kernel
theorem dL_law_77 : decode cL_law 77 = .ok (.iconst 0, 1) := by decide +kernel
theorem dL_law_78 : decode cL_law 78 = .ok (.invokestatic 83, 3) := by decide +kernel
theorem dL_law_81 : decode cL_law 81 = .ok (.ifCond .eq 7, 3) := by decide +kernel
theorem dL_law_84 : decode cL_law 84 = .ok (.iconst 1, 1) := by decide +kernel
theorem dL_law_85 : decode cL_law 85 = .ok (.goto 4, 3) := by decide +kernel
theorem dL_law_88 : decode cL_law 88 = .ok (.iconst 0, 1) := by decide +kernel
theorem dL_law_89 : decode cL_law 89 = .ok (.istore_n 3, 1) := by decide +kernel
theorem dL_law_90 : decode cL_law 90 = .ok (.iinc 4 1, 3) := by decide +kernel
theorem dL_law_93 : decode cL_law 93 = .ok (.goto (-72), 3) := by decide +kernel
theorem dL_law_96 : decode cL_law 96 = .ok (.iload_n 3, 1) := by decide +kernel
theorem dL_law_97 : decode cL_law 97 = .ok (.ifCond .eq 36, 3) := by decide +kernel
theorem dL_law_100 : decode cL_law 100 = .ok (.aload_n 1, 1) := by decide +kernel
theorem dL_law_101 : decode cL_law 101 = .ok (.aload_n 1, 1) := by decide +kernel
theorem dL_law_102 : decode cL_law 102 = .ok (.iconst 3, 1) := by decide +kernel
theorem dL_law_103 : decode cL_law 103 = .ok (.invokevirtual 21, 3) := by decide +kernel
theorem dL_law_106 : decode cL_law 106 = .ok (.iconst 1, 1) := by decide +kernel
theorem dL_law_107 : decode cL_law 107 = .ok (.if_icmp .ne 7, 3) := by decide +kernel
theorem dL_law_110 : decode cL_law 110 = .ok (.iconst 1, 1) := by decide +kernel
theorem dL_law_111 : decode cL_law 111 = .ok (.goto 4, 3) := by decide +kernel
theorem dL_law_114 : decode cL_law 114 = .ok (.iconst 0, 1) := by decide +kernel
theorem dL_law_115 : decode cL_law 115 = .ok (.invokestatic 83, 3) := by decide +kernel
theorem dL_law_118 : decode cL_law 118 = .ok (.ifCond .eq 15, 3) := by decide +kernel
theorem dL_law_121 : decode cL_law 121 = .ok (.aload_n 1, 1) := by decide +kernel
theorem dL_law_122 : decode cL_law 122 = .ok (.aload_n 2, 1) := by decide +kernel
theorem dL_law_123 : decode cL_law 123 = .ok (.invokestatic 87, 3) := by decide +kernel
theorem dL_law_126 : decode cL_law 126 = .ok (.ifCond .eq 7, 3) := by decide +kernel
theorem dL_law_129 : decode cL_law 129 = .ok (.iconst 1, 1) := by decide +kernel
theorem dL_law_130 : decode cL_law 130 = .ok (.goto 4, 3) := by decide +kernel
theorem dL_law_133 : decode cL_law 133 = .ok (.iconst 0, 1) := by decide +kernel
theorem dL_law_134 : decode cL_law 134 = .ok (.ireturn, 1) := by decide +kernel
