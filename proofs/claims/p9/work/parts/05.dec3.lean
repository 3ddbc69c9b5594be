theorem dX5_changed_95 : decode cX5_changed 95 = .ok (.bipush 7, 2) := by decide +kernel
theorem dX5_changed_97 : decode cX5_changed 97 = .ok (.ishl, 1) := by decide +kernel
theorem dX5_changed_98 : decode cX5_changed 98 = .ok (.goto 4, 3) := by decide +kernel
theorem dX5_changed_101 : decode cX5_changed 101 = .ok (.iconst 0, 1) := by decide +kernel
theorem dX5_changed_102 : decode cX5_changed 102 = .ok (.ior, 1) := by decide +kernel
theorem dX5_changed_103 : decode cX5_changed 103 = .ok (.invokevirtual 127, 3) := by decide +kernel
theorem dX5_changed_106 : decode cX5_changed 106 = .ok (.ireturn, 1) := by decide +kernel
theorem dX5_changed_107 : decode cX5_changed 107 = .ok (.aload_n 0, 1) := by decide +kernel
theorem dX5_changed_108 : decode cX5_changed 108 = .ok (.iload_n 1, 1) := by decide +kernel
theorem dX5_changed_109 : decode cX5_changed 109 = .ok (.bipush 6, 2) := by decide +kernel
theorem dX5_changed_111 : decode cX5_changed 111 = .ok (.if_icmp .ne 9, 3) := by decide +kernel
theorem dX5_changed_114 : decode cX5_changed 114 = .ok (.iload_n 2, 1) := by decide +kernel
theorem dX5_changed_115 : decode cX5_changed 115 = .ok (.iconst 1, 1) := by decide +kernel
theorem dX5_changed_116 : decode cX5_changed 116 = .ok (.isub, 1) := by decide +kernel
theorem dX5_changed_117 : decode cX5_changed 117 = .ok (.goto 6, 3) := by decide +kernel
theorem dX5_changed_120 : decode cX5_changed 120 = .ok (.iload_n 2, 1) := by decide +kernel
theorem dX5_changed_121 : decode cX5_changed 121 = .ok (.iconst 1, 1) := by decide +kernel
theorem dX5_changed_122 : decode cX5_changed 122 = .ok (.iadd, 1) := by decide +kernel
theorem dX5_changed_123 : decode cX5_changed 123 = .ok (.invokevirtual 127, 3) := by decide +kernel
theorem dX5_changed_126 : decode cX5_changed 126 = .ok (.ireturn, 1) := by decide +kernel
theorem dX5_changes_0 : decode cX5_changes 0 = .ok (.iload_n 1, 1) := by decide +kernel
theorem dX5_changes_1 : decode cX5_changes 1 = .ok (.bipush 32, 2) := by decide +kernel
theorem dX5_changes_3 : decode cX5_changes 3 = .ok (.idiv, 1) := by decide +kernel
theorem dX5_changes_4 : decode cX5_changes 4 = .ok (.istore_n 2, 1) := by decide +kernel
theorem dX5_changes_5 : decode cX5_changes 5 = .ok (.iload_n 1, 1) := by decide +kernel
theorem dX5_changes_6 : decode cX5_changes 6 = .ok (.invokestatic 130, 3) := by decide +kernel
theorem dX5_changes_9 : decode cX5_changes 9 = .ok (.istore_n 3, 1) := by decide +kernel
theorem dX5_changes_10 : decode cX5_changes 10 = .ok (.iload_n 3, 1) := by decide +kernel
theorem dX5_changes_11 : decode cX5_changes 11 = .ok (.bipush 10, 2) := by decide +kernel
theorem dX5_changes_13 : decode cX5_changes 13 = .ok (.if_icmp .ne 29, 3) := by decide +kernel
theorem dX5_changes_16 : decode cX5_changes 16 = .ok (.aload_n 0, 1) := by decide +kernel
theorem dX5_changes_17 : decode cX5_changes 17 = .ok (.getfield 13, 3) := by decide +kernel
theorem dX5_changes_20 : decode cX5_changes 20 = .ok (.aload_n 0, 1) := by decide +kernel
theorem dX5_changes_21 : decode cX5_changes 21 = .ok (.getfield 80, 3) := by decide +kernel
theorem dX5_changes_24 : decode cX5_changes 24 = .ok (.aload_n 0, 1) := by decide +kernel
theorem dX5_changes_25 : decode cX5_changes 25 = .ok (.iload_n 2, 1) := by decide +kernel
theorem dX5_changes_26 : decode cX5_changes 26 = .ok (.aload_n 0, 1) := by decide +kernel
theorem dX5_changes_27 : decode cX5_changes 27 = .ok (.getfield 13, 3) := by decide +kernel
theorem dX5_changes_30 : decode cX5_changes 30 = .ok (.aload_n 0, 1) := by decide +kernel
theorem dX5_changes_31 : decode cX5_changes 31 = .ok (.getfield 80, 3) := by decide +kernel
theorem dX5_changes_34 : decode cX5_changes 34 = .ok (.iaload, 1) := by decide +kernel
theorem dX5_changes_35 : decode cX5_changes 35 = .ok (.invokevirtual 146, 3) := by decide +kernel
theorem dX5_changes_38 : decode cX5_changes 38 = .ok (.iastore, 1) := by decide +kernel
theorem dX5_changes_39 : decode cX5_changes 39 = .ok (.goto 89, 3) := by decide +kernel
theorem dX5_changes_42 : decode cX5_changes 42 = .ok (.iload_n 3, 1) := by decide +kernel
theorem dX5_changes_43 : decode cX5_changes 43 = .ok (.ifCond .ne 11, 3) := by decide +kernel
theorem dX5_changes_46 : decode cX5_changes 46 = .ok (.aload_n 0, 1) := by decide +kernel
theorem dX5_changes_47 : decode cX5_changes 47 = .ok (.iload_n 1, 1) := by decide +kernel
theorem dX5_changes_48 : decode cX5_changes 48 = .ok (.invokevirtual 149, 3) := by decide +kernel
theorem dX5_changes_51 : decode cX5_changes 51 = .ok (.goto 77, 3) := by decide +kernel
theorem dX5_changes_54 : decode cX5_changes 54 = .ok (.aload_n 0, 1) := by decide +kernel
theorem dX5_changes_55 : decode cX5_changes 55 = .ok (.iload_n 3, 1) := by decide +kernel
theorem dX5_changes_56 : decode cX5_changes 56 = .ok (.invokevirtual 133, 3) := by decide +kernel
theorem dX5_changes_59 : decode cX5_changes 59 = .ok (.istore 4, 2) := by decide +kernel
theorem dX5_changes_61 : decode cX5_changes 61 = .ok (.iload_n 2, 1) := by decide +kernel
theorem dX5_changes_62 : decode cX5_changes 62 = .ok (.iconst 4, 1) := by decide +kernel
theorem dX5_changes_63 : decode cX5_changes 63 = .ok (.if_icmp .ne 21, 3) := by decide +kernel
theorem dX5_changes_66 : decode cX5_changes 66 = .ok (.aload_n 0, 1) := by decide +kernel
theorem dX5_changes_67 : decode cX5_changes 67 = .ok (.iload 4, 2) := by decide +kernel
theorem dX5_changes_69 : decode cX5_changes 69 = .ok (.aload_n 0, 1) := by decide +kernel
theorem dX5_changes_70 : decode cX5_changes 70 = .ok (.getfield 16, 3) := by decide +kernel
theorem dX5_changes_73 : decode cX5_changes 73 = .ok (.aload_n 0, 1) := by decide +kernel
theorem dX5_changes_74 : decode cX5_changes 74 = .ok (.getfield 80, 3) := by decide +kernel
theorem dX5_changes_77 : decode cX5_changes 77 = .ok (.iaload, 1) := by decide +kernel
theorem dX5_changes_78 : decode cX5_changes 78 = .ok (.invokevirtual 136, 3) := by decide +kernel
theorem dX5_changes_81 : decode cX5_changes 81 = .ok (.goto 47, 3) := by decide +kernel
theorem dX5_changes_84 : decode cX5_changes 84 = .ok (.iload_n 2, 1) := by decide +kernel
theorem dX5_changes_85 : decode cX5_changes 85 = .ok (.iconst 5, 1) := by decide +kernel
theorem dX5_changes_86 : decode cX5_changes 86 = .ok (.if_icmp .ne 25, 3) := by decide +kernel
theorem dX5_changes_89 : decode cX5_changes 89 = .ok (.aload_n 0, 1) := by decide +kernel
theorem dX5_changes_90 : decode cX5_changes 90 = .ok (.getfield 16, 3) := by decide +kernel
theorem dX5_changes_93 : decode cX5_changes 93 = .ok (.aload_n 0, 1) := by decide +kernel
theorem dX5_changes_94 : decode cX5_changes 94 = .ok (.getfield 80, 3) := by decide +kernel
theorem dX5_changes_97 : decode cX5_changes 97 = .ok (.aload_n 0, 1) := by decide +kernel
theorem dX5_changes_98 : decode cX5_changes 98 = .ok (.aload_n 0, 1) := by decide +kernel
theorem dX5_changes_99 : decode cX5_changes 99 = .ok (.iload 4, 2) := by decide +kernel
theorem dX5_changes_101 : decode cX5_changes 101 = .ok (.invokevirtual 99, 3) := by decide +kernel
theorem dX5_changes_104 : decode cX5_changes 104 = .ok (.invokevirtual 127, 3) := by decide +kernel
theorem dX5_changes_107 : decode cX5_changes 107 = .ok (.iastore, 1) := by decide +kernel
theorem dX5_changes_108 : decode cX5_changes 108 = .ok (.goto 20, 3) := by decide +kernel
theorem dX5_changes_111 : decode cX5_changes 111 = .ok (.aload_n 0, 1) := by decide +kernel
theorem dX5_changes_112 : decode cX5_changes 112 = .ok (.iload 4, 2) := by decide +kernel
theorem dX5_changes_114 : decode cX5_changes 114 = .ok (.aload_n 0, 1) := by decide +kernel
theorem dX5_changes_115 : decode cX5_changes 115 = .ok (.iload_n 2, 1) := by decide +kernel
theorem dX5_changes_116 : decode cX5_changes 116 = .ok (.aload_n 0, 1) := by decide +kernel
theorem dX5_changes_117 : decode cX5_changes 117 = .ok (.iload 4, 2) := by decide +kernel
theorem dX5_changes_119 : decode cX5_changes 119 = .ok (.invokevirtual 99, 3) := by decide +kernel
theorem dX5_changes_122 : decode cX5_changes 122 = .ok (.invokevirtual 146, 3) := by decide +kernel
theorem dX5_changes_125 : decode cX5_changes 125 = .ok (.invokevirtual 136, 3) := by decide +kernel
theorem dX5_changes_128 : decode cX5_changes 128 = .ok (.return_, 1) := by decide +kernel
theorem dX5_registers_0 : decode cX5_registers 0 = .ok (.iload_n 1, 1) := by decide +kernel
theorem dX5_registers_1 : decode cX5_registers 1 = .ok (.lookupswitch 582 #[(8, 302), (24, 513), (40, 324), (56, 513), (72, 346), (88, 532), (104, 362), (120, 532), (136, 382), (138, 179), (152, 488), (154, 204), (168, 409), (170, 225), (184, 551), (186, 250), (200, 434), (202, 275), (216, 561), (232, 461), (248, 561)], 179) := by decide +kernel
theorem dX5_registers_180 : decode cX5_registers 180 = .ok (.aload_n 0, 1) := by decide +kernel
theorem dX5_registers_181 : decode cX5_registers 181 = .ok (.getfield 13, 3) := by decide +kernel
theorem dX5_registers_184 : decode cX5_registers 184 = .ok (.aload_n 0, 1) := by decide +kernel
theorem dX5_registers_185 : decode cX5_registers 185 = .ok (.getfield 80, 3) := by decide +kernel
theorem dX5_registers_188 : decode cX5_registers 188 = .ok (.aload_n 0, 1) := by decide +kernel
theorem dX5_registers_189 : decode cX5_registers 189 = .ok (.aload_n 0, 1) := by decide +kernel
theorem dX5_registers_190 : decode cX5_registers 190 = .ok (.getfield 16, 3) := by decide +kernel
theorem dX5_registers_193 : decode cX5_registers 193 = .ok (.aload_n 0, 1) := by decide +kernel
theorem dX5_registers_194 : decode cX5_registers 194 = .ok (.getfield 80, 3) := by decide +kernel
theorem dX5_registers_197 : decode cX5_registers 197 = .ok (.iaload, 1) := by decide +kernel
theorem dX5_registers_198 : decode cX5_registers 198 = .ok (.invokevirtual 127, 3) := by decide +kernel
theorem dX5_registers_201 : decode cX5_registers 201 = .ok (.iastore, 1) := by decide +kernel
theorem dX5_registers_202 : decode cX5_registers 202 = .ok (.goto 381, 3) := by decide +kernel
theorem dX5_registers_205 : decode cX5_registers 205 = .ok (.aload_n 0, 1) := by decide +kernel
theorem dX5_registers_206 : decode cX5_registers 206 = .ok (.getfield 22, 3) := by decide +kernel
theorem dX5_registers_209 : decode cX5_registers 209 = .ok (.aload_n 0, 1) := by decide +kernel
theorem dX5_registers_210 : decode cX5_registers 210 = .ok (.getfield 80, 3) := by decide +kernel
theorem dX5_registers_213 : decode cX5_registers 213 = .ok (.aload_n 0, 1) := by decide +kernel
theorem dX5_registers_214 : decode cX5_registers 214 = .ok (.getfield 16, 3) := by decide +kernel
theorem dX5_registers_217 : decode cX5_registers 217 = .ok (.aload_n 0, 1) := by decide +kernel
theorem dX5_registers_218 : decode cX5_registers 218 = .ok (.getfield 80, 3) := by decide +kernel
theorem dX5_registers_221 : decode cX5_registers 221 = .ok (.iaload, 1) := by decide +kernel
theorem dX5_registers_222 : decode cX5_registers 222 = .ok (.iastore, 1) := by decide +kernel
theorem dX5_registers_223 : decode cX5_registers 223 = .ok (.goto 360, 3) := by decide +kernel
theorem dX5_registers_226 : decode cX5_registers 226 = .ok (.aload_n 0, 1) := by decide +kernel
theorem dX5_registers_227 : decode cX5_registers 227 = .ok (.getfield 16, 3) := by decide +kernel
theorem dX5_registers_230 : decode cX5_registers 230 = .ok (.aload_n 0, 1) := by decide +kernel
theorem dX5_registers_231 : decode cX5_registers 231 = .ok (.getfield 80, 3) := by decide +kernel
theorem dX5_registers_234 : decode cX5_registers 234 = .ok (.aload_n 0, 1) := by decide +kernel
theorem dX5_registers_235 : decode cX5_registers 235 = .ok (.aload_n 0, 1) := by decide +kernel
theorem dX5_registers_236 : decode cX5_registers 236 = .ok (.getfield 13, 3) := by decide +kernel
theorem dX5_registers_239 : decode cX5_registers 239 = .ok (.aload_n 0, 1) := by decide +kernel
theorem dX5_registers_240 : decode cX5_registers 240 = .ok (.getfield 80, 3) := by decide +kernel
theorem dX5_registers_243 : decode cX5_registers 243 = .ok (.iaload, 1) := by decide +kernel
theorem dX5_registers_244 : decode cX5_registers 244 = .ok (.invokevirtual 127, 3) := by decide +kernel
theorem dX5_registers_247 : decode cX5_registers 247 = .ok (.iastore, 1) := by decide +kernel
theorem dX5_registers_248 : decode cX5_registers 248 = .ok (.goto 335, 3) := by decide +kernel
theorem dX5_registers_251 : decode cX5_registers 251 = .ok (.aload_n 0, 1) := by decide +kernel
theorem dX5_registers_252 : decode cX5_registers 252 = .ok (.getfield 16, 3) := by decide +kernel
theorem dX5_registers_255 : decode cX5_registers 255 = .ok (.aload_n 0, 1) := by decide +kernel
theorem dX5_registers_256 : decode cX5_registers 256 = .ok (.getfield 80, 3) := by decide +kernel
theorem dX5_registers_259 : decode cX5_registers 259 = .ok (.aload_n 0, 1) := by decide +kernel
theorem dX5_registers_260 : decode cX5_registers 260 = .ok (.aload_n 0, 1) := by decide +kernel
theorem dX5_registers_261 : decode cX5_registers 261 = .ok (.getfield 22, 3) := by decide +kernel
theorem dX5_registers_264 : decode cX5_registers 264 = .ok (.aload_n 0, 1) := by decide +kernel
theorem dX5_registers_265 : decode cX5_registers 265 = .ok (.getfield 80, 3) := by decide +kernel
theorem dX5_registers_268 : decode cX5_registers 268 = .ok (.iaload, 1) := by decide +kernel
theorem dX5_registers_269 : decode cX5_registers 269 = .ok (.invokevirtual 127, 3) := by decide +kernel
theorem dX5_registers_272 : decode cX5_registers 272 = .ok (.iastore, 1) := by decide +kernel
theorem dX5_registers_273 : decode cX5_registers 273 = .ok (.goto 310, 3) := by decide +kernel
theorem dX5_registers_276 : decode cX5_registers 276 = .ok (.aload_n 0, 1) := by decide +kernel
theorem dX5_registers_277 : decode cX5_registers 277 = .ok (.getfield 16, 3) := by decide +kernel
theorem dX5_registers_280 : decode cX5_registers 280 = .ok (.aload_n 0, 1) := by decide +kernel
theorem dX5_registers_281 : decode cX5_registers 281 = .ok (.getfield 80, 3) := by decide +kernel
theorem dX5_registers_284 : decode cX5_registers 284 = .ok (.aload_n 0, 1) := by decide +kernel
theorem dX5_registers_285 : decode cX5_registers 285 = .ok (.aload_n 0, 1) := by decide +kernel
theorem dX5_registers_286 : decode cX5_registers 286 = .ok (.getfield 16, 3) := by decide +kernel
theorem dX5_registers_289 : decode cX5_registers 289 = .ok (.aload_n 0, 1) := by decide +kernel
theorem dX5_registers_290 : decode cX5_registers 290 = .ok (.getfield 80, 3) := by decide +kernel
theorem dX5_registers_293 : decode cX5_registers 293 = .ok (.iaload, 1) := by decide +kernel
theorem dX5_registers_294 : decode cX5_registers 294 = .ok (.iconst 1, 1) := by decide +kernel
theorem dX5_registers_295 : decode cX5_registers 295 = .ok (.isub, 1) := by decide +kernel
theorem dX5_registers_296 : decode cX5_registers 296 = .ok (.invokevirtual 127, 3) := by decide +kernel
theorem dX5_registers_299 : decode cX5_registers 299 = .ok (.iastore, 1) := by decide +kernel
theorem dX5_registers_300 : decode cX5_registers 300 = .ok (.goto 283, 3) := by decide +kernel
theorem dX5_registers_303 : decode cX5_registers 303 = .ok (.aload_n 0, 1) := by decide +kernel
theorem dX5_registers_304 : decode cX5_registers 304 = .ok (.aload_n 0, 1) := by decide +kernel
theorem dX5_registers_305 : decode cX5_registers 305 = .ok (.getfield 25, 3) := by decide +kernel
theorem dX5_registers_308 : decode cX5_registers 308 = .ok (.aload_n 0, 1) := by decide +kernel
theorem dX5_registers_309 : decode cX5_registers 309 = .ok (.getfield 80, 3) := by decide +kernel
theorem dX5_registers_312 : decode cX5_registers 312 = .ok (.iaload, 1) := by decide +kernel
theorem dX5_registers_313 : decode cX5_registers 313 = .ok (.bipush 16, 2) := by decide +kernel
theorem dX5_registers_315 : decode cX5_registers 315 = .ok (.ior, 1) := by decide +kernel
theorem dX5_registers_316 : decode cX5_registers 316 = .ok (.bipush 32, 2) := by decide +kernel
theorem dX5_registers_318 : decode cX5_registers 318 = .ok (.ior, 1) := by decide +kernel
theorem dX5_registers_319 : decode cX5_registers 319 = .ok (.invokevirtual 107, 3) := by decide +kernel
theorem dX5_registers_322 : decode cX5_registers 322 = .ok (.goto 261, 3) := by decide +kernel
theorem dX5_registers_325 : decode cX5_registers 325 = .ok (.aload_n 0, 1) := by decide +kernel
theorem dX5_registers_326 : decode cX5_registers 326 = .ok (.getfield 25, 3) := by decide +kernel
theorem dX5_registers_329 : decode cX5_registers 329 = .ok (.aload_n 0, 1) := by decide +kernel
theorem dX5_registers_330 : decode cX5_registers 330 = .ok (.getfield 80, 3) := by decide +kernel
theorem dX5_registers_333 : decode cX5_registers 333 = .ok (.aload_n 0, 1) := by decide +kernel
theorem dX5_registers_334 : decode cX5_registers 334 = .ok (.invokevirtual 111, 3) := by decide +kernel
theorem dX5_registers_337 : decode cX5_registers 337 = .ok (.bipush (-17), 2) := by decide +kernel
theorem dX5_registers_339 : decode cX5_registers 339 = .ok (.iand, 1) := by decide +kernel
theorem dX5_registers_340 : decode cX5_registers 340 = .ok (.bipush 32, 2) := by decide +kernel
theorem dX5_registers_342 : decode cX5_registers 342 = .ok (.ior, 1) := by decide +kernel
theorem dX5_registers_343 : decode cX5_registers 343 = .ok (.iastore, 1) := by decide +kernel
theorem dX5_registers_344 : decode cX5_registers 344 = .ok (.goto 239, 3) := by decide +kernel
theorem dX5_registers_347 : decode cX5_registers 347 = .ok (.aload_n 0, 1) := by decide +kernel
theorem dX5_registers_348 : decode cX5_registers 348 = .ok (.aload_n 0, 1) := by decide +kernel
theorem dX5_registers_349 : decode cX5_registers 349 = .ok (.getfield 13, 3) := by decide +kernel
theorem dX5_registers_352 : decode cX5_registers 352 = .ok (.aload_n 0, 1) := by decide +kernel
theorem dX5_registers_353 : decode cX5_registers 353 = .ok (.getfield 80, 3) := by decide +kernel
theorem dX5_registers_356 : decode cX5_registers 356 = .ok (.iaload, 1) := by decide +kernel
theorem dX5_registers_357 : decode cX5_registers 357 = .ok (.invokevirtual 107, 3) := by decide +kernel
theorem dX5_registers_360 : decode cX5_registers 360 = .ok (.goto 223, 3) := by decide +kernel
theorem dX5_registers_363 : decode cX5_registers 363 = .ok (.aload_n 0, 1) := by decide +kernel
theorem dX5_registers_364 : decode cX5_registers 364 = .ok (.getfield 13, 3) := by decide +kernel
theorem dX5_registers_367 : decode cX5_registers 367 = .ok (.aload_n 0, 1) := by decide +kernel
theorem dX5_registers_368 : decode cX5_registers 368 = .ok (.getfield 80, 3) := by decide +kernel
theorem dX5_registers_371 : decode cX5_registers 371 = .ok (.aload_n 0, 1) := by decide +kernel
theorem dX5_registers_372 : decode cX5_registers 372 = .ok (.aload_n 0, 1) := by decide +kernel
theorem dX5_registers_373 : decode cX5_registers 373 = .ok (.invokevirtual 111, 3) := by decide +kernel
theorem dX5_registers_376 : decode cX5_registers 376 = .ok (.invokevirtual 127, 3) := by decide +kernel
theorem dX5_registers_379 : decode cX5_registers 379 = .ok (.iastore, 1) := by decide +kernel
theorem dX5_registers_380 : decode cX5_registers 380 = .ok (.goto 203, 3) := by decide +kernel
theorem dX5_registers_383 : decode cX5_registers 383 = .ok (.aload_n 0, 1) := by decide +kernel
theorem dX5_registers_384 : decode cX5_registers 384 = .ok (.getfield 19, 3) := by decide +kernel
theorem dX5_registers_387 : decode cX5_registers 387 = .ok (.aload_n 0, 1) := by decide +kernel
theorem dX5_registers_388 : decode cX5_registers 388 = .ok (.getfield 80, 3) := by decide +kernel
theorem dX5_registers_391 : decode cX5_registers 391 = .ok (.aload_n 0, 1) := by decide +kernel
theorem dX5_registers_392 : decode cX5_registers 392 = .ok (.aload_n 0, 1) := by decide +kernel
theorem dX5_registers_393 : decode cX5_registers 393 = .ok (.getfield 19, 3) := by decide +kernel
theorem dX5_registers_396 : decode cX5_registers 396 = .ok (.aload_n 0, 1) := by decide +kernel
theorem dX5_registers_397 : decode cX5_registers 397 = .ok (.getfield 80, 3) := by decide +kernel
theorem dX5_registers_400 : decode cX5_registers 400 = .ok (.iaload, 1) := by decide +kernel
theorem dX5_registers_401 : decode cX5_registers 401 = .ok (.iconst 1, 1) := by decide +kernel
theorem dX5_registers_402 : decode cX5_registers 402 = .ok (.isub, 1) := by decide +kernel
theorem dX5_registers_403 : decode cX5_registers 403 = .ok (.invokevirtual 127, 3) := by decide +kernel
theorem dX5_registers_406 : decode cX5_registers 406 = .ok (.iastore, 1) := by decide +kernel
theorem dX5_registers_407 : decode cX5_registers 407 = .ok (.goto 176, 3) := by decide +kernel
theorem dX5_registers_410 : decode cX5_registers 410 = .ok (.aload_n 0, 1) := by decide +kernel
theorem dX5_registers_411 : decode cX5_registers 411 = .ok (.getfield 19, 3) := by decide +kernel
theorem dX5_registers_414 : decode cX5_registers 414 = .ok (.aload_n 0, 1) := by decide +kernel
theorem dX5_registers_415 : decode cX5_registers 415 = .ok (.getfield 80, 3) := by decide +kernel
theorem dX5_registers_418 : decode cX5_registers 418 = .ok (.aload_n 0, 1) := by decide +kernel
theorem dX5_registers_419 : decode cX5_registers 419 = .ok (.aload_n 0, 1) := by decide +kernel
theorem dX5_registers_420 : decode cX5_registers 420 = .ok (.getfield 13, 3) := by decide +kernel
theorem dX5_registers_423 : decode cX5_registers 423 = .ok (.aload_n 0, 1) := by decide +kernel
theorem dX5_registers_424 : decode cX5_registers 424 = .ok (.getfield 80, 3) := by decide +kernel
theorem dX5_registers_427 : decode cX5_registers 427 = .ok (.iaload, 1) := by decide +kernel
theorem dX5_registers_428 : decode cX5_registers 428 = .ok (.invokevirtual 127, 3) := by decide +kernel
theorem dX5_registers_431 : decode cX5_registers 431 = .ok (.iastore, 1) := by decide +kernel
theorem dX5_registers_432 : decode cX5_registers 432 = .ok (.goto 151, 3) := by decide +kernel
theorem dX5_registers_435 : decode cX5_registers 435 = .ok (.aload_n 0, 1) := by decide +kernel
theorem dX5_registers_436 : decode cX5_registers 436 = .ok (.getfield 19, 3) := by decide +kernel
theorem dX5_registers_439 : decode cX5_registers 439 = .ok (.aload_n 0, 1) := by decide +kernel
theorem dX5_registers_440 : decode cX5_registers 440 = .ok (.getfield 80, 3) := by decide +kernel
theorem dX5_registers_443 : decode cX5_registers 443 = .ok (.aload_n 0, 1) := by decide +kernel
theorem dX5_registers_444 : decode cX5_registers 444 = .ok (.aload_n 0, 1) := by decide +kernel
theorem dX5_registers_445 : decode cX5_registers 445 = .ok (.getfield 19, 3) := by decide +kernel
theorem dX5_registers_448 : decode cX5_registers 448 = .ok (.aload_n 0, 1) := by decide +kernel
theorem dX5_registers_449 : decode cX5_registers 449 = .ok (.getfield 80, 3) := by decide +kernel
theorem dX5_registers_452 : decode cX5_registers 452 = .ok (.iaload, 1) := by decide +kernel
theorem dX5_registers_453 : decode cX5_registers 453 = .ok (.iconst 1, 1) := by decide +kernel
theorem dX5_registers_454 : decode cX5_registers 454 = .ok (.iadd, 1) := by decide +kernel
theorem dX5_registers_455 : decode cX5_registers 455 = .ok (.invokevirtual 127, 3) := by decide +kernel
theorem dX5_registers_458 : decode cX5_registers 458 = .ok (.iastore, 1) := by decide +kernel
theorem dX5_registers_459 : decode cX5_registers 459 = .ok (.goto 124, 3) := by decide +kernel
theorem dX5_registers_462 : decode cX5_registers 462 = .ok (.aload_n 0, 1) := by decide +kernel
theorem dX5_registers_463 : decode cX5_registers 463 = .ok (.getfield 16, 3) := by decide +kernel
theorem dX5_registers_466 : decode cX5_registers 466 = .ok (.aload_n 0, 1) := by decide +kernel
theorem dX5_registers_467 : decode cX5_registers 467 = .ok (.getfield 80, 3) := by decide +kernel
theorem dX5_registers_470 : decode cX5_registers 470 = .ok (.aload_n 0, 1) := by decide +kernel
theorem dX5_registers_471 : decode cX5_registers 471 = .ok (.aload_n 0, 1) := by decide +kernel
theorem dX5_registers_472 : decode cX5_registers 472 = .ok (.getfield 16, 3) := by decide +kernel
theorem dX5_registers_475 : decode cX5_registers 475 = .ok (.aload_n 0, 1) := by decide +kernel
theorem dX5_registers_476 : decode cX5_registers 476 = .ok (.getfield 80, 3) := by decide +kernel
theorem dX5_registers_479 : decode cX5_registers 479 = .ok (.iaload, 1) := by decide +kernel
theorem dX5_registers_480 : decode cX5_registers 480 = .ok (.iconst 1, 1) := by decide +kernel
theorem dX5_registers_481 : decode cX5_registers 481 = .ok (.iadd, 1) := by decide +kernel
theorem dX5_registers_482 : decode cX5_registers 482 = .ok (.invokevirtual 127, 3) := by decide +kernel
theorem dX5_registers_485 : decode cX5_registers 485 = .ok (.iastore, 1) := by decide +kernel
theorem dX5_registers_486 : decode cX5_registers 486 = .ok (.goto 97, 3) := by decide +kernel
theorem dX5_registers_489 : decode cX5_registers 489 = .ok (.aload_n 0, 1) := by decide +kernel
theorem dX5_registers_490 : decode cX5_registers 490 = .ok (.getfield 13, 3) := by decide +kernel
theorem dX5_registers_493 : decode cX5_registers 493 = .ok (.aload_n 0, 1) := by decide +kernel
theorem dX5_registers_494 : decode cX5_registers 494 = .ok (.getfield 80, 3) := by decide +kernel
theorem dX5_registers_497 : decode cX5_registers 497 = .ok (.aload_n 0, 1) := by decide +kernel
theorem dX5_registers_498 : decode cX5_registers 498 = .ok (.aload_n 0, 1) := by decide +kernel
theorem dX5_registers_499 : decode cX5_registers 499 = .ok (.getfield 19, 3) := by decide +kernel
theorem dX5_registers_502 : decode cX5_registers 502 = .ok (.aload_n 0, 1) := by decide +kernel
theorem dX5_registers_503 : decode cX5_registers 503 = .ok (.getfield 80, 3) := by decide +kernel
theorem dX5_registers_506 : decode cX5_registers 506 = .ok (.iaload, 1) := by decide +kernel
theorem dX5_registers_507 : decode cX5_registers 507 = .ok (.invokevirtual 127, 3) := by decide +kernel
theorem dX5_registers_510 : decode cX5_registers 510 = .ok (.iastore, 1) := by decide +kernel
theorem dX5_registers_511 : decode cX5_registers 511 = .ok (.goto 72, 3) := by decide +kernel
theorem dX5_registers_514 : decode cX5_registers 514 = .ok (.aload_n 0, 1) := by decide +kernel
theorem dX5_registers_515 : decode cX5_registers 515 = .ok (.iconst 1, 1) := by decide +kernel
theorem dX5_registers_516 : decode cX5_registers 516 = .ok (.iload_n 1, 1) := by decide +kernel
theorem dX5_registers_517 : decode cX5_registers 517 = .ok (.bipush 56, 2) := by decide +kernel
theorem dX5_registers_519 : decode cX5_registers 519 = .ok (.if_icmp .ne 7, 3) := by decide +kernel
theorem dX5_registers_522 : decode cX5_registers 522 = .ok (.iconst 1, 1) := by decide +kernel
theorem dX5_registers_523 : decode cX5_registers 523 = .ok (.goto 4, 3) := by decide +kernel
theorem dX5_registers_526 : decode cX5_registers 526 = .ok (.iconst 0, 1) := by decide +kernel
theorem dX5_registers_527 : decode cX5_registers 527 = .ok (.invokevirtual 114, 3) := by decide +kernel
theorem dX5_registers_530 : decode cX5_registers 530 = .ok (.goto 53, 3) := by decide +kernel
theorem dX5_registers_533 : decode cX5_registers 533 = .ok (.aload_n 0, 1) := by decide +kernel
theorem dX5_registers_534 : decode cX5_registers 534 = .ok (.iconst 4, 1) := by decide +kernel
theorem dX5_registers_535 : decode cX5_registers 535 = .ok (.iload_n 1, 1) := by decide +kernel
theorem dX5_registers_536 : decode cX5_registers 536 = .ok (.bipush 120, 2) := by decide +kernel
theorem dX5_registers_538 : decode cX5_registers 538 = .ok (.if_icmp .ne 7, 3) := by decide +kernel
theorem dX5_registers_541 : decode cX5_registers 541 = .ok (.iconst 1, 1) := by decide +kernel
theorem dX5_registers_542 : decode cX5_registers 542 = .ok (.goto 4, 3) := by decide +kernel
theorem dX5_registers_545 : decode cX5_registers 545 = .ok (.iconst 0, 1) := by decide +kernel
theorem dX5_registers_546 : decode cX5_registers 546 = .ok (.invokevirtual 114, 3) := by decide +kernel
theorem dX5_registers_549 : decode cX5_registers 549 = .ok (.goto 34, 3) := by decide +kernel
theorem dX5_registers_552 : decode cX5_registers 552 = .ok (.aload_n 0, 1) := by decide +kernel
theorem dX5_registers_553 : decode cX5_registers 553 = .ok (.bipush 64, 2) := by decide +kernel
theorem dX5_registers_555 : decode cX5_registers 555 = .ok (.iconst 0, 1) := by decide +kernel
theorem dX5_registers_556 : decode cX5_registers 556 = .ok (.invokevirtual 114, 3) := by decide +kernel
theorem dX5_registers_559 : decode cX5_registers 559 = .ok (.goto 24, 3) := by decide +kernel
theorem dX5_registers_562 : decode cX5_registers 562 = .ok (.aload_n 0, 1) := by decide +kernel
theorem dX5_registers_563 : decode cX5_registers 563 = .ok (.bipush 8, 2) := by decide +kernel
theorem dX5_registers_565 : decode cX5_registers 565 = .ok (.iload_n 1, 1) := by decide +kernel
theorem dX5_registers_566 : decode cX5_registers 566 = .ok (.sipush 248, 3) := by decide +kernel
theorem dX5_registers_569 : decode cX5_registers 569 = .ok (.if_icmp .ne 7, 3) := by decide +kernel
theorem dX5_registers_572 : decode cX5_registers 572 = .ok (.iconst 1, 1) := by decide +kernel
theorem dX5_registers_573 : decode cX5_registers 573 = .ok (.goto 4, 3) := by decide +kernel
theorem dX5_registers_576 : decode cX5_registers 576 = .ok (.iconst 0, 1) := by decide +kernel
theorem dX5_registers_577 : decode cX5_registers 577 = .ok (.invokevirtual 114, 3) := by decide +kernel
theorem dX5_registers_580 : decode cX5_registers 580 = .ok (.goto 3, 3) := by decide +kernel
theorem dX5_registers_583 : decode cX5_registers 583 = .ok (.return_, 1) := by decide +kernel
theorem dX5_goes_0 : decode cX5_goes 0 = .ok (.aload_n 0, 1) := by decide +kernel
theorem dX5_goes_1 : decode cX5_goes 1 = .ok (.invokevirtual 103, 3) := by decide +kernel
theorem dX5_goes_4 : decode cX5_goes 4 = .ok (.i2b, 1) := by decide +kernel
theorem dX5_goes_5 : decode cX5_goes 5 = .ok (.istore_n 2, 1) := by decide +kernel
theorem dX5_goes_6 : decode cX5_goes 6 = .ok (.iload_n 1, 1) := by decide +kernel
theorem dX5_goes_7 : decode cX5_goes 7 = .ok (.bipush 64, 2) := by decide +kernel
theorem dX5_goes_9 : decode cX5_goes 9 = .ok (.idiv, 1) := by decide +kernel
theorem dX5_goes_10 : decode cX5_goes 10 = .ok (.ifCond .ne 9, 3) := by decide +kernel
theorem dX5_goes_13 : decode cX5_goes 13 = .ok (.sipush 128, 3) := by decide +kernel
theorem dX5_goes_16 : decode cX5_goes 16 = .ok (.goto 29, 3) := by decide +kernel
theorem dX5_goes_19 : decode cX5_goes 19 = .ok (.iload_n 1, 1) := by decide +kernel
theorem dX5_goes_20 : decode cX5_goes 20 = .ok (.bipush 64, 2) := by decide +kernel
theorem dX5_goes_22 : decode cX5_goes 22 = .ok (.idiv, 1) := by decide +kernel
theorem dX5_goes_23 : decode cX5_goes 23 = .ok (.iconst 1, 1) := by decide +kernel
theorem dX5_goes_24 : decode cX5_goes 24 = .ok (.if_icmp .ne 8, 3) := by decide +kernel
theorem dX5_goes_27 : decode cX5_goes 27 = .ok (.bipush 64, 2) := by decide +kernel
theorem dX5_goes_29 : decode cX5_goes 29 = .ok (.goto 16, 3) := by decide +kernel
theorem dX5_goes_32 : decode cX5_goes 32 = .ok (.iload_n 1, 1) := by decide +kernel
theorem dX5_goes_33 : decode cX5_goes 33 = .ok (.bipush 64, 2) := by decide +kernel
theorem dX5_goes_35 : decode cX5_goes 35 = .ok (.idiv, 1) := by decide +kernel
theorem dX5_goes_36 : decode cX5_goes 36 = .ok (.iconst 2, 1) := by decide +kernel
theorem dX5_goes_37 : decode cX5_goes 37 = .ok (.if_icmp .ne 7, 3) := by decide +kernel
theorem dX5_goes_40 : decode cX5_goes 40 = .ok (.iconst 1, 1) := by decide +kernel
theorem dX5_goes_41 : decode cX5_goes 41 = .ok (.goto 4, 3) := by decide +kernel
theorem dX5_goes_44 : decode cX5_goes 44 = .ok (.iconst 2, 1) := by decide +kernel
theorem dX5_goes_45 : decode cX5_goes 45 = .ok (.istore_n 3, 1) := by decide +kernel
theorem dX5_goes_46 : decode cX5_goes 46 = .ok (.aload_n 0, 1) := by decide +kernel
theorem dX5_goes_47 : decode cX5_goes 47 = .ok (.iload_n 3, 1) := by decide +kernel
theorem dX5_goes_48 : decode cX5_goes 48 = .ok (.invokevirtual 124, 3) := by decide +kernel
theorem dX5_goes_51 : decode cX5_goes 51 = .ok (.iload_n 1, 1) := by decide +kernel
theorem dX5_goes_52 : decode cX5_goes 52 = .ok (.bipush 32, 2) := by decide +kernel
theorem dX5_goes_54 : decode cX5_goes 54 = .ok (.iand, 1) := by decide +kernel
theorem dX5_goes_55 : decode cX5_goes 55 = .ok (.ifCond .eq 7, 3) := by decide +kernel
theorem dX5_goes_58 : decode cX5_goes 58 = .ok (.iconst 1, 1) := by decide +kernel
theorem dX5_goes_59 : decode cX5_goes 59 = .ok (.goto 4, 3) := by decide +kernel
theorem dX5_goes_62 : decode cX5_goes 62 = .ok (.iconst 0, 1) := by decide +kernel
theorem dX5_goes_63 : decode cX5_goes 63 = .ok (.if_icmp .ne 26, 3) := by decide +kernel
theorem dX5_goes_66 : decode cX5_goes 66 = .ok (.aload_n 0, 1) := by decide +kernel
theorem dX5_goes_67 : decode cX5_goes 67 = .ok (.getfield 28, 3) := by decide +kernel
theorem dX5_goes_70 : decode cX5_goes 70 = .ok (.aload_n 0, 1) := by decide +kernel
theorem dX5_goes_71 : decode cX5_goes 71 = .ok (.getfield 80, 3) := by decide +kernel
theorem dX5_goes_74 : decode cX5_goes 74 = .ok (.aload_n 0, 1) := by decide +kernel
theorem dX5_goes_75 : decode cX5_goes 75 = .ok (.getfield 28, 3) := by decide +kernel
theorem dX5_goes_78 : decode cX5_goes 78 = .ok (.aload_n 0, 1) := by decide +kernel
theorem dX5_goes_79 : decode cX5_goes 79 = .ok (.getfield 80, 3) := by decide +kernel
theorem dX5_goes_82 : decode cX5_goes 82 = .ok (.iaload, 1) := by decide +kernel
theorem dX5_goes_83 : decode cX5_goes 83 = .ok (.iload_n 2, 1) := by decide +kernel
theorem dX5_goes_84 : decode cX5_goes 84 = .ok (.iadd, 1) := by decide +kernel
theorem dX5_goes_85 : decode cX5_goes 85 = .ok (.ldc 102, 2) := by decide +kernel
theorem dX5_goes_87 : decode cX5_goes 87 = .ok (.iand, 1) := by decide +kernel
theorem dX5_goes_88 : decode cX5_goes 88 = .ok (.iastore, 1) := by decide +kernel
theorem dX5_goes_89 : decode cX5_goes 89 = .ok (.return_, 1) := by decide +kernel
theorem dX5_others_0 : decode cX5_others 0 = .ok (.iload_n 1, 1) := by decide +kernel
theorem dX5_others_1 : decode cX5_others 1 = .ok (.iconst 2, 1) := by decide +kernel
theorem dX5_others_2 : decode cX5_others 2 = .ok (.ishr, 1) := by decide +kernel
theorem dX5_others_3 : decode cX5_others 3 = .ok (.bipush 7, 2) := by decide +kernel
theorem dX5_others_5 : decode cX5_others 5 = .ok (.iand, 1) := by decide +kernel
theorem dX5_others_6 : decode cX5_others 6 = .ok (.istore_n 2, 1) := by decide +kernel
theorem dX5_others_7 : decode cX5_others 7 = .ok (.iload_n 1, 1) := by decide +kernel
theorem dX5_others_8 : decode cX5_others 8 = .ok (.bipush 32, 2) := by decide +kernel
theorem dX5_others_10 : decode cX5_others 10 = .ok (.idiv, 1) := by decide +kernel
theorem dX5_others_11 : decode cX5_others 11 = .ok (.istore_n 3, 1) := by decide +kernel
theorem dX5_others_12 : decode cX5_others 12 = .ok (.iload_n 2, 1) := by decide +kernel
theorem dX5_others_13 : decode cX5_others 13 = .ok (.iconst 4, 1) := by decide +kernel
theorem dX5_others_14 : decode cX5_others 14 = .ok (.if_icmp .ne 11, 3) := by decide +kernel
theorem dX5_others_17 : decode cX5_others 17 = .ok (.aload_n 0, 1) := by decide +kernel
theorem dX5_others_18 : decode cX5_others 18 = .ok (.iload_n 1, 1) := by decide +kernel
theorem dX5_others_19 : decode cX5_others 19 = .ok (.invokevirtual 152, 3) := by decide +kernel
theorem dX5_others_22 : decode cX5_others 22 = .ok (.goto 446, 3) := by decide +kernel
theorem dX5_others_25 : decode cX5_others 25 = .ok (.iload_n 2, 1) := by decide +kernel
theorem dX5_others_26 : decode cX5_others 26 = .ok (.iconst 2, 1) := by decide +kernel
theorem dX5_others_27 : decode cX5_others 27 = .ok (.if_icmp .eq 9, 3) := by decide +kernel
theorem dX5_others_30 : decode cX5_others 30 = .ok (.iload_n 2, 1) := by decide +kernel
theorem dX5_others_31 : decode cX5_others 31 = .ok (.bipush 6, 2) := by decide +kernel
theorem dX5_others_33 : decode cX5_others 33 = .ok (.if_icmp .ne 11, 3) := by decide +kernel
theorem dX5_others_36 : decode cX5_others 36 = .ok (.aload_n 0, 1) := by decide +kernel
theorem dX5_others_37 : decode cX5_others 37 = .ok (.iload_n 1, 1) := by decide +kernel
theorem dX5_others_38 : decode cX5_others 38 = .ok (.invokevirtual 149, 3) := by decide +kernel
theorem dX5_others_41 : decode cX5_others 41 = .ok (.goto 427, 3) := by decide +kernel
theorem dX5_others_44 : decode cX5_others 44 = .ok (.iload_n 1, 1) := by decide +kernel
theorem dX5_others_45 : decode cX5_others 45 = .ok (.ifCond .ne 65, 3) := by decide +kernel
theorem dX5_others_48 : decode cX5_others 48 = .ok (.aload_n 0, 1) := by decide +kernel
theorem dX5_others_49 : decode cX5_others 49 = .ok (.aload_n 0, 1) := by decide +kernel
theorem dX5_others_50 : decode cX5_others 50 = .ok (.getfield 28, 3) := by decide +kernel
theorem dX5_others_53 : decode cX5_others 53 = .ok (.aload_n 0, 1) := by decide +kernel
theorem dX5_others_54 : decode cX5_others 54 = .ok (.getfield 80, 3) := by decide +kernel
theorem dX5_others_57 : decode cX5_others 57 = .ok (.iaload, 1) := by decide +kernel
theorem dX5_others_58 : decode cX5_others 58 = .ok (.iconst 1, 1) := by decide +kernel
theorem dX5_others_59 : decode cX5_others 59 = .ok (.iadd, 1) := by decide +kernel
theorem dX5_others_60 : decode cX5_others 60 = .ok (.ldc 102, 2) := by decide +kernel
theorem dX5_others_62 : decode cX5_others 62 = .ok (.iand, 1) := by decide +kernel
theorem dX5_others_63 : decode cX5_others 63 = .ok (.invokevirtual 155, 3) := by decide +kernel
theorem dX5_others_66 : decode cX5_others 66 = .ok (.aload_n 0, 1) := by decide +kernel
theorem dX5_others_67 : decode cX5_others 67 = .ok (.aload_n 0, 1) := by decide +kernel
theorem dX5_others_68 : decode cX5_others 68 = .ok (.getfield 25, 3) := by decide +kernel
theorem dX5_others_71 : decode cX5_others 71 = .ok (.aload_n 0, 1) := by decide +kernel
theorem dX5_others_72 : decode cX5_others 72 = .ok (.getfield 80, 3) := by decide +kernel
theorem dX5_others_75 : decode cX5_others 75 = .ok (.iaload, 1) := by decide +kernel
theorem dX5_others_76 : decode cX5_others 76 = .ok (.bipush 16, 2) := by decide +kernel
theorem dX5_others_78 : decode cX5_others 78 = .ok (.ior, 1) := by decide +kernel
theorem dX5_others_79 : decode cX5_others 79 = .ok (.bipush 32, 2) := by decide +kernel
theorem dX5_others_81 : decode cX5_others 81 = .ok (.ior, 1) := by decide +kernel
theorem dX5_others_82 : decode cX5_others 82 = .ok (.invokevirtual 107, 3) := by decide +kernel
theorem dX5_others_85 : decode cX5_others 85 = .ok (.aload_n 0, 1) := by decide +kernel
theorem dX5_others_86 : decode cX5_others 86 = .ok (.iconst 4, 1) := by decide +kernel
theorem dX5_others_87 : decode cX5_others 87 = .ok (.iconst 1, 1) := by decide +kernel
theorem dX5_others_88 : decode cX5_others 88 = .ok (.invokevirtual 114, 3) := by decide +kernel
theorem dX5_others_91 : decode cX5_others 91 = .ok (.aload_n 0, 1) := by decide +kernel
theorem dX5_others_92 : decode cX5_others 92 = .ok (.getfield 28, 3) := by decide +kernel
theorem dX5_others_95 : decode cX5_others 95 = .ok (.aload_n 0, 1) := by decide +kernel
theorem dX5_others_96 : decode cX5_others 96 = .ok (.getfield 80, 3) := by decide +kernel
theorem dX5_others_99 : decode cX5_others 99 = .ok (.aload_n 0, 1) := by decide +kernel
theorem dX5_others_100 : decode cX5_others 100 = .ok (.sipush 4094, 3) := by decide +kernel
theorem dX5_others_103 : decode cX5_others 103 = .ok (.invokevirtual 158, 3) := by decide +kernel
theorem dX5_others_106 : decode cX5_others 106 = .ok (.iastore, 1) := by decide +kernel
theorem dX5_others_107 : decode cX5_others 107 = .ok (.goto 361, 3) := by decide +kernel
theorem dX5_others_110 : decode cX5_others 110 = .ok (.iload_n 1, 1) := by decide +kernel
theorem dX5_others_111 : decode cX5_others 111 = .ok (.bipush 32, 2) := by decide +kernel
theorem dX5_others_113 : decode cX5_others 113 = .ok (.if_icmp .ne 41, 3) := by decide +kernel
theorem dX5_others_116 : decode cX5_others 116 = .ok (.aload_n 0, 1) := by decide +kernel
theorem dX5_others_117 : decode cX5_others 117 = .ok (.invokevirtual 118, 3) := by decide +kernel
theorem dX5_others_120 : decode cX5_others 120 = .ok (.istore 4, 2) := by decide +kernel
theorem dX5_others_122 : decode cX5_others 122 = .ok (.aload_n 0, 1) := by decide +kernel
theorem dX5_others_123 : decode cX5_others 123 = .ok (.aload_n 0, 1) := by decide +kernel
theorem dX5_others_124 : decode cX5_others 124 = .ok (.getfield 28, 3) := by decide +kernel
theorem dX5_others_127 : decode cX5_others 127 = .ok (.aload_n 0, 1) := by decide +kernel
theorem dX5_others_128 : decode cX5_others 128 = .ok (.getfield 80, 3) := by decide +kernel
theorem dX5_others_131 : decode cX5_others 131 = .ok (.iaload, 1) := by decide +kernel
theorem dX5_others_132 : decode cX5_others 132 = .ok (.iconst 1, 1) := by decide +kernel
theorem dX5_others_133 : decode cX5_others 133 = .ok (.isub, 1) := by decide +kernel
theorem dX5_others_134 : decode cX5_others 134 = .ok (.ldc 102, 2) := by decide +kernel
theorem dX5_others_136 : decode cX5_others 136 = .ok (.iand, 1) := by decide +kernel
theorem dX5_others_137 : decode cX5_others 137 = .ok (.invokevirtual 155, 3) := by decide +kernel
theorem dX5_others_140 : decode cX5_others 140 = .ok (.aload_n 0, 1) := by decide +kernel
theorem dX5_others_141 : decode cX5_others 141 = .ok (.getfield 28, 3) := by decide +kernel
theorem dX5_others_144 : decode cX5_others 144 = .ok (.aload_n 0, 1) := by decide +kernel
theorem dX5_others_145 : decode cX5_others 145 = .ok (.getfield 80, 3) := by decide +kernel
theorem dX5_others_148 : decode cX5_others 148 = .ok (.iload 4, 2) := by decide +kernel
theorem dX5_others_150 : decode cX5_others 150 = .ok (.iastore, 1) := by decide +kernel
theorem dX5_others_151 : decode cX5_others 151 = .ok (.goto 317, 3) := by decide +kernel
theorem dX5_others_154 : decode cX5_others 154 = .ok (.iload_n 1, 1) := by decide +kernel
theorem dX5_others_155 : decode cX5_others 155 = .ok (.bipush 64, 2) := by decide +kernel
theorem dX5_others_157 : decode cX5_others 157 = .ok (.if_icmp .ne 38, 3) := by decide +kernel
theorem dX5_others_160 : decode cX5_others 160 = .ok (.aload_n 0, 1) := by decide +kernel
theorem dX5_others_161 : decode cX5_others 161 = .ok (.getfield 25, 3) := by decide +kernel
theorem dX5_others_164 : decode cX5_others 164 = .ok (.aload_n 0, 1) := by decide +kernel
theorem dX5_others_165 : decode cX5_others 165 = .ok (.getfield 80, 3) := by decide +kernel
theorem dX5_others_168 : decode cX5_others 168 = .ok (.aload_n 0, 1) := by decide +kernel
theorem dX5_others_169 : decode cX5_others 169 = .ok (.invokevirtual 111, 3) := by decide +kernel
theorem dX5_others_172 : decode cX5_others 172 = .ok (.bipush (-17), 2) := by decide +kernel
theorem dX5_others_174 : decode cX5_others 174 = .ok (.iand, 1) := by decide +kernel
theorem dX5_others_175 : decode cX5_others 175 = .ok (.bipush 32, 2) := by decide +kernel
theorem dX5_others_177 : decode cX5_others 177 = .ok (.ior, 1) := by decide +kernel
theorem dX5_others_178 : decode cX5_others 178 = .ok (.iastore, 1) := by decide +kernel
theorem dX5_others_179 : decode cX5_others 179 = .ok (.aload_n 0, 1) := by decide +kernel
theorem dX5_others_180 : decode cX5_others 180 = .ok (.getfield 28, 3) := by decide +kernel
theorem dX5_others_183 : decode cX5_others 183 = .ok (.aload_n 0, 1) := by decide +kernel
theorem dX5_others_184 : decode cX5_others 184 = .ok (.getfield 80, 3) := by decide +kernel
theorem dX5_others_187 : decode cX5_others 187 = .ok (.aload_n 0, 1) := by decide +kernel
theorem dX5_others_188 : decode cX5_others 188 = .ok (.invokevirtual 161, 3) := by decide +kernel
theorem dX5_others_191 : decode cX5_others 191 = .ok (.iastore, 1) := by decide +kernel
theorem dX5_others_192 : decode cX5_others 192 = .ok (.goto 276, 3) := by decide +kernel
theorem dX5_others_195 : decode cX5_others 195 = .ok (.iload_n 1, 1) := by decide +kernel
theorem dX5_others_196 : decode cX5_others 196 = .ok (.bipush 96, 2) := by decide +kernel
theorem dX5_others_198 : decode cX5_others 198 = .ok (.if_icmp .ne 24, 3) := by decide +kernel
theorem dX5_others_201 : decode cX5_others 201 = .ok (.aload_n 0, 1) := by decide +kernel
theorem dX5_others_202 : decode cX5_others 202 = .ok (.getfield 28, 3) := by decide +kernel
theorem dX5_others_205 : decode cX5_others 205 = .ok (.aload_n 0, 1) := by decide +kernel
theorem dX5_others_206 : decode cX5_others 206 = .ok (.getfield 80, 3) := by decide +kernel
theorem dX5_others_209 : decode cX5_others 209 = .ok (.aload_n 0, 1) := by decide +kernel
theorem dX5_others_210 : decode cX5_others 210 = .ok (.invokevirtual 161, 3) := by decide +kernel
theorem dX5_others_213 : decode cX5_others 213 = .ok (.iconst 1, 1) := by decide +kernel
theorem dX5_others_214 : decode cX5_others 214 = .ok (.iadd, 1) := by decide +kernel
theorem dX5_others_215 : decode cX5_others 215 = .ok (.ldc 102, 2) := by decide +kernel
theorem dX5_others_217 : decode cX5_others 217 = .ok (.iand, 1) := by decide +kernel
theorem dX5_others_218 : decode cX5_others 218 = .ok (.iastore, 1) := by decide +kernel
theorem dX5_others_219 : decode cX5_others 219 = .ok (.goto 249, 3) := by decide +kernel
theorem dX5_others_222 : decode cX5_others 222 = .ok (.iload_n 1, 1) := by decide +kernel
theorem dX5_others_223 : decode cX5_others 223 = .ok (.bipush 76, 2) := by decide +kernel
theorem dX5_others_225 : decode cX5_others 225 = .ok (.if_icmp .ne 19, 3) := by decide +kernel
theorem dX5_others_228 : decode cX5_others 228 = .ok (.aload_n 0, 1) := by decide +kernel
theorem dX5_others_229 : decode cX5_others 229 = .ok (.getfield 28, 3) := by decide +kernel
theorem dX5_others_232 : decode cX5_others 232 = .ok (.aload_n 0, 1) := by decide +kernel
theorem dX5_others_233 : decode cX5_others 233 = .ok (.getfield 80, 3) := by decide +kernel
theorem dX5_others_236 : decode cX5_others 236 = .ok (.aload_n 0, 1) := by decide +kernel
theorem dX5_others_237 : decode cX5_others 237 = .ok (.invokevirtual 118, 3) := by decide +kernel
theorem dX5_others_240 : decode cX5_others 240 = .ok (.iastore, 1) := by decide +kernel
theorem dX5_others_241 : decode cX5_others 241 = .ok (.goto 227, 3) := by decide +kernel
theorem dX5_others_244 : decode cX5_others 244 = .ok (.iload_n 1, 1) := by decide +kernel
theorem dX5_others_245 : decode cX5_others 245 = .ok (.bipush 108, 2) := by decide +kernel
theorem dX5_others_247 : decode cX5_others 247 = .ok (.if_icmp .ne 53, 3) := by decide +kernel
theorem dX5_others_250 : decode cX5_others 250 = .ok (.aload_n 0, 1) := by decide +kernel
theorem dX5_others_251 : decode cX5_others 251 = .ok (.invokevirtual 118, 3) := by decide +kernel
theorem dX5_others_254 : decode cX5_others 254 = .ok (.istore 4, 2) := by decide +kernel
theorem dX5_others_256 : decode cX5_others 256 = .ok (.aload_n 0, 1) := by decide +kernel
theorem dX5_others_257 : decode cX5_others 257 = .ok (.iload 4, 2) := by decide +kernel
theorem dX5_others_259 : decode cX5_others 259 = .ok (.invokevirtual 99, 3) := by decide +kernel
theorem dX5_others_262 : decode cX5_others 262 = .ok (.istore 5, 2) := by decide +kernel
theorem dX5_others_264 : decode cX5_others 264 = .ok (.aload_n 0, 1) := by decide +kernel
theorem dX5_others_265 : decode cX5_others 265 = .ok (.getfield 28, 3) := by decide +kernel
theorem dX5_others_268 : decode cX5_others 268 = .ok (.aload_n 0, 1) := by decide +kernel
theorem dX5_others_269 : decode cX5_others 269 = .ok (.getfield 80, 3) := by decide +kernel
theorem dX5_others_272 : decode cX5_others 272 = .ok (.iload 5, 2) := by decide +kernel
theorem dX5_others_274 : decode cX5_others 274 = .ok (.aload_n 0, 1) := by decide +kernel
theorem dX5_others_275 : decode cX5_others 275 = .ok (.iload 4, 2) := by decide +kernel
theorem dX5_others_277 : decode cX5_others 277 = .ok (.ldc 164, 2) := by decide +kernel
theorem dX5_others_279 : decode cX5_others 279 = .ok (.iand, 1) := by decide +kernel
theorem dX5_others_280 : decode cX5_others 280 = .ok (.iload 4, 2) := by decide +kernel
theorem dX5_others_282 : decode cX5_others 282 = .ok (.iconst 1, 1) := by decide +kernel
theorem dX5_others_283 : decode cX5_others 283 = .ok (.iadd, 1) := by decide +kernel
theorem dX5_others_284 : decode cX5_others 284 = .ok (.sipush 255, 3) := by decide +kernel
theorem dX5_others_287 : decode cX5_others 287 = .ok (.iand, 1) := by decide +kernel
theorem dX5_others_288 : decode cX5_others 288 = .ok (.ior, 1) := by decide +kernel
theorem dX5_others_289 : decode cX5_others 289 = .ok (.invokevirtual 99, 3) := by decide +kernel
theorem dX5_others_292 : decode cX5_others 292 = .ok (.bipush 8, 2) := by decide +kernel
theorem dX5_others_294 : decode cX5_others 294 = .ok (.ishl, 1) := by decide +kernel
theorem dX5_others_295 : decode cX5_others 295 = .ok (.ior, 1) := by decide +kernel
theorem dX5_others_296 : decode cX5_others 296 = .ok (.iastore, 1) := by decide +kernel
theorem dX5_others_297 : decode cX5_others 297 = .ok (.goto 171, 3) := by decide +kernel
theorem dX5_others_300 : decode cX5_others 300 = .ok (.aload_n 0, 1) := by decide +kernel
theorem dX5_others_301 : decode cX5_others 301 = .ok (.iload_n 1, 1) := by decide +kernel
theorem dX5_others_302 : decode cX5_others 302 = .ok (.invokestatic 130, 3) := by decide +kernel
theorem dX5_others_305 : decode cX5_others 305 = .ok (.invokevirtual 133, 3) := by decide +kernel
theorem dX5_others_308 : decode cX5_others 308 = .ok (.istore 4, 2) := by decide +kernel
theorem dX5_others_310 : decode cX5_others 310 = .ok (.iload_n 3, 1) := by decide +kernel
theorem dX5_others_311 : decode cX5_others 311 = .ok (.iconst 4, 1) := by decide +kernel
theorem dX5_others_312 : decode cX5_others 312 = .ok (.if_icmp .ne 21, 3) := by decide +kernel
theorem dX5_others_315 : decode cX5_others 315 = .ok (.aload_n 0, 1) := by decide +kernel
theorem dX5_others_316 : decode cX5_others 316 = .ok (.iload 4, 2) := by decide +kernel
theorem dX5_others_318 : decode cX5_others 318 = .ok (.aload_n 0, 1) := by decide +kernel
theorem dX5_others_319 : decode cX5_others 319 = .ok (.getfield 19, 3) := by decide +kernel
theorem dX5_others_322 : decode cX5_others 322 = .ok (.aload_n 0, 1) := by decide +kernel
theorem dX5_others_323 : decode cX5_others 323 = .ok (.getfield 80, 3) := by decide +kernel
theorem dX5_others_326 : decode cX5_others 326 = .ok (.iaload, 1) := by decide +kernel
theorem dX5_others_327 : decode cX5_others 327 = .ok (.invokevirtual 136, 3) := by decide +kernel
theorem dX5_others_330 : decode cX5_others 330 = .ok (.goto 138, 3) := by decide +kernel
theorem dX5_others_333 : decode cX5_others 333 = .ok (.aload_n 0, 1) := by decide +kernel
theorem dX5_others_334 : decode cX5_others 334 = .ok (.iload 4, 2) := by decide +kernel
theorem dX5_others_336 : decode cX5_others 336 = .ok (.invokevirtual 99, 3) := by decide +kernel
theorem dX5_others_339 : decode cX5_others 339 = .ok (.istore 5, 2) := by decide +kernel
theorem dX5_others_341 : decode cX5_others 341 = .ok (.iload_n 3, 1) := by decide +kernel
theorem dX5_others_342 : decode cX5_others 342 = .ok (.iconst 1, 1) := by decide +kernel
theorem dX5_others_343 : decode cX5_others 343 = .ok (.if_icmp .ne 69, 3) := by decide +kernel
theorem dX5_others_346 : decode cX5_others 346 = .ok (.aload_n 0, 1) := by decide +kernel
theorem dX5_others_347 : decode cX5_others 347 = .ok (.iconst 2, 1) := by decide +kernel
theorem dX5_others_348 : decode cX5_others 348 = .ok (.aload_n 0, 1) := by decide +kernel
theorem dX5_others_349 : decode cX5_others 349 = .ok (.getfield 13, 3) := by decide +kernel
theorem dX5_others_352 : decode cX5_others 352 = .ok (.aload_n 0, 1) := by decide +kernel
theorem dX5_others_353 : decode cX5_others 353 = .ok (.getfield 80, 3) := by decide +kernel
theorem dX5_others_356 : decode cX5_others 356 = .ok (.iaload, 1) := by decide +kernel
theorem dX5_others_357 : decode cX5_others 357 = .ok (.iload 5, 2) := by decide +kernel
theorem dX5_others_359 : decode cX5_others 359 = .ok (.iand, 1) := by decide +kernel
theorem dX5_others_360 : decode cX5_others 360 = .ok (.ifCond .ne 7, 3) := by decide +kernel
theorem dX5_others_363 : decode cX5_others 363 = .ok (.iconst 1, 1) := by decide +kernel
theorem dX5_others_364 : decode cX5_others 364 = .ok (.goto 4, 3) := by decide +kernel
theorem dX5_others_367 : decode cX5_others 367 = .ok (.iconst 0, 1) := by decide +kernel
theorem dX5_others_368 : decode cX5_others 368 = .ok (.invokevirtual 114, 3) := by decide +kernel
theorem dX5_others_371 : decode cX5_others 371 = .ok (.aload_n 0, 1) := by decide +kernel
theorem dX5_others_372 : decode cX5_others 372 = .ok (.sipush 128, 3) := by decide +kernel
theorem dX5_others_375 : decode cX5_others 375 = .ok (.iload 5, 2) := by decide +kernel
theorem dX5_others_377 : decode cX5_others 377 = .ok (.bipush 127, 2) := by decide +kernel
theorem dX5_others_379 : decode cX5_others 379 = .ok (.if_icmp .le 7, 3) := by decide +kernel
theorem dX5_others_382 : decode cX5_others 382 = .ok (.iconst 1, 1) := by decide +kernel
theorem dX5_others_383 : decode cX5_others 383 = .ok (.goto 4, 3) := by decide +kernel
theorem dX5_others_386 : decode cX5_others 386 = .ok (.iconst 0, 1) := by decide +kernel
theorem dX5_others_387 : decode cX5_others 387 = .ok (.invokevirtual 114, 3) := by decide +kernel
theorem dX5_others_390 : decode cX5_others 390 = .ok (.aload_n 0, 1) := by decide +kernel
theorem dX5_others_391 : decode cX5_others 391 = .ok (.bipush 64, 2) := by decide +kernel
theorem dX5_others_393 : decode cX5_others 393 = .ok (.iload 5, 2) := by decide +kernel
theorem dX5_others_395 : decode cX5_others 395 = .ok (.bipush 64, 2) := by decide +kernel
theorem dX5_others_397 : decode cX5_others 397 = .ok (.iand, 1) := by decide +kernel
theorem dX5_others_398 : decode cX5_others 398 = .ok (.ifCond .eq 7, 3) := by decide +kernel
theorem dX5_others_401 : decode cX5_others 401 = .ok (.iconst 1, 1) := by decide +kernel
theorem dX5_others_402 : decode cX5_others 402 = .ok (.goto 4, 3) := by decide +kernel
theorem dX5_others_405 : decode cX5_others 405 = .ok (.iconst 0, 1) := by decide +kernel
theorem dX5_others_406 : decode cX5_others 406 = .ok (.invokevirtual 114, 3) := by decide +kernel
theorem dX5_others_409 : decode cX5_others 409 = .ok (.goto 59, 3) := by decide +kernel
theorem dX5_others_412 : decode cX5_others 412 = .ok (.iload_n 3, 1) := by decide +kernel
theorem dX5_others_413 : decode cX5_others 413 = .ok (.iconst 5, 1) := by decide +kernel
theorem dX5_others_414 : decode cX5_others 414 = .ok (.if_icmp .ne 21, 3) := by decide +kernel
theorem dX5_others_417 : decode cX5_others 417 = .ok (.aload_n 0, 1) := by decide +kernel
theorem dX5_others_418 : decode cX5_others 418 = .ok (.getfield 19, 3) := by decide +kernel
theorem dX5_others_421 : decode cX5_others 421 = .ok (.aload_n 0, 1) := by decide +kernel
theorem dX5_others_422 : decode cX5_others 422 = .ok (.getfield 80, 3) := by decide +kernel
theorem dX5_others_425 : decode cX5_others 425 = .ok (.aload_n 0, 1) := by decide +kernel
theorem dX5_others_426 : decode cX5_others 426 = .ok (.iload 5, 2) := by decide +kernel
theorem dX5_others_428 : decode cX5_others 428 = .ok (.invokevirtual 127, 3) := by decide +kernel
theorem dX5_others_431 : decode cX5_others 431 = .ok (.iastore, 1) := by decide +kernel
theorem dX5_others_432 : decode cX5_others 432 = .ok (.goto 36, 3) := by decide +kernel
theorem dX5_others_435 : decode cX5_others 435 = .ok (.aload_n 0, 1) := by decide +kernel
theorem dX5_others_436 : decode cX5_others 436 = .ok (.iload_n 3, 1) := by decide +kernel
theorem dX5_others_437 : decode cX5_others 437 = .ok (.bipush 6, 2) := by decide +kernel
theorem dX5_others_439 : decode cX5_others 439 = .ok (.if_icmp .ne 15, 3) := by decide +kernel
theorem dX5_others_442 : decode cX5_others 442 = .ok (.aload_n 0, 1) := by decide +kernel
theorem dX5_others_443 : decode cX5_others 443 = .ok (.getfield 19, 3) := by decide +kernel
theorem dX5_others_446 : decode cX5_others 446 = .ok (.aload_n 0, 1) := by decide +kernel
theorem dX5_others_447 : decode cX5_others 447 = .ok (.getfield 80, 3) := by decide +kernel
theorem dX5_others_450 : decode cX5_others 450 = .ok (.iaload, 1) := by decide +kernel
theorem dX5_others_451 : decode cX5_others 451 = .ok (.goto 12, 3) := by decide +kernel
theorem dX5_others_454 : decode cX5_others 454 = .ok (.aload_n 0, 1) := by decide +kernel
theorem dX5_others_455 : decode cX5_others 455 = .ok (.getfield 16, 3) := by decide +kernel
theorem dX5_others_458 : decode cX5_others 458 = .ok (.aload_n 0, 1) := by decide +kernel
theorem dX5_others_459 : decode cX5_others 459 = .ok (.getfield 80, 3) := by decide +kernel
theorem dX5_others_462 : decode cX5_others 462 = .ok (.iaload, 1) := by decide +kernel
theorem dX5_others_463 : decode cX5_others 463 = .ok (.iload 5, 2) := by decide +kernel
theorem dX5_others_465 : decode cX5_others 465 = .ok (.invokevirtual 143, 3) := by decide +kernel
theorem dX5_others_468 : decode cX5_others 468 = .ok (.return_, 1) := by decide +kernel
theorem dX5_breakTo_0 : decode cX5_breakTo 0 = .ok (.aload_n 0, 1) := by decide +kernel
theorem dX5_breakTo_1 : decode cX5_breakTo 1 = .ok (.aload_n 0, 1) := by decide +kernel
theorem dX5_breakTo_2 : decode cX5_breakTo 2 = .ok (.getfield 28, 3) := by decide +kernel
theorem dX5_breakTo_5 : decode cX5_breakTo 5 = .ok (.aload_n 0, 1) := by decide +kernel
theorem dX5_breakTo_6 : decode cX5_breakTo 6 = .ok (.getfield 80, 3) := by decide +kernel
theorem dX5_breakTo_9 : decode cX5_breakTo 9 = .ok (.iaload, 1) := by decide +kernel
theorem dX5_breakTo_10 : decode cX5_breakTo 10 = .ok (.invokevirtual 155, 3) := by decide +kernel
theorem dX5_breakTo_13 : decode cX5_breakTo 13 = .ok (.aload_n 0, 1) := by decide +kernel
theorem dX5_breakTo_14 : decode cX5_breakTo 14 = .ok (.aload_n 0, 1) := by decide +kernel
theorem dX5_breakTo_15 : decode cX5_breakTo 15 = .ok (.getfield 25, 3) := by decide +kernel
theorem dX5_breakTo_18 : decode cX5_breakTo 18 = .ok (.aload_n 0, 1) := by decide +kernel
theorem dX5_breakTo_19 : decode cX5_breakTo 19 = .ok (.getfield 80, 3) := by decide +kernel
theorem dX5_breakTo_22 : decode cX5_breakTo 22 = .ok (.iaload, 1) := by decide +kernel
theorem dX5_breakTo_23 : decode cX5_breakTo 23 = .ok (.bipush (-17), 2) := by decide +kernel
theorem dX5_breakTo_25 : decode cX5_breakTo 25 = .ok (.iand, 1) := by decide +kernel
theorem dX5_breakTo_26 : decode cX5_breakTo 26 = .ok (.bipush 32, 2) := by decide +kernel
theorem dX5_breakTo_28 : decode cX5_breakTo 28 = .ok (.ior, 1) := by decide +kernel
theorem dX5_breakTo_29 : decode cX5_breakTo 29 = .ok (.invokevirtual 107, 3) := by decide +kernel
theorem dX5_breakTo_32 : decode cX5_breakTo 32 = .ok (.aload_n 0, 1) := by decide +kernel
theorem dX5_breakTo_33 : decode cX5_breakTo 33 = .ok (.iconst 4, 1) := by decide +kernel
theorem dX5_breakTo_34 : decode cX5_breakTo 34 = .ok (.iconst 1, 1) := by decide +kernel
theorem dX5_breakTo_35 : decode cX5_breakTo 35 = .ok (.invokevirtual 114, 3) := by decide +kernel
theorem dX5_breakTo_38 : decode cX5_breakTo 38 = .ok (.aload_n 0, 1) := by decide +kernel
theorem dX5_breakTo_39 : decode cX5_breakTo 39 = .ok (.getfield 28, 3) := by decide +kernel
theorem dX5_breakTo_42 : decode cX5_breakTo 42 = .ok (.aload_n 0, 1) := by decide +kernel
theorem dX5_breakTo_43 : decode cX5_breakTo 43 = .ok (.getfield 80, 3) := by decide +kernel
theorem dX5_breakTo_46 : decode cX5_breakTo 46 = .ok (.aload_n 0, 1) := by decide +kernel
theorem dX5_breakTo_47 : decode cX5_breakTo 47 = .ok (.iload_n 1, 1) := by decide +kernel
theorem dX5_breakTo_48 : decode cX5_breakTo 48 = .ok (.invokevirtual 158, 3) := by decide +kernel
theorem dX5_breakTo_51 : decode cX5_breakTo 51 = .ok (.iastore, 1) := by decide +kernel
theorem dX5_breakTo_52 : decode cX5_breakTo 52 = .ok (.return_, 1) := by decide +kernel
theorem dX5_doReset_0 : decode cX5_doReset 0 = .ok (.aload_n 0, 1) := by decide +kernel
theorem dX5_doReset_1 : decode cX5_doReset 1 = .ok (.iload_n 1, 1) := by decide +kernel
theorem dX5_doReset_2 : decode cX5_doReset 2 = .ok (.putfield 80, 3) := by decide +kernel
theorem dX5_doReset_5 : decode cX5_doReset 5 = .ok (.aload_n 0, 1) := by decide +kernel
theorem dX5_doReset_6 : decode cX5_doReset 6 = .ok (.getfield 22, 3) := by decide +kernel
theorem dX5_doReset_9 : decode cX5_doReset 9 = .ok (.aload_n 0, 1) := by decide +kernel
theorem dX5_doReset_10 : decode cX5_doReset 10 = .ok (.getfield 80, 3) := by decide +kernel
theorem dX5_doReset_13 : decode cX5_doReset 13 = .ok (.sipush 253, 3) := by decide +kernel
theorem dX5_doReset_16 : decode cX5_doReset 16 = .ok (.iastore, 1) := by decide +kernel
theorem dX5_doReset_17 : decode cX5_doReset 17 = .ok (.aload_n 0, 1) := by decide +kernel
theorem dX5_doReset_18 : decode cX5_doReset 18 = .ok (.iconst 4, 1) := by decide +kernel
theorem dX5_doReset_19 : decode cX5_doReset 19 = .ok (.iconst 1, 1) := by decide +kernel
theorem dX5_doReset_20 : decode cX5_doReset 20 = .ok (.invokevirtual 114, 3) := by decide +kernel
theorem dX5_doReset_23 : decode cX5_doReset 23 = .ok (.aload_n 0, 1) := by decide +kernel
theorem dX5_doReset_24 : decode cX5_doReset 24 = .ok (.getfield 28, 3) := by decide +kernel
theorem dX5_doReset_27 : decode cX5_doReset 27 = .ok (.aload_n 0, 1) := by decide +kernel
theorem dX5_doReset_28 : decode cX5_doReset 28 = .ok (.getfield 80, 3) := by decide +kernel
theorem dX5_doReset_31 : decode cX5_doReset 31 = .ok (.aload_n 0, 1) := by decide +kernel
theorem dX5_doReset_32 : decode cX5_doReset 32 = .ok (.sipush 4092, 3) := by decide +kernel
theorem dX5_doReset_35 : decode cX5_doReset 35 = .ok (.invokevirtual 158, 3) := by decide +kernel
theorem dX5_doReset_38 : decode cX5_doReset 38 = .ok (.iastore, 1) := by decide +kernel
theorem dX5_doReset_39 : decode cX5_doReset 39 = .ok (.aload_n 0, 1) := by decide +kernel
theorem dX5_doReset_40 : decode cX5_doReset 40 = .ok (.getfield 31, 3) := by decide +kernel
theorem dX5_doReset_43 : decode cX5_doReset 43 = .ok (.aload_n 0, 1) := by decide +kernel
theorem dX5_doReset_44 : decode cX5_doReset 44 = .ok (.getfield 80, 3) := by decide +kernel
theorem dX5_doReset_47 : decode cX5_doReset 47 = .ok (.iconst 0, 1) := by decide +kernel
theorem dX5_doReset_48 : decode cX5_doReset 48 = .ok (.bastore, 1) := by decide +kernel
theorem dX5_doReset_49 : decode cX5_doReset 49 = .ok (.aload_n 0, 1) := by decide +kernel
theorem dX5_doReset_50 : decode cX5_doReset 50 = .ok (.aload_n 0, 1) := by decide +kernel
theorem dX5_doReset_51 : decode cX5_doReset 51 = .ok (.getfield 80, 3) := by decide +kernel
theorem dX5_doReset_54 : decode cX5_doReset 54 = .ok (.iconst 1, 1) := by decide +kernel
theorem dX5_doReset_55 : decode cX5_doReset 55 = .ok (.if_icmp .ne 10, 3) := by decide +kernel
theorem dX5_doReset_58 : decode cX5_doReset 58 = .ok (.aload_n 0, 1) := by decide +kernel
theorem dX5_doReset_59 : decode cX5_doReset 59 = .ok (.invokevirtual 165, 3) := by decide +kernel
theorem dX5_doReset_62 : decode cX5_doReset 62 = .ok (.goto 7, 3) := by decide +kernel
theorem dX5_doReset_65 : decode cX5_doReset 65 = .ok (.aload_n 0, 1) := by decide +kernel
theorem dX5_doReset_66 : decode cX5_doReset 66 = .ok (.getfield 62, 3) := by decide +kernel
theorem dX5_doReset_69 : decode cX5_doReset 69 = .ok (.putfield 62, 3) := by decide +kernel
theorem dX5_doReset_72 : decode cX5_doReset 72 = .ok (.return_, 1) := by decide +kernel
theorem dX5_step_0 : decode cX5_step 0 = .ok (.aload_n 0, 1) := by decide +kernel
theorem dX5_step_1 : decode cX5_step 1 = .ok (.iload_n 1, 1) := by decide +kernel
theorem dX5_step_2 : decode cX5_step 2 = .ok (.putfield 80, 3) := by decide +kernel
theorem dX5_step_5 : decode cX5_step 5 = .ok (.aload_n 0, 1) := by decide +kernel
theorem dX5_step_6 : decode cX5_step 6 = .ok (.getfield 80, 3) := by decide +kernel
theorem dX5_step_9 : decode cX5_step 9 = .ok (.iconst 1, 1) := by decide +kernel
theorem dX5_step_10 : decode cX5_step 10 = .ok (.if_icmp .ne 14, 3) := by decide +kernel
theorem dX5_step_13 : decode cX5_step 13 = .ok (.aload_n 0, 1) := by decide +kernel
theorem dX5_step_14 : decode cX5_step 14 = .ok (.getfield 55, 3) := by decide +kernel
theorem dX5_step_17 : decode cX5_step 17 = .ok (.bipush 32, 2) := by decide +kernel
theorem dX5_step_19 : decode cX5_step 19 = .ok (.iand, 1) := by decide +kernel
theorem dX5_step_20 : decode cX5_step 20 = .ok (.ifCond .eq 4, 3) := by decide +kernel
theorem dX5_step_23 : decode cX5_step 23 = .ok (.return_, 1) := by decide +kernel
theorem dX5_step_24 : decode cX5_step 24 = .ok (.aload_n 0, 1) := by decide +kernel
theorem dX5_step_25 : decode cX5_step 25 = .ok (.getfield 80, 3) := by decide +kernel
theorem dX5_step_28 : decode cX5_step 28 = .ok (.iconst 1, 1) := by decide +kernel
theorem dX5_step_29 : decode cX5_step 29 = .ok (.if_icmp .ne 31, 3) := by decide +kernel
theorem dX5_step_32 : decode cX5_step 32 = .ok (.aload_n 0, 1) := by decide +kernel
theorem dX5_step_33 : decode cX5_step 33 = .ok (.getfield 58, 3) := by decide +kernel
theorem dX5_step_36 : decode cX5_step 36 = .ok (.ifCond .eq 24, 3) := by decide +kernel
theorem dX5_step_39 : decode cX5_step 39 = .ok (.aload_n 0, 1) := by decide +kernel
theorem dX5_step_40 : decode cX5_step 40 = .ok (.iconst 0, 1) := by decide +kernel
theorem dX5_step_41 : decode cX5_step 41 = .ok (.putfield 58, 3) := by decide +kernel
theorem dX5_step_44 : decode cX5_step 44 = .ok (.aload_n 0, 1) := by decide +kernel
theorem dX5_step_45 : decode cX5_step 45 = .ok (.iconst 1, 1) := by decide +kernel
theorem dX5_step_46 : decode cX5_step 46 = .ok (.invokevirtual 169, 3) := by decide +kernel
theorem dX5_step_49 : decode cX5_step 49 = .ok (.aload_n 0, 1) := by decide +kernel
theorem dX5_step_50 : decode cX5_step 50 = .ok (.getfield 35, 3) := by decide +kernel
theorem dX5_step_53 : decode cX5_step 53 = .ok (.iconst 1, 1) := by decide +kernel
theorem dX5_step_54 : decode cX5_step 54 = .ok (.dup2, 1) := by decide +kernel
theorem dX5_step_55 : decode cX5_step 55 = .ok (.laload, 1) := by decide +kernel
theorem dX5_step_56 : decode cX5_step 56 = .ok (.lconst 1, 1) := by decide +kernel
theorem dX5_step_57 : decode cX5_step 57 = .ok (.ladd, 1) := by decide +kernel
theorem dX5_step_58 : decode cX5_step 58 = .ok (.lastore, 1) := by decide +kernel
theorem dX5_step_59 : decode cX5_step 59 = .ok (.return_, 1) := by decide +kernel
theorem dX5_step_60 : decode cX5_step 60 = .ok (.aload_n 0, 1) := by decide +kernel
theorem dX5_step_61 : decode cX5_step 61 = .ok (.getfield 31, 3) := by decide +kernel
theorem dX5_step_64 : decode cX5_step 64 = .ok (.aload_n 0, 1) := by decide +kernel
theorem dX5_step_65 : decode cX5_step 65 = .ok (.getfield 80, 3) := by decide +kernel
theorem dX5_step_68 : decode cX5_step 68 = .ok (.baload, 1) := by decide +kernel
theorem dX5_step_69 : decode cX5_step 69 = .ok (.ifCond .eq 4, 3) := by decide +kernel
theorem dX5_step_72 : decode cX5_step 72 = .ok (.return_, 1) := by decide +kernel
theorem dX5_step_73 : decode cX5_step 73 = .ok (.aload_n 0, 1) := by decide +kernel
theorem dX5_step_74 : decode cX5_step 74 = .ok (.getfield 35, 3) := by decide +kernel
theorem dX5_step_77 : decode cX5_step 77 = .ok (.aload_n 0, 1) := by decide +kernel
theorem dX5_step_78 : decode cX5_step 78 = .ok (.getfield 80, 3) := by decide +kernel
theorem dX5_step_81 : decode cX5_step 81 = .ok (.dup2, 1) := by decide +kernel
theorem dX5_step_82 : decode cX5_step 82 = .ok (.laload, 1) := by decide +kernel
theorem dX5_step_83 : decode cX5_step 83 = .ok (.lconst 1, 1) := by decide +kernel
theorem dX5_step_84 : decode cX5_step 84 = .ok (.ladd, 1) := by decide +kernel
theorem dX5_step_85 : decode cX5_step 85 = .ok (.lastore, 1) := by decide +kernel
theorem dX5_step_86 : decode cX5_step 86 = .ok (.aload_n 0, 1) := by decide +kernel
theorem dX5_step_87 : decode cX5_step 87 = .ok (.getfield 80, 3) := by decide +kernel
theorem dX5_step_90 : decode cX5_step 90 = .ok (.iconst 1, 1) := by decide +kernel
theorem dX5_step_91 : decode cX5_step 91 = .ok (.if_icmp .ne 14, 3) := by decide +kernel
theorem dX5_step_94 : decode cX5_step 94 = .ok (.aload_n 0, 1) := by decide +kernel
theorem dX5_step_95 : decode cX5_step 95 = .ok (.invokevirtual 165, 3) := by decide +kernel
theorem dX5_step_98 : decode cX5_step 98 = .ok (.ifCond .eq 7, 3) := by decide +kernel
theorem dX5_step_101 : decode cX5_step 101 = .ok (.iconst 1, 1) := by decide +kernel
theorem dX5_step_102 : decode cX5_step 102 = .ok (.goto 4, 3) := by decide +kernel
theorem dX5_step_105 : decode cX5_step 105 = .ok (.iconst 0, 1) := by decide +kernel
theorem dX5_step_106 : decode cX5_step 106 = .ok (.istore_n 2, 1) := by decide +kernel
theorem dX5_step_107 : decode cX5_step 107 = .ok (.iload_n 2, 1) := by decide +kernel
theorem dX5_step_108 : decode cX5_step 108 = .ok (.ifCond .eq 14, 3) := by decide +kernel
theorem dX5_step_111 : decode cX5_step 111 = .ok (.aload_n 0, 1) := by decide +kernel
theorem dX5_step_112 : decode cX5_step 112 = .ok (.getfield 62, 3) := by decide +kernel
theorem dX5_step_115 : decode cX5_step 115 = .ok (.ifCond .ne 7, 3) := by decide +kernel
theorem dX5_step_118 : decode cX5_step 118 = .ok (.iconst 1, 1) := by decide +kernel
theorem dX5_step_119 : decode cX5_step 119 = .ok (.goto 4, 3) := by decide +kernel
theorem dX5_step_122 : decode cX5_step 122 = .ok (.iconst 0, 1) := by decide +kernel
theorem dX5_step_123 : decode cX5_step 123 = .ok (.istore_n 3, 1) := by decide +kernel
theorem dX5_step_124 : decode cX5_step 124 = .ok (.aload_n 0, 1) := by decide +kernel
theorem dX5_step_125 : decode cX5_step 125 = .ok (.aload_n 0, 1) := by decide +kernel
theorem dX5_step_126 : decode cX5_step 126 = .ok (.getfield 80, 3) := by decide +kernel
theorem dX5_step_129 : decode cX5_step 129 = .ok (.iconst 1, 1) := by decide +kernel
theorem dX5_step_130 : decode cX5_step 130 = .ok (.if_icmp .ne 7, 3) := by decide +kernel
theorem dX5_step_133 : decode cX5_step 133 = .ok (.iload_n 2, 1) := by decide +kernel
theorem dX5_step_134 : decode cX5_step 134 = .ok (.goto 7, 3) := by decide +kernel
theorem dX5_step_137 : decode cX5_step 137 = .ok (.aload_n 0, 1) := by decide +kernel
theorem dX5_step_138 : decode cX5_step 138 = .ok (.getfield 62, 3) := by decide +kernel
theorem dX5_step_141 : decode cX5_step 141 = .ok (.putfield 62, 3) := by decide +kernel
theorem dX5_step_144 : decode cX5_step 144 = .ok (.iload_n 3, 1) := by decide +kernel
theorem dX5_step_145 : decode cX5_step 145 = .ok (.ifCond .eq 13, 3) := by decide +kernel
theorem dX5_step_148 : decode cX5_step 148 = .ok (.aload_n 0, 1) := by decide +kernel
theorem dX5_step_149 : decode cX5_step 149 = .ok (.sipush 4090, 3) := by decide +kernel
theorem dX5_step_152 : decode cX5_step 152 = .ok (.invokevirtual 172, 3) := by decide +kernel
theorem dX5_step_155 : decode cX5_step 155 = .ok (.goto 121, 3) := by decide +kernel
theorem dX5_step_158 : decode cX5_step 158 = .ok (.aload_n 0, 1) := by decide +kernel
theorem dX5_step_159 : decode cX5_step 159 = .ok (.aload_n 0, 1) := by decide +kernel
theorem dX5_step_160 : decode cX5_step 160 = .ok (.getfield 80, 3) := by decide +kernel
theorem dX5_step_163 : decode cX5_step 163 = .ok (.invokevirtual 175, 3) := by decide +kernel
theorem dX5_step_166 : decode cX5_step 166 = .ok (.ifCond .eq 21, 3) := by decide +kernel
theorem dX5_step_169 : decode cX5_step 169 = .ok (.aload_n 0, 1) := by decide +kernel
theorem dX5_step_170 : decode cX5_step 170 = .ok (.iconst 4, 1) := by decide +kernel
theorem dX5_step_171 : decode cX5_step 171 = .ok (.invokevirtual 124, 3) := by decide +kernel
theorem dX5_step_174 : decode cX5_step 174 = .ok (.ifCond .ne 13, 3) := by decide +kernel
theorem dX5_step_177 : decode cX5_step 177 = .ok (.aload_n 0, 1) := by decide +kernel
theorem dX5_step_178 : decode cX5_step 178 = .ok (.sipush 4094, 3) := by decide +kernel
theorem dX5_step_181 : decode cX5_step 181 = .ok (.invokevirtual 172, 3) := by decide +kernel
theorem dX5_step_184 : decode cX5_step 184 = .ok (.goto 92, 3) := by decide +kernel
theorem dX5_step_187 : decode cX5_step 187 = .ok (.aload_n 0, 1) := by decide +kernel
theorem dX5_step_188 : decode cX5_step 188 = .ok (.getfield 28, 3) := by decide +kernel
theorem dX5_step_191 : decode cX5_step 191 = .ok (.aload_n 0, 1) := by decide +kernel
theorem dX5_step_192 : decode cX5_step 192 = .ok (.getfield 80, 3) := by decide +kernel
theorem dX5_step_195 : decode cX5_step 195 = .ok (.iaload, 1) := by decide +kernel
theorem dX5_step_196 : decode cX5_step 196 = .ok (.istore 4, 2) := by decide +kernel
theorem dX5_step_198 : decode cX5_step 198 = .ok (.aload_n 0, 1) := by decide +kernel
theorem dX5_step_199 : decode cX5_step 199 = .ok (.invokevirtual 103, 3) := by decide +kernel
theorem dX5_step_202 : decode cX5_step 202 = .ok (.istore 5, 2) := by decide +kernel
theorem dX5_step_204 : decode cX5_step 204 = .ok (.iload 5, 2) := by decide +kernel
theorem dX5_step_206 : decode cX5_step 206 = .ok (.invokestatic 178, 3) := by decide +kernel
theorem dX5_step_209 : decode cX5_step 209 = .ok (.ifCond .ne 27, 3) := by decide +kernel
theorem dX5_step_212 : decode cX5_step 212 = .ok (.aload_n 0, 1) := by decide +kernel
theorem dX5_step_213 : decode cX5_step 213 = .ok (.getfield 28, 3) := by decide +kernel
theorem dX5_step_216 : decode cX5_step 216 = .ok (.aload_n 0, 1) := by decide +kernel
theorem dX5_step_217 : decode cX5_step 217 = .ok (.getfield 80, 3) := by decide +kernel
theorem dX5_step_220 : decode cX5_step 220 = .ok (.iload 4, 2) := by decide +kernel
theorem dX5_step_222 : decode cX5_step 222 = .ok (.iastore, 1) := by decide +kernel
theorem dX5_step_223 : decode cX5_step 223 = .ok (.aload_n 0, 1) := by decide +kernel
theorem dX5_step_224 : decode cX5_step 224 = .ok (.getfield 31, 3) := by decide +kernel
theorem dX5_step_227 : decode cX5_step 227 = .ok (.aload_n 0, 1) := by decide +kernel
theorem dX5_step_228 : decode cX5_step 228 = .ok (.getfield 80, 3) := by decide +kernel
theorem dX5_step_231 : decode cX5_step 231 = .ok (.iconst 1, 1) := by decide +kernel
theorem dX5_step_232 : decode cX5_step 232 = .ok (.bastore, 1) := by decide +kernel
theorem dX5_step_233 : decode cX5_step 233 = .ok (.goto 43, 3) := by decide +kernel
theorem dX5_step_236 : decode cX5_step 236 = .ok (.iload 5, 2) := by decide +kernel
theorem dX5_step_238 : decode cX5_step 238 = .ok (.iconst 4, 1) := by decide +kernel
theorem dX5_step_239 : decode cX5_step 239 = .ok (.irem, 1) := by decide +kernel
theorem dX5_step_240 : decode cX5_step 240 = .ok (.iconst 1, 1) := by decide +kernel
theorem dX5_step_241 : decode cX5_step 241 = .ok (.if_icmp .ne 12, 3) := by decide +kernel
theorem dX5_step_244 : decode cX5_step 244 = .ok (.aload_n 0, 1) := by decide +kernel
theorem dX5_step_245 : decode cX5_step 245 = .ok (.iload 5, 2) := by decide +kernel
theorem dX5_step_247 : decode cX5_step 247 = .ok (.invokevirtual 181, 3) := by decide +kernel
theorem dX5_step_250 : decode cX5_step 250 = .ok (.goto 26, 3) := by decide +kernel
theorem dX5_step_253 : decode cX5_step 253 = .ok (.iload 5, 2) := by decide +kernel
theorem dX5_step_255 : decode cX5_step 255 = .ok (.iconst 4, 1) := by decide +kernel
theorem dX5_step_256 : decode cX5_step 256 = .ok (.irem, 1) := by decide +kernel
theorem dX5_step_257 : decode cX5_step 257 = .ok (.iconst 2, 1) := by decide +kernel
theorem dX5_step_258 : decode cX5_step 258 = .ok (.if_icmp .ne 12, 3) := by decide +kernel
theorem dX5_step_261 : decode cX5_step 261 = .ok (.aload_n 0, 1) := by decide +kernel
theorem dX5_step_262 : decode cX5_step 262 = .ok (.iload 5, 2) := by decide +kernel
theorem dX5_step_264 : decode cX5_step 264 = .ok (.invokevirtual 184, 3) := by decide +kernel
theorem dX5_step_267 : decode cX5_step 267 = .ok (.goto 9, 3) := by decide +kernel
theorem dX5_step_270 : decode cX5_step 270 = .ok (.aload_n 0, 1) := by decide +kernel
theorem dX5_step_271 : decode cX5_step 271 = .ok (.iload 5, 2) := by decide +kernel
theorem dX5_step_273 : decode cX5_step 273 = .ok (.invokevirtual 187, 3) := by decide +kernel
theorem dX5_step_276 : decode cX5_step 276 = .ok (.return_, 1) := by decide +kernel
theorem dX5_run_0 : decode cX5_run 0 = .ok (.aload_n 0, 1) := by decide +kernel
theorem dX5_run_1 : decode cX5_run 1 = .ok (.iload_n 1, 1) := by decide +kernel
theorem dX5_run_2 : decode cX5_run 2 = .ok (.ifCond .lt 19, 3) := by decide +kernel
theorem dX5_run_5 : decode cX5_run 5 = .ok (.iload_n 1, 1) := by decide +kernel
theorem dX5_run_6 : decode cX5_run 6 = .ok (.sipush 4000, 3) := by decide +kernel
theorem dX5_run_9 : decode cX5_run 9 = .ok (.if_icmp .gt 12, 3) := by decide +kernel
theorem dX5_run_12 : decode cX5_run 12 = .ok (.iload_n 2, 1) := by decide +kernel
theorem dX5_run_13 : decode cX5_run 13 = .ok (.ifCond .lt 8, 3) := by decide +kernel
theorem dX5_run_16 : decode cX5_run 16 = .ok (.iload_n 2, 1) := by decide +kernel
theorem dX5_run_17 : decode cX5_run 17 = .ok (.iconst 4, 1) := by decide +kernel
theorem dX5_run_18 : decode cX5_run 18 = .ok (.if_icmp .le 7, 3) := by decide +kernel
theorem dX5_run_21 : decode cX5_run 21 = .ok (.iconst 1, 1) := by decide +kernel
theorem dX5_run_22 : decode cX5_run 22 = .ok (.goto 4, 3) := by decide +kernel
theorem dX5_run_25 : decode cX5_run 25 = .ok (.iconst 0, 1) := by decide +kernel
theorem dX5_run_26 : decode cX5_run 26 = .ok (.putfield 51, 3) := by decide +kernel
theorem dX5_run_29 : decode cX5_run 29 = .ok (.aload_n 0, 1) := by decide +kernel
theorem dX5_run_30 : decode cX5_run 30 = .ok (.getfield 51, 3) := by decide +kernel
theorem dX5_run_33 : decode cX5_run 33 = .ok (.ifCond .le 5, 3) := by decide +kernel
theorem dX5_run_36 : decode cX5_run 36 = .ok (.iconst 0, 1) := by decide +kernel
theorem dX5_run_37 : decode cX5_run 37 = .ok (.ireturn, 1) := by decide +kernel
theorem dX5_run_38 : decode cX5_run 38 = .ok (.iconst 0, 1) := by decide +kernel
theorem dX5_run_39 : decode cX5_run 39 = .ok (.istore_n 3, 1) := by decide +kernel
theorem dX5_run_40 : decode cX5_run 40 = .ok (.iload_n 3, 1) := by decide +kernel
theorem dX5_run_41 : decode cX5_run 41 = .ok (.iload_n 1, 1) := by decide +kernel
theorem dX5_run_42 : decode cX5_run 42 = .ok (.if_icmp .ge 69, 3) := by decide +kernel
theorem dX5_run_45 : decode cX5_run 45 = .ok (.aload_n 0, 1) := by decide +kernel
theorem dX5_run_46 : decode cX5_run 46 = .ok (.getfield 31, 3) := by decide +kernel
theorem dX5_run_49 : decode cX5_run 49 = .ok (.iconst 0, 1) := by decide +kernel
theorem dX5_run_50 : decode cX5_run 50 = .ok (.baload, 1) := by decide +kernel
theorem dX5_run_51 : decode cX5_run 51 = .ok (.ifCond .eq 29, 3) := by decide +kernel
theorem dX5_run_54 : decode cX5_run 54 = .ok (.aload_n 0, 1) := by decide +kernel
theorem dX5_run_55 : decode cX5_run 55 = .ok (.getfield 31, 3) := by decide +kernel
theorem dX5_run_58 : decode cX5_run 58 = .ok (.iconst 1, 1) := by decide +kernel
theorem dX5_run_59 : decode cX5_run 59 = .ok (.baload, 1) := by decide +kernel
theorem dX5_run_60 : decode cX5_run 60 = .ok (.ifCond .eq 20, 3) := by decide +kernel
theorem dX5_run_63 : decode cX5_run 63 = .ok (.aload_n 0, 1) := by decide +kernel
theorem dX5_run_64 : decode cX5_run 64 = .ok (.getfield 58, 3) := by decide +kernel
theorem dX5_run_67 : decode cX5_run 67 = .ok (.ifCond .eq 44, 3) := by decide +kernel
theorem dX5_run_70 : decode cX5_run 70 = .ok (.aload_n 0, 1) := by decide +kernel
theorem dX5_run_71 : decode cX5_run 71 = .ok (.getfield 55, 3) := by decide +kernel
theorem dX5_run_74 : decode cX5_run 74 = .ok (.bipush 32, 2) := by decide +kernel
theorem dX5_run_76 : decode cX5_run 76 = .ok (.iand, 1) := by decide +kernel
theorem dX5_run_77 : decode cX5_run 77 = .ok (.ifCond .ne 34, 3) := by decide +kernel
theorem dX5_run_80 : decode cX5_run 80 = .ok (.aload_n 0, 1) := by decide +kernel
theorem dX5_run_81 : decode cX5_run 81 = .ok (.iconst 0, 1) := by decide +kernel
theorem dX5_run_82 : decode cX5_run 82 = .ok (.invokevirtual 190, 3) := by decide +kernel
theorem dX5_run_85 : decode cX5_run 85 = .ok (.iconst 0, 1) := by decide +kernel
theorem dX5_run_86 : decode cX5_run 86 = .ok (.istore 4, 2) := by decide +kernel
theorem dX5_run_88 : decode cX5_run 88 = .ok (.iload 4, 2) := by decide +kernel
theorem dX5_run_90 : decode cX5_run 90 = .ok (.iload_n 2, 1) := by decide +kernel
theorem dX5_run_91 : decode cX5_run 91 = .ok (.if_icmp .ge 14, 3) := by decide +kernel
theorem dX5_run_94 : decode cX5_run 94 = .ok (.aload_n 0, 1) := by decide +kernel
theorem dX5_run_95 : decode cX5_run 95 = .ok (.iconst 1, 1) := by decide +kernel
theorem dX5_run_96 : decode cX5_run 96 = .ok (.invokevirtual 190, 3) := by decide +kernel
theorem dX5_run_99 : decode cX5_run 99 = .ok (.iinc 4 1, 3) := by decide +kernel
theorem dX5_run_102 : decode cX5_run 102 = .ok (.goto (-14), 3) := by decide +kernel
theorem dX5_run_105 : decode cX5_run 105 = .ok (.iinc 3 1, 3) := by decide +kernel
theorem dX5_run_108 : decode cX5_run 108 = .ok (.goto (-68), 3) := by decide +kernel
theorem dX5_run_111 : decode cX5_run 111 = .ok (.iload_n 3, 1) := by decide +kernel
theorem dX5_run_112 : decode cX5_run 112 = .ok (.ireturn, 1) := by decide +kernel
theorem dX5_reset_0 : decode cX5_reset 0 = .ok (.aload_n 0, 1) := by decide +kernel
theorem dX5_reset_1 : decode cX5_reset 1 = .ok (.iload_n 1, 1) := by decide +kernel
theorem dX5_reset_2 : decode cX5_reset 2 = .ok (.invokestatic 66, 3) := by decide +kernel
theorem dX5_reset_5 : decode cX5_reset 5 = .ok (.ifCond .eq 7, 3) := by decide +kernel
theorem dX5_reset_8 : decode cX5_reset 8 = .ok (.iconst 0, 1) := by decide +kernel
theorem dX5_reset_9 : decode cX5_reset 9 = .ok (.goto 4, 3) := by decide +kernel
theorem dX5_reset_12 : decode cX5_reset 12 = .ok (.iconst 1, 1) := by decide +kernel
theorem dX5_reset_13 : decode cX5_reset 13 = .ok (.putfield 51, 3) := by decide +kernel
theorem dX5_reset_16 : decode cX5_reset 16 = .ok (.aload_n 0, 1) := by decide +kernel
theorem dX5_reset_17 : decode cX5_reset 17 = .ok (.getfield 51, 3) := by decide +kernel
theorem dX5_reset_20 : decode cX5_reset 20 = .ok (.ifCond .ne 8, 3) := by decide +kernel
theorem dX5_reset_23 : decode cX5_reset 23 = .ok (.aload_n 0, 1) := by decide +kernel
theorem dX5_reset_24 : decode cX5_reset 24 = .ok (.iload_n 1, 1) := by decide +kernel
theorem dX5_reset_25 : decode cX5_reset 25 = .ok (.invokevirtual 169, 3) := by decide +kernel
theorem dX5_reset_28 : decode cX5_reset 28 = .ok (.return_, 1) := by decide +kernel
theorem dX5_register_0 : decode cX5_register 0 = .ok (.aload_n 0, 1) := by decide +kernel
theorem dX5_register_1 : decode cX5_register 1 = .ok (.iload_n 1, 1) := by decide +kernel
theorem dX5_register_2 : decode cX5_register 2 = .ok (.invokestatic 66, 3) := by decide +kernel
theorem dX5_register_5 : decode cX5_register 5 = .ok (.ifCond .eq 17, 3) := by decide +kernel
theorem dX5_register_8 : decode cX5_register 8 = .ok (.iload_n 2, 1) := by decide +kernel
theorem dX5_register_9 : decode cX5_register 9 = .ok (.ifCond .lt 13, 3) := by decide +kernel
theorem dX5_register_12 : decode cX5_register 12 = .ok (.iload_n 2, 1) := by decide +kernel
theorem dX5_register_13 : decode cX5_register 13 = .ok (.bipush 6, 2) := by decide +kernel
theorem dX5_register_15 : decode cX5_register 15 = .ok (.if_icmp .gt 7, 3) := by decide +kernel
theorem dX5_register_18 : decode cX5_register 18 = .ok (.iconst 0, 1) := by decide +kernel
theorem dX5_register_19 : decode cX5_register 19 = .ok (.goto 4, 3) := by decide +kernel
theorem dX5_register_22 : decode cX5_register 22 = .ok (.iconst 1, 1) := by decide +kernel
theorem dX5_register_23 : decode cX5_register 23 = .ok (.putfield 51, 3) := by decide +kernel
theorem dX5_register_26 : decode cX5_register 26 = .ok (.aload_n 0, 1) := by decide +kernel
theorem dX5_register_27 : decode cX5_register 27 = .ok (.getfield 51, 3) := by decide +kernel
theorem dX5_register_30 : decode cX5_register 30 = .ok (.ifCond .le 5, 3) := by decide +kernel
theorem dX5_register_33 : decode cX5_register 33 = .ok (.iconst 0, 1) := by decide +kernel
theorem dX5_register_34 : decode cX5_register 34 = .ok (.ireturn, 1) := by decide +kernel
theorem dX5_register_35 : decode cX5_register 35 = .ok (.iload_n 2, 1) := by decide +kernel
theorem dX5_register_36 : decode cX5_register 36 = .ok (.ifCond .ne 12, 3) := by decide +kernel
theorem dX5_register_39 : decode cX5_register 39 = .ok (.aload_n 0, 1) := by decide +kernel
theorem dX5_register_40 : decode cX5_register 40 = .ok (.getfield 13, 3) := by decide +kernel
theorem dX5_register_43 : decode cX5_register 43 = .ok (.iload_n 1, 1) := by decide +kernel
theorem dX5_register_44 : decode cX5_register 44 = .ok (.iaload, 1) := by decide +kernel
theorem dX5_register_45 : decode cX5_register 45 = .ok (.goto 87, 3) := by decide +kernel
theorem dX5_register_48 : decode cX5_register 48 = .ok (.iload_n 2, 1) := by decide +kernel
theorem dX5_register_49 : decode cX5_register 49 = .ok (.iconst 1, 1) := by decide +kernel
theorem dX5_register_50 : decode cX5_register 50 = .ok (.if_icmp .ne 12, 3) := by decide +kernel
theorem dX5_register_53 : decode cX5_register 53 = .ok (.aload_n 0, 1) := by decide +kernel
theorem dX5_register_54 : decode cX5_register 54 = .ok (.getfield 16, 3) := by decide +kernel
theorem dX5_register_57 : decode cX5_register 57 = .ok (.iload_n 1, 1) := by decide +kernel
theorem dX5_register_58 : decode cX5_register 58 = .ok (.iaload, 1) := by decide +kernel
theorem dX5_register_59 : decode cX5_register 59 = .ok (.goto 73, 3) := by decide +kernel
theorem dX5_register_62 : decode cX5_register 62 = .ok (.iload_n 2, 1) := by decide +kernel
theorem dX5_register_63 : decode cX5_register 63 = .ok (.iconst 2, 1) := by decide +kernel
theorem dX5_register_64 : decode cX5_register 64 = .ok (.if_icmp .ne 12, 3) := by decide +kernel
theorem dX5_register_67 : decode cX5_register 67 = .ok (.aload_n 0, 1) := by decide +kernel
theorem dX5_register_68 : decode cX5_register 68 = .ok (.getfield 19, 3) := by decide +kernel
theorem dX5_register_71 : decode cX5_register 71 = .ok (.iload_n 1, 1) := by decide +kernel
theorem dX5_register_72 : decode cX5_register 72 = .ok (.iaload, 1) := by decide +kernel
theorem dX5_register_73 : decode cX5_register 73 = .ok (.goto 59, 3) := by decide +kernel
theorem dX5_register_76 : decode cX5_register 76 = .ok (.iload_n 2, 1) := by decide +kernel
theorem dX5_register_77 : decode cX5_register 77 = .ok (.iconst 3, 1) := by decide +kernel
theorem dX5_register_78 : decode cX5_register 78 = .ok (.if_icmp .ne 12, 3) := by decide +kernel
theorem dX5_register_81 : decode cX5_register 81 = .ok (.aload_n 0, 1) := by decide +kernel
theorem dX5_register_82 : decode cX5_register 82 = .ok (.getfield 22, 3) := by decide +kernel
theorem dX5_register_85 : decode cX5_register 85 = .ok (.iload_n 1, 1) := by decide +kernel
theorem dX5_register_86 : decode cX5_register 86 = .ok (.iaload, 1) := by decide +kernel
theorem dX5_register_87 : decode cX5_register 87 = .ok (.goto 45, 3) := by decide +kernel
theorem dX5_register_90 : decode cX5_register 90 = .ok (.iload_n 2, 1) := by decide +kernel
theorem dX5_register_91 : decode cX5_register 91 = .ok (.iconst 4, 1) := by decide +kernel
theorem dX5_register_92 : decode cX5_register 92 = .ok (.if_icmp .ne 12, 3) := by decide +kernel
theorem dX5_register_95 : decode cX5_register 95 = .ok (.aload_n 0, 1) := by decide +kernel
theorem dX5_register_96 : decode cX5_register 96 = .ok (.getfield 25, 3) := by decide +kernel
theorem dX5_register_99 : decode cX5_register 99 = .ok (.iload_n 1, 1) := by decide +kernel
theorem dX5_register_100 : decode cX5_register 100 = .ok (.iaload, 1) := by decide +kernel
theorem dX5_register_101 : decode cX5_register 101 = .ok (.goto 31, 3) := by decide +kernel
theorem dX5_register_104 : decode cX5_register 104 = .ok (.iload_n 2, 1) := by decide +kernel
theorem dX5_register_105 : decode cX5_register 105 = .ok (.iconst 5, 1) := by decide +kernel
theorem dX5_register_106 : decode cX5_register 106 = .ok (.if_icmp .ne 12, 3) := by decide +kernel
theorem dX5_register_109 : decode cX5_register 109 = .ok (.aload_n 0, 1) := by decide +kernel
theorem dX5_register_110 : decode cX5_register 110 = .ok (.getfield 28, 3) := by decide +kernel
theorem dX5_register_113 : decode cX5_register 113 = .ok (.iload_n 1, 1) := by decide +kernel
theorem dX5_register_114 : decode cX5_register 114 = .ok (.iaload, 1) := by decide +kernel
theorem dX5_register_115 : decode cX5_register 115 = .ok (.goto 17, 3) := by decide +kernel
theorem dX5_register_118 : decode cX5_register 118 = .ok (.aload_n 0, 1) := by decide +kernel
theorem dX5_register_119 : decode cX5_register 119 = .ok (.getfield 31, 3) := by decide +kernel
theorem dX5_register_122 : decode cX5_register 122 = .ok (.iload_n 1, 1) := by decide +kernel
theorem dX5_register_123 : decode cX5_register 123 = .ok (.baload, 1) := by decide +kernel
theorem dX5_register_124 : decode cX5_register 124 = .ok (.ifCond .eq 7, 3) := by decide +kernel
theorem dX5_register_127 : decode cX5_register 127 = .ok (.iconst 1, 1) := by decide +kernel
theorem dX5_register_128 : decode cX5_register 128 = .ok (.goto 4, 3) := by decide +kernel
theorem dX5_register_131 : decode cX5_register 131 = .ok (.iconst 0, 1) := by decide +kernel
theorem dX5_register_132 : decode cX5_register 132 = .ok (.ireturn, 1) := by decide +kernel
theorem dX5_port_0 : decode cX5_port 0 = .ok (.aload_n 0, 1) := by decide +kernel
theorem dX5_port_1 : decode cX5_port 1 = .ok (.iload_n 1, 1) := by decide +kernel
theorem dX5_port_2 : decode cX5_port 2 = .ok (.invokestatic 66, 3) := by decide +kernel
theorem dX5_port_5 : decode cX5_port 5 = .ok (.ifCond .eq 17, 3) := by decide +kernel
theorem dX5_port_8 : decode cX5_port 8 = .ok (.iload_n 2, 1) := by decide +kernel
theorem dX5_port_9 : decode cX5_port 9 = .ok (.ifCond .lt 13, 3) := by decide +kernel
theorem dX5_port_12 : decode cX5_port 12 = .ok (.iload_n 2, 1) := by decide +kernel
theorem dX5_port_13 : decode cX5_port 13 = .ok (.bipush 8, 2) := by decide +kernel
theorem dX5_port_15 : decode cX5_port 15 = .ok (.if_icmp .ge 7, 3) := by decide +kernel
theorem dX5_port_18 : decode cX5_port 18 = .ok (.iconst 0, 1) := by decide +kernel
theorem dX5_port_19 : decode cX5_port 19 = .ok (.goto 4, 3) := by decide +kernel
theorem dX5_port_22 : decode cX5_port 22 = .ok (.iconst 1, 1) := by decide +kernel
theorem dX5_port_23 : decode cX5_port 23 = .ok (.putfield 51, 3) := by decide +kernel
theorem dX5_port_26 : decode cX5_port 26 = .ok (.aload_n 0, 1) := by decide +kernel
theorem dX5_port_27 : decode cX5_port 27 = .ok (.getfield 51, 3) := by decide +kernel
theorem dX5_port_30 : decode cX5_port 30 = .ok (.ifCond .le 7, 3) := by decide +kernel
theorem dX5_port_33 : decode cX5_port 33 = .ok (.iconst 0, 1) := by decide +kernel
theorem dX5_port_34 : decode cX5_port 34 = .ok (.goto 9, 3) := by decide +kernel
theorem dX5_port_37 : decode cX5_port 37 = .ok (.aload_n 0, 1) := by decide +kernel
theorem dX5_port_38 : decode cX5_port 38 = .ok (.iload_n 1, 1) := by decide +kernel
theorem dX5_port_39 : decode cX5_port 39 = .ok (.iload_n 2, 1) := by decide +kernel
theorem dX5_port_40 : decode cX5_port 40 = .ok (.invokevirtual 77, 3) := by decide +kernel
theorem dX5_port_43 : decode cX5_port 43 = .ok (.ireturn, 1) := by decide +kernel
theorem dX5_waits_0 : decode cX5_waits 0 = .ok (.aload_n 0, 1) := by decide +kernel
theorem dX5_waits_1 : decode cX5_waits 1 = .ok (.iload_n 1, 1) := by decide +kernel
theorem dX5_waits_2 : decode cX5_waits 2 = .ok (.invokestatic 66, 3) := by decide +kernel
theorem dX5_waits_5 : decode cX5_waits 5 = .ok (.ifCond .eq 17, 3) := by decide +kernel
theorem dX5_waits_8 : decode cX5_waits 8 = .ok (.iload_n 2, 1) := by decide +kernel
theorem dX5_waits_9 : decode cX5_waits 9 = .ok (.iconst 1, 1) := by decide +kernel
theorem dX5_waits_10 : decode cX5_waits 10 = .ok (.if_icmp .lt 12, 3) := by decide +kernel
theorem dX5_waits_13 : decode cX5_waits 13 = .ok (.iload_n 2, 1) := by decide +kernel
theorem dX5_waits_14 : decode cX5_waits 14 = .ok (.iconst 4, 1) := by decide +kernel
theorem dX5_waits_15 : decode cX5_waits 15 = .ok (.if_icmp .gt 7, 3) := by decide +kernel
theorem dX5_waits_18 : decode cX5_waits 18 = .ok (.iconst 0, 1) := by decide +kernel
theorem dX5_waits_19 : decode cX5_waits 19 = .ok (.goto 4, 3) := by decide +kernel
theorem dX5_waits_22 : decode cX5_waits 22 = .ok (.iconst 1, 1) := by decide +kernel
theorem dX5_waits_23 : decode cX5_waits 23 = .ok (.putfield 51, 3) := by decide +kernel
theorem dX5_waits_26 : decode cX5_waits 26 = .ok (.aload_n 0, 1) := by decide +kernel
theorem dX5_waits_27 : decode cX5_waits 27 = .ok (.getfield 51, 3) := by decide +kernel
theorem dX5_waits_30 : decode cX5_waits 30 = .ok (.ifCond .le 7, 3) := by decide +kernel
theorem dX5_waits_33 : decode cX5_waits 33 = .ok (.iconst 0, 1) := by decide +kernel
theorem dX5_waits_34 : decode cX5_waits 34 = .ok (.goto 15, 3) := by decide +kernel
theorem dX5_waits_37 : decode cX5_waits 37 = .ok (.aload_n 0, 1) := by decide +kernel
theorem dX5_waits_38 : decode cX5_waits 38 = .ok (.getfield 42, 3) := by decide +kernel
theorem dX5_waits_41 : decode cX5_waits 41 = .ok (.iconst 4, 1) := by decide +kernel
theorem dX5_waits_42 : decode cX5_waits 42 = .ok (.iload_n 1, 1) := by decide +kernel
theorem dX5_waits_43 : decode cX5_waits 43 = .ok (.imul, 1) := by decide +kernel
theorem dX5_waits_44 : decode cX5_waits 44 = .ok (.iload_n 2, 1) := by decide +kernel
theorem dX5_waits_45 : decode cX5_waits 45 = .ok (.iadd, 1) := by decide +kernel
theorem dX5_waits_46 : decode cX5_waits 46 = .ok (.iconst 1, 1) := by decide +kernel
theorem dX5_waits_47 : decode cX5_waits 47 = .ok (.isub, 1) := by decide +kernel
theorem dX5_waits_48 : decode cX5_waits 48 = .ok (.iaload, 1) := by decide +kernel
theorem dX5_waits_49 : decode cX5_waits 49 = .ok (.ireturn, 1) := by decide +kernel
theorem dX5_steps_0 : decode cX5_steps 0 = .ok (.aload_n 0, 1) := by decide +kernel
theorem dX5_steps_1 : decode cX5_steps 1 = .ok (.iload_n 1, 1) := by decide +kernel
theorem dX5_steps_2 : decode cX5_steps 2 = .ok (.invokestatic 66, 3) := by decide +kernel
theorem dX5_steps_5 : decode cX5_steps 5 = .ok (.ifCond .eq 7, 3) := by decide +kernel
theorem dX5_steps_8 : decode cX5_steps 8 = .ok (.iconst 0, 1) := by decide +kernel
theorem dX5_steps_9 : decode cX5_steps 9 = .ok (.goto 4, 3) := by decide +kernel
theorem dX5_steps_12 : decode cX5_steps 12 = .ok (.iconst 1, 1) := by decide +kernel
theorem dX5_steps_13 : decode cX5_steps 13 = .ok (.putfield 51, 3) := by decide +kernel
theorem dX5_steps_16 : decode cX5_steps 16 = .ok (.aload_n 0, 1) := by decide +kernel
theorem dX5_steps_17 : decode cX5_steps 17 = .ok (.getfield 51, 3) := by decide +kernel
theorem dX5_steps_20 : decode cX5_steps 20 = .ok (.ifCond .le 7, 3) := by decide +kernel
theorem dX5_steps_23 : decode cX5_steps 23 = .ok (.lconst 0, 1) := by decide +kernel
theorem dX5_steps_24 : decode cX5_steps 24 = .ok (.goto 9, 3) := by decide +kernel
theorem dX5_steps_27 : decode cX5_steps 27 = .ok (.aload_n 0, 1) := by decide +kernel
theorem dX5_steps_28 : decode cX5_steps 28 = .ok (.getfield 35, 3) := by decide +kernel
theorem dX5_steps_31 : decode cX5_steps 31 = .ok (.iload_n 1, 1) := by decide +kernel
theorem dX5_steps_32 : decode cX5_steps 32 = .ok (.laload, 1) := by decide +kernel
theorem dX5_steps_33 : decode cX5_steps 33 = .ok (.lreturn, 1) := by decide +kernel
theorem dJ7_fill_53178_0 : decode cJ7_fill_53178 0 = .ok (.iconst 0, 1) := by decide +kernel
theorem dJ7_fill_53178_1 : decode cJ7_fill_53178 1 = .ok (.istore_n 2, 1) := by decide +kernel
theorem dJ7_fill_53178_2 : decode cJ7_fill_53178 2 = .ok (.aload_n 0, 1) := by decide +kernel
theorem dJ7_fill_53178_3 : decode cJ7_fill_53178 3 = .ok (.arraylength, 1) := by decide +kernel
theorem dJ7_fill_53178_4 : decode cJ7_fill_53178 4 = .ok (.istore_n 3, 1) := by decide +kernel
theorem dJ7_fill_53178_5 : decode cJ7_fill_53178 5 = .ok (.iload_n 2, 1) := by decide +kernel
theorem dJ7_fill_53178_6 : decode cJ7_fill_53178 6 = .ok (.iload_n 3, 1) := by decide +kernel
theorem dJ7_fill_53178_7 : decode cJ7_fill_53178 7 = .ok (.if_icmp .ge 13, 3) := by decide +kernel
theorem dJ7_fill_53178_10 : decode cJ7_fill_53178 10 = .ok (.aload_n 0, 1) := by decide +kernel
theorem dJ7_fill_53178_11 : decode cJ7_fill_53178 11 = .ok (.iload_n 2, 1) := by decide +kernel
theorem dJ7_fill_53178_12 : decode cJ7_fill_53178 12 = .ok (.iload_n 1, 1) := by decide +kernel
theorem dJ7_fill_53178_13 : decode cJ7_fill_53178 13 = .ok (.iastore, 1) := by decide +kernel
theorem dJ7_fill_53178_14 : decode cJ7_fill_53178 14 = .ok (.iinc 2 1, 3) := by decide +kernel
theorem dJ7_fill_53178_17 : decode cJ7_fill_53178 17 = .ok (.goto (-12), 3) := by decide +kernel
theorem dJ7_fill_53178_20 : decode cJ7_fill_53178 20 = .ok (.return_, 1) := by decide +kernel
theorem dL_load_0 : decode cL_load 0 = .ok (.aload_n 0, 1) := by decide +kernel
theorem dL_load_1 : decode cL_load 1 = .ok (.iload_n 1, 1) := by decide +kernel
theorem dL_load_2 : decode cL_load 2 = .ok (.iload_n 2, 1) := by decide +kernel
theorem dL_load_3 : decode cL_load 3 = .ok (.iload_n 3, 1) := by decide +kernel
theorem dL_load_4 : decode cL_load 4 = .ok (.iload 4, 2) := by decide +kernel
theorem dL_load_6 : decode cL_load 6 = .ok (.iload 5, 2) := by decide +kernel
theorem dL_load_8 : decode cL_load 8 = .ok (.iload 6, 2) := by decide +kernel
theorem dL_load_10 : decode cL_load 10 = .ok (.iload 7, 2) := by decide +kernel
theorem dL_load_12 : decode cL_load 12 = .ok (.iload 8, 2) := by decide +kernel
theorem dL_load_14 : decode cL_load 14 = .ok (.invokevirtual 7, 3) := by decide +kernel
theorem dL_load_17 : decode cL_load 17 = .ok (.goto 11, 3) := by decide +kernel
theorem dL_load_20 : decode cL_load 20 = .ok (.astore 9, 2) := by decide +kernel
theorem dL_load_22 : decode cL_load 22 = .ok (.iconst 1, 1) := by decide +kernel
theorem dL_load_23 : decode cL_load 23 = .ok (.ireturn, 1) := by decide +kernel
theorem dL_load_24 : decode cL_load 24 = .ok (.astore 9, 2) := by decide +kernel
theorem dL_load_26 : decode cL_load 26 = .ok (.iconst 2, 1) := by decide +kernel
theorem dL_load_27 : decode cL_load 27 = .ok (.ireturn, 1) := by decide +kernel
theorem dL_load_28 : decode cL_load 28 = .ok (.iconst 0, 1) := by decide +kernel
theorem dL_load_29 : decode cL_load 29 = .ok (.ireturn, 1) := by decide +kernel
theorem dL_byteAt_0 : decode cL_byteAt 0 = .ok (.aload_n 3, 1) := by decide +kernel
theorem dL_byteAt_1 : decode cL_byteAt 1 = .ok (.iconst 0, 1) := by decide +kernel
theorem dL_byteAt_2 : decode cL_byteAt 2 = .ok (.aload_n 0, 1) := by decide +kernel
theorem dL_byteAt_3 : decode cL_byteAt 3 = .ok (.iload_n 1, 1) := by decide +kernel
theorem dL_byteAt_4 : decode cL_byteAt 4 = .ok (.iload_n 2, 1) := by decide +kernel
theorem dL_byteAt_5 : decode cL_byteAt 5 = .ok (.invokevirtual 17, 3) := by decide +kernel
theorem dL_byteAt_8 : decode cL_byteAt 8 = .ok (.i2l, 1) := by decide +kernel
theorem dL_byteAt_9 : decode cL_byteAt 9 = .ok (.lastore, 1) := by decide +kernel
theorem dL_byteAt_10 : decode cL_byteAt 10 = .ok (.goto 7, 3) := by decide +kernel
theorem dL_byteAt_13 : decode cL_byteAt 13 = .ok (.astore 4, 2) := by decide +kernel
theorem dL_byteAt_15 : decode cL_byteAt 15 = .ok (.iconst 1, 1) := by decide +kernel
theorem dL_byteAt_16 : decode cL_byteAt 16 = .ok (.ireturn, 1) := by decide +kernel
theorem dL_byteAt_17 : decode cL_byteAt 17 = .ok (.iconst 0, 1) := by decide +kernel
theorem dL_byteAt_18 : decode cL_byteAt 18 = .ok (.ireturn, 1) := by decide +kernel
theorem dL_reset_0 : decode cL_reset 0 = .ok (.aload_n 0, 1) := by decide +kernel
theorem dL_reset_1 : decode cL_reset 1 = .ok (.iload_n 1, 1) := by decide +kernel
theorem dL_reset_2 : decode cL_reset 2 = .ok (.invokevirtual 21, 3) := by decide +kernel
theorem dL_reset_5 : decode cL_reset 5 = .ok (.goto 6, 3) := by decide +kernel
theorem dL_reset_8 : decode cL_reset 8 = .ok (.astore_n 2, 1) := by decide +kernel
theorem dL_reset_9 : decode cL_reset 9 = .ok (.iconst 1, 1) := by decide +kernel
theorem dL_reset_10 : decode cL_reset 10 = .ok (.ireturn, 1) := by decide +kernel
theorem dL_reset_11 : decode cL_reset 11 = .ok (.iconst 0, 1) := by decide +kernel
theorem dL_reset_12 : decode cL_reset 12 = .ok (.ireturn, 1) := by decide +kernel
theorem dL_run_0 : decode cL_run 0 = .ok (.aload_n 3, 1) := by decide +kernel
theorem dL_run_1 : decode cL_run 1 = .ok (.iconst 0, 1) := by decide +kernel
theorem dL_run_2 : decode cL_run 2 = .ok (.aload_n 0, 1) := by decide +kernel
theorem dL_run_3 : decode cL_run 3 = .ok (.iload_n 1, 1) := by decide +kernel
theorem dL_run_4 : decode cL_run 4 = .ok (.iload_n 2, 1) := by decide +kernel
theorem dL_run_5 : decode cL_run 5 = .ok (.invokevirtual 25, 3) := by decide +kernel
theorem dL_run_8 : decode cL_run 8 = .ok (.i2l, 1) := by decide +kernel
theorem dL_run_9 : decode cL_run 9 = .ok (.lastore, 1) := by decide +kernel
theorem dL_run_10 : decode cL_run 10 = .ok (.goto 7, 3) := by decide +kernel
theorem dL_run_13 : decode cL_run 13 = .ok (.astore 4, 2) := by decide +kernel
theorem dL_run_15 : decode cL_run 15 = .ok (.iconst 1, 1) := by decide +kernel
theorem dL_run_16 : decode cL_run 16 = .ok (.ireturn, 1) := by decide +kernel
theorem dL_run_17 : decode cL_run 17 = .ok (.iconst 0, 1) := by decide +kernel
theorem dL_run_18 : decode cL_run 18 = .ok (.ireturn, 1) := by decide +kernel
theorem dL_register_0 : decode cL_register 0 = .ok (.aload_n 3, 1) := by decide +kernel
theorem dL_register_1 : decode cL_register 1 = .ok (.iconst 0, 1) := by decide +kernel
theorem dL_register_2 : decode cL_register 2 = .ok (.aload_n 0, 1) := by decide +kernel
theorem dL_register_3 : decode cL_register 3 = .ok (.iload_n 1, 1) := by decide +kernel
theorem dL_register_4 : decode cL_register 4 = .ok (.iload_n 2, 1) := by decide +kernel
theorem dL_register_5 : decode cL_register 5 = .ok (.invokevirtual 28, 3) := by decide +kernel
theorem dL_register_8 : decode cL_register 8 = .ok (.i2l, 1) := by decide +kernel
theorem dL_register_9 : decode cL_register 9 = .ok (.lastore, 1) := by decide +kernel
theorem dL_register_10 : decode cL_register 10 = .ok (.goto 7, 3) := by decide +kernel
theorem dL_register_13 : decode cL_register 13 = .ok (.astore 4, 2) := by decide +kernel
theorem dL_register_15 : decode cL_register 15 = .ok (.iconst 1, 1) := by decide +kernel
theorem dL_register_16 : decode cL_register 16 = .ok (.ireturn, 1) := by decide +kernel
theorem dL_register_17 : decode cL_register 17 = .ok (.iconst 0, 1) := by decide +kernel
theorem dL_register_18 : decode cL_register 18 = .ok (.ireturn, 1) := by decide +kernel
theorem dL_port_0 : decode cL_port 0 = .ok (.aload_n 3, 1) := by decide +kernel
theorem dL_port_1 : decode cL_port 1 = .ok (.iconst 0, 1) := by decide +kernel
theorem dL_port_2 : decode cL_port 2 = .ok (.aload_n 0, 1) := by decide +kernel
theorem dL_port_3 : decode cL_port 3 = .ok (.iload_n 1, 1) := by decide +kernel
theorem dL_port_4 : decode cL_port 4 = .ok (.iload_n 2, 1) := by decide +kernel
theorem dL_port_5 : decode cL_port 5 = .ok (.invokevirtual 31, 3) := by decide +kernel
theorem dL_port_8 : decode cL_port 8 = .ok (.i2l, 1) := by decide +kernel
theorem dL_port_9 : decode cL_port 9 = .ok (.lastore, 1) := by decide +kernel
theorem dL_port_10 : decode cL_port 10 = .ok (.goto 7, 3) := by decide +kernel
theorem dL_port_13 : decode cL_port 13 = .ok (.astore 4, 2) := by decide +kernel
theorem dL_port_15 : decode cL_port 15 = .ok (.iconst 1, 1) := by decide +kernel
theorem dL_port_16 : decode cL_port 16 = .ok (.ireturn, 1) := by decide +kernel
theorem dL_port_17 : decode cL_port 17 = .ok (.iconst 0, 1) := by decide +kernel
theorem dL_port_18 : decode cL_port 18 = .ok (.ireturn, 1) := by decide +kernel
theorem dL_waits_0 : decode cL_waits 0 = .ok (.aload_n 3, 1) := by decide +kernel
theorem dL_waits_1 : decode cL_waits 1 = .ok (.iconst 0, 1) := by decide +kernel
theorem dL_waits_2 : decode cL_waits 2 = .ok (.aload_n 0, 1) := by decide +kernel
theorem dL_waits_3 : decode cL_waits 3 = .ok (.iload_n 1, 1) := by decide +kernel
theorem dL_waits_4 : decode cL_waits 4 = .ok (.iload_n 2, 1) := by decide +kernel
theorem dL_waits_5 : decode cL_waits 5 = .ok (.invokevirtual 34, 3) := by decide +kernel
theorem dL_waits_8 : decode cL_waits 8 = .ok (.i2l, 1) := by decide +kernel
theorem dL_waits_9 : decode cL_waits 9 = .ok (.lastore, 1) := by decide +kernel
theorem dL_waits_10 : decode cL_waits 10 = .ok (.goto 7, 3) := by decide +kernel
theorem dL_waits_13 : decode cL_waits 13 = .ok (.astore 4, 2) := by decide +kernel
theorem dL_waits_15 : decode cL_waits 15 = .ok (.iconst 1, 1) := by decide +kernel
theorem dL_waits_16 : decode cL_waits 16 = .ok (.ireturn, 1) := by decide +kernel
theorem dL_waits_17 : decode cL_waits 17 = .ok (.iconst 0, 1) := by decide +kernel
theorem dL_waits_18 : decode cL_waits 18 = .ok (.ireturn, 1) := by decide +kernel
theorem dL_steps_0 : decode cL_steps 0 = .ok (.aload_n 2, 1) := by decide +kernel
theorem dL_steps_1 : decode cL_steps 1 = .ok (.iconst 0, 1) := by decide +kernel
theorem dL_steps_2 : decode cL_steps 2 = .ok (.aload_n 0, 1) := by decide +kernel
theorem dL_steps_3 : decode cL_steps 3 = .ok (.iload_n 1, 1) := by decide +kernel
theorem dL_steps_4 : decode cL_steps 4 = .ok (.invokevirtual 37, 3) := by decide +kernel
theorem dL_steps_7 : decode cL_steps 7 = .ok (.lastore, 1) := by decide +kernel
theorem dL_steps_8 : decode cL_steps 8 = .ok (.goto 6, 3) := by decide +kernel
theorem dL_steps_11 : decode cL_steps 11 = .ok (.astore_n 3, 1) := by decide +kernel
theorem dL_steps_12 : decode cL_steps 12 = .ok (.iconst 1, 1) := by decide +kernel
theorem dL_steps_13 : decode cL_steps 13 = .ok (.ireturn, 1) := by decide +kernel
theorem dL_steps_14 : decode cL_steps 14 = .ok (.iconst 0, 1) := by decide +kernel
theorem dL_steps_15 : decode cL_steps 15 = .ok (.ireturn, 1) := by decide +kernel
theorem dL_law_0 : decode cL_law 0 = .ok (.new 8, 3) := by decide +kernel
theorem dL_law_3 : decode cL_law 3 = .ok (.dup, 1) := by decide +kernel
theorem dL_law_4 : decode cL_law 4 = .ok (.invokespecial 41, 3) := by decide +kernel
theorem dL_law_7 : decode cL_law 7 = .ok (.astore_n 1, 1) := by decide +kernel
theorem dL_law_8 : decode cL_law 8 = .ok (.new 42, 3) := by decide +kernel
theorem dL_law_11 : decode cL_law 11 = .ok (.dup, 1) := by decide +kernel
theorem dL_law_12 : decode cL_law 12 = .ok (.invokespecial 44, 3) := by decide +kernel
theorem dL_law_15 : decode cL_law 15 = .ok (.astore_n 2, 1) := by decide +kernel
theorem dL_law_16 : decode cL_law 16 = .ok (.iconst 1, 1) := by decide +kernel
theorem dL_law_17 : decode cL_law 17 = .ok (.newarray .long, 2) := by decide +kernel
theorem dL_law_19 : decode cL_law 19 = .ok (.astore_n 3, 1) := by decide +kernel
theorem dL_law_20 : decode cL_law 20 = .ok (.iconst 0, 1) := by decide +kernel
theorem dL_law_21 : decode cL_law 21 = .ok (.istore 4, 2) := by decide +kernel
theorem dL_law_23 : decode cL_law 23 = .ok (.iload 4, 2) := by decide +kernel
theorem dL_law_25 : decode cL_law 25 = .ok (.aload_n 0, 1) := by decide +kernel
theorem dL_law_26 : decode cL_law 26 = .ok (.arraylength, 1) := by decide +kernel
theorem dL_law_27 : decode cL_law 27 = .ok (.bipush 9, 2) := by decide +kernel
theorem dL_law_29 : decode cL_law 29 = .ok (.isub, 1) := by decide +kernel
theorem dL_law_30 : decode cL_law 30 = .ok (.if_icmp .gt 474, 3) := by decide +kernel
theorem dL_law_33 : decode cL_law 33 = .ok (.aload_n 0, 1) := by decide +kernel
theorem dL_law_34 : decode cL_law 34 = .ok (.iload 4, 2) := by decide +kernel
theorem dL_law_36 : decode cL_law 36 = .ok (.iaload, 1) := by decide +kernel
theorem dL_law_37 : decode cL_law 37 = .ok (.bipush 15, 2) := by decide +kernel
theorem dL_law_39 : decode cL_law 39 = .ok (.iand, 1) := by decide +kernel
theorem dL_law_40 : decode cL_law 40 = .ok (.tableswitch 458 0 8 #[52, 167, 207, 232, 272, 312, 352, 392, 447], 52) := by decide +kernel
theorem dL_law_92 : decode cL_law 92 = .ok (.aload_n 1, 1) := by decide +kernel
theorem dL_law_93 : decode cL_law 93 = .ok (.aload_n 0, 1) := by decide +kernel
theorem dL_law_94 : decode cL_law 94 = .ok (.iload 4, 2) := by decide +kernel
theorem dL_law_96 : decode cL_law 96 = .ok (.iconst 1, 1) := by decide +kernel
theorem dL_law_97 : decode cL_law 97 = .ok (.iadd, 1) := by decide +kernel
theorem dL_law_98 : decode cL_law 98 = .ok (.iaload, 1) := by decide +kernel
theorem dL_law_99 : decode cL_law 99 = .ok (.aload_n 0, 1) := by decide +kernel
theorem dL_law_100 : decode cL_law 100 = .ok (.iload 4, 2) := by decide +kernel
theorem dL_law_102 : decode cL_law 102 = .ok (.iconst 2, 1) := by decide +kernel
theorem dL_law_103 : decode cL_law 103 = .ok (.iadd, 1) := by decide +kernel
theorem dL_law_104 : decode cL_law 104 = .ok (.iaload, 1) := by decide +kernel
theorem dL_law_105 : decode cL_law 105 = .ok (.aload_n 0, 1) := by decide +kernel
theorem dL_law_106 : decode cL_law 106 = .ok (.iload 4, 2) := by decide +kernel
theorem dL_law_108 : decode cL_law 108 = .ok (.iconst 3, 1) := by decide +kernel
theorem dL_law_109 : decode cL_law 109 = .ok (.iadd, 1) := by decide +kernel
theorem dL_law_110 : decode cL_law 110 = .ok (.iaload, 1) := by decide +kernel
theorem dL_law_111 : decode cL_law 111 = .ok (.aload_n 0, 1) := by decide +kernel
theorem dL_law_112 : decode cL_law 112 = .ok (.iload 4, 2) := by decide +kernel
theorem dL_law_114 : decode cL_law 114 = .ok (.iconst 4, 1) := by decide +kernel
theorem dL_law_115 : decode cL_law 115 = .ok (.iadd, 1) := by decide +kernel
theorem dL_law_116 : decode cL_law 116 = .ok (.iaload, 1) := by decide +kernel
theorem dL_law_117 : decode cL_law 117 = .ok (.aload_n 0, 1) := by decide +kernel
theorem dL_law_118 : decode cL_law 118 = .ok (.iload 4, 2) := by decide +kernel
theorem dL_law_120 : decode cL_law 120 = .ok (.iconst 5, 1) := by decide +kernel
theorem dL_law_121 : decode cL_law 121 = .ok (.iadd, 1) := by decide +kernel
theorem dL_law_122 : decode cL_law 122 = .ok (.iaload, 1) := by decide +kernel
theorem dL_law_123 : decode cL_law 123 = .ok (.aload_n 0, 1) := by decide +kernel
theorem dL_law_124 : decode cL_law 124 = .ok (.iload 4, 2) := by decide +kernel
theorem dL_law_126 : decode cL_law 126 = .ok (.bipush 6, 2) := by decide +kernel
theorem dL_law_128 : decode cL_law 128 = .ok (.iadd, 1) := by decide +kernel
theorem dL_law_129 : decode cL_law 129 = .ok (.iaload, 1) := by decide +kernel
theorem dL_law_130 : decode cL_law 130 = .ok (.aload_n 0, 1) := by decide +kernel
theorem dL_law_131 : decode cL_law 131 = .ok (.iload 4, 2) := by decide +kernel
theorem dL_law_133 : decode cL_law 133 = .ok (.bipush 7, 2) := by decide +kernel
theorem dL_law_135 : decode cL_law 135 = .ok (.iadd, 1) := by decide +kernel
theorem dL_law_136 : decode cL_law 136 = .ok (.iaload, 1) := by decide +kernel
theorem dL_law_137 : decode cL_law 137 = .ok (.aload_n 0, 1) := by decide +kernel
theorem dL_law_138 : decode cL_law 138 = .ok (.iload 4, 2) := by decide +kernel
theorem dL_law_140 : decode cL_law 140 = .ok (.bipush 8, 2) := by decide +kernel
theorem dL_law_142 : decode cL_law 142 = .ok (.iadd, 1) := by decide +kernel
theorem dL_law_143 : decode cL_law 143 = .ok (.iaload, 1) := by decide +kernel
theorem dL_law_144 : decode cL_law 144 = .ok (.invokestatic 45, 3) := by decide +kernel
theorem dL_law_147 : decode cL_law 147 = .ok (.istore 5, 2) := by decide +kernel
theorem dL_law_149 : decode cL_law 149 = .ok (.aload_n 2, 1) := by decide +kernel
theorem dL_law_150 : decode cL_law 150 = .ok (.aload_n 0, 1) := by decide +kernel
theorem dL_law_151 : decode cL_law 151 = .ok (.iload 4, 2) := by decide +kernel
theorem dL_law_153 : decode cL_law 153 = .ok (.iconst 1, 1) := by decide +kernel
theorem dL_law_154 : decode cL_law 154 = .ok (.iadd, 1) := by decide +kernel
theorem dL_law_155 : decode cL_law 155 = .ok (.iaload, 1) := by decide +kernel
theorem dL_law_156 : decode cL_law 156 = .ok (.aload_n 0, 1) := by decide +kernel
theorem dL_law_157 : decode cL_law 157 = .ok (.iload 4, 2) := by decide +kernel
theorem dL_law_159 : decode cL_law 159 = .ok (.iconst 2, 1) := by decide +kernel
theorem dL_law_160 : decode cL_law 160 = .ok (.iadd, 1) := by decide +kernel
theorem dL_law_161 : decode cL_law 161 = .ok (.iaload, 1) := by decide +kernel
theorem dL_law_162 : decode cL_law 162 = .ok (.aload_n 0, 1) := by decide +kernel
theorem dL_law_163 : decode cL_law 163 = .ok (.iload 4, 2) := by decide +kernel
theorem dL_law_165 : decode cL_law 165 = .ok (.iconst 3, 1) := by decide +kernel
theorem dL_law_166 : decode cL_law 166 = .ok (.iadd, 1) := by decide +kernel
theorem dL_law_167 : decode cL_law 167 = .ok (.iaload, 1) := by decide +kernel
theorem dL_law_168 : decode cL_law 168 = .ok (.aload_n 0, 1) := by decide +kernel
theorem dL_law_169 : decode cL_law 169 = .ok (.iload 4, 2) := by decide +kernel
theorem dL_law_171 : decode cL_law 171 = .ok (.iconst 4, 1) := by decide +kernel
theorem dL_law_172 : decode cL_law 172 = .ok (.iadd, 1) := by decide +kernel
theorem dL_law_173 : decode cL_law 173 = .ok (.iaload, 1) := by decide +kernel
theorem dL_law_174 : decode cL_law 174 = .ok (.aload_n 0, 1) := by decide +kernel
theorem dL_law_175 : decode cL_law 175 = .ok (.iload 4, 2) := by decide +kernel
theorem dL_law_177 : decode cL_law 177 = .ok (.iconst 5, 1) := by decide +kernel
theorem dL_law_178 : decode cL_law 178 = .ok (.iadd, 1) := by decide +kernel
theorem dL_law_179 : decode cL_law 179 = .ok (.iaload, 1) := by decide +kernel
theorem dL_law_180 : decode cL_law 180 = .ok (.aload_n 0, 1) := by decide +kernel
theorem dL_law_181 : decode cL_law 181 = .ok (.iload 4, 2) := by decide +kernel
theorem dL_law_183 : decode cL_law 183 = .ok (.bipush 6, 2) := by decide +kernel
theorem dL_law_185 : decode cL_law 185 = .ok (.iadd, 1) := by decide +kernel
theorem dL_law_186 : decode cL_law 186 = .ok (.iaload, 1) := by decide +kernel
theorem dL_law_187 : decode cL_law 187 = .ok (.aload_n 0, 1) := by decide +kernel
theorem dL_law_188 : decode cL_law 188 = .ok (.iload 4, 2) := by decide +kernel
theorem dL_law_190 : decode cL_law 190 = .ok (.bipush 7, 2) := by decide +kernel
theorem dL_law_192 : decode cL_law 192 = .ok (.iadd, 1) := by decide +kernel
theorem dL_law_193 : decode cL_law 193 = .ok (.iaload, 1) := by decide +kernel
theorem dL_law_194 : decode cL_law 194 = .ok (.aload_n 0, 1) := by decide +kernel
theorem dL_law_195 : decode cL_law 195 = .ok (.iload 4, 2) := by decide +kernel
theorem dL_law_197 : decode cL_law 197 = .ok (.bipush 8, 2) := by decide +kernel
theorem dL_law_199 : decode cL_law 199 = .ok (.iadd, 1) := by decide +kernel
theorem dL_law_200 : decode cL_law 200 = .ok (.iaload, 1) := by decide +kernel
theorem dL_law_201 : decode cL_law 201 = .ok (.invokevirtual 50, 3) := by decide +kernel
theorem dL_law_204 : decode cL_law 204 = .ok (.goto 294, 3) := by decide +kernel
theorem dL_law_207 : decode cL_law 207 = .ok (.aload_n 1, 1) := by decide +kernel
theorem dL_law_208 : decode cL_law 208 = .ok (.aload_n 0, 1) := by decide +kernel
theorem dL_law_209 : decode cL_law 209 = .ok (.iload 4, 2) := by decide +kernel
theorem dL_law_211 : decode cL_law 211 = .ok (.iconst 1, 1) := by decide +kernel
theorem dL_law_212 : decode cL_law 212 = .ok (.iadd, 1) := by decide +kernel
theorem dL_law_213 : decode cL_law 213 = .ok (.iaload, 1) := by decide +kernel
theorem dL_law_214 : decode cL_law 214 = .ok (.aload_n 0, 1) := by decide +kernel
theorem dL_law_215 : decode cL_law 215 = .ok (.iload 4, 2) := by decide +kernel
theorem dL_law_217 : decode cL_law 217 = .ok (.iconst 2, 1) := by decide +kernel
theorem dL_law_218 : decode cL_law 218 = .ok (.iadd, 1) := by decide +kernel
theorem dL_law_219 : decode cL_law 219 = .ok (.iaload, 1) := by decide +kernel
theorem dL_law_220 : decode cL_law 220 = .ok (.aload_n 3, 1) := by decide +kernel
theorem dL_law_221 : decode cL_law 221 = .ok (.invokestatic 51, 3) := by decide +kernel
theorem dL_law_224 : decode cL_law 224 = .ok (.istore 5, 2) := by decide +kernel
theorem dL_law_226 : decode cL_law 226 = .ok (.aload_n 2, 1) := by decide +kernel
theorem dL_law_227 : decode cL_law 227 = .ok (.aload_n 0, 1) := by decide +kernel
theorem dL_law_228 : decode cL_law 228 = .ok (.iload 4, 2) := by decide +kernel
theorem dL_law_230 : decode cL_law 230 = .ok (.iconst 1, 1) := by decide +kernel
theorem dL_law_231 : decode cL_law 231 = .ok (.iadd, 1) := by decide +kernel
theorem dL_law_232 : decode cL_law 232 = .ok (.iaload, 1) := by decide +kernel
theorem dL_law_233 : decode cL_law 233 = .ok (.aload_n 0, 1) := by decide +kernel
theorem dL_law_234 : decode cL_law 234 = .ok (.iload 4, 2) := by decide +kernel
theorem dL_law_236 : decode cL_law 236 = .ok (.iconst 2, 1) := by decide +kernel
theorem dL_law_237 : decode cL_law 237 = .ok (.iadd, 1) := by decide +kernel
theorem dL_law_238 : decode cL_law 238 = .ok (.iaload, 1) := by decide +kernel
theorem dL_law_239 : decode cL_law 239 = .ok (.invokevirtual 54, 3) := by decide +kernel
theorem dL_law_242 : decode cL_law 242 = .ok (.istore 6, 2) := by decide +kernel
theorem dL_law_244 : decode cL_law 244 = .ok (.goto 254, 3) := by decide +kernel
theorem dL_law_247 : decode cL_law 247 = .ok (.aload_n 1, 1) := by decide +kernel
theorem dL_law_248 : decode cL_law 248 = .ok (.aload_n 0, 1) := by decide +kernel
theorem dL_law_249 : decode cL_law 249 = .ok (.iload 4, 2) := by decide +kernel
theorem dL_law_251 : decode cL_law 251 = .ok (.iconst 1, 1) := by decide +kernel
theorem dL_law_252 : decode cL_law 252 = .ok (.iadd, 1) := by decide +kernel
theorem dL_law_253 : decode cL_law 253 = .ok (.iaload, 1) := by decide +kernel
theorem dL_law_254 : decode cL_law 254 = .ok (.invokestatic 55, 3) := by decide +kernel
theorem dL_law_257 : decode cL_law 257 = .ok (.istore 5, 2) := by decide +kernel
theorem dL_law_259 : decode cL_law 259 = .ok (.aload_n 2, 1) := by decide +kernel
theorem dL_law_260 : decode cL_law 260 = .ok (.aload_n 0, 1) := by decide +kernel
theorem dL_law_261 : decode cL_law 261 = .ok (.iload 4, 2) := by decide +kernel
theorem dL_law_263 : decode cL_law 263 = .ok (.iconst 1, 1) := by decide +kernel
theorem dL_law_264 : decode cL_law 264 = .ok (.iadd, 1) := by decide +kernel
theorem dL_law_265 : decode cL_law 265 = .ok (.iaload, 1) := by decide +kernel
theorem dL_law_266 : decode cL_law 266 = .ok (.invokevirtual 58, 3) := by decide +kernel
theorem dL_law_269 : decode cL_law 269 = .ok (.goto 229, 3) := by decide +kernel
theorem dL_law_272 : decode cL_law 272 = .ok (.aload_n 1, 1) := by decide +kernel
theorem dL_law_273 : decode cL_law 273 = .ok (.aload_n 0, 1) := by decide +kernel
theorem dL_law_274 : decode cL_law 274 = .ok (.iload 4, 2) := by decide +kernel
theorem dL_law_276 : decode cL_law 276 = .ok (.iconst 1, 1) := by decide +kernel
theorem dL_law_277 : decode cL_law 277 = .ok (.iadd, 1) := by decide +kernel
theorem dL_law_278 : decode cL_law 278 = .ok (.iaload, 1) := by decide +kernel
theorem dL_law_279 : decode cL_law 279 = .ok (.aload_n 0, 1) := by decide +kernel
theorem dL_law_280 : decode cL_law 280 = .ok (.iload 4, 2) := by decide +kernel
theorem dL_law_282 : decode cL_law 282 = .ok (.iconst 2, 1) := by decide +kernel
theorem dL_law_283 : decode cL_law 283 = .ok (.iadd, 1) := by decide +kernel
theorem dL_law_284 : decode cL_law 284 = .ok (.iaload, 1) := by decide +kernel
theorem dL_law_285 : decode cL_law 285 = .ok (.aload_n 3, 1) := by decide +kernel
theorem dL_law_286 : decode cL_law 286 = .ok (.invokestatic 59, 3) := by decide +kernel
theorem dL_law_289 : decode cL_law 289 = .ok (.istore 5, 2) := by decide +kernel
theorem dL_law_291 : decode cL_law 291 = .ok (.aload_n 2, 1) := by decide +kernel
theorem dL_law_292 : decode cL_law 292 = .ok (.aload_n 0, 1) := by decide +kernel
theorem dL_law_293 : decode cL_law 293 = .ok (.iload 4, 2) := by decide +kernel
theorem dL_law_295 : decode cL_law 295 = .ok (.iconst 1, 1) := by decide +kernel
theorem dL_law_296 : decode cL_law 296 = .ok (.iadd, 1) := by decide +kernel
theorem dL_law_297 : decode cL_law 297 = .ok (.iaload, 1) := by decide +kernel
theorem dL_law_298 : decode cL_law 298 = .ok (.aload_n 0, 1) := by decide +kernel
theorem dL_law_299 : decode cL_law 299 = .ok (.iload 4, 2) := by decide +kernel
theorem dL_law_301 : decode cL_law 301 = .ok (.iconst 2, 1) := by decide +kernel
theorem dL_law_302 : decode cL_law 302 = .ok (.iadd, 1) := by decide +kernel
theorem dL_law_303 : decode cL_law 303 = .ok (.iaload, 1) := by decide +kernel
theorem dL_law_304 : decode cL_law 304 = .ok (.invokevirtual 61, 3) := by decide +kernel
theorem dL_law_307 : decode cL_law 307 = .ok (.istore 6, 2) := by decide +kernel
theorem dL_law_309 : decode cL_law 309 = .ok (.goto 189, 3) := by decide +kernel
theorem dL_law_312 : decode cL_law 312 = .ok (.aload_n 1, 1) := by decide +kernel
theorem dL_law_313 : decode cL_law 313 = .ok (.aload_n 0, 1) := by decide +kernel
theorem dL_law_314 : decode cL_law 314 = .ok (.iload 4, 2) := by decide +kernel
theorem dL_law_316 : decode cL_law 316 = .ok (.iconst 1, 1) := by decide +kernel
theorem dL_law_317 : decode cL_law 317 = .ok (.iadd, 1) := by decide +kernel
theorem dL_law_318 : decode cL_law 318 = .ok (.iaload, 1) := by decide +kernel
theorem dL_law_319 : decode cL_law 319 = .ok (.aload_n 0, 1) := by decide +kernel
theorem dL_law_320 : decode cL_law 320 = .ok (.iload 4, 2) := by decide +kernel
theorem dL_law_322 : decode cL_law 322 = .ok (.iconst 2, 1) := by decide +kernel
theorem dL_law_323 : decode cL_law 323 = .ok (.iadd, 1) := by decide +kernel
theorem dL_law_324 : decode cL_law 324 = .ok (.iaload, 1) := by decide +kernel
theorem dL_law_325 : decode cL_law 325 = .ok (.aload_n 3, 1) := by decide +kernel
theorem dL_law_326 : decode cL_law 326 = .ok (.invokestatic 62, 3) := by decide +kernel
theorem dL_law_329 : decode cL_law 329 = .ok (.istore 5, 2) := by decide +kernel
theorem dL_law_331 : decode cL_law 331 = .ok (.aload_n 2, 1) := by decide +kernel
theorem dL_law_332 : decode cL_law 332 = .ok (.aload_n 0, 1) := by decide +kernel
theorem dL_law_333 : decode cL_law 333 = .ok (.iload 4, 2) := by decide +kernel
theorem dL_law_335 : decode cL_law 335 = .ok (.iconst 1, 1) := by decide +kernel
theorem dL_law_336 : decode cL_law 336 = .ok (.iadd, 1) := by decide +kernel
theorem dL_law_337 : decode cL_law 337 = .ok (.iaload, 1) := by decide +kernel
theorem dL_law_338 : decode cL_law 338 = .ok (.aload_n 0, 1) := by decide +kernel
theorem dL_law_339 : decode cL_law 339 = .ok (.iload 4, 2) := by decide +kernel
theorem dL_law_341 : decode cL_law 341 = .ok (.iconst 2, 1) := by decide +kernel
theorem dL_law_342 : decode cL_law 342 = .ok (.iadd, 1) := by decide +kernel
theorem dL_law_343 : decode cL_law 343 = .ok (.iaload, 1) := by decide +kernel
theorem dL_law_344 : decode cL_law 344 = .ok (.invokevirtual 64, 3) := by decide +kernel
theorem dL_law_347 : decode cL_law 347 = .ok (.istore 6, 2) := by decide +kernel
theorem dL_law_349 : decode cL_law 349 = .ok (.goto 149, 3) := by decide +kernel
theorem dL_law_352 : decode cL_law 352 = .ok (.aload_n 1, 1) := by decide +kernel
theorem dL_law_353 : decode cL_law 353 = .ok (.aload_n 0, 1) := by decide +kernel
theorem dL_law_354 : decode cL_law 354 = .ok (.iload 4, 2) := by decide +kernel
theorem dL_law_356 : decode cL_law 356 = .ok (.iconst 1, 1) := by decide +kernel
theorem dL_law_357 : decode cL_law 357 = .ok (.iadd, 1) := by decide +kernel
theorem dL_law_358 : decode cL_law 358 = .ok (.iaload, 1) := by decide +kernel
theorem dL_law_359 : decode cL_law 359 = .ok (.aload_n 0, 1) := by decide +kernel
theorem dL_law_360 : decode cL_law 360 = .ok (.iload 4, 2) := by decide +kernel
theorem dL_law_362 : decode cL_law 362 = .ok (.iconst 2, 1) := by decide +kernel
theorem dL_law_363 : decode cL_law 363 = .ok (.iadd, 1) := by decide +kernel
theorem dL_law_364 : decode cL_law 364 = .ok (.iaload, 1) := by decide +kernel
theorem dL_law_365 : decode cL_law 365 = .ok (.aload_n 3, 1) := by decide +kernel
theorem dL_law_366 : decode cL_law 366 = .ok (.invokestatic 65, 3) := by decide +kernel
theorem dL_law_369 : decode cL_law 369 = .ok (.istore 5, 2) := by decide +kernel
theorem dL_law_371 : decode cL_law 371 = .ok (.aload_n 2, 1) := by decide +kernel
theorem dL_law_372 : decode cL_law 372 = .ok (.aload_n 0, 1) := by decide +kernel
theorem dL_law_373 : decode cL_law 373 = .ok (.iload 4, 2) := by decide +kernel
theorem dL_law_375 : decode cL_law 375 = .ok (.iconst 1, 1) := by decide +kernel
theorem dL_law_376 : decode cL_law 376 = .ok (.iadd, 1) := by decide +kernel
theorem dL_law_377 : decode cL_law 377 = .ok (.iaload, 1) := by decide +kernel
theorem dL_law_378 : decode cL_law 378 = .ok (.aload_n 0, 1) := by decide +kernel
theorem dL_law_379 : decode cL_law 379 = .ok (.iload 4, 2) := by decide +kernel
theorem dL_law_381 : decode cL_law 381 = .ok (.iconst 2, 1) := by decide +kernel
theorem dL_law_382 : decode cL_law 382 = .ok (.iadd, 1) := by decide +kernel
theorem dL_law_383 : decode cL_law 383 = .ok (.iaload, 1) := by decide +kernel
theorem dL_law_384 : decode cL_law 384 = .ok (.invokevirtual 67, 3) := by decide +kernel
theorem dL_law_387 : decode cL_law 387 = .ok (.istore 6, 2) := by decide +kernel
theorem dL_law_389 : decode cL_law 389 = .ok (.goto 109, 3) := by decide +kernel
theorem dL_law_392 : decode cL_law 392 = .ok (.aload_n 1, 1) := by decide +kernel
theorem dL_law_393 : decode cL_law 393 = .ok (.aload_n 0, 1) := by decide +kernel
theorem dL_law_394 : decode cL_law 394 = .ok (.iload 4, 2) := by decide +kernel
theorem dL_law_396 : decode cL_law 396 = .ok (.iconst 1, 1) := by decide +kernel
theorem dL_law_397 : decode cL_law 397 = .ok (.iadd, 1) := by decide +kernel
theorem dL_law_398 : decode cL_law 398 = .ok (.iaload, 1) := by decide +kernel
theorem dL_law_399 : decode cL_law 399 = .ok (.aload_n 0, 1) := by decide +kernel
theorem dL_law_400 : decode cL_law 400 = .ok (.iload 4, 2) := by decide +kernel
theorem dL_law_402 : decode cL_law 402 = .ok (.iconst 2, 1) := by decide +kernel
theorem dL_law_403 : decode cL_law 403 = .ok (.iadd, 1) := by decide +kernel
theorem dL_law_404 : decode cL_law 404 = .ok (.iaload, 1) := by decide +kernel
theorem dL_law_405 : decode cL_law 405 = .ok (.aload_n 3, 1) := by decide +kernel
theorem dL_law_406 : decode cL_law 406 = .ok (.invokestatic 68, 3) := by decide +kernel
theorem dL_law_409 : decode cL_law 409 = .ok (.istore 5, 2) := by decide +kernel
theorem dL_law_411 : decode cL_law 411 = .ok (.aload_n 2, 1) := by decide +kernel
theorem dL_law_412 : decode cL_law 412 = .ok (.aload_n 0, 1) := by decide +kernel
theorem dL_law_413 : decode cL_law 413 = .ok (.iload 4, 2) := by decide +kernel
theorem dL_law_415 : decode cL_law 415 = .ok (.iconst 1, 1) := by decide +kernel
theorem dL_law_416 : decode cL_law 416 = .ok (.iadd, 1) := by decide +kernel
theorem dL_law_417 : decode cL_law 417 = .ok (.iaload, 1) := by decide +kernel
theorem dL_law_418 : decode cL_law 418 = .ok (.aload_n 0, 1) := by decide +kernel
theorem dL_law_419 : decode cL_law 419 = .ok (.iload 4, 2) := by decide +kernel
theorem dL_law_421 : decode cL_law 421 = .ok (.iconst 2, 1) := by decide +kernel
theorem dL_law_422 : decode cL_law 422 = .ok (.iadd, 1) := by decide +kernel
theorem dL_law_423 : decode cL_law 423 = .ok (.iaload, 1) := by decide +kernel
theorem dL_law_424 : decode cL_law 424 = .ok (.invokevirtual 70, 3) := by decide +kernel
theorem dL_law_427 : decode cL_law 427 = .ok (.istore 6, 2) := by decide +kernel
theorem dL_law_429 : decode cL_law 429 = .ok (.goto 69, 3) := by decide +kernel
theorem dL_law_432 : decode cL_law 432 = .ok (.aload_n 1, 1) := by decide +kernel
theorem dL_law_433 : decode cL_law 433 = .ok (.aload_n 0, 1) := by decide +kernel
theorem dL_law_434 : decode cL_law 434 = .ok (.iload 4, 2) := by decide +kernel
theorem dL_law_436 : decode cL_law 436 = .ok (.iconst 1, 1) := by decide +kernel
theorem dL_law_437 : decode cL_law 437 = .ok (.iadd, 1) := by decide +kernel
theorem dL_law_438 : decode cL_law 438 = .ok (.iaload, 1) := by decide +kernel
theorem dL_law_439 : decode cL_law 439 = .ok (.aload_n 3, 1) := by decide +kernel
theorem dL_law_440 : decode cL_law 440 = .ok (.invokestatic 71, 3) := by decide +kernel
theorem dL_law_443 : decode cL_law 443 = .ok (.istore 5, 2) := by decide +kernel
theorem dL_law_445 : decode cL_law 445 = .ok (.aload_n 2, 1) := by decide +kernel
theorem dL_law_446 : decode cL_law 446 = .ok (.aload_n 0, 1) := by decide +kernel
theorem dL_law_447 : decode cL_law 447 = .ok (.iload 4, 2) := by decide +kernel
theorem dL_law_449 : decode cL_law 449 = .ok (.iconst 1, 1) := by decide +kernel
theorem dL_law_450 : decode cL_law 450 = .ok (.iadd, 1) := by decide +kernel
theorem dL_law_451 : decode cL_law 451 = .ok (.iaload, 1) := by decide +kernel
theorem dL_law_452 : decode cL_law 452 = .ok (.invokevirtual 74, 3) := by decide +kernel
theorem dL_law_455 : decode cL_law 455 = .ok (.lstore 6, 2) := by decide +kernel
theorem dL_law_457 : decode cL_law 457 = .ok (.aload_n 2, 1) := by decide +kernel
theorem dL_law_458 : decode cL_law 458 = .ok (.invokevirtual 75, 3) := by decide +kernel
theorem dL_law_461 : decode cL_law 461 = .ok (.iload 5, 2) := by decide +kernel
theorem dL_law_463 : decode cL_law 463 = .ok (.if_icmp .eq 5, 3) := by decide +kernel
theorem dL_law_466 : decode cL_law 466 = .ok (.iconst 0, 1) := by decide +kernel
theorem dL_law_467 : decode cL_law 467 = .ok (.ireturn, 1) := by decide +kernel
theorem dL_law_468 : decode cL_law 468 = .ok (.iload 5, 2) := by decide +kernel
theorem dL_law_470 : decode cL_law 470 = .ok (.ifCond .ne 14, 3) := by decide +kernel
theorem dL_law_473 : decode cL_law 473 = .ok (.aload_n 3, 1) := by decide +kernel
theorem dL_law_474 : decode cL_law 474 = .ok (.iconst 0, 1) := by decide +kernel
theorem dL_law_475 : decode cL_law 475 = .ok (.laload, 1) := by decide +kernel
theorem dL_law_476 : decode cL_law 476 = .ok (.lload 6, 2) := by decide +kernel
theorem dL_law_478 : decode cL_law 478 = .ok (.lcmp, 1) := by decide +kernel
theorem dL_law_479 : decode cL_law 479 = .ok (.ifCond .eq 5, 3) := by decide +kernel
theorem dL_law_482 : decode cL_law 482 = .ok (.iconst 0, 1) := by decide +kernel
theorem dL_law_483 : decode cL_law 483 = .ok (.ireturn, 1) := by decide +kernel
theorem dL_law_484 : decode cL_law 484 = .ok (.goto 14, 3) := by decide +kernel
theorem dL_law_487 : decode cL_law 487 = .ok (.aload_n 1, 1) := by decide +kernel
theorem dL_law_488 : decode cL_law 488 = .ok (.invokevirtual 79, 3) := by decide +kernel
theorem dL_law_491 : decode cL_law 491 = .ok (.aload_n 2, 1) := by decide +kernel
theorem dL_law_492 : decode cL_law 492 = .ok (.invokevirtual 82, 3) := by decide +kernel
theorem dL_law_495 : decode cL_law 495 = .ok (.goto 3, 3) := by decide +kernel
theorem dL_law_498 : decode cL_law 498 = .ok (.iinc 4 9, 3) := by decide +kernel
theorem dL_law_501 : decode cL_law 501 = .ok (.goto (-478), 3) := by decide +kernel
theorem dL_law_504 : decode cL_law 504 = .ok (.iconst 1, 1) := by decide +kernel
theorem dL_law_505 : decode cL_law 505 = .ok (.ireturn, 1) := by decide +kernel
