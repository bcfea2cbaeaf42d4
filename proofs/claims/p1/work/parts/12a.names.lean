/-! the words and decode rows that the rows of the next part take -/
theorem b_79 : Cond.initialized RX6 ∈ TB := tb_of 79 (by decide +kernel)
theorem b_81 : Cond.initialized RX3 ∈ TB := tb_of 81 (by decide +kernel)
theorem b_82 : Cond.initialized RX4 ∈ TB := tb_of 82 (by decide +kernel)
theorem b_83 : Cond.initialized RX8 ∈ TB := tb_of 83 (by decide +kernel)
theorem b_84 : Cond.initialized RX7 ∈ TB := tb_of 84 (by decide +kernel)
theorem b_85 : Cond.initialized RX2 ∈ TB := tb_of 85 (by decide +kernel)
theorem b_86 : Cond.initialized RX1 ∈ TB := tb_of 86 (by decide +kernel)
theorem b_87 : Cond.initialized RX5 ∈ TB := tb_of 87 (by decide +kernel)
theorem b_109 : Cond.methodLink RX9 5 (⟨"java/lang/Object", "<init>", "()V"⟩ : MethodName) ∈ TB := tb_of 109 (by decide +kernel)
theorem b_112 : Cond.classLink RX9 11 RX6 ∈ TB := tb_of 112 (by decide +kernel)
theorem b_113 : Cond.instantiable RX6 2 ∈ TB := tb_of 113 (by decide +kernel)
theorem b_115 : Cond.instanceMethod yX6_init ∈ TB := tb_of 115 (by decide +kernel)
theorem b_116 : Cond.code yX6_init cX6_init 1 none ∈ TB := tb_of 116 (by decide +kernel)
theorem b_117 : Cond.methodLink RX6 3 (⟨"java/lang/Object", "<init>", "()V"⟩ : MethodName) ∈ TB := tb_of 117 (by decide +kernel)
theorem b_118 : Cond.fieldLink RX6 9 "RoutePlanner$Tape" "bytes" "[B" ∈ TB := tb_of 118 (by decide +kernel)
theorem b_120 : Cond.fieldLink RX6 15 "RoutePlanner$Tape" "size" "I" ∈ TB := tb_of 120 (by decide +kernel)
theorem b_128 : Cond.arrayClass .byte ∈ TB := tb_of 128 (by decide +kernel)
theorem b_129 : Cond.classLink RX9 18 RX0 ∈ TB := tb_of 129 (by decide +kernel)
theorem b_130 : Cond.instantiable RX0 10 ∈ TB := tb_of 130 (by decide +kernel)
theorem b_132 : Cond.instanceMethod yX0_init ∈ TB := tb_of 132 (by decide +kernel)
theorem b_133 : Cond.code yX0_init cX0_init 1 none ∈ TB := tb_of 133 (by decide +kernel)
theorem b_134 : Cond.methodLink RX0 3 (⟨"java/lang/Object", "<init>", "()V"⟩ : MethodName) ∈ TB := tb_of 134 (by decide +kernel)
theorem b_135 : Cond.classLink RX0 31 RX3 ∈ TB := tb_of 135 (by decide +kernel)
theorem b_136 : Cond.instantiable RX3 6 ∈ TB := tb_of 136 (by decide +kernel)
theorem b_138 : Cond.instanceMethod yX3_init ∈ TB := tb_of 138 (by decide +kernel)
theorem b_139 : Cond.code yX3_init cX3_init 1 none ∈ TB := tb_of 139 (by decide +kernel)
theorem b_140 : Cond.methodLink RX3 3 (⟨"java/lang/Object", "<init>", "()V"⟩ : MethodName) ∈ TB := tb_of 140 (by decide +kernel)
theorem b_141 : Cond.fieldLink RX3 9 "RoutePlanner$Net" "lengths" "[J" ∈ TB := tb_of 141 (by decide +kernel)
theorem b_146 : Cond.fieldLink RX3 15 "RoutePlanner$Net" "counts" "[I" ∈ TB := tb_of 146 (by decide +kernel)
theorem b_151 : Cond.fieldLink RX3 19 "RoutePlanner$Net" "overs" "[I" ∈ TB := tb_of 151 (by decide +kernel)
theorem b_154 : Cond.fieldLink RX3 22 "RoutePlanner$Net" "arcNumbers" "[I" ∈ TB := tb_of 154 (by decide +kernel)
theorem b_157 : Cond.fieldLink RX3 25 "RoutePlanner$Net" "left" "[Z" ∈ TB := tb_of 157 (by decide +kernel)
theorem b_160 : Cond.fieldLink RX3 29 "RoutePlanner$Net" "nodes" "I" ∈ TB := tb_of 160 (by decide +kernel)
theorem b_178 : Cond.arrayClass .int ∈ TB := tb_of 178 (by decide +kernel)
theorem b_179 : Cond.arrayClass .long ∈ TB := tb_of 179 (by decide +kernel)
theorem b_180 : Cond.arrayClass .boolean ∈ TB := tb_of 180 (by decide +kernel)
theorem b_181 : Cond.fieldLink RX0 9 "RoutePlanner$Graph" "xs" "[I" ∈ TB := tb_of 181 (by decide +kernel)
theorem b_183 : Cond.fieldLink RX0 15 "RoutePlanner$Graph" "ys" "[I" ∈ TB := tb_of 183 (by decide +kernel)
theorem b_185 : Cond.fieldLink RX0 18 "RoutePlanner$Graph" "potentials" "[J" ∈ TB := tb_of 185 (by decide +kernel)
theorem b_187 : Cond.fieldLink RX0 22 "RoutePlanner$Graph" "tails" "[I" ∈ TB := tb_of 187 (by decide +kernel)
theorem b_189 : Cond.fieldLink RX0 25 "RoutePlanner$Graph" "heads" "[I" ∈ TB := tb_of 189 (by decide +kernel)
theorem b_191 : Cond.fieldLink RX0 28 "RoutePlanner$Graph" "weights" "[J" ∈ TB := tb_of 191 (by decide +kernel)
theorem b_193 : Cond.fieldLink RX0 34 "RoutePlanner$Graph" "net" "LRoutePlanner$Net;" ∈ TB := tb_of 193 (by decide +kernel)
theorem b_201 : Cond.fieldLink RX0 45 "RoutePlanner$Graph" "sum" "J" ∈ TB := tb_of 201 (by decide +kernel)
theorem b_225 : Cond.classLink RX9 25 RX4 ∈ TB := tb_of 225 (by decide +kernel)
theorem b_226 : Cond.instantiable RX4 9 ∈ TB := tb_of 226 (by decide +kernel)
theorem b_227 : Cond.methodLink RX9 27 yX4_init ∈ TB := tb_of 227 (by decide +kernel)
theorem b_228 : Cond.instanceMethod yX4_init ∈ TB := tb_of 228 (by decide +kernel)
theorem b_229 : Cond.code yX4_init cX4_init 3 none ∈ TB := tb_of 229 (by decide +kernel)
theorem b_230 : Cond.methodLink RX4 5 (⟨"java/lang/Object", "<init>", "()V"⟩ : MethodName) ∈ TB := tb_of 230 (by decide +kernel)
theorem b_231 : Cond.fieldLink RX4 11 "RoutePlanner$Reader" "tape" "LRoutePlanner$Tape;" ∈ TB := tb_of 231 (by decide +kernel)
theorem b_232 : Cond.fieldLink RX4 17 "RoutePlanner$Reader" "graph" "LRoutePlanner$Graph;" ∈ TB := tb_of 232 (by decide +kernel)
theorem b_236 : Cond.fieldLink RX4 21 "RoutePlanner$Reader" "faultPlace" "I" ∈ TB := tb_of 236 (by decide +kernel)
theorem b_263 : Cond.classLink RX9 34 RX8 ∈ TB := tb_of 263 (by decide +kernel)
theorem b_264 : Cond.instantiable RX8 5 ∈ TB := tb_of 264 (by decide +kernel)
theorem b_266 : Cond.instanceMethod yX8_init ∈ TB := tb_of 266 (by decide +kernel)
theorem b_267 : Cond.code yX8_init cX8_init 1 none ∈ TB := tb_of 267 (by decide +kernel)
theorem b_268 : Cond.methodLink RX8 3 (⟨"java/lang/Object", "<init>", "()V"⟩ : MethodName) ∈ TB := tb_of 268 (by decide +kernel)
theorem b_269 : Cond.fieldLink RX8 9 "RoutePlanner$Ways" "lengths" "[J" ∈ TB := tb_of 269 (by decide +kernel)
theorem b_273 : Cond.fieldLink RX8 15 "RoutePlanner$Ways" "counts" "[I" ∈ TB := tb_of 273 (by decide +kernel)
theorem b_277 : Cond.fieldLink RX8 19 "RoutePlanner$Ways" "row" "[I" ∈ TB := tb_of 277 (by decide +kernel)
theorem b_279 : Cond.fieldLink RX8 22 "RoutePlanner$Ways" "size" "I" ∈ TB := tb_of 279 (by decide +kernel)
theorem b_281 : Cond.fieldLink RX8 26 "RoutePlanner$Ways" "done" "[Z" ∈ TB := tb_of 281 (by decide +kernel)
theorem b_293 : Cond.classLink RX9 44 RX7 ∈ TB := tb_of 293 (by decide +kernel)
theorem b_294 : Cond.instantiable RX7 5 ∈ TB := tb_of 294 (by decide +kernel)
theorem b_296 : Cond.instanceMethod yX7_init ∈ TB := tb_of 296 (by decide +kernel)
theorem b_297 : Cond.code yX7_init cX7_init 1 none ∈ TB := tb_of 297 (by decide +kernel)
theorem b_298 : Cond.methodLink RX7 3 (⟨"java/lang/Object", "<init>", "()V"⟩ : MethodName) ∈ TB := tb_of 298 (by decide +kernel)
theorem b_299 : Cond.fieldLink RX7 9 "RoutePlanner$Trail" "nodes" "[I" ∈ TB := tb_of 299 (by decide +kernel)
theorem b_301 : Cond.fieldLink RX7 15 "RoutePlanner$Trail" "lengths" "[J" ∈ TB := tb_of 301 (by decide +kernel)
theorem b_303 : Cond.fieldLink RX7 19 "RoutePlanner$Trail" "counts" "[I" ∈ TB := tb_of 303 (by decide +kernel)
theorem b_305 : Cond.fieldLink RX7 22 "RoutePlanner$Trail" "size" "I" ∈ TB := tb_of 305 (by decide +kernel)
theorem b_307 : Cond.fieldLink RX7 26 "RoutePlanner$Trail" "seen" "[I" ∈ TB := tb_of 307 (by decide +kernel)
theorem b_319 : Cond.classLink RX9 51 RX2 ∈ TB := tb_of 319 (by decide +kernel)
theorem b_320 : Cond.instantiable RX2 5 ∈ TB := tb_of 320 (by decide +kernel)
theorem b_322 : Cond.instanceMethod yX2_init ∈ TB := tb_of 322 (by decide +kernel)
theorem b_323 : Cond.code yX2_init cX2_init 1 none ∈ TB := tb_of 323 (by decide +kernel)
theorem b_324 : Cond.methodLink RX2 3 (⟨"java/lang/Object", "<init>", "()V"⟩ : MethodName) ∈ TB := tb_of 324 (by decide +kernel)
theorem b_325 : Cond.classLink RX2 23 RX8 ∈ TB := tb_of 325 (by decide +kernel)
theorem b_327 : Cond.fieldLink RX2 9 "RoutePlanner$Landmarks" "nodes" "[I" ∈ TB := tb_of 327 (by decide +kernel)
theorem b_329 : Cond.fieldLink RX2 15 "RoutePlanner$Landmarks" "potentials" "[J" ∈ TB := tb_of 329 (by decide +kernel)
theorem b_331 : Cond.fieldLink RX2 19 "RoutePlanner$Landmarks" "size" "I" ∈ TB := tb_of 331 (by decide +kernel)
theorem b_333 : Cond.fieldLink RX2 26 "RoutePlanner$Landmarks" "from" "LRoutePlanner$Ways;" ∈ TB := tb_of 333 (by decide +kernel)
theorem b_334 : Cond.fieldLink RX2 30 "RoutePlanner$Landmarks" "into" "LRoutePlanner$Ways;" ∈ TB := tb_of 334 (by decide +kernel)
theorem b_346 : Cond.classLink RX9 58 RX1 ∈ TB := tb_of 346 (by decide +kernel)
theorem b_347 : Cond.instantiable RX1 14 ∈ TB := tb_of 347 (by decide +kernel)
theorem b_349 : Cond.instanceMethod yX1_init ∈ TB := tb_of 349 (by decide +kernel)
theorem b_350 : Cond.code yX1_init cX1_init 1 none ∈ TB := tb_of 350 (by decide +kernel)
theorem b_351 : Cond.methodLink RX1 3 (⟨"java/lang/Object", "<init>", "()V"⟩ : MethodName) ∈ TB := tb_of 351 (by decide +kernel)
theorem b_352 : Cond.classLink RX1 9 RX3 ∈ TB := tb_of 352 (by decide +kernel)
theorem b_354 : Cond.classLink RX1 45 RX8 ∈ TB := tb_of 354 (by decide +kernel)
theorem b_356 : Cond.fieldLink RX1 12 "RoutePlanner$Hierarchy" "net" "LRoutePlanner$Net;" ∈ TB := tb_of 356 (by decide +kernel)
theorem b_359 : Cond.fieldLink RX1 18 "RoutePlanner$Hierarchy" "ranks" "[I" ∈ TB := tb_of 359 (by decide +kernel)
theorem b_361 : Cond.fieldLink RX1 22 "RoutePlanner$Hierarchy" "row" "[I" ∈ TB := tb_of 361 (by decide +kernel)
theorem b_364 : Cond.fieldLink RX1 25 "RoutePlanner$Hierarchy" "made" "Z" ∈ TB := tb_of 364 (by decide +kernel)
theorem b_366 : Cond.fieldLink RX1 29 "RoutePlanner$Hierarchy" "placed" "I" ∈ TB := tb_of 366 (by decide +kernel)
theorem b_369 : Cond.fieldLink RX1 33 "RoutePlanner$Hierarchy" "shortcuts" "I" ∈ TB := tb_of 369 (by decide +kernel)
theorem b_371 : Cond.fieldLink RX1 36 "RoutePlanner$Hierarchy" "perShortcut" "I" ∈ TB := tb_of 371 (by decide +kernel)
theorem b_373 : Cond.fieldLink RX1 39 "RoutePlanner$Hierarchy" "perEdge" "I" ∈ TB := tb_of 373 (by decide +kernel)
theorem b_375 : Cond.fieldLink RX1 42 "RoutePlanner$Hierarchy" "perContracted" "I" ∈ TB := tb_of 375 (by decide +kernel)
theorem b_377 : Cond.fieldLink RX1 48 "RoutePlanner$Hierarchy" "witnesses" "LRoutePlanner$Ways;" ∈ TB := tb_of 377 (by decide +kernel)
theorem b_378 : Cond.fieldLink RX1 52 "RoutePlanner$Hierarchy" "contractedBeside" "[I" ∈ TB := tb_of 378 (by decide +kernel)
theorem b_379 : Cond.fieldLink RX1 55 "RoutePlanner$Hierarchy" "wantedFrom" "[I" ∈ TB := tb_of 379 (by decide +kernel)
theorem b_380 : Cond.fieldLink RX1 58 "RoutePlanner$Hierarchy" "wantedTo" "[I" ∈ TB := tb_of 380 (by decide +kernel)
theorem b_381 : Cond.fieldLink RX1 61 "RoutePlanner$Hierarchy" "wanted" "I" ∈ TB := tb_of 381 (by decide +kernel)
theorem b_411 : Cond.classLink RX9 65 RX5 ∈ TB := tb_of 411 (by decide +kernel)
theorem b_412 : Cond.instantiable RX5 17 ∈ TB := tb_of 412 (by decide +kernel)
theorem b_414 : Cond.instanceMethod yX5_init ∈ TB := tb_of 414 (by decide +kernel)
theorem b_415 : Cond.code yX5_init cX5_init 1 none ∈ TB := tb_of 415 (by decide +kernel)
theorem b_416 : Cond.methodLink RX5 3 (⟨"java/lang/Object", "<init>", "()V"⟩ : MethodName) ∈ TB := tb_of 416 (by decide +kernel)
theorem b_417 : Cond.fieldLink RX5 9 "RoutePlanner$Route" "relaxedFrom" "[I" ∈ TB := tb_of 417 (by decide +kernel)
theorem b_419 : Cond.fieldLink RX5 15 "RoutePlanner$Route" "relaxedTo" "[I" ∈ TB := tb_of 419 (by decide +kernel)
theorem b_421 : Cond.fieldLink RX5 18 "RoutePlanner$Route" "walk" "[I" ∈ TB := tb_of 421 (by decide +kernel)
theorem b_423 : Cond.fieldLink RX5 21 "RoutePlanner$Route" "asked" "Z" ∈ TB := tb_of 423 (by decide +kernel)
theorem b_425 : Cond.fieldLink RX5 25 "RoutePlanner$Route" "relaxedSize" "I" ∈ TB := tb_of 425 (by decide +kernel)
theorem b_427 : Cond.fieldLink RX5 29 "RoutePlanner$Route" "relaxedUp" "I" ∈ TB := tb_of 427 (by decide +kernel)
theorem b_429 : Cond.fieldLink RX5 32 "RoutePlanner$Route" "upSize" "I" ∈ TB := tb_of 429 (by decide +kernel)
theorem b_431 : Cond.fieldLink RX5 35 "RoutePlanner$Route" "downSize" "I" ∈ TB := tb_of 431 (by decide +kernel)
theorem b_433 : Cond.fieldLink RX5 38 "RoutePlanner$Route" "walkSize" "I" ∈ TB := tb_of 433 (by decide +kernel)
theorem b_435 : Cond.fieldLink RX5 41 "RoutePlanner$Route" "shortcuts" "I" ∈ TB := tb_of 435 (by decide +kernel)
theorem b_437 : Cond.fieldLink RX5 44 "RoutePlanner$Route" "top" "I" ∈ TB := tb_of 437 (by decide +kernel)
theorem b_439 : Cond.fieldLink RX5 47 "RoutePlanner$Route" "bestLength" "J" ∈ TB := tb_of 439 (by decide +kernel)
theorem b_441 : Cond.fieldLink RX5 51 "RoutePlanner$Route" "upLengths" "[J" ∈ TB := tb_of 441 (by decide +kernel)
theorem b_442 : Cond.fieldLink RX5 55 "RoutePlanner$Route" "upCounts" "[I" ∈ TB := tb_of 442 (by decide +kernel)
theorem b_443 : Cond.fieldLink RX5 58 "RoutePlanner$Route" "downLengths" "[J" ∈ TB := tb_of 443 (by decide +kernel)
theorem b_444 : Cond.fieldLink RX5 61 "RoutePlanner$Route" "downCounts" "[I" ∈ TB := tb_of 444 (by decide +kernel)
theorem b_445 : Cond.fieldLink RX5 64 "RoutePlanner$Route" "chain" "[I" ∈ TB := tb_of 445 (by decide +kernel)
theorem b_481 : Cond.fieldLink RX9 14 "RoutePlanner" "tape" "LRoutePlanner$Tape;" ∈ TB := tb_of 481 (by decide +kernel)
theorem b_483 : Cond.fieldLink RX9 30 "RoutePlanner" "reader" "LRoutePlanner$Reader;" ∈ TB := tb_of 483 (by decide +kernel)
theorem b_484 : Cond.fieldLink RX9 37 "RoutePlanner" "ahead" "LRoutePlanner$Ways;" ∈ TB := tb_of 484 (by decide +kernel)
theorem b_485 : Cond.fieldLink RX9 41 "RoutePlanner" "back" "LRoutePlanner$Ways;" ∈ TB := tb_of 485 (by decide +kernel)
theorem b_486 : Cond.fieldLink RX9 47 "RoutePlanner" "trail" "LRoutePlanner$Trail;" ∈ TB := tb_of 486 (by decide +kernel)
theorem b_487 : Cond.fieldLink RX9 54 "RoutePlanner" "landmarks" "LRoutePlanner$Landmarks;" ∈ TB := tb_of 487 (by decide +kernel)
theorem b_488 : Cond.fieldLink RX9 61 "RoutePlanner" "hierarchy" "LRoutePlanner$Hierarchy;" ∈ TB := tb_of 488 (by decide +kernel)
theorem b_489 : Cond.fieldLink RX9 68 "RoutePlanner" "route" "LRoutePlanner$Route;" ∈ TB := tb_of 489 (by decide +kernel)
theorem b_490 : Cond.fieldLink RX9 72 "RoutePlanner" "scratch" "[J" ∈ TB := tb_of 490 (by decide +kernel)
theorem b_491 : Cond.fieldLink RX9 76 "RoutePlanner" "toldRow" "[I" ∈ TB := tb_of 491 (by decide +kernel)
theorem b_492 : Cond.fieldLink RX9 80 "RoutePlanner" "toldSize" "I" ∈ TB := tb_of 492 (by decide +kernel)
theorem b_493 : Cond.fieldLink RX9 84 "RoutePlanner" "prepares" "I" ∈ TB := tb_of 493 (by decide +kernel)
theorem hd_X3_init : k_hd yX3_init 0 := by decide +kernel
theorem hd_X8_init : k_hd yX8_init 0 := by decide +kernel
theorem hd_X6_init : k_hd yX6_init 0 := by decide +kernel
theorem hd_X0_init : k_hd yX0_init 0 := by decide +kernel
theorem hd_X4_init : k_hd yX4_init 2 := by decide +kernel
theorem hd_X7_init : k_hd yX7_init 0 := by decide +kernel
theorem hd_X2_init : k_hd yX2_init 0 := by decide +kernel
theorem hd_X1_init : k_hd yX1_init 0 := by decide +kernel
theorem hd_X5_init : k_hd yX5_init 0 := by decide +kernel
theorem dX6_init_0 : decode cX6_init 0 = .ok (.aload_n 0, 1) := by decide +kernel
theorem dX6_init_1 : decode cX6_init 1 = .ok (.invokespecial 3, 3) := by decide +kernel
theorem dX6_init_4 : decode cX6_init 4 = .ok (.aload_n 0, 1) := by decide +kernel
theorem dX6_init_5 : decode cX6_init 5 = .ok (.sipush 2000, 3) := by decide +kernel
theorem dX6_init_8 : decode cX6_init 8 = .ok (.newarray .byte, 2) := by decide +kernel
theorem dX6_init_10 : decode cX6_init 10 = .ok (.putfield 9, 3) := by decide +kernel
theorem dX6_init_13 : decode cX6_init 13 = .ok (.aload_n 0, 1) := by decide +kernel
theorem dX6_init_14 : decode cX6_init 14 = .ok (.iconst 0, 1) := by decide +kernel
theorem dX6_init_15 : decode cX6_init 15 = .ok (.putfield 15, 3) := by decide +kernel
theorem dX6_init_18 : decode cX6_init 18 = .ok (.return_, 1) := by decide +kernel
theorem dX3_init_0 : decode cX3_init 0 = .ok (.aload_n 0, 1) := by decide +kernel
theorem dX3_init_1 : decode cX3_init 1 = .ok (.invokespecial 3, 3) := by decide +kernel
theorem dX3_init_4 : decode cX3_init 4 = .ok (.aload_n 0, 1) := by decide +kernel
theorem dX3_init_5 : decode cX3_init 5 = .ok (.sipush 576, 3) := by decide +kernel
theorem dX3_init_8 : decode cX3_init 8 = .ok (.newarray .long, 2) := by decide +kernel
theorem dX3_init_10 : decode cX3_init 10 = .ok (.putfield 9, 3) := by decide +kernel
theorem dX3_init_13 : decode cX3_init 13 = .ok (.aload_n 0, 1) := by decide +kernel
theorem dX3_init_14 : decode cX3_init 14 = .ok (.sipush 576, 3) := by decide +kernel
theorem dX3_init_17 : decode cX3_init 17 = .ok (.newarray .int, 2) := by decide +kernel
theorem dX3_init_19 : decode cX3_init 19 = .ok (.putfield 15, 3) := by decide +kernel
theorem dX3_init_22 : decode cX3_init 22 = .ok (.aload_n 0, 1) := by decide +kernel
theorem dX3_init_23 : decode cX3_init 23 = .ok (.sipush 576, 3) := by decide +kernel
theorem dX3_init_26 : decode cX3_init 26 = .ok (.newarray .int, 2) := by decide +kernel
theorem dX3_init_28 : decode cX3_init 28 = .ok (.putfield 19, 3) := by decide +kernel
theorem dX3_init_31 : decode cX3_init 31 = .ok (.aload_n 0, 1) := by decide +kernel
theorem dX3_init_32 : decode cX3_init 32 = .ok (.sipush 576, 3) := by decide +kernel
theorem dX3_init_35 : decode cX3_init 35 = .ok (.newarray .int, 2) := by decide +kernel
theorem dX3_init_37 : decode cX3_init 37 = .ok (.putfield 22, 3) := by decide +kernel
theorem dX3_init_40 : decode cX3_init 40 = .ok (.aload_n 0, 1) := by decide +kernel
theorem dX3_init_41 : decode cX3_init 41 = .ok (.bipush 24, 2) := by decide +kernel
theorem dX3_init_43 : decode cX3_init 43 = .ok (.newarray .boolean, 2) := by decide +kernel
theorem dX3_init_45 : decode cX3_init 45 = .ok (.putfield 25, 3) := by decide +kernel
theorem dX3_init_48 : decode cX3_init 48 = .ok (.aload_n 0, 1) := by decide +kernel
theorem dX3_init_49 : decode cX3_init 49 = .ok (.iconst 0, 1) := by decide +kernel
theorem dX3_init_50 : decode cX3_init 50 = .ok (.putfield 29, 3) := by decide +kernel
theorem dX3_init_53 : decode cX3_init 53 = .ok (.return_, 1) := by decide +kernel
theorem dX8_init_0 : decode cX8_init 0 = .ok (.aload_n 0, 1) := by decide +kernel
theorem dX8_init_1 : decode cX8_init 1 = .ok (.invokespecial 3, 3) := by decide +kernel
theorem dX8_init_4 : decode cX8_init 4 = .ok (.aload_n 0, 1) := by decide +kernel
theorem dX8_init_5 : decode cX8_init 5 = .ok (.bipush 24, 2) := by decide +kernel
theorem dX8_init_7 : decode cX8_init 7 = .ok (.newarray .long, 2) := by decide +kernel
theorem dX8_init_9 : decode cX8_init 9 = .ok (.putfield 9, 3) := by decide +kernel
theorem dX8_init_12 : decode cX8_init 12 = .ok (.aload_n 0, 1) := by decide +kernel
theorem dX8_init_13 : decode cX8_init 13 = .ok (.bipush 24, 2) := by decide +kernel
theorem dX8_init_15 : decode cX8_init 15 = .ok (.newarray .int, 2) := by decide +kernel
theorem dX8_init_17 : decode cX8_init 17 = .ok (.putfield 15, 3) := by decide +kernel
theorem dX8_init_20 : decode cX8_init 20 = .ok (.aload_n 0, 1) := by decide +kernel
theorem dX8_init_21 : decode cX8_init 21 = .ok (.bipush 24, 2) := by decide +kernel
theorem dX8_init_23 : decode cX8_init 23 = .ok (.newarray .int, 2) := by decide +kernel
theorem dX8_init_25 : decode cX8_init 25 = .ok (.putfield 19, 3) := by decide +kernel
theorem dX8_init_28 : decode cX8_init 28 = .ok (.aload_n 0, 1) := by decide +kernel
theorem dX8_init_29 : decode cX8_init 29 = .ok (.iconst 0, 1) := by decide +kernel
theorem dX8_init_30 : decode cX8_init 30 = .ok (.putfield 22, 3) := by decide +kernel
theorem dX8_init_33 : decode cX8_init 33 = .ok (.aload_n 0, 1) := by decide +kernel
theorem dX8_init_34 : decode cX8_init 34 = .ok (.bipush 24, 2) := by decide +kernel
theorem dX8_init_36 : decode cX8_init 36 = .ok (.newarray .boolean, 2) := by decide +kernel
theorem dX8_init_38 : decode cX8_init 38 = .ok (.putfield 26, 3) := by decide +kernel
theorem dX8_init_41 : decode cX8_init 41 = .ok (.return_, 1) := by decide +kernel
theorem dX7_init_0 : decode cX7_init 0 = .ok (.aload_n 0, 1) := by decide +kernel
theorem dX7_init_1 : decode cX7_init 1 = .ok (.invokespecial 3, 3) := by decide +kernel
theorem dX7_init_4 : decode cX7_init 4 = .ok (.aload_n 0, 1) := by decide +kernel
theorem dX7_init_5 : decode cX7_init 5 = .ok (.bipush 48, 2) := by decide +kernel
theorem dX7_init_7 : decode cX7_init 7 = .ok (.newarray .int, 2) := by decide +kernel
theorem dX7_init_9 : decode cX7_init 9 = .ok (.putfield 9, 3) := by decide +kernel
theorem dX7_init_12 : decode cX7_init 12 = .ok (.aload_n 0, 1) := by decide +kernel
theorem dX7_init_13 : decode cX7_init 13 = .ok (.bipush 48, 2) := by decide +kernel
theorem dX7_init_15 : decode cX7_init 15 = .ok (.newarray .long, 2) := by decide +kernel
theorem dX7_init_17 : decode cX7_init 17 = .ok (.putfield 15, 3) := by decide +kernel
theorem dX7_init_20 : decode cX7_init 20 = .ok (.aload_n 0, 1) := by decide +kernel
theorem dX7_init_21 : decode cX7_init 21 = .ok (.bipush 48, 2) := by decide +kernel
theorem dX7_init_23 : decode cX7_init 23 = .ok (.newarray .int, 2) := by decide +kernel
theorem dX7_init_25 : decode cX7_init 25 = .ok (.putfield 19, 3) := by decide +kernel
theorem dX7_init_28 : decode cX7_init 28 = .ok (.aload_n 0, 1) := by decide +kernel
theorem dX7_init_29 : decode cX7_init 29 = .ok (.iconst 0, 1) := by decide +kernel
theorem dX7_init_30 : decode cX7_init 30 = .ok (.putfield 22, 3) := by decide +kernel
theorem dX7_init_33 : decode cX7_init 33 = .ok (.aload_n 0, 1) := by decide +kernel
theorem dX7_init_34 : decode cX7_init 34 = .ok (.bipush 24, 2) := by decide +kernel
theorem dX7_init_36 : decode cX7_init 36 = .ok (.newarray .int, 2) := by decide +kernel
theorem dX7_init_38 : decode cX7_init 38 = .ok (.putfield 26, 3) := by decide +kernel
theorem dX7_init_41 : decode cX7_init 41 = .ok (.return_, 1) := by decide +kernel
theorem dX4_init_0 : decode cX4_init 0 = .ok (.aload_n 0, 1) := by decide +kernel
theorem dX4_init_1 : decode cX4_init 1 = .ok (.invokespecial 5, 3) := by decide +kernel
theorem dX4_init_4 : decode cX4_init 4 = .ok (.aload_n 0, 1) := by decide +kernel
theorem dX4_init_5 : decode cX4_init 5 = .ok (.aload_n 1, 1) := by decide +kernel
theorem dX4_init_6 : decode cX4_init 6 = .ok (.putfield 11, 3) := by decide +kernel
theorem dX4_init_9 : decode cX4_init 9 = .ok (.aload_n 0, 1) := by decide +kernel
theorem dX4_init_10 : decode cX4_init 10 = .ok (.aload_n 2, 1) := by decide +kernel
theorem dX4_init_11 : decode cX4_init 11 = .ok (.putfield 17, 3) := by decide +kernel
theorem dX4_init_14 : decode cX4_init 14 = .ok (.aload_n 0, 1) := by decide +kernel
theorem dX4_init_15 : decode cX4_init 15 = .ok (.iconst (-1), 1) := by decide +kernel
theorem dX4_init_16 : decode cX4_init 16 = .ok (.putfield 21, 3) := by decide +kernel
theorem dX4_init_19 : decode cX4_init 19 = .ok (.return_, 1) := by decide +kernel
theorem dX0_init_0 : decode cX0_init 0 = .ok (.aload_n 0, 1) := by decide +kernel
theorem dX0_init_1 : decode cX0_init 1 = .ok (.invokespecial 3, 3) := by decide +kernel
theorem dX0_init_4 : decode cX0_init 4 = .ok (.aload_n 0, 1) := by decide +kernel
theorem dX0_init_5 : decode cX0_init 5 = .ok (.bipush 24, 2) := by decide +kernel
theorem dX0_init_7 : decode cX0_init 7 = .ok (.newarray .int, 2) := by decide +kernel
theorem dX0_init_9 : decode cX0_init 9 = .ok (.putfield 9, 3) := by decide +kernel
theorem dX0_init_12 : decode cX0_init 12 = .ok (.aload_n 0, 1) := by decide +kernel
theorem dX0_init_13 : decode cX0_init 13 = .ok (.bipush 24, 2) := by decide +kernel
theorem dX0_init_15 : decode cX0_init 15 = .ok (.newarray .int, 2) := by decide +kernel
theorem dX0_init_17 : decode cX0_init 17 = .ok (.putfield 15, 3) := by decide +kernel
theorem dX0_init_20 : decode cX0_init 20 = .ok (.aload_n 0, 1) := by decide +kernel
theorem dX0_init_21 : decode cX0_init 21 = .ok (.bipush 24, 2) := by decide +kernel
theorem dX0_init_23 : decode cX0_init 23 = .ok (.newarray .long, 2) := by decide +kernel
theorem dX0_init_25 : decode cX0_init 25 = .ok (.putfield 18, 3) := by decide +kernel
theorem dX0_init_28 : decode cX0_init 28 = .ok (.aload_n 0, 1) := by decide +kernel
theorem dX0_init_29 : decode cX0_init 29 = .ok (.sipush 300, 3) := by decide +kernel
theorem dX0_init_32 : decode cX0_init 32 = .ok (.newarray .int, 2) := by decide +kernel
theorem dX0_init_34 : decode cX0_init 34 = .ok (.putfield 22, 3) := by decide +kernel
theorem dX0_init_37 : decode cX0_init 37 = .ok (.aload_n 0, 1) := by decide +kernel
theorem dX0_init_38 : decode cX0_init 38 = .ok (.sipush 300, 3) := by decide +kernel
theorem dX0_init_41 : decode cX0_init 41 = .ok (.newarray .int, 2) := by decide +kernel
theorem dX0_init_43 : decode cX0_init 43 = .ok (.putfield 25, 3) := by decide +kernel
theorem dX0_init_46 : decode cX0_init 46 = .ok (.aload_n 0, 1) := by decide +kernel
theorem dX0_init_47 : decode cX0_init 47 = .ok (.sipush 300, 3) := by decide +kernel
theorem dX0_init_50 : decode cX0_init 50 = .ok (.newarray .long, 2) := by decide +kernel
theorem dX0_init_52 : decode cX0_init 52 = .ok (.putfield 28, 3) := by decide +kernel
theorem dX0_init_55 : decode cX0_init 55 = .ok (.aload_n 0, 1) := by decide +kernel
theorem dX0_init_56 : decode cX0_init 56 = .ok (.new 31, 3) := by decide +kernel
theorem dX0_init_59 : decode cX0_init 59 = .ok (.dup, 1) := by decide +kernel
theorem dX0_init_60 : decode cX0_init 60 = .ok (.invokespecial 33, 3) := by decide +kernel
theorem dX0_init_63 : decode cX0_init 63 = .ok (.putfield 34, 3) := by decide +kernel
theorem dX0_init_66 : decode cX0_init 66 = .ok (.aload_n 0, 1) := by decide +kernel
theorem dX0_init_67 : decode cX0_init 67 = .ok (.iconst 0, 1) := by decide +kernel
theorem dX0_init_68 : decode cX0_init 68 = .ok (.putfield 38, 3) := by decide +kernel
theorem dX0_init_71 : decode cX0_init 71 = .ok (.aload_n 0, 1) := by decide +kernel
theorem dX0_init_72 : decode cX0_init 72 = .ok (.iconst 0, 1) := by decide +kernel
theorem dX0_init_73 : decode cX0_init 73 = .ok (.putfield 42, 3) := by decide +kernel
theorem dX0_init_76 : decode cX0_init 76 = .ok (.aload_n 0, 1) := by decide +kernel
theorem dX0_init_77 : decode cX0_init 77 = .ok (.lconst 0, 1) := by decide +kernel
theorem dX0_init_78 : decode cX0_init 78 = .ok (.putfield 45, 3) := by decide +kernel
theorem dX0_init_81 : decode cX0_init 81 = .ok (.return_, 1) := by decide +kernel
theorem dX2_init_0 : decode cX2_init 0 = .ok (.aload_n 0, 1) := by decide +kernel
theorem dX2_init_1 : decode cX2_init 1 = .ok (.invokespecial 3, 3) := by decide +kernel
theorem dX2_init_4 : decode cX2_init 4 = .ok (.aload_n 0, 1) := by decide +kernel
theorem dX2_init_5 : decode cX2_init 5 = .ok (.iconst 4, 1) := by decide +kernel
theorem dX2_init_6 : decode cX2_init 6 = .ok (.newarray .int, 2) := by decide +kernel
theorem dX2_init_8 : decode cX2_init 8 = .ok (.putfield 9, 3) := by decide +kernel
theorem dX2_init_11 : decode cX2_init 11 = .ok (.aload_n 0, 1) := by decide +kernel
theorem dX2_init_12 : decode cX2_init 12 = .ok (.bipush 24, 2) := by decide +kernel
theorem dX2_init_14 : decode cX2_init 14 = .ok (.newarray .long, 2) := by decide +kernel
theorem dX2_init_16 : decode cX2_init 16 = .ok (.putfield 15, 3) := by decide +kernel
theorem dX2_init_19 : decode cX2_init 19 = .ok (.aload_n 0, 1) := by decide +kernel
theorem dX2_init_20 : decode cX2_init 20 = .ok (.iconst 0, 1) := by decide +kernel
theorem dX2_init_21 : decode cX2_init 21 = .ok (.putfield 19, 3) := by decide +kernel
theorem dX2_init_24 : decode cX2_init 24 = .ok (.aload_n 0, 1) := by decide +kernel
theorem dX2_init_25 : decode cX2_init 25 = .ok (.new 23, 3) := by decide +kernel
theorem dX2_init_28 : decode cX2_init 28 = .ok (.dup, 1) := by decide +kernel
theorem dX2_init_29 : decode cX2_init 29 = .ok (.invokespecial 25, 3) := by decide +kernel
theorem dX2_init_32 : decode cX2_init 32 = .ok (.putfield 26, 3) := by decide +kernel
theorem dX2_init_35 : decode cX2_init 35 = .ok (.aload_n 0, 1) := by decide +kernel
theorem dX2_init_36 : decode cX2_init 36 = .ok (.new 23, 3) := by decide +kernel
theorem dX2_init_39 : decode cX2_init 39 = .ok (.dup, 1) := by decide +kernel
theorem dX2_init_40 : decode cX2_init 40 = .ok (.invokespecial 25, 3) := by decide +kernel
theorem dX2_init_43 : decode cX2_init 43 = .ok (.putfield 30, 3) := by decide +kernel
theorem dX2_init_46 : decode cX2_init 46 = .ok (.return_, 1) := by decide +kernel
theorem dX1_init_0 : decode cX1_init 0 = .ok (.aload_n 0, 1) := by decide +kernel
theorem dX1_init_1 : decode cX1_init 1 = .ok (.invokespecial 3, 3) := by decide +kernel
theorem dX1_init_4 : decode cX1_init 4 = .ok (.aload_n 0, 1) := by decide +kernel
theorem dX1_init_5 : decode cX1_init 5 = .ok (.new 9, 3) := by decide +kernel
theorem dX1_init_8 : decode cX1_init 8 = .ok (.dup, 1) := by decide +kernel
theorem dX1_init_9 : decode cX1_init 9 = .ok (.invokespecial 11, 3) := by decide +kernel
theorem dX1_init_12 : decode cX1_init 12 = .ok (.putfield 12, 3) := by decide +kernel
theorem dX1_init_15 : decode cX1_init 15 = .ok (.aload_n 0, 1) := by decide +kernel
theorem dX1_init_16 : decode cX1_init 16 = .ok (.bipush 24, 2) := by decide +kernel
theorem dX1_init_18 : decode cX1_init 18 = .ok (.newarray .int, 2) := by decide +kernel
theorem dX1_init_20 : decode cX1_init 20 = .ok (.putfield 18, 3) := by decide +kernel
theorem dX1_init_23 : decode cX1_init 23 = .ok (.aload_n 0, 1) := by decide +kernel
theorem dX1_init_24 : decode cX1_init 24 = .ok (.bipush 24, 2) := by decide +kernel
theorem dX1_init_26 : decode cX1_init 26 = .ok (.newarray .int, 2) := by decide +kernel
theorem dX1_init_28 : decode cX1_init 28 = .ok (.putfield 22, 3) := by decide +kernel
theorem dX1_init_31 : decode cX1_init 31 = .ok (.aload_n 0, 1) := by decide +kernel
theorem dX1_init_32 : decode cX1_init 32 = .ok (.iconst 0, 1) := by decide +kernel
theorem dX1_init_33 : decode cX1_init 33 = .ok (.putfield 25, 3) := by decide +kernel
theorem dX1_init_36 : decode cX1_init 36 = .ok (.aload_n 0, 1) := by decide +kernel
theorem dX1_init_37 : decode cX1_init 37 = .ok (.iconst 0, 1) := by decide +kernel
theorem dX1_init_38 : decode cX1_init 38 = .ok (.putfield 29, 3) := by decide +kernel
theorem dX1_init_41 : decode cX1_init 41 = .ok (.aload_n 0, 1) := by decide +kernel
theorem dX1_init_42 : decode cX1_init 42 = .ok (.iconst 0, 1) := by decide +kernel
theorem dX1_init_43 : decode cX1_init 43 = .ok (.putfield 33, 3) := by decide +kernel
theorem dX1_init_46 : decode cX1_init 46 = .ok (.aload_n 0, 1) := by decide +kernel
theorem dX1_init_47 : decode cX1_init 47 = .ok (.iconst 4, 1) := by decide +kernel
theorem dX1_init_48 : decode cX1_init 48 = .ok (.putfield 36, 3) := by decide +kernel
theorem dX1_init_51 : decode cX1_init 51 = .ok (.aload_n 0, 1) := by decide +kernel
theorem dX1_init_52 : decode cX1_init 52 = .ok (.iconst 2, 1) := by decide +kernel
theorem dX1_init_53 : decode cX1_init 53 = .ok (.putfield 39, 3) := by decide +kernel
theorem dX1_init_56 : decode cX1_init 56 = .ok (.aload_n 0, 1) := by decide +kernel
theorem dX1_init_57 : decode cX1_init 57 = .ok (.iconst 1, 1) := by decide +kernel
theorem dX1_init_58 : decode cX1_init 58 = .ok (.putfield 42, 3) := by decide +kernel
theorem dX1_init_61 : decode cX1_init 61 = .ok (.aload_n 0, 1) := by decide +kernel
theorem dX1_init_62 : decode cX1_init 62 = .ok (.new 45, 3) := by decide +kernel
theorem dX1_init_65 : decode cX1_init 65 = .ok (.dup, 1) := by decide +kernel
theorem dX1_init_66 : decode cX1_init 66 = .ok (.invokespecial 47, 3) := by decide +kernel
theorem dX1_init_69 : decode cX1_init 69 = .ok (.putfield 48, 3) := by decide +kernel
theorem dX1_init_72 : decode cX1_init 72 = .ok (.aload_n 0, 1) := by decide +kernel
theorem dX1_init_73 : decode cX1_init 73 = .ok (.bipush 24, 2) := by decide +kernel
theorem dX1_init_75 : decode cX1_init 75 = .ok (.newarray .int, 2) := by decide +kernel
theorem dX1_init_77 : decode cX1_init 77 = .ok (.putfield 52, 3) := by decide +kernel
theorem dX1_init_80 : decode cX1_init 80 = .ok (.aload_n 0, 1) := by decide +kernel
theorem dX1_init_81 : decode cX1_init 81 = .ok (.sipush 576, 3) := by decide +kernel
theorem dX1_init_84 : decode cX1_init 84 = .ok (.newarray .int, 2) := by decide +kernel
theorem dX1_init_86 : decode cX1_init 86 = .ok (.putfield 55, 3) := by decide +kernel
theorem dX1_init_89 : decode cX1_init 89 = .ok (.aload_n 0, 1) := by decide +kernel
theorem dX1_init_90 : decode cX1_init 90 = .ok (.sipush 576, 3) := by decide +kernel
theorem dX1_init_93 : decode cX1_init 93 = .ok (.newarray .int, 2) := by decide +kernel
theorem dX1_init_95 : decode cX1_init 95 = .ok (.putfield 58, 3) := by decide +kernel
theorem dX1_init_98 : decode cX1_init 98 = .ok (.aload_n 0, 1) := by decide +kernel
theorem dX1_init_99 : decode cX1_init 99 = .ok (.iconst 0, 1) := by decide +kernel
theorem dX1_init_100 : decode cX1_init 100 = .ok (.putfield 61, 3) := by decide +kernel
theorem dX1_init_103 : decode cX1_init 103 = .ok (.return_, 1) := by decide +kernel
theorem dX5_init_0 : decode cX5_init 0 = .ok (.aload_n 0, 1) := by decide +kernel
theorem dX5_init_1 : decode cX5_init 1 = .ok (.invokespecial 3, 3) := by decide +kernel
theorem dX5_init_4 : decode cX5_init 4 = .ok (.aload_n 0, 1) := by decide +kernel
theorem dX5_init_5 : decode cX5_init 5 = .ok (.sipush 576, 3) := by decide +kernel
theorem dX5_init_8 : decode cX5_init 8 = .ok (.newarray .int, 2) := by decide +kernel
theorem dX5_init_10 : decode cX5_init 10 = .ok (.putfield 9, 3) := by decide +kernel
theorem dX5_init_13 : decode cX5_init 13 = .ok (.aload_n 0, 1) := by decide +kernel
theorem dX5_init_14 : decode cX5_init 14 = .ok (.sipush 576, 3) := by decide +kernel
theorem dX5_init_17 : decode cX5_init 17 = .ok (.newarray .int, 2) := by decide +kernel
theorem dX5_init_19 : decode cX5_init 19 = .ok (.putfield 15, 3) := by decide +kernel
theorem dX5_init_22 : decode cX5_init 22 = .ok (.aload_n 0, 1) := by decide +kernel
theorem dX5_init_23 : decode cX5_init 23 = .ok (.bipush 24, 2) := by decide +kernel
theorem dX5_init_25 : decode cX5_init 25 = .ok (.newarray .int, 2) := by decide +kernel
theorem dX5_init_27 : decode cX5_init 27 = .ok (.putfield 18, 3) := by decide +kernel
theorem dX5_init_30 : decode cX5_init 30 = .ok (.aload_n 0, 1) := by decide +kernel
theorem dX5_init_31 : decode cX5_init 31 = .ok (.iconst 0, 1) := by decide +kernel
theorem dX5_init_32 : decode cX5_init 32 = .ok (.putfield 21, 3) := by decide +kernel
theorem dX5_init_35 : decode cX5_init 35 = .ok (.aload_n 0, 1) := by decide +kernel
theorem dX5_init_36 : decode cX5_init 36 = .ok (.iconst 0, 1) := by decide +kernel
theorem dX5_init_37 : decode cX5_init 37 = .ok (.putfield 25, 3) := by decide +kernel
theorem dX5_init_40 : decode cX5_init 40 = .ok (.aload_n 0, 1) := by decide +kernel
theorem dX5_init_41 : decode cX5_init 41 = .ok (.iconst 0, 1) := by decide +kernel
theorem dX5_init_42 : decode cX5_init 42 = .ok (.putfield 29, 3) := by decide +kernel
theorem dX5_init_45 : decode cX5_init 45 = .ok (.aload_n 0, 1) := by decide +kernel
theorem dX5_init_46 : decode cX5_init 46 = .ok (.iconst 0, 1) := by decide +kernel
theorem dX5_init_47 : decode cX5_init 47 = .ok (.putfield 32, 3) := by decide +kernel
theorem dX5_init_50 : decode cX5_init 50 = .ok (.aload_n 0, 1) := by decide +kernel
theorem dX5_init_51 : decode cX5_init 51 = .ok (.iconst 0, 1) := by decide +kernel
theorem dX5_init_52 : decode cX5_init 52 = .ok (.putfield 35, 3) := by decide +kernel
theorem dX5_init_55 : decode cX5_init 55 = .ok (.aload_n 0, 1) := by decide +kernel
theorem dX5_init_56 : decode cX5_init 56 = .ok (.iconst 0, 1) := by decide +kernel
theorem dX5_init_57 : decode cX5_init 57 = .ok (.putfield 38, 3) := by decide +kernel
theorem dX5_init_60 : decode cX5_init 60 = .ok (.aload_n 0, 1) := by decide +kernel
theorem dX5_init_61 : decode cX5_init 61 = .ok (.iconst 0, 1) := by decide +kernel
theorem dX5_init_62 : decode cX5_init 62 = .ok (.putfield 41, 3) := by decide +kernel
theorem dX5_init_65 : decode cX5_init 65 = .ok (.aload_n 0, 1) := by decide +kernel
theorem dX5_init_66 : decode cX5_init 66 = .ok (.iconst (-1), 1) := by decide +kernel
theorem dX5_init_67 : decode cX5_init 67 = .ok (.putfield 44, 3) := by decide +kernel
theorem dX5_init_70 : decode cX5_init 70 = .ok (.aload_n 0, 1) := by decide +kernel
theorem dX5_init_71 : decode cX5_init 71 = .ok (.lconst 0, 1) := by decide +kernel
theorem dX5_init_72 : decode cX5_init 72 = .ok (.putfield 47, 3) := by decide +kernel
theorem dX5_init_75 : decode cX5_init 75 = .ok (.aload_n 0, 1) := by decide +kernel
theorem dX5_init_76 : decode cX5_init 76 = .ok (.bipush 24, 2) := by decide +kernel
theorem dX5_init_78 : decode cX5_init 78 = .ok (.newarray .long, 2) := by decide +kernel
theorem dX5_init_80 : decode cX5_init 80 = .ok (.putfield 51, 3) := by decide +kernel
theorem dX5_init_83 : decode cX5_init 83 = .ok (.aload_n 0, 1) := by decide +kernel
theorem dX5_init_84 : decode cX5_init 84 = .ok (.bipush 24, 2) := by decide +kernel
theorem dX5_init_86 : decode cX5_init 86 = .ok (.newarray .int, 2) := by decide +kernel
theorem dX5_init_88 : decode cX5_init 88 = .ok (.putfield 55, 3) := by decide +kernel
theorem dX5_init_91 : decode cX5_init 91 = .ok (.aload_n 0, 1) := by decide +kernel
theorem dX5_init_92 : decode cX5_init 92 = .ok (.bipush 24, 2) := by decide +kernel
theorem dX5_init_94 : decode cX5_init 94 = .ok (.newarray .long, 2) := by decide +kernel
theorem dX5_init_96 : decode cX5_init 96 = .ok (.putfield 58, 3) := by decide +kernel
theorem dX5_init_99 : decode cX5_init 99 = .ok (.aload_n 0, 1) := by decide +kernel
theorem dX5_init_100 : decode cX5_init 100 = .ok (.bipush 24, 2) := by decide +kernel
theorem dX5_init_102 : decode cX5_init 102 = .ok (.newarray .int, 2) := by decide +kernel
theorem dX5_init_104 : decode cX5_init 104 = .ok (.putfield 61, 3) := by decide +kernel
theorem dX5_init_107 : decode cX5_init 107 = .ok (.aload_n 0, 1) := by decide +kernel
theorem dX5_init_108 : decode cX5_init 108 = .ok (.bipush 49, 2) := by decide +kernel
theorem dX5_init_110 : decode cX5_init 110 = .ok (.newarray .int, 2) := by decide +kernel
theorem dX5_init_112 : decode cX5_init 112 = .ok (.putfield 64, 3) := by decide +kernel
theorem dX5_init_115 : decode cX5_init 115 = .ok (.return_, 1) := by decide +kernel
theorem dX9_init_0 : decode cX9_init 0 = .ok (.aload_n 0, 1) := by decide +kernel
theorem dX9_init_1 : decode cX9_init 1 = .ok (.invokespecial 5, 3) := by decide +kernel
theorem dX9_init_4 : decode cX9_init 4 = .ok (.aload_n 0, 1) := by decide +kernel
theorem dX9_init_5 : decode cX9_init 5 = .ok (.new 11, 3) := by decide +kernel
theorem dX9_init_8 : decode cX9_init 8 = .ok (.dup, 1) := by decide +kernel
theorem dX9_init_9 : decode cX9_init 9 = .ok (.invokespecial 13, 3) := by decide +kernel
theorem dX9_init_12 : decode cX9_init 12 = .ok (.putfield 14, 3) := by decide +kernel
theorem dX9_init_15 : decode cX9_init 15 = .ok (.aload_n 0, 1) := by decide +kernel
theorem dX9_init_16 : decode cX9_init 16 = .ok (.new 18, 3) := by decide +kernel
theorem dX9_init_19 : decode cX9_init 19 = .ok (.dup, 1) := by decide +kernel
theorem dX9_init_20 : decode cX9_init 20 = .ok (.invokespecial 20, 3) := by decide +kernel
theorem dX9_init_23 : decode cX9_init 23 = .ok (.putfield 21, 3) := by decide +kernel
theorem dX9_init_26 : decode cX9_init 26 = .ok (.aload_n 0, 1) := by decide +kernel
theorem dX9_init_27 : decode cX9_init 27 = .ok (.new 25, 3) := by decide +kernel
theorem dX9_init_30 : decode cX9_init 30 = .ok (.dup, 1) := by decide +kernel
theorem dX9_init_31 : decode cX9_init 31 = .ok (.aload_n 0, 1) := by decide +kernel
theorem dX9_init_32 : decode cX9_init 32 = .ok (.getfield 14, 3) := by decide +kernel
theorem dX9_init_35 : decode cX9_init 35 = .ok (.aload_n 0, 1) := by decide +kernel
theorem dX9_init_36 : decode cX9_init 36 = .ok (.getfield 21, 3) := by decide +kernel
theorem dX9_init_39 : decode cX9_init 39 = .ok (.invokespecial 27, 3) := by decide +kernel
theorem dX9_init_42 : decode cX9_init 42 = .ok (.putfield 30, 3) := by decide +kernel
theorem dX9_init_45 : decode cX9_init 45 = .ok (.aload_n 0, 1) := by decide +kernel
theorem dX9_init_46 : decode cX9_init 46 = .ok (.new 34, 3) := by decide +kernel
theorem dX9_init_49 : decode cX9_init 49 = .ok (.dup, 1) := by decide +kernel
theorem dX9_init_50 : decode cX9_init 50 = .ok (.invokespecial 36, 3) := by decide +kernel
theorem dX9_init_53 : decode cX9_init 53 = .ok (.putfield 37, 3) := by decide +kernel
theorem dX9_init_56 : decode cX9_init 56 = .ok (.aload_n 0, 1) := by decide +kernel
theorem dX9_init_57 : decode cX9_init 57 = .ok (.new 34, 3) := by decide +kernel
theorem dX9_init_60 : decode cX9_init 60 = .ok (.dup, 1) := by decide +kernel
theorem dX9_init_61 : decode cX9_init 61 = .ok (.invokespecial 36, 3) := by decide +kernel
theorem dX9_init_64 : decode cX9_init 64 = .ok (.putfield 41, 3) := by decide +kernel
theorem dX9_init_67 : decode cX9_init 67 = .ok (.aload_n 0, 1) := by decide +kernel
theorem dX9_init_68 : decode cX9_init 68 = .ok (.new 44, 3) := by decide +kernel
theorem dX9_init_71 : decode cX9_init 71 = .ok (.dup, 1) := by decide +kernel
theorem dX9_init_72 : decode cX9_init 72 = .ok (.invokespecial 46, 3) := by decide +kernel
theorem dX9_init_75 : decode cX9_init 75 = .ok (.putfield 47, 3) := by decide +kernel
theorem dX9_init_78 : decode cX9_init 78 = .ok (.aload_n 0, 1) := by decide +kernel
theorem dX9_init_79 : decode cX9_init 79 = .ok (.new 51, 3) := by decide +kernel
theorem dX9_init_82 : decode cX9_init 82 = .ok (.dup, 1) := by decide +kernel
theorem dX9_init_83 : decode cX9_init 83 = .ok (.invokespecial 53, 3) := by decide +kernel
theorem dX9_init_86 : decode cX9_init 86 = .ok (.putfield 54, 3) := by decide +kernel
theorem dX9_init_89 : decode cX9_init 89 = .ok (.aload_n 0, 1) := by decide +kernel
theorem dX9_init_90 : decode cX9_init 90 = .ok (.new 58, 3) := by decide +kernel
theorem dX9_init_93 : decode cX9_init 93 = .ok (.dup, 1) := by decide +kernel
theorem dX9_init_94 : decode cX9_init 94 = .ok (.invokespecial 60, 3) := by decide +kernel
theorem dX9_init_97 : decode cX9_init 97 = .ok (.putfield 61, 3) := by decide +kernel
theorem dX9_init_100 : decode cX9_init 100 = .ok (.aload_n 0, 1) := by decide +kernel
theorem dX9_init_101 : decode cX9_init 101 = .ok (.new 65, 3) := by decide +kernel
theorem dX9_init_104 : decode cX9_init 104 = .ok (.dup, 1) := by decide +kernel
theorem dX9_init_105 : decode cX9_init 105 = .ok (.invokespecial 67, 3) := by decide +kernel
theorem dX9_init_108 : decode cX9_init 108 = .ok (.putfield 68, 3) := by decide +kernel
theorem dX9_init_111 : decode cX9_init 111 = .ok (.aload_n 0, 1) := by decide +kernel
theorem dX9_init_112 : decode cX9_init 112 = .ok (.bipush 24, 2) := by decide +kernel
theorem dX9_init_114 : decode cX9_init 114 = .ok (.newarray .long, 2) := by decide +kernel
theorem dX9_init_116 : decode cX9_init 116 = .ok (.putfield 72, 3) := by decide +kernel
theorem dX9_init_119 : decode cX9_init 119 = .ok (.aload_n 0, 1) := by decide +kernel
theorem dX9_init_120 : decode cX9_init 120 = .ok (.bipush 24, 2) := by decide +kernel
theorem dX9_init_122 : decode cX9_init 122 = .ok (.newarray .int, 2) := by decide +kernel
theorem dX9_init_124 : decode cX9_init 124 = .ok (.putfield 76, 3) := by decide +kernel
theorem dX9_init_127 : decode cX9_init 127 = .ok (.aload_n 0, 1) := by decide +kernel
theorem dX9_init_128 : decode cX9_init 128 = .ok (.iconst 0, 1) := by decide +kernel
theorem dX9_init_129 : decode cX9_init 129 = .ok (.putfield 80, 3) := by decide +kernel
theorem dX9_init_132 : decode cX9_init 132 = .ok (.aload_n 0, 1) := by decide +kernel
theorem dX9_init_133 : decode cX9_init 133 = .ok (.iconst 0, 1) := by decide +kernel
theorem dX9_init_134 : decode cX9_init 134 = .ok (.putfield 84, 3) := by decide +kernel
theorem dX9_init_137 : decode cX9_init 137 = .ok (.return_, 1) := by decide +kernel
