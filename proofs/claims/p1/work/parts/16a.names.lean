/-! the words and decode rows that the rows of the next part take -/
theorem b_1313 : Cond.methodLink RX10 7 (⟨"java/lang/Object", "<init>", "()V"⟩ : MethodName) ∈ TB := tb_of 1313 (by decide +kernel)
theorem b_1316 : Cond.fieldLink RX10 13 "RoutePlannerModel" "x" "[I" ∈ TB := tb_of 1316 (by decide +kernel)
theorem b_1317 : Cond.fieldLink RX10 17 "RoutePlannerModel" "y" "[I" ∈ TB := tb_of 1317 (by decide +kernel)
theorem b_1318 : Cond.fieldLink RX10 20 "RoutePlannerModel" "potential" "[J" ∈ TB := tb_of 1318 (by decide +kernel)
theorem b_1320 : Cond.fieldLink RX10 24 "RoutePlannerModel" "from" "[I" ∈ TB := tb_of 1320 (by decide +kernel)
theorem b_1321 : Cond.fieldLink RX10 27 "RoutePlannerModel" "to" "[I" ∈ TB := tb_of 1321 (by decide +kernel)
theorem b_1322 : Cond.fieldLink RX10 30 "RoutePlannerModel" "weight" "[J" ∈ TB := tb_of 1322 (by decide +kernel)
theorem b_1323 : Cond.fieldLink RX10 33 "RoutePlannerModel" "marks" "[I" ∈ TB := tb_of 1323 (by decide +kernel)
theorem b_1325 : Cond.fieldLink RX10 36 "RoutePlannerModel" "order" "[I" ∈ TB := tb_of 1325 (by decide +kernel)
theorem b_1327 : Cond.fieldLink RX10 39 "RoutePlannerModel" "factor" "[I" ∈ TB := tb_of 1327 (by decide +kernel)
theorem b_1329 : Cond.fieldLink RX10 42 "RoutePlannerModel" "tape" "[B" ∈ TB := tb_of 1329 (by decide +kernel)
theorem b_1331 : Cond.fieldLink RX10 46 "RoutePlannerModel" "place" "I" ∈ TB := tb_of 1331 (by decide +kernel)
theorem b_1338 : Cond.fieldLink RX10 49 "RoutePlannerModel" "there" "[Z" ∈ TB := tb_of 1338 (by decide +kernel)
theorem b_1339 : Cond.fieldLink RX10 53 "RoutePlannerModel" "length" "[J" ∈ TB := tb_of 1339 (by decide +kernel)
theorem b_1340 : Cond.fieldLink RX10 56 "RoutePlannerModel" "count" "[I" ∈ TB := tb_of 1340 (by decide +kernel)
theorem b_1341 : Cond.fieldLink RX10 59 "RoutePlannerModel" "over" "[I" ∈ TB := tb_of 1341 (by decide +kernel)
theorem b_1342 : Cond.fieldLink RX10 62 "RoutePlannerModel" "arcOf" "[I" ∈ TB := tb_of 1342 (by decide +kernel)
theorem b_1343 : Cond.fieldLink RX10 65 "RoutePlannerModel" "isLeft" "[Z" ∈ TB := tb_of 1343 (by decide +kernel)
theorem b_1344 : Cond.fieldLink RX10 68 "RoutePlannerModel" "has" "[Z" ∈ TB := tb_of 1344 (by decide +kernel)
theorem b_1345 : Cond.fieldLink RX10 71 "RoutePlannerModel" "isDone" "[Z" ∈ TB := tb_of 1345 (by decide +kernel)
theorem b_1346 : Cond.fieldLink RX10 74 "RoutePlannerModel" "best" "[J" ∈ TB := tb_of 1346 (by decide +kernel)
theorem b_1347 : Cond.fieldLink RX10 77 "RoutePlannerModel" "bestCount" "[I" ∈ TB := tb_of 1347 (by decide +kernel)
theorem b_1349 : Cond.fieldLink RX10 80 "RoutePlannerModel" "settled" "[I" ∈ TB := tb_of 1349 (by decide +kernel)
theorem b_1350 : Cond.fieldLink RX10 83 "RoutePlannerModel" "settledLength" "[J" ∈ TB := tb_of 1350 (by decide +kernel)
theorem b_1351 : Cond.fieldLink RX10 86 "RoutePlannerModel" "settledCount" "[I" ∈ TB := tb_of 1351 (by decide +kernel)
theorem b_1352 : Cond.fieldLink RX10 89 "RoutePlannerModel" "keyOf" "[J" ∈ TB := tb_of 1352 (by decide +kernel)
theorem b_1353 : Cond.fieldLink RX10 92 "RoutePlannerModel" "row" "[I" ∈ TB := tb_of 1353 (by decide +kernel)
theorem b_1354 : Cond.fieldLink RX10 95 "RoutePlannerModel" "rowLength" "[J" ∈ TB := tb_of 1354 (by decide +kernel)
theorem b_1355 : Cond.fieldLink RX10 98 "RoutePlannerModel" "rowCount" "[I" ∈ TB := tb_of 1355 (by decide +kernel)
theorem b_1356 : Cond.fieldLink RX10 101 "RoutePlannerModel" "markFrom" "[J" ∈ TB := tb_of 1356 (by decide +kernel)
theorem b_1357 : Cond.fieldLink RX10 104 "RoutePlannerModel" "markTo" "[J" ∈ TB := tb_of 1357 (by decide +kernel)
theorem b_1358 : Cond.fieldLink RX10 107 "RoutePlannerModel" "were" "[J" ∈ TB := tb_of 1358 (by decide +kernel)
theorem b_1360 : Cond.fieldLink RX10 110 "RoutePlannerModel" "rank" "[I" ∈ TB := tb_of 1360 (by decide +kernel)
theorem b_1361 : Cond.fieldLink RX10 113 "RoutePlannerModel" "lastRank" "[I" ∈ TB := tb_of 1361 (by decide +kernel)
theorem b_1362 : Cond.fieldLink RX10 116 "RoutePlannerModel" "byRank" "[I" ∈ TB := tb_of 1362 (by decide +kernel)
theorem b_1363 : Cond.fieldLink RX10 119 "RoutePlannerModel" "hasUp" "[Z" ∈ TB := tb_of 1363 (by decide +kernel)
theorem b_1364 : Cond.fieldLink RX10 122 "RoutePlannerModel" "upLength" "[J" ∈ TB := tb_of 1364 (by decide +kernel)
theorem b_1365 : Cond.fieldLink RX10 125 "RoutePlannerModel" "upCount" "[I" ∈ TB := tb_of 1365 (by decide +kernel)
theorem b_1366 : Cond.fieldLink RX10 128 "RoutePlannerModel" "upOver" "[I" ∈ TB := tb_of 1366 (by decide +kernel)
theorem b_1367 : Cond.fieldLink RX10 131 "RoutePlannerModel" "upArc" "[I" ∈ TB := tb_of 1367 (by decide +kernel)
theorem b_1368 : Cond.fieldLink RX10 134 "RoutePlannerModel" "hasDown" "[Z" ∈ TB := tb_of 1368 (by decide +kernel)
theorem b_1369 : Cond.fieldLink RX10 137 "RoutePlannerModel" "downLength" "[J" ∈ TB := tb_of 1369 (by decide +kernel)
theorem b_1370 : Cond.fieldLink RX10 140 "RoutePlannerModel" "downCount" "[I" ∈ TB := tb_of 1370 (by decide +kernel)
theorem b_1371 : Cond.fieldLink RX10 143 "RoutePlannerModel" "downOver" "[I" ∈ TB := tb_of 1371 (by decide +kernel)
theorem b_1372 : Cond.fieldLink RX10 146 "RoutePlannerModel" "downArc" "[I" ∈ TB := tb_of 1372 (by decide +kernel)
theorem b_1373 : Cond.fieldLink RX10 149 "RoutePlannerModel" "isShort" "[Z" ∈ TB := tb_of 1373 (by decide +kernel)
theorem b_1375 : Cond.fieldLink RX10 152 "RoutePlannerModel" "isUp" "[Z" ∈ TB := tb_of 1375 (by decide +kernel)
theorem b_1376 : Cond.fieldLink RX10 155 "RoutePlannerModel" "up" "[J" ∈ TB := tb_of 1376 (by decide +kernel)
theorem b_1377 : Cond.fieldLink RX10 158 "RoutePlannerModel" "upMany" "[I" ∈ TB := tb_of 1377 (by decide +kernel)
theorem b_1378 : Cond.fieldLink RX10 161 "RoutePlannerModel" "isDown" "[Z" ∈ TB := tb_of 1378 (by decide +kernel)
theorem b_1379 : Cond.fieldLink RX10 164 "RoutePlannerModel" "down" "[J" ∈ TB := tb_of 1379 (by decide +kernel)
theorem b_1380 : Cond.fieldLink RX10 167 "RoutePlannerModel" "downMany" "[I" ∈ TB := tb_of 1380 (by decide +kernel)
theorem b_1387 : Cond.fieldLink RX10 170 "RoutePlannerModel" "relaxedFrom" "[I" ∈ TB := tb_of 1387 (by decide +kernel)
theorem b_1388 : Cond.fieldLink RX10 173 "RoutePlannerModel" "relaxedTo" "[I" ∈ TB := tb_of 1388 (by decide +kernel)
theorem b_1389 : Cond.fieldLink RX10 176 "RoutePlannerModel" "relaxedUp" "[I" ∈ TB := tb_of 1389 (by decide +kernel)
theorem b_1391 : Cond.fieldLink RX10 179 "RoutePlannerModel" "walk" "[I" ∈ TB := tb_of 1391 (by decide +kernel)
theorem b_1392 : Cond.fieldLink RX10 182 "RoutePlannerModel" "wayFrom" "[I" ∈ TB := tb_of 1392 (by decide +kernel)
theorem b_1393 : Cond.fieldLink RX10 185 "RoutePlannerModel" "wayTo" "[I" ∈ TB := tb_of 1393 (by decide +kernel)
theorem b_1394 : Cond.fieldLink RX10 188 "RoutePlannerModel" "waits" "[I" ∈ TB := tb_of 1394 (by decide +kernel)
theorem dX10_init_0 : decode cX10_init 0 = .ok (.aload_n 0, 1) := by decide +kernel
theorem dX10_init_1 : decode cX10_init 1 = .ok (.invokespecial 7, 3) := by decide +kernel
theorem dX10_init_4 : decode cX10_init 4 = .ok (.aload_n 0, 1) := by decide +kernel
theorem dX10_init_5 : decode cX10_init 5 = .ok (.bipush 36, 2) := by decide +kernel
theorem dX10_init_7 : decode cX10_init 7 = .ok (.newarray .int, 2) := by decide +kernel
theorem dX10_init_9 : decode cX10_init 9 = .ok (.putfield 13, 3) := by decide +kernel
theorem dX10_init_12 : decode cX10_init 12 = .ok (.aload_n 0, 1) := by decide +kernel
theorem dX10_init_13 : decode cX10_init 13 = .ok (.bipush 36, 2) := by decide +kernel
theorem dX10_init_15 : decode cX10_init 15 = .ok (.newarray .int, 2) := by decide +kernel
theorem dX10_init_17 : decode cX10_init 17 = .ok (.putfield 17, 3) := by decide +kernel
theorem dX10_init_20 : decode cX10_init 20 = .ok (.aload_n 0, 1) := by decide +kernel
theorem dX10_init_21 : decode cX10_init 21 = .ok (.bipush 36, 2) := by decide +kernel
theorem dX10_init_23 : decode cX10_init 23 = .ok (.newarray .long, 2) := by decide +kernel
theorem dX10_init_25 : decode cX10_init 25 = .ok (.putfield 20, 3) := by decide +kernel
theorem dX10_init_28 : decode cX10_init 28 = .ok (.aload_n 0, 1) := by decide +kernel
theorem dX10_init_29 : decode cX10_init 29 = .ok (.sipush 300, 3) := by decide +kernel
theorem dX10_init_32 : decode cX10_init 32 = .ok (.newarray .int, 2) := by decide +kernel
theorem dX10_init_34 : decode cX10_init 34 = .ok (.putfield 24, 3) := by decide +kernel
theorem dX10_init_37 : decode cX10_init 37 = .ok (.aload_n 0, 1) := by decide +kernel
theorem dX10_init_38 : decode cX10_init 38 = .ok (.sipush 300, 3) := by decide +kernel
theorem dX10_init_41 : decode cX10_init 41 = .ok (.newarray .int, 2) := by decide +kernel
theorem dX10_init_43 : decode cX10_init 43 = .ok (.putfield 27, 3) := by decide +kernel
theorem dX10_init_46 : decode cX10_init 46 = .ok (.aload_n 0, 1) := by decide +kernel
theorem dX10_init_47 : decode cX10_init 47 = .ok (.sipush 300, 3) := by decide +kernel
theorem dX10_init_50 : decode cX10_init 50 = .ok (.newarray .long, 2) := by decide +kernel
theorem dX10_init_52 : decode cX10_init 52 = .ok (.putfield 30, 3) := by decide +kernel
theorem dX10_init_55 : decode cX10_init 55 = .ok (.aload_n 0, 1) := by decide +kernel
theorem dX10_init_56 : decode cX10_init 56 = .ok (.iconst 4, 1) := by decide +kernel
theorem dX10_init_57 : decode cX10_init 57 = .ok (.newarray .int, 2) := by decide +kernel
theorem dX10_init_59 : decode cX10_init 59 = .ok (.putfield 33, 3) := by decide +kernel
theorem dX10_init_62 : decode cX10_init 62 = .ok (.aload_n 0, 1) := by decide +kernel
theorem dX10_init_63 : decode cX10_init 63 = .ok (.bipush 36, 2) := by decide +kernel
theorem dX10_init_65 : decode cX10_init 65 = .ok (.newarray .int, 2) := by decide +kernel
theorem dX10_init_67 : decode cX10_init 67 = .ok (.putfield 36, 3) := by decide +kernel
theorem dX10_init_70 : decode cX10_init 70 = .ok (.aload_n 0, 1) := by decide +kernel
theorem dX10_init_71 : decode cX10_init 71 = .ok (.iconst 3, 1) := by decide +kernel
theorem dX10_init_72 : decode cX10_init 72 = .ok (.newarray .int, 2) := by decide +kernel
theorem dX10_init_74 : decode cX10_init 74 = .ok (.putfield 39, 3) := by decide +kernel
theorem dX10_init_77 : decode cX10_init 77 = .ok (.aload_n 0, 1) := by decide +kernel
theorem dX10_init_78 : decode cX10_init 78 = .ok (.sipush 2000, 3) := by decide +kernel
theorem dX10_init_81 : decode cX10_init 81 = .ok (.newarray .byte, 2) := by decide +kernel
theorem dX10_init_83 : decode cX10_init 83 = .ok (.putfield 42, 3) := by decide +kernel
theorem dX10_init_86 : decode cX10_init 86 = .ok (.aload_n 0, 1) := by decide +kernel
theorem dX10_init_87 : decode cX10_init 87 = .ok (.iconst (-1), 1) := by decide +kernel
theorem dX10_init_88 : decode cX10_init 88 = .ok (.putfield 46, 3) := by decide +kernel
theorem dX10_init_91 : decode cX10_init 91 = .ok (.aload_n 0, 1) := by decide +kernel
theorem dX10_init_92 : decode cX10_init 92 = .ok (.sipush 1296, 3) := by decide +kernel
theorem dX10_init_95 : decode cX10_init 95 = .ok (.newarray .boolean, 2) := by decide +kernel
theorem dX10_init_97 : decode cX10_init 97 = .ok (.putfield 49, 3) := by decide +kernel
theorem dX10_init_100 : decode cX10_init 100 = .ok (.aload_n 0, 1) := by decide +kernel
theorem dX10_init_101 : decode cX10_init 101 = .ok (.sipush 1296, 3) := by decide +kernel
theorem dX10_init_104 : decode cX10_init 104 = .ok (.newarray .long, 2) := by decide +kernel
theorem dX10_init_106 : decode cX10_init 106 = .ok (.putfield 53, 3) := by decide +kernel
theorem dX10_init_109 : decode cX10_init 109 = .ok (.aload_n 0, 1) := by decide +kernel
theorem dX10_init_110 : decode cX10_init 110 = .ok (.sipush 1296, 3) := by decide +kernel
theorem dX10_init_113 : decode cX10_init 113 = .ok (.newarray .int, 2) := by decide +kernel
theorem dX10_init_115 : decode cX10_init 115 = .ok (.putfield 56, 3) := by decide +kernel
theorem dX10_init_118 : decode cX10_init 118 = .ok (.aload_n 0, 1) := by decide +kernel
theorem dX10_init_119 : decode cX10_init 119 = .ok (.sipush 1296, 3) := by decide +kernel
theorem dX10_init_122 : decode cX10_init 122 = .ok (.newarray .int, 2) := by decide +kernel
theorem dX10_init_124 : decode cX10_init 124 = .ok (.putfield 59, 3) := by decide +kernel
theorem dX10_init_127 : decode cX10_init 127 = .ok (.aload_n 0, 1) := by decide +kernel
theorem dX10_init_128 : decode cX10_init 128 = .ok (.sipush 1296, 3) := by decide +kernel
theorem dX10_init_131 : decode cX10_init 131 = .ok (.newarray .int, 2) := by decide +kernel
theorem dX10_init_133 : decode cX10_init 133 = .ok (.putfield 62, 3) := by decide +kernel
theorem dX10_init_136 : decode cX10_init 136 = .ok (.aload_n 0, 1) := by decide +kernel
theorem dX10_init_137 : decode cX10_init 137 = .ok (.bipush 36, 2) := by decide +kernel
theorem dX10_init_139 : decode cX10_init 139 = .ok (.newarray .boolean, 2) := by decide +kernel
theorem dX10_init_141 : decode cX10_init 141 = .ok (.putfield 65, 3) := by decide +kernel
theorem dX10_init_144 : decode cX10_init 144 = .ok (.aload_n 0, 1) := by decide +kernel
theorem dX10_init_145 : decode cX10_init 145 = .ok (.bipush 36, 2) := by decide +kernel
theorem dX10_init_147 : decode cX10_init 147 = .ok (.newarray .boolean, 2) := by decide +kernel
theorem dX10_init_149 : decode cX10_init 149 = .ok (.putfield 68, 3) := by decide +kernel
theorem dX10_init_152 : decode cX10_init 152 = .ok (.aload_n 0, 1) := by decide +kernel
theorem dX10_init_153 : decode cX10_init 153 = .ok (.bipush 36, 2) := by decide +kernel
theorem dX10_init_155 : decode cX10_init 155 = .ok (.newarray .boolean, 2) := by decide +kernel
theorem dX10_init_157 : decode cX10_init 157 = .ok (.putfield 71, 3) := by decide +kernel
theorem dX10_init_160 : decode cX10_init 160 = .ok (.aload_n 0, 1) := by decide +kernel
theorem dX10_init_161 : decode cX10_init 161 = .ok (.bipush 36, 2) := by decide +kernel
theorem dX10_init_163 : decode cX10_init 163 = .ok (.newarray .long, 2) := by decide +kernel
theorem dX10_init_165 : decode cX10_init 165 = .ok (.putfield 74, 3) := by decide +kernel
theorem dX10_init_168 : decode cX10_init 168 = .ok (.aload_n 0, 1) := by decide +kernel
theorem dX10_init_169 : decode cX10_init 169 = .ok (.bipush 36, 2) := by decide +kernel
theorem dX10_init_171 : decode cX10_init 171 = .ok (.newarray .int, 2) := by decide +kernel
theorem dX10_init_173 : decode cX10_init 173 = .ok (.putfield 77, 3) := by decide +kernel
theorem dX10_init_176 : decode cX10_init 176 = .ok (.aload_n 0, 1) := by decide +kernel
theorem dX10_init_177 : decode cX10_init 177 = .ok (.bipush 72, 2) := by decide +kernel
theorem dX10_init_179 : decode cX10_init 179 = .ok (.newarray .int, 2) := by decide +kernel
theorem dX10_init_181 : decode cX10_init 181 = .ok (.putfield 80, 3) := by decide +kernel
theorem dX10_init_184 : decode cX10_init 184 = .ok (.aload_n 0, 1) := by decide +kernel
theorem dX10_init_185 : decode cX10_init 185 = .ok (.bipush 72, 2) := by decide +kernel
theorem dX10_init_187 : decode cX10_init 187 = .ok (.newarray .long, 2) := by decide +kernel
theorem dX10_init_189 : decode cX10_init 189 = .ok (.putfield 83, 3) := by decide +kernel
theorem dX10_init_192 : decode cX10_init 192 = .ok (.aload_n 0, 1) := by decide +kernel
theorem dX10_init_193 : decode cX10_init 193 = .ok (.bipush 72, 2) := by decide +kernel
theorem dX10_init_195 : decode cX10_init 195 = .ok (.newarray .int, 2) := by decide +kernel
theorem dX10_init_197 : decode cX10_init 197 = .ok (.putfield 86, 3) := by decide +kernel
theorem dX10_init_200 : decode cX10_init 200 = .ok (.aload_n 0, 1) := by decide +kernel
theorem dX10_init_201 : decode cX10_init 201 = .ok (.bipush 36, 2) := by decide +kernel
theorem dX10_init_203 : decode cX10_init 203 = .ok (.newarray .long, 2) := by decide +kernel
theorem dX10_init_205 : decode cX10_init 205 = .ok (.putfield 89, 3) := by decide +kernel
theorem dX10_init_208 : decode cX10_init 208 = .ok (.aload_n 0, 1) := by decide +kernel
theorem dX10_init_209 : decode cX10_init 209 = .ok (.bipush 36, 2) := by decide +kernel
theorem dX10_init_211 : decode cX10_init 211 = .ok (.newarray .int, 2) := by decide +kernel
theorem dX10_init_213 : decode cX10_init 213 = .ok (.putfield 92, 3) := by decide +kernel
theorem dX10_init_216 : decode cX10_init 216 = .ok (.aload_n 0, 1) := by decide +kernel
theorem dX10_init_217 : decode cX10_init 217 = .ok (.bipush 36, 2) := by decide +kernel
theorem dX10_init_219 : decode cX10_init 219 = .ok (.newarray .long, 2) := by decide +kernel
theorem dX10_init_221 : decode cX10_init 221 = .ok (.putfield 95, 3) := by decide +kernel
theorem dX10_init_224 : decode cX10_init 224 = .ok (.aload_n 0, 1) := by decide +kernel
theorem dX10_init_225 : decode cX10_init 225 = .ok (.bipush 36, 2) := by decide +kernel
theorem dX10_init_227 : decode cX10_init 227 = .ok (.newarray .int, 2) := by decide +kernel
theorem dX10_init_229 : decode cX10_init 229 = .ok (.putfield 98, 3) := by decide +kernel
theorem dX10_init_232 : decode cX10_init 232 = .ok (.aload_n 0, 1) := by decide +kernel
theorem dX10_init_233 : decode cX10_init 233 = .ok (.sipush 144, 3) := by decide +kernel
theorem dX10_init_236 : decode cX10_init 236 = .ok (.newarray .long, 2) := by decide +kernel
theorem dX10_init_238 : decode cX10_init 238 = .ok (.putfield 101, 3) := by decide +kernel
theorem dX10_init_241 : decode cX10_init 241 = .ok (.aload_n 0, 1) := by decide +kernel
theorem dX10_init_242 : decode cX10_init 242 = .ok (.sipush 144, 3) := by decide +kernel
theorem dX10_init_245 : decode cX10_init 245 = .ok (.newarray .long, 2) := by decide +kernel
theorem dX10_init_247 : decode cX10_init 247 = .ok (.putfield 104, 3) := by decide +kernel
theorem dX10_init_250 : decode cX10_init 250 = .ok (.aload_n 0, 1) := by decide +kernel
theorem dX10_init_251 : decode cX10_init 251 = .ok (.bipush 36, 2) := by decide +kernel
theorem dX10_init_253 : decode cX10_init 253 = .ok (.newarray .long, 2) := by decide +kernel
theorem dX10_init_255 : decode cX10_init 255 = .ok (.putfield 107, 3) := by decide +kernel
theorem dX10_init_258 : decode cX10_init 258 = .ok (.aload_n 0, 1) := by decide +kernel
theorem dX10_init_259 : decode cX10_init 259 = .ok (.bipush 36, 2) := by decide +kernel
theorem dX10_init_261 : decode cX10_init 261 = .ok (.newarray .int, 2) := by decide +kernel
theorem dX10_init_263 : decode cX10_init 263 = .ok (.putfield 110, 3) := by decide +kernel
theorem dX10_init_266 : decode cX10_init 266 = .ok (.aload_n 0, 1) := by decide +kernel
theorem dX10_init_267 : decode cX10_init 267 = .ok (.bipush 36, 2) := by decide +kernel
theorem dX10_init_269 : decode cX10_init 269 = .ok (.newarray .int, 2) := by decide +kernel
theorem dX10_init_271 : decode cX10_init 271 = .ok (.putfield 113, 3) := by decide +kernel
theorem dX10_init_274 : decode cX10_init 274 = .ok (.aload_n 0, 1) := by decide +kernel
theorem dX10_init_275 : decode cX10_init 275 = .ok (.bipush 36, 2) := by decide +kernel
theorem dX10_init_277 : decode cX10_init 277 = .ok (.newarray .int, 2) := by decide +kernel
theorem dX10_init_279 : decode cX10_init 279 = .ok (.putfield 116, 3) := by decide +kernel
theorem dX10_init_282 : decode cX10_init 282 = .ok (.aload_n 0, 1) := by decide +kernel
theorem dX10_init_283 : decode cX10_init 283 = .ok (.sipush 1296, 3) := by decide +kernel
theorem dX10_init_286 : decode cX10_init 286 = .ok (.newarray .boolean, 2) := by decide +kernel
theorem dX10_init_288 : decode cX10_init 288 = .ok (.putfield 119, 3) := by decide +kernel
theorem dX10_init_291 : decode cX10_init 291 = .ok (.aload_n 0, 1) := by decide +kernel
theorem dX10_init_292 : decode cX10_init 292 = .ok (.sipush 1296, 3) := by decide +kernel
theorem dX10_init_295 : decode cX10_init 295 = .ok (.newarray .long, 2) := by decide +kernel
theorem dX10_init_297 : decode cX10_init 297 = .ok (.putfield 122, 3) := by decide +kernel
theorem dX10_init_300 : decode cX10_init 300 = .ok (.aload_n 0, 1) := by decide +kernel
theorem dX10_init_301 : decode cX10_init 301 = .ok (.sipush 1296, 3) := by decide +kernel
theorem dX10_init_304 : decode cX10_init 304 = .ok (.newarray .int, 2) := by decide +kernel
theorem dX10_init_306 : decode cX10_init 306 = .ok (.putfield 125, 3) := by decide +kernel
theorem dX10_init_309 : decode cX10_init 309 = .ok (.aload_n 0, 1) := by decide +kernel
theorem dX10_init_310 : decode cX10_init 310 = .ok (.sipush 1296, 3) := by decide +kernel
theorem dX10_init_313 : decode cX10_init 313 = .ok (.newarray .int, 2) := by decide +kernel
theorem dX10_init_315 : decode cX10_init 315 = .ok (.putfield 128, 3) := by decide +kernel
theorem dX10_init_318 : decode cX10_init 318 = .ok (.aload_n 0, 1) := by decide +kernel
theorem dX10_init_319 : decode cX10_init 319 = .ok (.sipush 1296, 3) := by decide +kernel
theorem dX10_init_322 : decode cX10_init 322 = .ok (.newarray .int, 2) := by decide +kernel
theorem dX10_init_324 : decode cX10_init 324 = .ok (.putfield 131, 3) := by decide +kernel
theorem dX10_init_327 : decode cX10_init 327 = .ok (.aload_n 0, 1) := by decide +kernel
theorem dX10_init_328 : decode cX10_init 328 = .ok (.sipush 1296, 3) := by decide +kernel
theorem dX10_init_331 : decode cX10_init 331 = .ok (.newarray .boolean, 2) := by decide +kernel
theorem dX10_init_333 : decode cX10_init 333 = .ok (.putfield 134, 3) := by decide +kernel
theorem dX10_init_336 : decode cX10_init 336 = .ok (.aload_n 0, 1) := by decide +kernel
theorem dX10_init_337 : decode cX10_init 337 = .ok (.sipush 1296, 3) := by decide +kernel
theorem dX10_init_340 : decode cX10_init 340 = .ok (.newarray .long, 2) := by decide +kernel
theorem dX10_init_342 : decode cX10_init 342 = .ok (.putfield 137, 3) := by decide +kernel
theorem dX10_init_345 : decode cX10_init 345 = .ok (.aload_n 0, 1) := by decide +kernel
theorem dX10_init_346 : decode cX10_init 346 = .ok (.sipush 1296, 3) := by decide +kernel
theorem dX10_init_349 : decode cX10_init 349 = .ok (.newarray .int, 2) := by decide +kernel
theorem dX10_init_351 : decode cX10_init 351 = .ok (.putfield 140, 3) := by decide +kernel
theorem dX10_init_354 : decode cX10_init 354 = .ok (.aload_n 0, 1) := by decide +kernel
theorem dX10_init_355 : decode cX10_init 355 = .ok (.sipush 1296, 3) := by decide +kernel
theorem dX10_init_358 : decode cX10_init 358 = .ok (.newarray .int, 2) := by decide +kernel
theorem dX10_init_360 : decode cX10_init 360 = .ok (.putfield 143, 3) := by decide +kernel
theorem dX10_init_363 : decode cX10_init 363 = .ok (.aload_n 0, 1) := by decide +kernel
theorem dX10_init_364 : decode cX10_init 364 = .ok (.sipush 1296, 3) := by decide +kernel
theorem dX10_init_367 : decode cX10_init 367 = .ok (.newarray .int, 2) := by decide +kernel
theorem dX10_init_369 : decode cX10_init 369 = .ok (.putfield 146, 3) := by decide +kernel
theorem dX10_init_372 : decode cX10_init 372 = .ok (.aload_n 0, 1) := by decide +kernel
theorem dX10_init_373 : decode cX10_init 373 = .ok (.sipush 1296, 3) := by decide +kernel
theorem dX10_init_376 : decode cX10_init 376 = .ok (.newarray .boolean, 2) := by decide +kernel
theorem dX10_init_378 : decode cX10_init 378 = .ok (.putfield 149, 3) := by decide +kernel
theorem dX10_init_381 : decode cX10_init 381 = .ok (.aload_n 0, 1) := by decide +kernel
theorem dX10_init_382 : decode cX10_init 382 = .ok (.bipush 36, 2) := by decide +kernel
theorem dX10_init_384 : decode cX10_init 384 = .ok (.newarray .boolean, 2) := by decide +kernel
theorem dX10_init_386 : decode cX10_init 386 = .ok (.putfield 152, 3) := by decide +kernel
theorem dX10_init_389 : decode cX10_init 389 = .ok (.aload_n 0, 1) := by decide +kernel
theorem dX10_init_390 : decode cX10_init 390 = .ok (.bipush 36, 2) := by decide +kernel
theorem dX10_init_392 : decode cX10_init 392 = .ok (.newarray .long, 2) := by decide +kernel
theorem dX10_init_394 : decode cX10_init 394 = .ok (.putfield 155, 3) := by decide +kernel
theorem dX10_init_397 : decode cX10_init 397 = .ok (.aload_n 0, 1) := by decide +kernel
theorem dX10_init_398 : decode cX10_init 398 = .ok (.bipush 36, 2) := by decide +kernel
theorem dX10_init_400 : decode cX10_init 400 = .ok (.newarray .int, 2) := by decide +kernel
theorem dX10_init_402 : decode cX10_init 402 = .ok (.putfield 158, 3) := by decide +kernel
theorem dX10_init_405 : decode cX10_init 405 = .ok (.aload_n 0, 1) := by decide +kernel
theorem dX10_init_406 : decode cX10_init 406 = .ok (.bipush 36, 2) := by decide +kernel
theorem dX10_init_408 : decode cX10_init 408 = .ok (.newarray .boolean, 2) := by decide +kernel
theorem dX10_init_410 : decode cX10_init 410 = .ok (.putfield 161, 3) := by decide +kernel
theorem dX10_init_413 : decode cX10_init 413 = .ok (.aload_n 0, 1) := by decide +kernel
theorem dX10_init_414 : decode cX10_init 414 = .ok (.bipush 36, 2) := by decide +kernel
theorem dX10_init_416 : decode cX10_init 416 = .ok (.newarray .long, 2) := by decide +kernel
theorem dX10_init_418 : decode cX10_init 418 = .ok (.putfield 164, 3) := by decide +kernel
theorem dX10_init_421 : decode cX10_init 421 = .ok (.aload_n 0, 1) := by decide +kernel
theorem dX10_init_422 : decode cX10_init 422 = .ok (.bipush 36, 2) := by decide +kernel
theorem dX10_init_424 : decode cX10_init 424 = .ok (.newarray .int, 2) := by decide +kernel
theorem dX10_init_426 : decode cX10_init 426 = .ok (.putfield 167, 3) := by decide +kernel
theorem dX10_init_429 : decode cX10_init 429 = .ok (.aload_n 0, 1) := by decide +kernel
theorem dX10_init_430 : decode cX10_init 430 = .ok (.sipush 2592, 3) := by decide +kernel
theorem dX10_init_433 : decode cX10_init 433 = .ok (.newarray .int, 2) := by decide +kernel
theorem dX10_init_435 : decode cX10_init 435 = .ok (.putfield 170, 3) := by decide +kernel
theorem dX10_init_438 : decode cX10_init 438 = .ok (.aload_n 0, 1) := by decide +kernel
theorem dX10_init_439 : decode cX10_init 439 = .ok (.sipush 2592, 3) := by decide +kernel
theorem dX10_init_442 : decode cX10_init 442 = .ok (.newarray .int, 2) := by decide +kernel
theorem dX10_init_444 : decode cX10_init 444 = .ok (.putfield 173, 3) := by decide +kernel
theorem dX10_init_447 : decode cX10_init 447 = .ok (.aload_n 0, 1) := by decide +kernel
theorem dX10_init_448 : decode cX10_init 448 = .ok (.sipush 2592, 3) := by decide +kernel
theorem dX10_init_451 : decode cX10_init 451 = .ok (.newarray .int, 2) := by decide +kernel
theorem dX10_init_453 : decode cX10_init 453 = .ok (.putfield 176, 3) := by decide +kernel
theorem dX10_init_456 : decode cX10_init 456 = .ok (.aload_n 0, 1) := by decide +kernel
theorem dX10_init_457 : decode cX10_init 457 = .ok (.bipush 40, 2) := by decide +kernel
theorem dX10_init_459 : decode cX10_init 459 = .ok (.newarray .int, 2) := by decide +kernel
theorem dX10_init_461 : decode cX10_init 461 = .ok (.putfield 179, 3) := by decide +kernel
theorem dX10_init_464 : decode cX10_init 464 = .ok (.aload_n 0, 1) := by decide +kernel
theorem dX10_init_465 : decode cX10_init 465 = .ok (.bipush 80, 2) := by decide +kernel
theorem dX10_init_467 : decode cX10_init 467 = .ok (.newarray .int, 2) := by decide +kernel
theorem dX10_init_469 : decode cX10_init 469 = .ok (.putfield 182, 3) := by decide +kernel
theorem dX10_init_472 : decode cX10_init 472 = .ok (.aload_n 0, 1) := by decide +kernel
theorem dX10_init_473 : decode cX10_init 473 = .ok (.bipush 80, 2) := by decide +kernel
theorem dX10_init_475 : decode cX10_init 475 = .ok (.newarray .int, 2) := by decide +kernel
theorem dX10_init_477 : decode cX10_init 477 = .ok (.putfield 185, 3) := by decide +kernel
theorem dX10_init_480 : decode cX10_init 480 = .ok (.aload_n 0, 1) := by decide +kernel
theorem dX10_init_481 : decode cX10_init 481 = .ok (.sipush 200, 3) := by decide +kernel
theorem dX10_init_484 : decode cX10_init 484 = .ok (.newarray .int, 2) := by decide +kernel
theorem dX10_init_486 : decode cX10_init 486 = .ok (.putfield 188, 3) := by decide +kernel
theorem dX10_init_489 : decode cX10_init 489 = .ok (.aload_n 0, 1) := by decide +kernel
theorem dX10_init_490 : decode cX10_init 490 = .ok (.getfield 39, 3) := by decide +kernel
theorem dX10_init_493 : decode cX10_init 493 = .ok (.iconst 0, 1) := by decide +kernel
theorem dX10_init_494 : decode cX10_init 494 = .ok (.iconst 4, 1) := by decide +kernel
theorem dX10_init_495 : decode cX10_init 495 = .ok (.iastore, 1) := by decide +kernel
theorem dX10_init_496 : decode cX10_init 496 = .ok (.aload_n 0, 1) := by decide +kernel
theorem dX10_init_497 : decode cX10_init 497 = .ok (.getfield 39, 3) := by decide +kernel
theorem dX10_init_500 : decode cX10_init 500 = .ok (.iconst 1, 1) := by decide +kernel
theorem dX10_init_501 : decode cX10_init 501 = .ok (.iconst 2, 1) := by decide +kernel
theorem dX10_init_502 : decode cX10_init 502 = .ok (.iastore, 1) := by decide +kernel
theorem dX10_init_503 : decode cX10_init 503 = .ok (.aload_n 0, 1) := by decide +kernel
theorem dX10_init_504 : decode cX10_init 504 = .ok (.getfield 39, 3) := by decide +kernel
theorem dX10_init_507 : decode cX10_init 507 = .ok (.iconst 2, 1) := by decide +kernel
theorem dX10_init_508 : decode cX10_init 508 = .ok (.iconst 1, 1) := by decide +kernel
theorem dX10_init_509 : decode cX10_init 509 = .ok (.iastore, 1) := by decide +kernel
theorem dX10_init_510 : decode cX10_init 510 = .ok (.return_, 1) := by decide +kernel
