theorem dL_below_0 : decode cL_below 0 = .ok (.iload_n 0, 1) := by decide +kernel
theorem dL_below_1 : decode cL_below 1 = .ok (.ldc 7, 2) := by decide +kernel
theorem dL_below_3 : decode cL_below 3 = .ok (.iand, 1) := by decide +kernel
theorem dL_below_4 : decode cL_below 4 = .ok (.iload_n 1, 1) := by decide +kernel
theorem dL_below_5 : decode cL_below 5 = .ok (.irem, 1) := by decide +kernel
theorem dL_below_6 : decode cL_below 6 = .ok (.ireturn, 1) := by decide +kernel
theorem dL_cell_0 : decode cL_cell 0 = .ok (.iload_n 1, 1) := by decide +kernel
theorem dL_cell_1 : decode cL_cell 1 = .ok (.aload_n 0, 1) := by decide +kernel
theorem dL_cell_2 : decode cL_cell 2 = .ok (.arraylength, 1) := by decide +kernel
theorem dL_cell_3 : decode cL_cell 3 = .ok (.if_icmp .ge 9, 3) := by decide +kernel
theorem dL_cell_6 : decode cL_cell 6 = .ok (.aload_n 0, 1) := by decide +kernel
theorem dL_cell_7 : decode cL_cell 7 = .ok (.iload_n 1, 1) := by decide +kernel
theorem dL_cell_8 : decode cL_cell 8 = .ok (.iaload, 1) := by decide +kernel
theorem dL_cell_9 : decode cL_cell 9 = .ok (.goto 9, 3) := by decide +kernel
theorem dL_cell_12 : decode cL_cell 12 = .ok (.ldc 8, 2) := by decide +kernel
theorem dL_cell_14 : decode cL_cell 14 = .ok (.iload_n 1, 1) := by decide +kernel
theorem dL_cell_15 : decode cL_cell 15 = .ok (.iconst 3, 1) := by decide +kernel
theorem dL_cell_16 : decode cL_cell 16 = .ok (.iadd, 1) := by decide +kernel
theorem dL_cell_17 : decode cL_cell 17 = .ok (.imul, 1) := by decide +kernel
theorem dL_cell_18 : decode cL_cell 18 = .ok (.ireturn, 1) := by decide +kernel
theorem dL_act_0 : decode cL_act 0 = .ok (.aload_n 1, 1) := by decide +kernel
theorem dL_act_1 : decode cL_act 1 = .ok (.getfield 9, 3) := by decide +kernel
theorem dL_act_4 : decode cL_act 4 = .ok (.arraylength, 1) := by decide +kernel
theorem dL_act_5 : decode cL_act 5 = .ok (.istore_n 3, 1) := by decide +kernel
theorem dL_act_6 : decode cL_act 6 = .ok (.iload_n 2, 1) := by decide +kernel
theorem dL_act_7 : decode cL_act 7 = .ok (.iconst 4, 1) := by decide +kernel
theorem dL_act_8 : decode cL_act 8 = .ok (.ishr, 1) := by decide +kernel
theorem dL_act_9 : decode cL_act 9 = .ok (.iload_n 3, 1) := by decide +kernel
theorem dL_act_10 : decode cL_act 10 = .ok (.invokestatic 15, 3) := by decide +kernel
theorem dL_act_13 : decode cL_act 13 = .ok (.istore 4, 2) := by decide +kernel
theorem dL_act_15 : decode cL_act 15 = .ok (.bipush (-9), 2) := by decide +kernel
theorem dL_act_17 : decode cL_act 17 = .ok (.istore 6, 2) := by decide +kernel
theorem dL_act_19 : decode cL_act 19 = .ok (.iload_n 2, 1) := by decide +kernel
theorem dL_act_20 : decode cL_act 20 = .ok (.bipush 18, 2) := by decide +kernel
theorem dL_act_22 : decode cL_act 22 = .ok (.invokestatic 15, 3) := by decide +kernel
theorem dL_act_25 : decode cL_act 25 = .ok (.tableswitch 619 0 12 #[67, 119, 119, 221, 221, 308, 352, 415, 488, 547, 547, 547, 547], 67) := by decide +kernel
theorem dL_act_92 : decode cL_act 92 = .ok (.iload_n 3, 1) := by decide +kernel
theorem dL_act_93 : decode cL_act 93 = .ok (.bipush 10, 2) := by decide +kernel
theorem dL_act_95 : decode cL_act 95 = .ok (.if_icmp .ge 7, 3) := by decide +kernel
theorem dL_act_98 : decode cL_act 98 = .ok (.iload_n 3, 1) := by decide +kernel
theorem dL_act_99 : decode cL_act 99 = .ok (.goto 5, 3) := by decide +kernel
theorem dL_act_102 : decode cL_act 102 = .ok (.bipush (-9), 2) := by decide +kernel
theorem dL_act_104 : decode cL_act 104 = .ok (.istore 6, 2) := by decide +kernel
theorem dL_act_106 : decode cL_act 106 = .ok (.iload_n 3, 1) := by decide +kernel
theorem dL_act_107 : decode cL_act 107 = .ok (.bipush 10, 2) := by decide +kernel
theorem dL_act_109 : decode cL_act 109 = .ok (.if_icmp .ge 7, 3) := by decide +kernel
theorem dL_act_112 : decode cL_act 112 = .ok (.aload_n 1, 1) := by decide +kernel
theorem dL_act_113 : decode cL_act 113 = .ok (.invokevirtual 21, 3) := by decide +kernel
theorem dL_act_116 : decode cL_act 116 = .ok (.aload_n 0, 1) := by decide +kernel
theorem dL_act_117 : decode cL_act 117 = .ok (.invokevirtual 24, 3) := by decide +kernel
theorem dL_act_120 : decode cL_act 120 = .ok (.istore 5, 2) := by decide +kernel
theorem dL_act_122 : decode cL_act 122 = .ok (.goto 9, 3) := by decide +kernel
theorem dL_act_125 : decode cL_act 125 = .ok (.astore 7, 2) := by decide +kernel
theorem dL_act_127 : decode cL_act 127 = .ok (.bipush (-9), 2) := by decide +kernel
theorem dL_act_129 : decode cL_act 129 = .ok (.istore 5, 2) := by decide +kernel
theorem dL_act_131 : decode cL_act 131 = .ok (.iload 5, 2) := by decide +kernel
theorem dL_act_133 : decode cL_act 133 = .ok (.iload 6, 2) := by decide +kernel
theorem dL_act_135 : decode cL_act 135 = .ok (.if_icmp .ne 7, 3) := by decide +kernel
theorem dL_act_138 : decode cL_act 138 = .ok (.iconst 1, 1) := by decide +kernel
theorem dL_act_139 : decode cL_act 139 = .ok (.goto 4, 3) := by decide +kernel
theorem dL_act_142 : decode cL_act 142 = .ok (.iconst 0, 1) := by decide +kernel
theorem dL_act_143 : decode cL_act 143 = .ok (.ireturn, 1) := by decide +kernel
theorem dL_act_144 : decode cL_act 144 = .ok (.iload_n 2, 1) := by decide +kernel
theorem dL_act_145 : decode cL_act 145 = .ok (.bipush 6, 2) := by decide +kernel
theorem dL_act_147 : decode cL_act 147 = .ok (.ishr, 1) := by decide +kernel
theorem dL_act_148 : decode cL_act 148 = .ok (.iload_n 3, 1) := by decide +kernel
theorem dL_act_149 : decode cL_act 149 = .ok (.invokestatic 15, 3) := by decide +kernel
theorem dL_act_152 : decode cL_act 152 = .ok (.istore 7, 2) := by decide +kernel
theorem dL_act_154 : decode cL_act 154 = .ok (.iload 7, 2) := by decide +kernel
theorem dL_act_156 : decode cL_act 156 = .ok (.iload 4, 2) := by decide +kernel
theorem dL_act_158 : decode cL_act 158 = .ok (.if_icmp .ne 5, 3) := by decide +kernel
theorem dL_act_161 : decode cL_act 161 = .ok (.iconst 1, 1) := by decide +kernel
theorem dL_act_162 : decode cL_act 162 = .ok (.ireturn, 1) := by decide +kernel
theorem dL_act_163 : decode cL_act 163 = .ok (.iconst 1, 1) := by decide +kernel
theorem dL_act_164 : decode cL_act 164 = .ok (.iload_n 2, 1) := by decide +kernel
theorem dL_act_165 : decode cL_act 165 = .ok (.bipush 8, 2) := by decide +kernel
theorem dL_act_167 : decode cL_act 167 = .ok (.ishr, 1) := by decide +kernel
theorem dL_act_168 : decode cL_act 168 = .ok (.bipush 9, 2) := by decide +kernel
theorem dL_act_170 : decode cL_act 170 = .ok (.invokestatic 15, 3) := by decide +kernel
theorem dL_act_173 : decode cL_act 173 = .ok (.iadd, 1) := by decide +kernel
theorem dL_act_174 : decode cL_act 174 = .ok (.istore 8, 2) := by decide +kernel
theorem dL_act_176 : decode cL_act 176 = .ok (.aload_n 1, 1) := by decide +kernel
theorem dL_act_177 : decode cL_act 177 = .ok (.getfield 9, 3) := by decide +kernel
theorem dL_act_180 : decode cL_act 180 = .ok (.iload 4, 2) := by decide +kernel
theorem dL_act_182 : decode cL_act 182 = .ok (.aaload, 1) := by decide +kernel
theorem dL_act_183 : decode cL_act 183 = .ok (.arraylength, 1) := by decide +kernel
theorem dL_act_184 : decode cL_act 184 = .ok (.iconst 4, 1) := by decide +kernel
theorem dL_act_185 : decode cL_act 185 = .ok (.if_icmp .ge 27, 3) := by decide +kernel
theorem dL_act_188 : decode cL_act 188 = .ok (.aload_n 1, 1) := by decide +kernel
theorem dL_act_189 : decode cL_act 189 = .ok (.getfield 9, 3) := by decide +kernel
theorem dL_act_192 : decode cL_act 192 = .ok (.iload 7, 2) := by decide +kernel
theorem dL_act_194 : decode cL_act 194 = .ok (.aaload, 1) := by decide +kernel
theorem dL_act_195 : decode cL_act 195 = .ok (.arraylength, 1) := by decide +kernel
theorem dL_act_196 : decode cL_act 196 = .ok (.iconst 4, 1) := by decide +kernel
theorem dL_act_197 : decode cL_act 197 = .ok (.if_icmp .ge 15, 3) := by decide +kernel
theorem dL_act_200 : decode cL_act 200 = .ok (.aload_n 1, 1) := by decide +kernel
theorem dL_act_201 : decode cL_act 201 = .ok (.iload 4, 2) := by decide +kernel
theorem dL_act_203 : decode cL_act 203 = .ok (.iload 7, 2) := by decide +kernel
theorem dL_act_205 : decode cL_act 205 = .ok (.iload 8, 2) := by decide +kernel
theorem dL_act_207 : decode cL_act 207 = .ok (.invokevirtual 32, 3) := by decide +kernel
theorem dL_act_210 : decode cL_act 210 = .ok (.istore 6, 2) := by decide +kernel
theorem dL_act_212 : decode cL_act 212 = .ok (.aload_n 0, 1) := by decide +kernel
theorem dL_act_213 : decode cL_act 213 = .ok (.iload 4, 2) := by decide +kernel
theorem dL_act_215 : decode cL_act 215 = .ok (.iload 7, 2) := by decide +kernel
theorem dL_act_217 : decode cL_act 217 = .ok (.iload 8, 2) := by decide +kernel
theorem dL_act_219 : decode cL_act 219 = .ok (.invokevirtual 36, 3) := by decide +kernel
theorem dL_act_222 : decode cL_act 222 = .ok (.istore 5, 2) := by decide +kernel
theorem dL_act_224 : decode cL_act 224 = .ok (.goto 9, 3) := by decide +kernel
theorem dL_act_227 : decode cL_act 227 = .ok (.astore 9, 2) := by decide +kernel
theorem dL_act_229 : decode cL_act 229 = .ok (.bipush (-9), 2) := by decide +kernel
theorem dL_act_231 : decode cL_act 231 = .ok (.istore 5, 2) := by decide +kernel
theorem dL_act_233 : decode cL_act 233 = .ok (.iload 5, 2) := by decide +kernel
theorem dL_act_235 : decode cL_act 235 = .ok (.iload 6, 2) := by decide +kernel
theorem dL_act_237 : decode cL_act 237 = .ok (.if_icmp .ne 7, 3) := by decide +kernel
theorem dL_act_240 : decode cL_act 240 = .ok (.iconst 1, 1) := by decide +kernel
theorem dL_act_241 : decode cL_act 241 = .ok (.goto 4, 3) := by decide +kernel
theorem dL_act_244 : decode cL_act 244 = .ok (.iconst 0, 1) := by decide +kernel
theorem dL_act_245 : decode cL_act 245 = .ok (.ireturn, 1) := by decide +kernel
theorem dL_act_246 : decode cL_act 246 = .ok (.aload_n 1, 1) := by decide +kernel
theorem dL_act_247 : decode cL_act 247 = .ok (.getfield 9, 3) := by decide +kernel
theorem dL_act_250 : decode cL_act 250 = .ok (.iload 4, 2) := by decide +kernel
theorem dL_act_252 : decode cL_act 252 = .ok (.aaload, 1) := by decide +kernel
theorem dL_act_253 : decode cL_act 253 = .ok (.arraylength, 1) := by decide +kernel
theorem dL_act_254 : decode cL_act 254 = .ok (.ifCond .ne 5, 3) := by decide +kernel
theorem dL_act_257 : decode cL_act 257 = .ok (.iconst 1, 1) := by decide +kernel
theorem dL_act_258 : decode cL_act 258 = .ok (.ireturn, 1) := by decide +kernel
theorem dL_act_259 : decode cL_act 259 = .ok (.iload_n 2, 1) := by decide +kernel
theorem dL_act_260 : decode cL_act 260 = .ok (.bipush 6, 2) := by decide +kernel
theorem dL_act_262 : decode cL_act 262 = .ok (.ishr, 1) := by decide +kernel
theorem dL_act_263 : decode cL_act 263 = .ok (.aload_n 1, 1) := by decide +kernel
theorem dL_act_264 : decode cL_act 264 = .ok (.getfield 9, 3) := by decide +kernel
theorem dL_act_267 : decode cL_act 267 = .ok (.iload 4, 2) := by decide +kernel
theorem dL_act_269 : decode cL_act 269 = .ok (.aaload, 1) := by decide +kernel
theorem dL_act_270 : decode cL_act 270 = .ok (.arraylength, 1) := by decide +kernel
theorem dL_act_271 : decode cL_act 271 = .ok (.invokestatic 15, 3) := by decide +kernel
theorem dL_act_274 : decode cL_act 274 = .ok (.istore 7, 2) := by decide +kernel
theorem dL_act_276 : decode cL_act 276 = .ok (.aload_n 1, 1) := by decide +kernel
theorem dL_act_277 : decode cL_act 277 = .ok (.getfield 39, 3) := by decide +kernel
theorem dL_act_280 : decode cL_act 280 = .ok (.aload_n 1, 1) := by decide +kernel
theorem dL_act_281 : decode cL_act 281 = .ok (.getfield 9, 3) := by decide +kernel
theorem dL_act_284 : decode cL_act 284 = .ok (.iload 4, 2) := by decide +kernel
theorem dL_act_286 : decode cL_act 286 = .ok (.aaload, 1) := by decide +kernel
theorem dL_act_287 : decode cL_act 287 = .ok (.iload 7, 2) := by decide +kernel
theorem dL_act_289 : decode cL_act 289 = .ok (.iaload, 1) := by decide +kernel
theorem dL_act_290 : decode cL_act 290 = .ok (.aaload, 1) := by decide +kernel
theorem dL_act_291 : decode cL_act 291 = .ok (.astore 8, 2) := by decide +kernel
theorem dL_act_293 : decode cL_act 293 = .ok (.aload 8, 2) := by decide +kernel
theorem dL_act_295 : decode cL_act 295 = .ok (.iconst 3, 1) := by decide +kernel
theorem dL_act_296 : decode cL_act 296 = .ok (.iconst 1, 1) := by decide +kernel
theorem dL_act_297 : decode cL_act 297 = .ok (.aload 8, 2) := by decide +kernel
theorem dL_act_299 : decode cL_act 299 = .ok (.iconst 3, 1) := by decide +kernel
theorem dL_act_300 : decode cL_act 300 = .ok (.iaload, 1) := by decide +kernel
theorem dL_act_301 : decode cL_act 301 = .ok (.isub, 1) := by decide +kernel
theorem dL_act_302 : decode cL_act 302 = .ok (.iastore, 1) := by decide +kernel
theorem dL_act_303 : decode cL_act 303 = .ok (.aload_n 0, 1) := by decide +kernel
theorem dL_act_304 : decode cL_act 304 = .ok (.iload 4, 2) := by decide +kernel
theorem dL_act_306 : decode cL_act 306 = .ok (.iload 7, 2) := by decide +kernel
theorem dL_act_308 : decode cL_act 308 = .ok (.invokevirtual 42, 3) := by decide +kernel
theorem dL_act_311 : decode cL_act 311 = .ok (.aload 8, 2) := by decide +kernel
theorem dL_act_313 : decode cL_act 313 = .ok (.iconst 3, 1) := by decide +kernel
theorem dL_act_314 : decode cL_act 314 = .ok (.iaload, 1) := by decide +kernel
theorem dL_act_315 : decode cL_act 315 = .ok (.iconst 1, 1) := by decide +kernel
theorem dL_act_316 : decode cL_act 316 = .ok (.if_icmp .ne 7, 3) := by decide +kernel
theorem dL_act_319 : decode cL_act 319 = .ok (.iconst 1, 1) := by decide +kernel
theorem dL_act_320 : decode cL_act 320 = .ok (.goto 4, 3) := by decide +kernel
theorem dL_act_323 : decode cL_act 323 = .ok (.iconst 0, 1) := by decide +kernel
theorem dL_act_324 : decode cL_act 324 = .ok (.if_icmp .ne 7, 3) := by decide +kernel
theorem dL_act_327 : decode cL_act 327 = .ok (.iconst 1, 1) := by decide +kernel
theorem dL_act_328 : decode cL_act 328 = .ok (.goto 4, 3) := by decide +kernel
theorem dL_act_331 : decode cL_act 331 = .ok (.iconst 0, 1) := by decide +kernel
theorem dL_act_332 : decode cL_act 332 = .ok (.ireturn, 1) := by decide +kernel
theorem dL_act_333 : decode cL_act 333 = .ok (.aload_n 1, 1) := by decide +kernel
theorem dL_act_334 : decode cL_act 334 = .ok (.getfield 46, 3) := by decide +kernel
theorem dL_act_337 : decode cL_act 337 = .ok (.iload 4, 2) := by decide +kernel
theorem dL_act_339 : decode cL_act 339 = .ok (.aload_n 1, 1) := by decide +kernel
theorem dL_act_340 : decode cL_act 340 = .ok (.getfield 46, 3) := by decide +kernel
theorem dL_act_343 : decode cL_act 343 = .ok (.iload 4, 2) := by decide +kernel
theorem dL_act_345 : decode cL_act 345 = .ok (.baload, 1) := by decide +kernel
theorem dL_act_346 : decode cL_act 346 = .ok (.ifCond .ne 7, 3) := by decide +kernel
theorem dL_act_349 : decode cL_act 349 = .ok (.iconst 1, 1) := by decide +kernel
theorem dL_act_350 : decode cL_act 350 = .ok (.goto 4, 3) := by decide +kernel
theorem dL_act_353 : decode cL_act 353 = .ok (.iconst 0, 1) := by decide +kernel
theorem dL_act_354 : decode cL_act 354 = .ok (.bastore, 1) := by decide +kernel
theorem dL_act_355 : decode cL_act 355 = .ok (.aload_n 0, 1) := by decide +kernel
theorem dL_act_356 : decode cL_act 356 = .ok (.iload 4, 2) := by decide +kernel
theorem dL_act_358 : decode cL_act 358 = .ok (.invokevirtual 50, 3) := by decide +kernel
theorem dL_act_361 : decode cL_act 361 = .ok (.aload_n 1, 1) := by decide +kernel
theorem dL_act_362 : decode cL_act 362 = .ok (.getfield 46, 3) := by decide +kernel
theorem dL_act_365 : decode cL_act 365 = .ok (.iload 4, 2) := by decide +kernel
theorem dL_act_367 : decode cL_act 367 = .ok (.baload, 1) := by decide +kernel
theorem dL_act_368 : decode cL_act 368 = .ok (.if_icmp .ne 7, 3) := by decide +kernel
theorem dL_act_371 : decode cL_act 371 = .ok (.iconst 1, 1) := by decide +kernel
theorem dL_act_372 : decode cL_act 372 = .ok (.goto 4, 3) := by decide +kernel
theorem dL_act_375 : decode cL_act 375 = .ok (.iconst 0, 1) := by decide +kernel
theorem dL_act_376 : decode cL_act 376 = .ok (.ireturn, 1) := by decide +kernel
theorem dL_act_377 : decode cL_act 377 = .ok (.iconst 1, 1) := by decide +kernel
theorem dL_act_378 : decode cL_act 378 = .ok (.iload_n 2, 1) := by decide +kernel
theorem dL_act_379 : decode cL_act 379 = .ok (.bipush 6, 2) := by decide +kernel
theorem dL_act_381 : decode cL_act 381 = .ok (.ishr, 1) := by decide +kernel
theorem dL_act_382 : decode cL_act 382 = .ok (.iload_n 2, 1) := by decide +kernel
theorem dL_act_383 : decode cL_act 383 = .ok (.bipush 8, 2) := by decide +kernel
theorem dL_act_385 : decode cL_act 385 = .ok (.ishr, 1) := by decide +kernel
theorem dL_act_386 : decode cL_act 386 = .ok (.iconst 3, 1) := by decide +kernel
theorem dL_act_387 : decode cL_act 387 = .ok (.invokestatic 15, 3) := by decide +kernel
theorem dL_act_390 : decode cL_act 390 = .ok (.ifCond .ne 8, 3) := by decide +kernel
theorem dL_act_393 : decode cL_act 393 = .ok (.bipush 99, 2) := by decide +kernel
theorem dL_act_395 : decode cL_act 395 = .ok (.goto 4, 3) := by decide +kernel
theorem dL_act_398 : decode cL_act 398 = .ok (.iconst 3, 1) := by decide +kernel
theorem dL_act_399 : decode cL_act 399 = .ok (.invokestatic 15, 3) := by decide +kernel
theorem dL_act_402 : decode cL_act 402 = .ok (.iadd, 1) := by decide +kernel
theorem dL_act_403 : decode cL_act 403 = .ok (.istore 7, 2) := by decide +kernel
theorem dL_act_405 : decode cL_act 405 = .ok (.aload_n 1, 1) := by decide +kernel
theorem dL_act_406 : decode cL_act 406 = .ok (.bipush 99, 2) := by decide +kernel
theorem dL_act_408 : decode cL_act 408 = .ok (.aload_n 1, 1) := by decide +kernel
theorem dL_act_409 : decode cL_act 409 = .ok (.getfield 54, 3) := by decide +kernel
theorem dL_act_412 : decode cL_act 412 = .ok (.iload 7, 2) := by decide +kernel
theorem dL_act_414 : decode cL_act 414 = .ok (.iadd, 1) := by decide +kernel
theorem dL_act_415 : decode cL_act 415 = .ok (.invokestatic 58, 3) := by decide +kernel
theorem dL_act_418 : decode cL_act 418 = .ok (.putfield 54, 3) := by decide +kernel
theorem dL_act_421 : decode cL_act 421 = .ok (.aload_n 0, 1) := by decide +kernel
theorem dL_act_422 : decode cL_act 422 = .ok (.iload 7, 2) := by decide +kernel
theorem dL_act_424 : decode cL_act 424 = .ok (.invokevirtual 63, 3) := by decide +kernel
theorem dL_act_427 : decode cL_act 427 = .ok (.aload_n 1, 1) := by decide +kernel
theorem dL_act_428 : decode cL_act 428 = .ok (.getfield 54, 3) := by decide +kernel
theorem dL_act_431 : decode cL_act 431 = .ok (.if_icmp .ne 7, 3) := by decide +kernel
theorem dL_act_434 : decode cL_act 434 = .ok (.iconst 1, 1) := by decide +kernel
theorem dL_act_435 : decode cL_act 435 = .ok (.goto 4, 3) := by decide +kernel
theorem dL_act_438 : decode cL_act 438 = .ok (.iconst 0, 1) := by decide +kernel
theorem dL_act_439 : decode cL_act 439 = .ok (.ireturn, 1) := by decide +kernel
theorem dL_act_440 : decode cL_act 440 = .ok (.iconst 1, 1) := by decide +kernel
theorem dL_act_441 : decode cL_act 441 = .ok (.iload_n 2, 1) := by decide +kernel
theorem dL_act_442 : decode cL_act 442 = .ok (.bipush 6, 2) := by decide +kernel
theorem dL_act_444 : decode cL_act 444 = .ok (.ishr, 1) := by decide +kernel
theorem dL_act_445 : decode cL_act 445 = .ok (.iload_n 2, 1) := by decide +kernel
theorem dL_act_446 : decode cL_act 446 = .ok (.bipush 8, 2) := by decide +kernel
theorem dL_act_448 : decode cL_act 448 = .ok (.ishr, 1) := by decide +kernel
theorem dL_act_449 : decode cL_act 449 = .ok (.iconst 3, 1) := by decide +kernel
theorem dL_act_450 : decode cL_act 450 = .ok (.invokestatic 15, 3) := by decide +kernel
theorem dL_act_453 : decode cL_act 453 = .ok (.ifCond .ne 8, 3) := by decide +kernel
theorem dL_act_456 : decode cL_act 456 = .ok (.bipush 9, 2) := by decide +kernel
theorem dL_act_458 : decode cL_act 458 = .ok (.goto 4, 3) := by decide +kernel
theorem dL_act_461 : decode cL_act 461 = .ok (.iconst 2, 1) := by decide +kernel
theorem dL_act_462 : decode cL_act 462 = .ok (.invokestatic 15, 3) := by decide +kernel
theorem dL_act_465 : decode cL_act 465 = .ok (.iadd, 1) := by decide +kernel
theorem dL_act_466 : decode cL_act 466 = .ok (.istore 7, 2) := by decide +kernel
theorem dL_act_468 : decode cL_act 468 = .ok (.iconst 0, 1) := by decide +kernel
theorem dL_act_469 : decode cL_act 469 = .ok (.istore 6, 2) := by decide +kernel
theorem dL_act_471 : decode cL_act 471 = .ok (.iconst 0, 1) := by decide +kernel
theorem dL_act_472 : decode cL_act 472 = .ok (.istore 8, 2) := by decide +kernel
theorem dL_act_474 : decode cL_act 474 = .ok (.iload 8, 2) := by decide +kernel
theorem dL_act_476 : decode cL_act 476 = .ok (.iload 7, 2) := by decide +kernel
theorem dL_act_478 : decode cL_act 478 = .ok (.if_icmp .ge 18, 3) := by decide +kernel
theorem dL_act_481 : decode cL_act 481 = .ok (.iload 6, 2) := by decide +kernel
theorem dL_act_483 : decode cL_act 483 = .ok (.aload_n 1, 1) := by decide +kernel
theorem dL_act_484 : decode cL_act 484 = .ok (.invokevirtual 67, 3) := by decide +kernel
theorem dL_act_487 : decode cL_act 487 = .ok (.iadd, 1) := by decide +kernel
theorem dL_act_488 : decode cL_act 488 = .ok (.istore 6, 2) := by decide +kernel
theorem dL_act_490 : decode cL_act 490 = .ok (.iinc 8 1, 3) := by decide +kernel
theorem dL_act_493 : decode cL_act 493 = .ok (.goto (-19), 3) := by decide +kernel
theorem dL_act_496 : decode cL_act 496 = .ok (.aload_n 0, 1) := by decide +kernel
theorem dL_act_497 : decode cL_act 497 = .ok (.iload 7, 2) := by decide +kernel
theorem dL_act_499 : decode cL_act 499 = .ok (.invokevirtual 70, 3) := by decide +kernel
theorem dL_act_502 : decode cL_act 502 = .ok (.iload 6, 2) := by decide +kernel
theorem dL_act_504 : decode cL_act 504 = .ok (.if_icmp .ne 7, 3) := by decide +kernel
theorem dL_act_507 : decode cL_act 507 = .ok (.iconst 1, 1) := by decide +kernel
theorem dL_act_508 : decode cL_act 508 = .ok (.goto 4, 3) := by decide +kernel
theorem dL_act_511 : decode cL_act 511 = .ok (.iconst 0, 1) := by decide +kernel
theorem dL_act_512 : decode cL_act 512 = .ok (.ireturn, 1) := by decide +kernel
theorem dL_act_513 : decode cL_act 513 = .ok (.iload_n 2, 1) := by decide +kernel
theorem dL_act_514 : decode cL_act 514 = .ok (.bipush 7, 2) := by decide +kernel
theorem dL_act_516 : decode cL_act 516 = .ok (.ishr, 1) := by decide +kernel
theorem dL_act_517 : decode cL_act 517 = .ok (.iconst 3, 1) := by decide +kernel
theorem dL_act_518 : decode cL_act 518 = .ok (.invokestatic 15, 3) := by decide +kernel
theorem dL_act_521 : decode cL_act 521 = .ok (.ifCond .le 5, 3) := by decide +kernel
theorem dL_act_524 : decode cL_act 524 = .ok (.iconst 1, 1) := by decide +kernel
theorem dL_act_525 : decode cL_act 525 = .ok (.ireturn, 1) := by decide +kernel
theorem dL_act_526 : decode cL_act 526 = .ok (.aload_n 1, 1) := by decide +kernel
theorem dL_act_527 : decode cL_act 527 = .ok (.getfield 73, 3) := by decide +kernel
theorem dL_act_530 : decode cL_act 530 = .ok (.ifCond .lt 14, 3) := by decide +kernel
theorem dL_act_533 : decode cL_act 533 = .ok (.aload_n 1, 1) := by decide +kernel
theorem dL_act_534 : decode cL_act 534 = .ok (.getfield 76, 3) := by decide +kernel
theorem dL_act_537 : decode cL_act 537 = .ok (.arraylength, 1) := by decide +kernel
theorem dL_act_538 : decode cL_act 538 = .ok (.istore 6, 2) := by decide +kernel
theorem dL_act_540 : decode cL_act 540 = .ok (.aload_n 1, 1) := by decide +kernel
theorem dL_act_541 : decode cL_act 541 = .ok (.invokevirtual 79, 3) := by decide +kernel
theorem dL_act_544 : decode cL_act 544 = .ok (.aload_n 0, 1) := by decide +kernel
theorem dL_act_545 : decode cL_act 545 = .ok (.invokevirtual 82, 3) := by decide +kernel
theorem dL_act_548 : decode cL_act 548 = .ok (.istore 5, 2) := by decide +kernel
theorem dL_act_550 : decode cL_act 550 = .ok (.goto 9, 3) := by decide +kernel
theorem dL_act_553 : decode cL_act 553 = .ok (.astore 7, 2) := by decide +kernel
theorem dL_act_555 : decode cL_act 555 = .ok (.bipush (-9), 2) := by decide +kernel
theorem dL_act_557 : decode cL_act 557 = .ok (.istore 5, 2) := by decide +kernel
theorem dL_act_559 : decode cL_act 559 = .ok (.iload 5, 2) := by decide +kernel
theorem dL_act_561 : decode cL_act 561 = .ok (.iload 6, 2) := by decide +kernel
theorem dL_act_563 : decode cL_act 563 = .ok (.if_icmp .ne 7, 3) := by decide +kernel
theorem dL_act_566 : decode cL_act 566 = .ok (.iconst 1, 1) := by decide +kernel
theorem dL_act_567 : decode cL_act 567 = .ok (.goto 4, 3) := by decide +kernel
theorem dL_act_570 : decode cL_act 570 = .ok (.iconst 0, 1) := by decide +kernel
theorem dL_act_571 : decode cL_act 571 = .ok (.ireturn, 1) := by decide +kernel
theorem dL_act_572 : decode cL_act 572 = .ok (.aload_n 1, 1) := by decide +kernel
theorem dL_act_573 : decode cL_act 573 = .ok (.getfield 73, 3) := by decide +kernel
theorem dL_act_576 : decode cL_act 576 = .ok (.ifCond .ge 38, 3) := by decide +kernel
theorem dL_act_579 : decode cL_act 579 = .ok (.aload_n 1, 1) := by decide +kernel
theorem dL_act_580 : decode cL_act 580 = .ok (.aload_n 1, 1) := by decide +kernel
theorem dL_act_581 : decode cL_act 581 = .ok (.getfield 85, 3) := by decide +kernel
theorem dL_act_584 : decode cL_act 584 = .ok (.iload 4, 2) := by decide +kernel
theorem dL_act_586 : decode cL_act 586 = .ok (.invokevirtual 88, 3) := by decide +kernel
theorem dL_act_589 : decode cL_act 589 = .ok (.istore 7, 2) := by decide +kernel
theorem dL_act_591 : decode cL_act 591 = .ok (.aload_n 1, 1) := by decide +kernel
theorem dL_act_592 : decode cL_act 592 = .ok (.iload 4, 2) := by decide +kernel
theorem dL_act_594 : decode cL_act 594 = .ok (.invokevirtual 91, 3) := by decide +kernel
theorem dL_act_597 : decode cL_act 597 = .ok (.pop, 1) := by decide +kernel
theorem dL_act_598 : decode cL_act 598 = .ok (.iload 7, 2) := by decide +kernel
theorem dL_act_600 : decode cL_act 600 = .ok (.sipush 9999, 3) := by decide +kernel
theorem dL_act_603 : decode cL_act 603 = .ok (.if_icmp .ne 7, 3) := by decide +kernel
theorem dL_act_606 : decode cL_act 606 = .ok (.iconst (-1), 1) := by decide +kernel
theorem dL_act_607 : decode cL_act 607 = .ok (.goto 5, 3) := by decide +kernel
theorem dL_act_610 : decode cL_act 610 = .ok (.iload 7, 2) := by decide +kernel
theorem dL_act_612 : decode cL_act 612 = .ok (.istore 6, 2) := by decide +kernel
theorem dL_act_614 : decode cL_act 614 = .ok (.aload_n 0, 1) := by decide +kernel
theorem dL_act_615 : decode cL_act 615 = .ok (.iload 4, 2) := by decide +kernel
theorem dL_act_617 : decode cL_act 617 = .ok (.invokevirtual 94, 3) := by decide +kernel
theorem dL_act_620 : decode cL_act 620 = .ok (.istore 5, 2) := by decide +kernel
theorem dL_act_622 : decode cL_act 622 = .ok (.goto 9, 3) := by decide +kernel
theorem dL_act_625 : decode cL_act 625 = .ok (.astore 7, 2) := by decide +kernel
theorem dL_act_627 : decode cL_act 627 = .ok (.bipush (-9), 2) := by decide +kernel
theorem dL_act_629 : decode cL_act 629 = .ok (.istore 5, 2) := by decide +kernel
theorem dL_act_631 : decode cL_act 631 = .ok (.iload 5, 2) := by decide +kernel
theorem dL_act_633 : decode cL_act 633 = .ok (.iload 6, 2) := by decide +kernel
theorem dL_act_635 : decode cL_act 635 = .ok (.if_icmp .ne 7, 3) := by decide +kernel
theorem dL_act_638 : decode cL_act 638 = .ok (.iconst 1, 1) := by decide +kernel
theorem dL_act_639 : decode cL_act 639 = .ok (.goto 4, 3) := by decide +kernel
theorem dL_act_642 : decode cL_act 642 = .ok (.iconst 0, 1) := by decide +kernel
theorem dL_act_643 : decode cL_act 643 = .ok (.ireturn, 1) := by decide +kernel
theorem dL_act_644 : decode cL_act 644 = .ok (.iconst 1, 1) := by decide +kernel
theorem dL_act_645 : decode cL_act 645 = .ok (.iload_n 2, 1) := by decide +kernel
theorem dL_act_646 : decode cL_act 646 = .ok (.bipush 6, 2) := by decide +kernel
theorem dL_act_648 : decode cL_act 648 = .ok (.ishr, 1) := by decide +kernel
theorem dL_act_649 : decode cL_act 649 = .ok (.iload_n 2, 1) := by decide +kernel
theorem dL_act_650 : decode cL_act 650 = .ok (.bipush 8, 2) := by decide +kernel
theorem dL_act_652 : decode cL_act 652 = .ok (.ishr, 1) := by decide +kernel
theorem dL_act_653 : decode cL_act 653 = .ok (.iconst 3, 1) := by decide +kernel
theorem dL_act_654 : decode cL_act 654 = .ok (.invokestatic 15, 3) := by decide +kernel
theorem dL_act_657 : decode cL_act 657 = .ok (.ifCond .ne 8, 3) := by decide +kernel
theorem dL_act_660 : decode cL_act 660 = .ok (.bipush 100, 2) := by decide +kernel
theorem dL_act_662 : decode cL_act 662 = .ok (.goto 4, 3) := by decide +kernel
theorem dL_act_665 : decode cL_act 665 = .ok (.iconst 5, 1) := by decide +kernel
theorem dL_act_666 : decode cL_act 666 = .ok (.invokestatic 15, 3) := by decide +kernel
theorem dL_act_669 : decode cL_act 669 = .ok (.iadd, 1) := by decide +kernel
theorem dL_act_670 : decode cL_act 670 = .ok (.istore 7, 2) := by decide +kernel
theorem dL_act_672 : decode cL_act 672 = .ok (.aload_n 1, 1) := by decide +kernel
theorem dL_act_673 : decode cL_act 673 = .ok (.getfield 73, 3) := by decide +kernel
theorem dL_act_676 : decode cL_act 676 = .ok (.ifCond .lt 11, 3) := by decide +kernel
theorem dL_act_679 : decode cL_act 679 = .ok (.aload_n 1, 1) := by decide +kernel
theorem dL_act_680 : decode cL_act 680 = .ok (.iload 7, 2) := by decide +kernel
theorem dL_act_682 : decode cL_act 682 = .ok (.invokevirtual 97, 3) := by decide +kernel
theorem dL_act_685 : decode cL_act 685 = .ok (.istore 6, 2) := by decide +kernel
theorem dL_act_687 : decode cL_act 687 = .ok (.aload_n 0, 1) := by decide +kernel
theorem dL_act_688 : decode cL_act 688 = .ok (.iload 7, 2) := by decide +kernel
theorem dL_act_690 : decode cL_act 690 = .ok (.invokevirtual 100, 3) := by decide +kernel
theorem dL_act_693 : decode cL_act 693 = .ok (.istore 5, 2) := by decide +kernel
theorem dL_act_695 : decode cL_act 695 = .ok (.goto 9, 3) := by decide +kernel
theorem dL_act_698 : decode cL_act 698 = .ok (.astore 8, 2) := by decide +kernel
theorem dL_act_700 : decode cL_act 700 = .ok (.bipush (-9), 2) := by decide +kernel
theorem dL_act_702 : decode cL_act 702 = .ok (.istore 5, 2) := by decide +kernel
theorem dL_act_704 : decode cL_act 704 = .ok (.iload 5, 2) := by decide +kernel
theorem dL_act_706 : decode cL_act 706 = .ok (.iload 6, 2) := by decide +kernel
theorem dL_act_708 : decode cL_act 708 = .ok (.if_icmp .ne 7, 3) := by decide +kernel
theorem dL_act_711 : decode cL_act 711 = .ok (.iconst 1, 1) := by decide +kernel
theorem dL_act_712 : decode cL_act 712 = .ok (.goto 4, 3) := by decide +kernel
theorem dL_act_715 : decode cL_act 715 = .ok (.iconst 0, 1) := by decide +kernel
theorem dL_act_716 : decode cL_act 716 = .ok (.ireturn, 1) := by decide +kernel
theorem dL_build_0 : decode cL_build 0 = .ok (.new 10, 3) := by decide +kernel
theorem dL_build_3 : decode cL_build 3 = .ok (.dup, 1) := by decide +kernel
theorem dL_build_4 : decode cL_build 4 = .ok (.invokespecial 103, 3) := by decide +kernel
theorem dL_build_7 : decode cL_build 7 = .ok (.astore_n 2, 1) := by decide +kernel
theorem dL_build_8 : decode cL_build 8 = .ok (.iconst 1, 1) := by decide +kernel
theorem dL_build_9 : decode cL_build 9 = .ok (.aload_n 1, 1) := by decide +kernel
theorem dL_build_10 : decode cL_build 10 = .ok (.iconst 0, 1) := by decide +kernel
theorem dL_build_11 : decode cL_build 11 = .ok (.invokestatic 104, 3) := by decide +kernel
theorem dL_build_14 : decode cL_build 14 = .ok (.bipush 10, 2) := by decide +kernel
theorem dL_build_16 : decode cL_build 16 = .ok (.invokestatic 15, 3) := by decide +kernel
theorem dL_build_19 : decode cL_build 19 = .ok (.iadd, 1) := by decide +kernel
theorem dL_build_20 : decode cL_build 20 = .ok (.istore_n 3, 1) := by decide +kernel
theorem dL_build_21 : decode cL_build 21 = .ok (.iconst 0, 1) := by decide +kernel
theorem dL_build_22 : decode cL_build 22 = .ok (.istore 4, 2) := by decide +kernel
theorem dL_build_24 : decode cL_build 24 = .ok (.iload 4, 2) := by decide +kernel
theorem dL_build_26 : decode cL_build 26 = .ok (.iload_n 3, 1) := by decide +kernel
theorem dL_build_27 : decode cL_build 27 = .ok (.if_icmp .ge 179, 3) := by decide +kernel
theorem dL_build_30 : decode cL_build 30 = .ok (.aload_n 2, 1) := by decide +kernel
theorem dL_build_31 : decode cL_build 31 = .ok (.invokevirtual 21, 3) := by decide +kernel
theorem dL_build_34 : decode cL_build 34 = .ok (.aload_n 0, 1) := by decide +kernel
theorem dL_build_35 : decode cL_build 35 = .ok (.invokevirtual 24, 3) := by decide +kernel
theorem dL_build_38 : decode cL_build 38 = .ok (.iload 4, 2) := by decide +kernel
theorem dL_build_40 : decode cL_build 40 = .ok (.if_icmp .eq 5, 3) := by decide +kernel
theorem dL_build_43 : decode cL_build 43 = .ok (.aconst_null, 1) := by decide +kernel
theorem dL_build_44 : decode cL_build 44 = .ok (.areturn, 1) := by decide +kernel
theorem dL_build_45 : decode cL_build 45 = .ok (.aload_n 1, 1) := by decide +kernel
theorem dL_build_46 : decode cL_build 46 = .ok (.iconst 1, 1) := by decide +kernel
theorem dL_build_47 : decode cL_build 47 = .ok (.iload 4, 2) := by decide +kernel
theorem dL_build_49 : decode cL_build 49 = .ok (.iadd, 1) := by decide +kernel
theorem dL_build_50 : decode cL_build 50 = .ok (.invokestatic 104, 3) := by decide +kernel
theorem dL_build_53 : decode cL_build 53 = .ok (.istore 5, 2) := by decide +kernel
theorem dL_build_55 : decode cL_build 55 = .ok (.iconst 0, 1) := by decide +kernel
theorem dL_build_56 : decode cL_build 56 = .ok (.istore 6, 2) := by decide +kernel
theorem dL_build_58 : decode cL_build 58 = .ok (.iload 4, 2) := by decide +kernel
theorem dL_build_60 : decode cL_build 60 = .ok (.ifCond .le 106, 3) := by decide +kernel
theorem dL_build_63 : decode cL_build 63 = .ok (.iload 6, 2) := by decide +kernel
theorem dL_build_65 : decode cL_build 65 = .ok (.iconst 1, 1) := by decide +kernel
theorem dL_build_66 : decode cL_build 66 = .ok (.iload 5, 2) := by decide +kernel
theorem dL_build_68 : decode cL_build 68 = .ok (.iconst 2, 1) := by decide +kernel
theorem dL_build_69 : decode cL_build 69 = .ok (.invokestatic 15, 3) := by decide +kernel
theorem dL_build_72 : decode cL_build 72 = .ok (.iadd, 1) := by decide +kernel
theorem dL_build_73 : decode cL_build 73 = .ok (.if_icmp .ge 93, 3) := by decide +kernel
theorem dL_build_76 : decode cL_build 76 = .ok (.iload 5, 2) := by decide +kernel
theorem dL_build_78 : decode cL_build 78 = .ok (.iconst 3, 1) := by decide +kernel
theorem dL_build_79 : decode cL_build 79 = .ok (.ishr, 1) := by decide +kernel
theorem dL_build_80 : decode cL_build 80 = .ok (.iload 6, 2) := by decide +kernel
theorem dL_build_82 : decode cL_build 82 = .ok (.iadd, 1) := by decide +kernel
theorem dL_build_83 : decode cL_build 83 = .ok (.iload 4, 2) := by decide +kernel
theorem dL_build_85 : decode cL_build 85 = .ok (.invokestatic 15, 3) := by decide +kernel
theorem dL_build_88 : decode cL_build 88 = .ok (.istore 7, 2) := by decide +kernel
theorem dL_build_90 : decode cL_build 90 = .ok (.iconst 1, 1) := by decide +kernel
theorem dL_build_91 : decode cL_build 91 = .ok (.iload 5, 2) := by decide +kernel
theorem dL_build_93 : decode cL_build 93 = .ok (.iconst 5, 1) := by decide +kernel
theorem dL_build_94 : decode cL_build 94 = .ok (.ishr, 1) := by decide +kernel
theorem dL_build_95 : decode cL_build 95 = .ok (.iconst 3, 1) := by decide +kernel
theorem dL_build_96 : decode cL_build 96 = .ok (.iload 6, 2) := by decide +kernel
theorem dL_build_98 : decode cL_build 98 = .ok (.imul, 1) := by decide +kernel
theorem dL_build_99 : decode cL_build 99 = .ok (.iadd, 1) := by decide +kernel
theorem dL_build_100 : decode cL_build 100 = .ok (.bipush 9, 2) := by decide +kernel
theorem dL_build_102 : decode cL_build 102 = .ok (.invokestatic 15, 3) := by decide +kernel
theorem dL_build_105 : decode cL_build 105 = .ok (.iadd, 1) := by decide +kernel
theorem dL_build_106 : decode cL_build 106 = .ok (.istore 8, 2) := by decide +kernel
theorem dL_build_108 : decode cL_build 108 = .ok (.aload_n 2, 1) := by decide +kernel
theorem dL_build_109 : decode cL_build 109 = .ok (.getfield 9, 3) := by decide +kernel
theorem dL_build_112 : decode cL_build 112 = .ok (.iload 4, 2) := by decide +kernel
theorem dL_build_114 : decode cL_build 114 = .ok (.aaload, 1) := by decide +kernel
theorem dL_build_115 : decode cL_build 115 = .ok (.arraylength, 1) := by decide +kernel
theorem dL_build_116 : decode cL_build 116 = .ok (.iconst 4, 1) := by decide +kernel
theorem dL_build_117 : decode cL_build 117 = .ok (.if_icmp .eq 43, 3) := by decide +kernel
theorem dL_build_120 : decode cL_build 120 = .ok (.aload_n 2, 1) := by decide +kernel
theorem dL_build_121 : decode cL_build 121 = .ok (.getfield 9, 3) := by decide +kernel
theorem dL_build_124 : decode cL_build 124 = .ok (.iload 7, 2) := by decide +kernel
theorem dL_build_126 : decode cL_build 126 = .ok (.aaload, 1) := by decide +kernel
theorem dL_build_127 : decode cL_build 127 = .ok (.arraylength, 1) := by decide +kernel
theorem dL_build_128 : decode cL_build 128 = .ok (.iconst 4, 1) := by decide +kernel
theorem dL_build_129 : decode cL_build 129 = .ok (.if_icmp .ne 6, 3) := by decide +kernel
theorem dL_build_132 : decode cL_build 132 = .ok (.goto 28, 3) := by decide +kernel
theorem dL_build_135 : decode cL_build 135 = .ok (.aload_n 0, 1) := by decide +kernel
theorem dL_build_136 : decode cL_build 136 = .ok (.iload 4, 2) := by decide +kernel
theorem dL_build_138 : decode cL_build 138 = .ok (.iload 7, 2) := by decide +kernel
theorem dL_build_140 : decode cL_build 140 = .ok (.iload 8, 2) := by decide +kernel
theorem dL_build_142 : decode cL_build 142 = .ok (.invokevirtual 36, 3) := by decide +kernel
theorem dL_build_145 : decode cL_build 145 = .ok (.aload_n 2, 1) := by decide +kernel
theorem dL_build_146 : decode cL_build 146 = .ok (.iload 4, 2) := by decide +kernel
theorem dL_build_148 : decode cL_build 148 = .ok (.iload 7, 2) := by decide +kernel
theorem dL_build_150 : decode cL_build 150 = .ok (.iload 8, 2) := by decide +kernel
theorem dL_build_152 : decode cL_build 152 = .ok (.invokevirtual 32, 3) := by decide +kernel
theorem dL_build_155 : decode cL_build 155 = .ok (.if_icmp .eq 5, 3) := by decide +kernel
theorem dL_build_158 : decode cL_build 158 = .ok (.aconst_null, 1) := by decide +kernel
theorem dL_build_159 : decode cL_build 159 = .ok (.areturn, 1) := by decide +kernel
theorem dL_build_160 : decode cL_build 160 = .ok (.iinc 6 1, 3) := by decide +kernel
theorem dL_build_163 : decode cL_build 163 = .ok (.goto (-105), 3) := by decide +kernel
theorem dL_build_166 : decode cL_build 166 = .ok (.iload 5, 2) := by decide +kernel
theorem dL_build_168 : decode cL_build 168 = .ok (.bipush 7, 2) := by decide +kernel
theorem dL_build_170 : decode cL_build 170 = .ok (.ishr, 1) := by decide +kernel
theorem dL_build_171 : decode cL_build 171 = .ok (.iconst 4, 1) := by decide +kernel
theorem dL_build_172 : decode cL_build 172 = .ok (.invokestatic 15, 3) := by decide +kernel
theorem dL_build_175 : decode cL_build 175 = .ok (.ifCond .le 6, 3) := by decide +kernel
theorem dL_build_178 : decode cL_build 178 = .ok (.goto 22, 3) := by decide +kernel
theorem dL_build_181 : decode cL_build 181 = .ok (.aload_n 2, 1) := by decide +kernel
theorem dL_build_182 : decode cL_build 182 = .ok (.getfield 46, 3) := by decide +kernel
theorem dL_build_185 : decode cL_build 185 = .ok (.iload 4, 2) := by decide +kernel
theorem dL_build_187 : decode cL_build 187 = .ok (.iconst 1, 1) := by decide +kernel
theorem dL_build_188 : decode cL_build 188 = .ok (.bastore, 1) := by decide +kernel
theorem dL_build_189 : decode cL_build 189 = .ok (.aload_n 0, 1) := by decide +kernel
theorem dL_build_190 : decode cL_build 190 = .ok (.iload 4, 2) := by decide +kernel
theorem dL_build_192 : decode cL_build 192 = .ok (.invokevirtual 50, 3) := by decide +kernel
theorem dL_build_195 : decode cL_build 195 = .ok (.ifCond .ne 5, 3) := by decide +kernel
theorem dL_build_198 : decode cL_build 198 = .ok (.aconst_null, 1) := by decide +kernel
theorem dL_build_199 : decode cL_build 199 = .ok (.areturn, 1) := by decide +kernel
theorem dL_build_200 : decode cL_build 200 = .ok (.iinc 4 1, 3) := by decide +kernel
theorem dL_build_203 : decode cL_build 203 = .ok (.goto (-179), 3) := by decide +kernel
theorem dL_build_206 : decode cL_build 206 = .ok (.aload_n 2, 1) := by decide +kernel
theorem dL_build_207 : decode cL_build 207 = .ok (.areturn, 1) := by decide +kernel
theorem dL_law_0 : decode cL_law 0 = .ok (.new 25, 3) := by decide +kernel
theorem dL_law_3 : decode cL_law 3 = .ok (.dup, 1) := by decide +kernel
theorem dL_law_4 : decode cL_law 4 = .ok (.invokespecial 108, 3) := by decide +kernel
theorem dL_law_7 : decode cL_law 7 = .ok (.astore_n 1, 1) := by decide +kernel
theorem dL_law_8 : decode cL_law 8 = .ok (.aload_n 1, 1) := by decide +kernel
theorem dL_law_9 : decode cL_law 9 = .ok (.aload_n 0, 1) := by decide +kernel
theorem dL_law_10 : decode cL_law 10 = .ok (.invokestatic 109, 3) := by decide +kernel
theorem dL_law_13 : decode cL_law 13 = .ok (.astore_n 2, 1) := by decide +kernel
theorem dL_law_14 : decode cL_law 14 = .ok (.aload_n 2, 1) := by decide +kernel
theorem dL_law_15 : decode cL_law 15 = .ok (.ifnonnull 5, 3) := by decide +kernel
theorem dL_law_18 : decode cL_law 18 = .ok (.iconst 0, 1) := by decide +kernel
theorem dL_law_19 : decode cL_law 19 = .ok (.ireturn, 1) := by decide +kernel
theorem dL_law_20 : decode cL_law 20 = .ok (.iconst 0, 1) := by decide +kernel
theorem dL_law_21 : decode cL_law 21 = .ok (.istore_n 3, 1) := by decide +kernel
theorem dL_law_22 : decode cL_law 22 = .ok (.iload_n 3, 1) := by decide +kernel
theorem dL_law_23 : decode cL_law 23 = .ok (.bipush 12, 2) := by decide +kernel
theorem dL_law_25 : decode cL_law 25 = .ok (.if_icmp .ge 999, 3) := by decide +kernel
theorem dL_law_28 : decode cL_law 28 = .ok (.aload_n 0, 1) := by decide +kernel
theorem dL_law_29 : decode cL_law 29 = .ok (.iload_n 3, 1) := by decide +kernel
theorem dL_law_30 : decode cL_law 30 = .ok (.invokestatic 104, 3) := by decide +kernel
theorem dL_law_33 : decode cL_law 33 = .ok (.iconst 2, 1) := by decide +kernel
theorem dL_law_34 : decode cL_law 34 = .ok (.ishr, 1) := by decide +kernel
theorem dL_law_35 : decode cL_law 35 = .ok (.bipush 53, 2) := by decide +kernel
theorem dL_law_37 : decode cL_law 37 = .ok (.iload_n 3, 1) := by decide +kernel
theorem dL_law_38 : decode cL_law 38 = .ok (.imul, 1) := by decide +kernel
theorem dL_law_39 : decode cL_law 39 = .ok (.iadd, 1) := by decide +kernel
theorem dL_law_40 : decode cL_law 40 = .ok (.istore 4, 2) := by decide +kernel
theorem dL_law_42 : decode cL_law 42 = .ok (.iconst 0, 1) := by decide +kernel
theorem dL_law_43 : decode cL_law 43 = .ok (.istore 5, 2) := by decide +kernel
theorem dL_law_45 : decode cL_law 45 = .ok (.iload 5, 2) := by decide +kernel
theorem dL_law_47 : decode cL_law 47 = .ok (.iconst 4, 1) := by decide +kernel
theorem dL_law_48 : decode cL_law 48 = .ok (.if_icmp .ge 32, 3) := by decide +kernel
theorem dL_law_51 : decode cL_law 51 = .ok (.aload_n 1, 1) := by decide +kernel
theorem dL_law_52 : decode cL_law 52 = .ok (.aload_n 2, 1) := by decide +kernel
theorem dL_law_53 : decode cL_law 53 = .ok (.iload 4, 2) := by decide +kernel
theorem dL_law_55 : decode cL_law 55 = .ok (.iconst 3, 1) := by decide +kernel
theorem dL_law_56 : decode cL_law 56 = .ok (.iload 5, 2) := by decide +kernel
theorem dL_law_58 : decode cL_law 58 = .ok (.imul, 1) := by decide +kernel
theorem dL_law_59 : decode cL_law 59 = .ok (.ishr, 1) := by decide +kernel
theorem dL_law_60 : decode cL_law 60 = .ok (.bipush 29, 2) := by decide +kernel
theorem dL_law_62 : decode cL_law 62 = .ok (.iload 5, 2) := by decide +kernel
theorem dL_law_64 : decode cL_law 64 = .ok (.imul, 1) := by decide +kernel
theorem dL_law_65 : decode cL_law 65 = .ok (.iadd, 1) := by decide +kernel
theorem dL_law_66 : decode cL_law 66 = .ok (.invokestatic 113, 3) := by decide +kernel
theorem dL_law_69 : decode cL_law 69 = .ok (.ifCond .ne 5, 3) := by decide +kernel
theorem dL_law_72 : decode cL_law 72 = .ok (.iconst 0, 1) := by decide +kernel
theorem dL_law_73 : decode cL_law 73 = .ok (.ireturn, 1) := by decide +kernel
theorem dL_law_74 : decode cL_law 74 = .ok (.iinc 5 1, 3) := by decide +kernel
theorem dL_law_77 : decode cL_law 77 = .ok (.goto (-32), 3) := by decide +kernel
theorem dL_law_80 : decode cL_law 80 = .ok (.aload_n 1, 1) := by decide +kernel
theorem dL_law_81 : decode cL_law 81 = .ok (.invokevirtual 117, 3) := by decide +kernel
theorem dL_law_84 : decode cL_law 84 = .ok (.lstore 5, 2) := by decide +kernel
theorem dL_law_86 : decode cL_law 86 = .ok (.aload_n 1, 1) := by decide +kernel
theorem dL_law_87 : decode cL_law 87 = .ok (.invokevirtual 121, 3) := by decide +kernel
theorem dL_law_90 : decode cL_law 90 = .ok (.istore 7, 2) := by decide +kernel
theorem dL_law_92 : decode cL_law 92 = .ok (.aload_n 1, 1) := by decide +kernel
theorem dL_law_93 : decode cL_law 93 = .ok (.invokevirtual 124, 3) := by decide +kernel
theorem dL_law_96 : decode cL_law 96 = .ok (.ifCond .ge 7, 3) := by decide +kernel
theorem dL_law_99 : decode cL_law 99 = .ok (.iconst 1, 1) := by decide +kernel
theorem dL_law_100 : decode cL_law 100 = .ok (.goto 4, 3) := by decide +kernel
theorem dL_law_103 : decode cL_law 103 = .ok (.iconst 0, 1) := by decide +kernel
theorem dL_law_104 : decode cL_law 104 = .ok (.istore 8, 2) := by decide +kernel
theorem dL_law_106 : decode cL_law 106 = .ok (.aload_n 1, 1) := by decide +kernel
theorem dL_law_107 : decode cL_law 107 = .ok (.invokevirtual 126, 3) := by decide +kernel
theorem dL_law_110 : decode cL_law 110 = .ok (.ifCond .lt 53, 3) := by decide +kernel
theorem dL_law_113 : decode cL_law 113 = .ok (.aload_n 1, 1) := by decide +kernel
theorem dL_law_114 : decode cL_law 114 = .ok (.invokevirtual 126, 3) := by decide +kernel
theorem dL_law_117 : decode cL_law 117 = .ok (.aload_n 1, 1) := by decide +kernel
theorem dL_law_118 : decode cL_law 118 = .ok (.invokevirtual 129, 3) := by decide +kernel
theorem dL_law_121 : decode cL_law 121 = .ok (.if_icmp .gt 42, 3) := by decide +kernel
theorem dL_law_124 : decode cL_law 124 = .ok (.aload_n 1, 1) := by decide +kernel
theorem dL_law_125 : decode cL_law 125 = .ok (.invokevirtual 132, 3) := by decide +kernel
theorem dL_law_128 : decode cL_law 128 = .ok (.ifCond .lt 35, 3) := by decide +kernel
theorem dL_law_131 : decode cL_law 131 = .ok (.aload_n 1, 1) := by decide +kernel
theorem dL_law_132 : decode cL_law 132 = .ok (.invokevirtual 132, 3) := by decide +kernel
theorem dL_law_135 : decode cL_law 135 = .ok (.bipush 99, 2) := by decide +kernel
theorem dL_law_137 : decode cL_law 137 = .ok (.if_icmp .gt 26, 3) := by decide +kernel
theorem dL_law_140 : decode cL_law 140 = .ok (.iload 8, 2) := by decide +kernel
theorem dL_law_142 : decode cL_law 142 = .ok (.ifCond .eq 10, 3) := by decide +kernel
theorem dL_law_145 : decode cL_law 145 = .ok (.aload_n 1, 1) := by decide +kernel
theorem dL_law_146 : decode cL_law 146 = .ok (.invokevirtual 134, 3) := by decide +kernel
theorem dL_law_149 : decode cL_law 149 = .ok (.ifCond .ne 14, 3) := by decide +kernel
theorem dL_law_152 : decode cL_law 152 = .ok (.aload_n 1, 1) := by decide +kernel
theorem dL_law_153 : decode cL_law 153 = .ok (.aload_n 1, 1) := by decide +kernel
theorem dL_law_154 : decode cL_law 154 = .ok (.invokevirtual 137, 3) := by decide +kernel
theorem dL_law_157 : decode cL_law 157 = .ok (.invokevirtual 140, 3) := by decide +kernel
theorem dL_law_160 : decode cL_law 160 = .ok (.ifCond .ne 5, 3) := by decide +kernel
theorem dL_law_163 : decode cL_law 163 = .ok (.iconst 0, 1) := by decide +kernel
theorem dL_law_164 : decode cL_law 164 = .ok (.ireturn, 1) := by decide +kernel
theorem dL_law_165 : decode cL_law 165 = .ok (.iconst 0, 1) := by decide +kernel
theorem dL_law_166 : decode cL_law 166 = .ok (.istore 9, 2) := by decide +kernel
theorem dL_law_168 : decode cL_law 168 = .ok (.iload 9, 2) := by decide +kernel
theorem dL_law_170 : decode cL_law 170 = .ok (.iload 7, 2) := by decide +kernel
theorem dL_law_172 : decode cL_law 172 = .ok (.if_icmp .ge 410, 3) := by decide +kernel
theorem dL_law_175 : decode cL_law 175 = .ok (.iconst 0, 1) := by decide +kernel
theorem dL_law_176 : decode cL_law 176 = .ok (.istore 10, 2) := by decide +kernel
theorem dL_law_178 : decode cL_law 178 = .ok (.iload 10, 2) := by decide +kernel
theorem dL_law_180 : decode cL_law 180 = .ok (.aload_n 1, 1) := by decide +kernel
theorem dL_law_181 : decode cL_law 181 = .ok (.iload 9, 2) := by decide +kernel
theorem dL_law_183 : decode cL_law 183 = .ok (.invokevirtual 143, 3) := by decide +kernel
theorem dL_law_186 : decode cL_law 186 = .ok (.if_icmp .ge 193, 3) := by decide +kernel
theorem dL_law_189 : decode cL_law 189 = .ok (.aload_n 1, 1) := by decide +kernel
theorem dL_law_190 : decode cL_law 190 = .ok (.iload 9, 2) := by decide +kernel
theorem dL_law_192 : decode cL_law 192 = .ok (.iload 10, 2) := by decide +kernel
theorem dL_law_194 : decode cL_law 194 = .ok (.invokevirtual 146, 3) := by decide +kernel
theorem dL_law_197 : decode cL_law 197 = .ok (.istore 11, 2) := by decide +kernel
theorem dL_law_199 : decode cL_law 199 = .ok (.iconst 0, 1) := by decide +kernel
theorem dL_law_200 : decode cL_law 200 = .ok (.istore 12, 2) := by decide +kernel
theorem dL_law_202 : decode cL_law 202 = .ok (.iconst 0, 1) := by decide +kernel
theorem dL_law_203 : decode cL_law 203 = .ok (.istore 13, 2) := by decide +kernel
theorem dL_law_205 : decode cL_law 205 = .ok (.iload 13, 2) := by decide +kernel
theorem dL_law_207 : decode cL_law 207 = .ok (.aload_n 1, 1) := by decide +kernel
theorem dL_law_208 : decode cL_law 208 = .ok (.iload 11, 2) := by decide +kernel
theorem dL_law_210 : decode cL_law 210 = .ok (.invokevirtual 143, 3) := by decide +kernel
theorem dL_law_213 : decode cL_law 213 = .ok (.if_icmp .ge 89, 3) := by decide +kernel
theorem dL_law_216 : decode cL_law 216 = .ok (.iload 12, 2) := by decide +kernel
theorem dL_law_218 : decode cL_law 218 = .ok (.aload_n 1, 1) := by decide +kernel
theorem dL_law_219 : decode cL_law 219 = .ok (.iload 11, 2) := by decide +kernel
theorem dL_law_221 : decode cL_law 221 = .ok (.iload 13, 2) := by decide +kernel
theorem dL_law_223 : decode cL_law 223 = .ok (.invokevirtual 146, 3) := by decide +kernel
theorem dL_law_226 : decode cL_law 226 = .ok (.iload 9, 2) := by decide +kernel
theorem dL_law_228 : decode cL_law 228 = .ok (.if_icmp .ne 64, 3) := by decide +kernel
theorem dL_law_231 : decode cL_law 231 = .ok (.aload_n 1, 1) := by decide +kernel
theorem dL_law_232 : decode cL_law 232 = .ok (.iload 11, 2) := by decide +kernel
theorem dL_law_234 : decode cL_law 234 = .ok (.iload 13, 2) := by decide +kernel
theorem dL_law_236 : decode cL_law 236 = .ok (.invokevirtual 149, 3) := by decide +kernel
theorem dL_law_239 : decode cL_law 239 = .ok (.aload_n 1, 1) := by decide +kernel
theorem dL_law_240 : decode cL_law 240 = .ok (.iload 9, 2) := by decide +kernel
theorem dL_law_242 : decode cL_law 242 = .ok (.iload 10, 2) := by decide +kernel
theorem dL_law_244 : decode cL_law 244 = .ok (.invokevirtual 149, 3) := by decide +kernel
theorem dL_law_247 : decode cL_law 247 = .ok (.if_icmp .ne 45, 3) := by decide +kernel
theorem dL_law_250 : decode cL_law 250 = .ok (.aload_n 1, 1) := by decide +kernel
theorem dL_law_251 : decode cL_law 251 = .ok (.iload 11, 2) := by decide +kernel
theorem dL_law_253 : decode cL_law 253 = .ok (.iload 13, 2) := by decide +kernel
theorem dL_law_255 : decode cL_law 255 = .ok (.invokevirtual 152, 3) := by decide +kernel
theorem dL_law_258 : decode cL_law 258 = .ok (.aload_n 1, 1) := by decide +kernel
theorem dL_law_259 : decode cL_law 259 = .ok (.iload 9, 2) := by decide +kernel
theorem dL_law_261 : decode cL_law 261 = .ok (.iload 10, 2) := by decide +kernel
theorem dL_law_263 : decode cL_law 263 = .ok (.invokevirtual 152, 3) := by decide +kernel
theorem dL_law_266 : decode cL_law 266 = .ok (.if_icmp .ne 26, 3) := by decide +kernel
theorem dL_law_269 : decode cL_law 269 = .ok (.aload_n 1, 1) := by decide +kernel
theorem dL_law_270 : decode cL_law 270 = .ok (.iload 11, 2) := by decide +kernel
theorem dL_law_272 : decode cL_law 272 = .ok (.iload 13, 2) := by decide +kernel
theorem dL_law_274 : decode cL_law 274 = .ok (.invokevirtual 155, 3) := by decide +kernel
theorem dL_law_277 : decode cL_law 277 = .ok (.aload_n 1, 1) := by decide +kernel
theorem dL_law_278 : decode cL_law 278 = .ok (.iload 9, 2) := by decide +kernel
theorem dL_law_280 : decode cL_law 280 = .ok (.iload 10, 2) := by decide +kernel
theorem dL_law_282 : decode cL_law 282 = .ok (.invokevirtual 155, 3) := by decide +kernel
theorem dL_law_285 : decode cL_law 285 = .ok (.if_icmp .ne 7, 3) := by decide +kernel
theorem dL_law_288 : decode cL_law 288 = .ok (.iconst 1, 1) := by decide +kernel
theorem dL_law_289 : decode cL_law 289 = .ok (.goto 4, 3) := by decide +kernel
theorem dL_law_292 : decode cL_law 292 = .ok (.iconst 0, 1) := by decide +kernel
theorem dL_law_293 : decode cL_law 293 = .ok (.ior, 1) := by decide +kernel
theorem dL_law_294 : decode cL_law 294 = .ok (.istore 12, 2) := by decide +kernel
