theorem dHL_close_48 : decode bHL_close 48 = .ok (.dup, 1) := by decide +kernel
theorem dHL_close_49 : decode bHL_close 49 = .ok (.ldc 75, 2) := by decide +kernel
theorem dHL_close_51 : decode bHL_close 51 = .ok (.invokespecial 77, 3) := by decide +kernel
theorem dHL_close_54 : decode bHL_close 54 = .ok (.athrow, 1) := by decide +kernel
theorem dLA_close_0 : decode bLA_close 0 = .ok (.aload_n 2, 1) := by decide +kernel
theorem dLA_close_1 : decode bLA_close 1 = .ok (.iconst 0, 1) := by decide +kernel
theorem dLA_close_2 : decode bLA_close 2 = .ok (.aload_n 0, 1) := by decide +kernel
theorem dLA_close_3 : decode bLA_close 3 = .ok (.iload_n 1, 1) := by decide +kernel
theorem dLA_close_4 : decode bLA_close 4 = .ok (.invokevirtual 7, 3) := by decide +kernel
theorem dLA_close_7 : decode bLA_close 7 = .ok (.i2l, 1) := by decide +kernel
theorem dLA_close_8 : decode bLA_close 8 = .ok (.lastore, 1) := by decide +kernel
theorem dLA_close_9 : decode bLA_close 9 = .ok (.goto 6, 3) := by decide +kernel
theorem dLA_close_12 : decode bLA_close 12 = .ok (.astore_n 3, 1) := by decide +kernel
theorem dLA_close_13 : decode bLA_close 13 = .ok (.iconst 1, 1) := by decide +kernel
theorem dLA_close_14 : decode bLA_close 14 = .ok (.ireturn, 1) := by decide +kernel
theorem dLA_close_15 : decode bLA_close 15 = .ok (.iconst 0, 1) := by decide +kernel
theorem dLA_close_16 : decode bLA_close 16 = .ok (.ireturn, 1) := by decide +kernel
theorem dLA_law_0 : decode bLA_law 0 = .ok (.new 8, 3) := by decide +kernel
theorem dLA_law_3 : decode bLA_law 3 = .ok (.dup, 1) := by decide +kernel
theorem dLA_law_4 : decode bLA_law 4 = .ok (.invokespecial 15, 3) := by decide +kernel
theorem dLA_law_7 : decode bLA_law 7 = .ok (.astore_n 1, 1) := by decide +kernel
theorem dLA_law_8 : decode bLA_law 8 = .ok (.new 16, 3) := by decide +kernel
theorem dLA_law_11 : decode bLA_law 11 = .ok (.dup, 1) := by decide +kernel
theorem dLA_law_12 : decode bLA_law 12 = .ok (.invokespecial 18, 3) := by decide +kernel
theorem dLA_law_15 : decode bLA_law 15 = .ok (.astore_n 2, 1) := by decide +kernel
theorem dLA_law_16 : decode bLA_law 16 = .ok (.iconst 1, 1) := by decide +kernel
theorem dLA_law_17 : decode bLA_law 17 = .ok (.newarray .long, 2) := by decide +kernel
theorem dLA_law_19 : decode bLA_law 19 = .ok (.astore_n 3, 1) := by decide +kernel
theorem dLA_law_20 : decode bLA_law 20 = .ok (.iconst 0, 1) := by decide +kernel
theorem dLA_law_21 : decode bLA_law 21 = .ok (.istore 4, 2) := by decide +kernel
theorem dLA_law_23 : decode bLA_law 23 = .ok (.iload 4, 2) := by decide +kernel
theorem dLA_law_25 : decode bLA_law 25 = .ok (.aload_n 0, 1) := by decide +kernel
theorem dLA_law_26 : decode bLA_law 26 = .ok (.arraylength, 1) := by decide +kernel
theorem dLA_law_27 : decode bLA_law 27 = .ok (.bipush 6, 2) := by decide +kernel
theorem dLA_law_29 : decode bLA_law 29 = .ok (.isub, 1) := by decide +kernel
theorem dLA_law_30 : decode bLA_law 30 = .ok (.if_icmp .gt 1386, 3) := by decide +kernel
theorem dLA_law_33 : decode bLA_law 33 = .ok (.aload_n 0, 1) := by decide +kernel
theorem dLA_law_34 : decode bLA_law 34 = .ok (.iload 4, 2) := by decide +kernel
theorem dLA_law_36 : decode bLA_law 36 = .ok (.iaload, 1) := by decide +kernel
theorem dLA_law_37 : decode bLA_law 37 = .ok (.bipush 31, 2) := by decide +kernel
theorem dLA_law_39 : decode bLA_law 39 = .ok (.iand, 1) := by decide +kernel
theorem dLA_law_40 : decode bLA_law 40 = .ok (.tableswitch 1370 0 22 #[108, 133, 190, 271, 299, 368, 481, 518, 555, 624, 737, 774, 811, 892, 941, 954, 995, 1020, 1089, 1170, 1271, 1320, 1345], 108) := by decide +kernel
theorem dLA_law_148 : decode bLA_law 148 = .ok (.aload_n 1, 1) := by decide +kernel
theorem dLA_law_149 : decode bLA_law 149 = .ok (.aload_n 0, 1) := by decide +kernel
theorem dLA_law_150 : decode bLA_law 150 = .ok (.iload 4, 2) := by decide +kernel
theorem dLA_law_152 : decode bLA_law 152 = .ok (.iconst 1, 1) := by decide +kernel
theorem dLA_law_153 : decode bLA_law 153 = .ok (.iadd, 1) := by decide +kernel
theorem dLA_law_154 : decode bLA_law 154 = .ok (.iaload, 1) := by decide +kernel
theorem dLA_law_155 : decode bLA_law 155 = .ok (.invokevirtual 19, 3) := by decide +kernel
theorem dLA_law_158 : decode bLA_law 158 = .ok (.pop, 1) := by decide +kernel
theorem dLA_law_159 : decode bLA_law 159 = .ok (.aload_n 2, 1) := by decide +kernel
theorem dLA_law_160 : decode bLA_law 160 = .ok (.aload_n 0, 1) := by decide +kernel
theorem dLA_law_161 : decode bLA_law 161 = .ok (.iload 4, 2) := by decide +kernel
theorem dLA_law_163 : decode bLA_law 163 = .ok (.iconst 1, 1) := by decide +kernel
theorem dLA_law_164 : decode bLA_law 164 = .ok (.iadd, 1) := by decide +kernel
theorem dLA_law_165 : decode bLA_law 165 = .ok (.iaload, 1) := by decide +kernel
theorem dLA_law_166 : decode bLA_law 166 = .ok (.invokevirtual 22, 3) := by decide +kernel
theorem dLA_law_169 : decode bLA_law 169 = .ok (.pop, 1) := by decide +kernel
theorem dLA_law_170 : decode bLA_law 170 = .ok (.goto 1240, 3) := by decide +kernel
theorem dLA_law_173 : decode bLA_law 173 = .ok (.aload_n 1, 1) := by decide +kernel
theorem dLA_law_174 : decode bLA_law 174 = .ok (.aload_n 0, 1) := by decide +kernel
theorem dLA_law_175 : decode bLA_law 175 = .ok (.iload 4, 2) := by decide +kernel
theorem dLA_law_177 : decode bLA_law 177 = .ok (.iconst 1, 1) := by decide +kernel
theorem dLA_law_178 : decode bLA_law 178 = .ok (.iadd, 1) := by decide +kernel
theorem dLA_law_179 : decode bLA_law 179 = .ok (.iaload, 1) := by decide +kernel
theorem dLA_law_180 : decode bLA_law 180 = .ok (.i2l, 1) := by decide +kernel
theorem dLA_law_181 : decode bLA_law 181 = .ok (.bipush 32, 2) := by decide +kernel
theorem dLA_law_183 : decode bLA_law 183 = .ok (.lshl, 1) := by decide +kernel
theorem dLA_law_184 : decode bLA_law 184 = .ok (.aload_n 0, 1) := by decide +kernel
theorem dLA_law_185 : decode bLA_law 185 = .ok (.iload 4, 2) := by decide +kernel
theorem dLA_law_187 : decode bLA_law 187 = .ok (.iconst 2, 1) := by decide +kernel
theorem dLA_law_188 : decode bLA_law 188 = .ok (.iadd, 1) := by decide +kernel
theorem dLA_law_189 : decode bLA_law 189 = .ok (.iaload, 1) := by decide +kernel
theorem dLA_law_190 : decode bLA_law 190 = .ok (.i2l, 1) := by decide +kernel
theorem dLA_law_191 : decode bLA_law 191 = .ok (.ldc2_w 23, 3) := by decide +kernel
theorem dLA_law_194 : decode bLA_law 194 = .ok (.land, 1) := by decide +kernel
theorem dLA_law_195 : decode bLA_law 195 = .ok (.lor, 1) := by decide +kernel
theorem dLA_law_196 : decode bLA_law 196 = .ok (.invokevirtual 25, 3) := by decide +kernel
theorem dLA_law_199 : decode bLA_law 199 = .ok (.pop, 1) := by decide +kernel
theorem dLA_law_200 : decode bLA_law 200 = .ok (.aload_n 2, 1) := by decide +kernel
theorem dLA_law_201 : decode bLA_law 201 = .ok (.aload_n 0, 1) := by decide +kernel
theorem dLA_law_202 : decode bLA_law 202 = .ok (.iload 4, 2) := by decide +kernel
theorem dLA_law_204 : decode bLA_law 204 = .ok (.iconst 1, 1) := by decide +kernel
theorem dLA_law_205 : decode bLA_law 205 = .ok (.iadd, 1) := by decide +kernel
theorem dLA_law_206 : decode bLA_law 206 = .ok (.iaload, 1) := by decide +kernel
theorem dLA_law_207 : decode bLA_law 207 = .ok (.i2l, 1) := by decide +kernel
theorem dLA_law_208 : decode bLA_law 208 = .ok (.bipush 32, 2) := by decide +kernel
theorem dLA_law_210 : decode bLA_law 210 = .ok (.lshl, 1) := by decide +kernel
theorem dLA_law_211 : decode bLA_law 211 = .ok (.aload_n 0, 1) := by decide +kernel
theorem dLA_law_212 : decode bLA_law 212 = .ok (.iload 4, 2) := by decide +kernel
theorem dLA_law_214 : decode bLA_law 214 = .ok (.iconst 2, 1) := by decide +kernel
theorem dLA_law_215 : decode bLA_law 215 = .ok (.iadd, 1) := by decide +kernel
theorem dLA_law_216 : decode bLA_law 216 = .ok (.iaload, 1) := by decide +kernel
theorem dLA_law_217 : decode bLA_law 217 = .ok (.i2l, 1) := by decide +kernel
theorem dLA_law_218 : decode bLA_law 218 = .ok (.ldc2_w 23, 3) := by decide +kernel
theorem dLA_law_221 : decode bLA_law 221 = .ok (.land, 1) := by decide +kernel
theorem dLA_law_222 : decode bLA_law 222 = .ok (.lor, 1) := by decide +kernel
theorem dLA_law_223 : decode bLA_law 223 = .ok (.invokevirtual 29, 3) := by decide +kernel
theorem dLA_law_226 : decode bLA_law 226 = .ok (.pop, 1) := by decide +kernel
theorem dLA_law_227 : decode bLA_law 227 = .ok (.goto 1183, 3) := by decide +kernel
theorem dLA_law_230 : decode bLA_law 230 = .ok (.aload_n 1, 1) := by decide +kernel
theorem dLA_law_231 : decode bLA_law 231 = .ok (.aload_n 0, 1) := by decide +kernel
theorem dLA_law_232 : decode bLA_law 232 = .ok (.iload 4, 2) := by decide +kernel
theorem dLA_law_234 : decode bLA_law 234 = .ok (.iconst 1, 1) := by decide +kernel
theorem dLA_law_235 : decode bLA_law 235 = .ok (.iadd, 1) := by decide +kernel
theorem dLA_law_236 : decode bLA_law 236 = .ok (.iaload, 1) := by decide +kernel
theorem dLA_law_237 : decode bLA_law 237 = .ok (.aload_n 0, 1) := by decide +kernel
theorem dLA_law_238 : decode bLA_law 238 = .ok (.iload 4, 2) := by decide +kernel
theorem dLA_law_240 : decode bLA_law 240 = .ok (.iconst 2, 1) := by decide +kernel
theorem dLA_law_241 : decode bLA_law 241 = .ok (.iadd, 1) := by decide +kernel
theorem dLA_law_242 : decode bLA_law 242 = .ok (.iaload, 1) := by decide +kernel
theorem dLA_law_243 : decode bLA_law 243 = .ok (.aload_n 0, 1) := by decide +kernel
theorem dLA_law_244 : decode bLA_law 244 = .ok (.iload 4, 2) := by decide +kernel
theorem dLA_law_246 : decode bLA_law 246 = .ok (.iconst 3, 1) := by decide +kernel
theorem dLA_law_247 : decode bLA_law 247 = .ok (.iadd, 1) := by decide +kernel
theorem dLA_law_248 : decode bLA_law 248 = .ok (.iaload, 1) := by decide +kernel
theorem dLA_law_249 : decode bLA_law 249 = .ok (.i2l, 1) := by decide +kernel
theorem dLA_law_250 : decode bLA_law 250 = .ok (.bipush 32, 2) := by decide +kernel
theorem dLA_law_252 : decode bLA_law 252 = .ok (.lshl, 1) := by decide +kernel
theorem dLA_law_253 : decode bLA_law 253 = .ok (.aload_n 0, 1) := by decide +kernel
theorem dLA_law_254 : decode bLA_law 254 = .ok (.iload 4, 2) := by decide +kernel
theorem dLA_law_256 : decode bLA_law 256 = .ok (.iconst 4, 1) := by decide +kernel
theorem dLA_law_257 : decode bLA_law 257 = .ok (.iadd, 1) := by decide +kernel
theorem dLA_law_258 : decode bLA_law 258 = .ok (.iaload, 1) := by decide +kernel
theorem dLA_law_259 : decode bLA_law 259 = .ok (.i2l, 1) := by decide +kernel
theorem dLA_law_260 : decode bLA_law 260 = .ok (.ldc2_w 23, 3) := by decide +kernel
theorem dLA_law_263 : decode bLA_law 263 = .ok (.land, 1) := by decide +kernel
theorem dLA_law_264 : decode bLA_law 264 = .ok (.lor, 1) := by decide +kernel
theorem dLA_law_265 : decode bLA_law 265 = .ok (.invokevirtual 30, 3) := by decide +kernel
theorem dLA_law_268 : decode bLA_law 268 = .ok (.pop, 1) := by decide +kernel
theorem dLA_law_269 : decode bLA_law 269 = .ok (.aload_n 2, 1) := by decide +kernel
theorem dLA_law_270 : decode bLA_law 270 = .ok (.aload_n 0, 1) := by decide +kernel
theorem dLA_law_271 : decode bLA_law 271 = .ok (.iload 4, 2) := by decide +kernel
theorem dLA_law_273 : decode bLA_law 273 = .ok (.iconst 1, 1) := by decide +kernel
theorem dLA_law_274 : decode bLA_law 274 = .ok (.iadd, 1) := by decide +kernel
theorem dLA_law_275 : decode bLA_law 275 = .ok (.iaload, 1) := by decide +kernel
theorem dLA_law_276 : decode bLA_law 276 = .ok (.aload_n 0, 1) := by decide +kernel
theorem dLA_law_277 : decode bLA_law 277 = .ok (.iload 4, 2) := by decide +kernel
theorem dLA_law_279 : decode bLA_law 279 = .ok (.iconst 2, 1) := by decide +kernel
theorem dLA_law_280 : decode bLA_law 280 = .ok (.iadd, 1) := by decide +kernel
theorem dLA_law_281 : decode bLA_law 281 = .ok (.iaload, 1) := by decide +kernel
theorem dLA_law_282 : decode bLA_law 282 = .ok (.aload_n 0, 1) := by decide +kernel
theorem dLA_law_283 : decode bLA_law 283 = .ok (.iload 4, 2) := by decide +kernel
theorem dLA_law_285 : decode bLA_law 285 = .ok (.iconst 3, 1) := by decide +kernel
theorem dLA_law_286 : decode bLA_law 286 = .ok (.iadd, 1) := by decide +kernel
theorem dLA_law_287 : decode bLA_law 287 = .ok (.iaload, 1) := by decide +kernel
theorem dLA_law_288 : decode bLA_law 288 = .ok (.i2l, 1) := by decide +kernel
theorem dLA_law_289 : decode bLA_law 289 = .ok (.bipush 32, 2) := by decide +kernel
theorem dLA_law_291 : decode bLA_law 291 = .ok (.lshl, 1) := by decide +kernel
theorem dLA_law_292 : decode bLA_law 292 = .ok (.aload_n 0, 1) := by decide +kernel
theorem dLA_law_293 : decode bLA_law 293 = .ok (.iload 4, 2) := by decide +kernel
theorem dLA_law_295 : decode bLA_law 295 = .ok (.iconst 4, 1) := by decide +kernel
theorem dLA_law_296 : decode bLA_law 296 = .ok (.iadd, 1) := by decide +kernel
theorem dLA_law_297 : decode bLA_law 297 = .ok (.iaload, 1) := by decide +kernel
theorem dLA_law_298 : decode bLA_law 298 = .ok (.i2l, 1) := by decide +kernel
theorem dLA_law_299 : decode bLA_law 299 = .ok (.ldc2_w 23, 3) := by decide +kernel
theorem dLA_law_302 : decode bLA_law 302 = .ok (.land, 1) := by decide +kernel
theorem dLA_law_303 : decode bLA_law 303 = .ok (.lor, 1) := by decide +kernel
theorem dLA_law_304 : decode bLA_law 304 = .ok (.invokevirtual 34, 3) := by decide +kernel
theorem dLA_law_307 : decode bLA_law 307 = .ok (.pop, 1) := by decide +kernel
theorem dLA_law_308 : decode bLA_law 308 = .ok (.goto 1102, 3) := by decide +kernel
theorem dLA_law_311 : decode bLA_law 311 = .ok (.aload_n 1, 1) := by decide +kernel
theorem dLA_law_312 : decode bLA_law 312 = .ok (.aload_n 0, 1) := by decide +kernel
theorem dLA_law_313 : decode bLA_law 313 = .ok (.iload 4, 2) := by decide +kernel
theorem dLA_law_315 : decode bLA_law 315 = .ok (.iconst 1, 1) := by decide +kernel
theorem dLA_law_316 : decode bLA_law 316 = .ok (.iadd, 1) := by decide +kernel
theorem dLA_law_317 : decode bLA_law 317 = .ok (.iaload, 1) := by decide +kernel
theorem dLA_law_318 : decode bLA_law 318 = .ok (.aload_n 3, 1) := by decide +kernel
theorem dLA_law_319 : decode bLA_law 319 = .ok (.invokestatic 35, 3) := by decide +kernel
theorem dLA_law_322 : decode bLA_law 322 = .ok (.istore 5, 2) := by decide +kernel
theorem dLA_law_324 : decode bLA_law 324 = .ok (.aload_n 2, 1) := by decide +kernel
theorem dLA_law_325 : decode bLA_law 325 = .ok (.aload_n 0, 1) := by decide +kernel
theorem dLA_law_326 : decode bLA_law 326 = .ok (.iload 4, 2) := by decide +kernel
theorem dLA_law_328 : decode bLA_law 328 = .ok (.iconst 1, 1) := by decide +kernel
theorem dLA_law_329 : decode bLA_law 329 = .ok (.iadd, 1) := by decide +kernel
theorem dLA_law_330 : decode bLA_law 330 = .ok (.iaload, 1) := by decide +kernel
theorem dLA_law_331 : decode bLA_law 331 = .ok (.invokevirtual 40, 3) := by decide +kernel
theorem dLA_law_334 : decode bLA_law 334 = .ok (.istore 6, 2) := by decide +kernel
theorem dLA_law_336 : decode bLA_law 336 = .ok (.goto 1074, 3) := by decide +kernel
theorem dLA_law_339 : decode bLA_law 339 = .ok (.aload_n 1, 1) := by decide +kernel
theorem dLA_law_340 : decode bLA_law 340 = .ok (.aload_n 0, 1) := by decide +kernel
theorem dLA_law_341 : decode bLA_law 341 = .ok (.iload 4, 2) := by decide +kernel
theorem dLA_law_343 : decode bLA_law 343 = .ok (.iconst 1, 1) := by decide +kernel
theorem dLA_law_344 : decode bLA_law 344 = .ok (.iadd, 1) := by decide +kernel
theorem dLA_law_345 : decode bLA_law 345 = .ok (.iaload, 1) := by decide +kernel
theorem dLA_law_346 : decode bLA_law 346 = .ok (.aload_n 0, 1) := by decide +kernel
theorem dLA_law_347 : decode bLA_law 347 = .ok (.iload 4, 2) := by decide +kernel
theorem dLA_law_349 : decode bLA_law 349 = .ok (.iconst 2, 1) := by decide +kernel
theorem dLA_law_350 : decode bLA_law 350 = .ok (.iadd, 1) := by decide +kernel
theorem dLA_law_351 : decode bLA_law 351 = .ok (.iaload, 1) := by decide +kernel
theorem dLA_law_352 : decode bLA_law 352 = .ok (.i2l, 1) := by decide +kernel
theorem dLA_law_353 : decode bLA_law 353 = .ok (.bipush 32, 2) := by decide +kernel
theorem dLA_law_355 : decode bLA_law 355 = .ok (.lshl, 1) := by decide +kernel
theorem dLA_law_356 : decode bLA_law 356 = .ok (.aload_n 0, 1) := by decide +kernel
theorem dLA_law_357 : decode bLA_law 357 = .ok (.iload 4, 2) := by decide +kernel
theorem dLA_law_359 : decode bLA_law 359 = .ok (.iconst 3, 1) := by decide +kernel
theorem dLA_law_360 : decode bLA_law 360 = .ok (.iadd, 1) := by decide +kernel
theorem dLA_law_361 : decode bLA_law 361 = .ok (.iaload, 1) := by decide +kernel
theorem dLA_law_362 : decode bLA_law 362 = .ok (.i2l, 1) := by decide +kernel
theorem dLA_law_363 : decode bLA_law 363 = .ok (.ldc2_w 23, 3) := by decide +kernel
theorem dLA_law_366 : decode bLA_law 366 = .ok (.land, 1) := by decide +kernel
theorem dLA_law_367 : decode bLA_law 367 = .ok (.lor, 1) := by decide +kernel
theorem dLA_law_368 : decode bLA_law 368 = .ok (.invokevirtual 41, 3) := by decide +kernel
theorem dLA_law_371 : decode bLA_law 371 = .ok (.pop2, 1) := by decide +kernel
theorem dLA_law_372 : decode bLA_law 372 = .ok (.aload_n 2, 1) := by decide +kernel
theorem dLA_law_373 : decode bLA_law 373 = .ok (.aload_n 0, 1) := by decide +kernel
theorem dLA_law_374 : decode bLA_law 374 = .ok (.iload 4, 2) := by decide +kernel
theorem dLA_law_376 : decode bLA_law 376 = .ok (.iconst 1, 1) := by decide +kernel
theorem dLA_law_377 : decode bLA_law 377 = .ok (.iadd, 1) := by decide +kernel
theorem dLA_law_378 : decode bLA_law 378 = .ok (.iaload, 1) := by decide +kernel
theorem dLA_law_379 : decode bLA_law 379 = .ok (.aload_n 0, 1) := by decide +kernel
theorem dLA_law_380 : decode bLA_law 380 = .ok (.iload 4, 2) := by decide +kernel
theorem dLA_law_382 : decode bLA_law 382 = .ok (.iconst 2, 1) := by decide +kernel
theorem dLA_law_383 : decode bLA_law 383 = .ok (.iadd, 1) := by decide +kernel
theorem dLA_law_384 : decode bLA_law 384 = .ok (.iaload, 1) := by decide +kernel
theorem dLA_law_385 : decode bLA_law 385 = .ok (.i2l, 1) := by decide +kernel
theorem dLA_law_386 : decode bLA_law 386 = .ok (.bipush 32, 2) := by decide +kernel
theorem dLA_law_388 : decode bLA_law 388 = .ok (.lshl, 1) := by decide +kernel
theorem dLA_law_389 : decode bLA_law 389 = .ok (.aload_n 0, 1) := by decide +kernel
theorem dLA_law_390 : decode bLA_law 390 = .ok (.iload 4, 2) := by decide +kernel
theorem dLA_law_392 : decode bLA_law 392 = .ok (.iconst 3, 1) := by decide +kernel
theorem dLA_law_393 : decode bLA_law 393 = .ok (.iadd, 1) := by decide +kernel
theorem dLA_law_394 : decode bLA_law 394 = .ok (.iaload, 1) := by decide +kernel
theorem dLA_law_395 : decode bLA_law 395 = .ok (.i2l, 1) := by decide +kernel
theorem dLA_law_396 : decode bLA_law 396 = .ok (.ldc2_w 23, 3) := by decide +kernel
theorem dLA_law_399 : decode bLA_law 399 = .ok (.land, 1) := by decide +kernel
theorem dLA_law_400 : decode bLA_law 400 = .ok (.lor, 1) := by decide +kernel
theorem dLA_law_401 : decode bLA_law 401 = .ok (.invokevirtual 45, 3) := by decide +kernel
theorem dLA_law_404 : decode bLA_law 404 = .ok (.pop2, 1) := by decide +kernel
theorem dLA_law_405 : decode bLA_law 405 = .ok (.goto 1005, 3) := by decide +kernel
theorem dLA_law_408 : decode bLA_law 408 = .ok (.aload_n 1, 1) := by decide +kernel
theorem dLA_law_409 : decode bLA_law 409 = .ok (.aload_n 0, 1) := by decide +kernel
theorem dLA_law_410 : decode bLA_law 410 = .ok (.iload 4, 2) := by decide +kernel
theorem dLA_law_412 : decode bLA_law 412 = .ok (.iconst 1, 1) := by decide +kernel
theorem dLA_law_413 : decode bLA_law 413 = .ok (.iadd, 1) := by decide +kernel
theorem dLA_law_414 : decode bLA_law 414 = .ok (.iaload, 1) := by decide +kernel
theorem dLA_law_415 : decode bLA_law 415 = .ok (.aload_n 0, 1) := by decide +kernel
theorem dLA_law_416 : decode bLA_law 416 = .ok (.iload 4, 2) := by decide +kernel
theorem dLA_law_418 : decode bLA_law 418 = .ok (.iconst 2, 1) := by decide +kernel
theorem dLA_law_419 : decode bLA_law 419 = .ok (.iadd, 1) := by decide +kernel
theorem dLA_law_420 : decode bLA_law 420 = .ok (.iaload, 1) := by decide +kernel
theorem dLA_law_421 : decode bLA_law 421 = .ok (.i2l, 1) := by decide +kernel
theorem dLA_law_422 : decode bLA_law 422 = .ok (.bipush 32, 2) := by decide +kernel
theorem dLA_law_424 : decode bLA_law 424 = .ok (.lshl, 1) := by decide +kernel
theorem dLA_law_425 : decode bLA_law 425 = .ok (.aload_n 0, 1) := by decide +kernel
theorem dLA_law_426 : decode bLA_law 426 = .ok (.iload 4, 2) := by decide +kernel
theorem dLA_law_428 : decode bLA_law 428 = .ok (.iconst 3, 1) := by decide +kernel
theorem dLA_law_429 : decode bLA_law 429 = .ok (.iadd, 1) := by decide +kernel
theorem dLA_law_430 : decode bLA_law 430 = .ok (.iaload, 1) := by decide +kernel
theorem dLA_law_431 : decode bLA_law 431 = .ok (.i2l, 1) := by decide +kernel
theorem dLA_law_432 : decode bLA_law 432 = .ok (.ldc2_w 23, 3) := by decide +kernel
theorem dLA_law_435 : decode bLA_law 435 = .ok (.land, 1) := by decide +kernel
theorem dLA_law_436 : decode bLA_law 436 = .ok (.lor, 1) := by decide +kernel
theorem dLA_law_437 : decode bLA_law 437 = .ok (.aload_n 0, 1) := by decide +kernel
theorem dLA_law_438 : decode bLA_law 438 = .ok (.iload 4, 2) := by decide +kernel
theorem dLA_law_440 : decode bLA_law 440 = .ok (.iconst 4, 1) := by decide +kernel
theorem dLA_law_441 : decode bLA_law 441 = .ok (.iadd, 1) := by decide +kernel
theorem dLA_law_442 : decode bLA_law 442 = .ok (.iaload, 1) := by decide +kernel
theorem dLA_law_443 : decode bLA_law 443 = .ok (.i2l, 1) := by decide +kernel
theorem dLA_law_444 : decode bLA_law 444 = .ok (.bipush 32, 2) := by decide +kernel
theorem dLA_law_446 : decode bLA_law 446 = .ok (.lshl, 1) := by decide +kernel
theorem dLA_law_447 : decode bLA_law 447 = .ok (.aload_n 0, 1) := by decide +kernel
theorem dLA_law_448 : decode bLA_law 448 = .ok (.iload 4, 2) := by decide +kernel
theorem dLA_law_450 : decode bLA_law 450 = .ok (.iconst 5, 1) := by decide +kernel
theorem dLA_law_451 : decode bLA_law 451 = .ok (.iadd, 1) := by decide +kernel
theorem dLA_law_452 : decode bLA_law 452 = .ok (.iaload, 1) := by decide +kernel
theorem dLA_law_453 : decode bLA_law 453 = .ok (.i2l, 1) := by decide +kernel
theorem dLA_law_454 : decode bLA_law 454 = .ok (.ldc2_w 23, 3) := by decide +kernel
theorem dLA_law_457 : decode bLA_law 457 = .ok (.land, 1) := by decide +kernel
theorem dLA_law_458 : decode bLA_law 458 = .ok (.lor, 1) := by decide +kernel
theorem dLA_law_459 : decode bLA_law 459 = .ok (.invokevirtual 46, 3) := by decide +kernel
theorem dLA_law_462 : decode bLA_law 462 = .ok (.pop, 1) := by decide +kernel
theorem dLA_law_463 : decode bLA_law 463 = .ok (.aload_n 2, 1) := by decide +kernel
theorem dLA_law_464 : decode bLA_law 464 = .ok (.aload_n 0, 1) := by decide +kernel
theorem dLA_law_465 : decode bLA_law 465 = .ok (.iload 4, 2) := by decide +kernel
theorem dLA_law_467 : decode bLA_law 467 = .ok (.iconst 1, 1) := by decide +kernel
theorem dLA_law_468 : decode bLA_law 468 = .ok (.iadd, 1) := by decide +kernel
theorem dLA_law_469 : decode bLA_law 469 = .ok (.iaload, 1) := by decide +kernel
theorem dLA_law_470 : decode bLA_law 470 = .ok (.aload_n 0, 1) := by decide +kernel
theorem dLA_law_471 : decode bLA_law 471 = .ok (.iload 4, 2) := by decide +kernel
theorem dLA_law_473 : decode bLA_law 473 = .ok (.iconst 2, 1) := by decide +kernel
theorem dLA_law_474 : decode bLA_law 474 = .ok (.iadd, 1) := by decide +kernel
theorem dLA_law_475 : decode bLA_law 475 = .ok (.iaload, 1) := by decide +kernel
theorem dLA_law_476 : decode bLA_law 476 = .ok (.i2l, 1) := by decide +kernel
theorem dLA_law_477 : decode bLA_law 477 = .ok (.bipush 32, 2) := by decide +kernel
theorem dLA_law_479 : decode bLA_law 479 = .ok (.lshl, 1) := by decide +kernel
theorem dLA_law_480 : decode bLA_law 480 = .ok (.aload_n 0, 1) := by decide +kernel
theorem dLA_law_481 : decode bLA_law 481 = .ok (.iload 4, 2) := by decide +kernel
theorem dLA_law_483 : decode bLA_law 483 = .ok (.iconst 3, 1) := by decide +kernel
theorem dLA_law_484 : decode bLA_law 484 = .ok (.iadd, 1) := by decide +kernel
theorem dLA_law_485 : decode bLA_law 485 = .ok (.iaload, 1) := by decide +kernel
theorem dLA_law_486 : decode bLA_law 486 = .ok (.i2l, 1) := by decide +kernel
theorem dLA_law_487 : decode bLA_law 487 = .ok (.ldc2_w 23, 3) := by decide +kernel
theorem dLA_law_490 : decode bLA_law 490 = .ok (.land, 1) := by decide +kernel
theorem dLA_law_491 : decode bLA_law 491 = .ok (.lor, 1) := by decide +kernel
theorem dLA_law_492 : decode bLA_law 492 = .ok (.aload_n 0, 1) := by decide +kernel
theorem dLA_law_493 : decode bLA_law 493 = .ok (.iload 4, 2) := by decide +kernel
theorem dLA_law_495 : decode bLA_law 495 = .ok (.iconst 4, 1) := by decide +kernel
theorem dLA_law_496 : decode bLA_law 496 = .ok (.iadd, 1) := by decide +kernel
theorem dLA_law_497 : decode bLA_law 497 = .ok (.iaload, 1) := by decide +kernel
theorem dLA_law_498 : decode bLA_law 498 = .ok (.i2l, 1) := by decide +kernel
theorem dLA_law_499 : decode bLA_law 499 = .ok (.bipush 32, 2) := by decide +kernel
theorem dLA_law_501 : decode bLA_law 501 = .ok (.lshl, 1) := by decide +kernel
theorem dLA_law_502 : decode bLA_law 502 = .ok (.aload_n 0, 1) := by decide +kernel
theorem dLA_law_503 : decode bLA_law 503 = .ok (.iload 4, 2) := by decide +kernel
theorem dLA_law_505 : decode bLA_law 505 = .ok (.iconst 5, 1) := by decide +kernel
theorem dLA_law_506 : decode bLA_law 506 = .ok (.iadd, 1) := by decide +kernel
theorem dLA_law_507 : decode bLA_law 507 = .ok (.iaload, 1) := by decide +kernel
theorem dLA_law_508 : decode bLA_law 508 = .ok (.i2l, 1) := by decide +kernel
theorem dLA_law_509 : decode bLA_law 509 = .ok (.ldc2_w 23, 3) := by decide +kernel
theorem dLA_law_512 : decode bLA_law 512 = .ok (.land, 1) := by decide +kernel
theorem dLA_law_513 : decode bLA_law 513 = .ok (.lor, 1) := by decide +kernel
theorem dLA_law_514 : decode bLA_law 514 = .ok (.invokevirtual 50, 3) := by decide +kernel
theorem dLA_law_517 : decode bLA_law 517 = .ok (.pop, 1) := by decide +kernel
theorem dLA_law_518 : decode bLA_law 518 = .ok (.goto 892, 3) := by decide +kernel
theorem dLA_law_521 : decode bLA_law 521 = .ok (.aload_n 1, 1) := by decide +kernel
theorem dLA_law_522 : decode bLA_law 522 = .ok (.aload_n 0, 1) := by decide +kernel
theorem dLA_law_523 : decode bLA_law 523 = .ok (.iload 4, 2) := by decide +kernel
theorem dLA_law_525 : decode bLA_law 525 = .ok (.iconst 1, 1) := by decide +kernel
theorem dLA_law_526 : decode bLA_law 526 = .ok (.iadd, 1) := by decide +kernel
theorem dLA_law_527 : decode bLA_law 527 = .ok (.iaload, 1) := by decide +kernel
theorem dLA_law_528 : decode bLA_law 528 = .ok (.aload_n 0, 1) := by decide +kernel
theorem dLA_law_529 : decode bLA_law 529 = .ok (.iload 4, 2) := by decide +kernel
theorem dLA_law_531 : decode bLA_law 531 = .ok (.iconst 2, 1) := by decide +kernel
theorem dLA_law_532 : decode bLA_law 532 = .ok (.iadd, 1) := by decide +kernel
theorem dLA_law_533 : decode bLA_law 533 = .ok (.iaload, 1) := by decide +kernel
theorem dLA_law_534 : decode bLA_law 534 = .ok (.invokevirtual 51, 3) := by decide +kernel
theorem dLA_law_537 : decode bLA_law 537 = .ok (.pop2, 1) := by decide +kernel
theorem dLA_law_538 : decode bLA_law 538 = .ok (.aload_n 2, 1) := by decide +kernel
theorem dLA_law_539 : decode bLA_law 539 = .ok (.aload_n 0, 1) := by decide +kernel
theorem dLA_law_540 : decode bLA_law 540 = .ok (.iload 4, 2) := by decide +kernel
theorem dLA_law_542 : decode bLA_law 542 = .ok (.iconst 1, 1) := by decide +kernel
theorem dLA_law_543 : decode bLA_law 543 = .ok (.iadd, 1) := by decide +kernel
theorem dLA_law_544 : decode bLA_law 544 = .ok (.iaload, 1) := by decide +kernel
theorem dLA_law_545 : decode bLA_law 545 = .ok (.aload_n 0, 1) := by decide +kernel
theorem dLA_law_546 : decode bLA_law 546 = .ok (.iload 4, 2) := by decide +kernel
theorem dLA_law_548 : decode bLA_law 548 = .ok (.iconst 2, 1) := by decide +kernel
theorem dLA_law_549 : decode bLA_law 549 = .ok (.iadd, 1) := by decide +kernel
theorem dLA_law_550 : decode bLA_law 550 = .ok (.iaload, 1) := by decide +kernel
theorem dLA_law_551 : decode bLA_law 551 = .ok (.invokevirtual 55, 3) := by decide +kernel
theorem dLA_law_554 : decode bLA_law 554 = .ok (.pop2, 1) := by decide +kernel
theorem dLA_law_555 : decode bLA_law 555 = .ok (.goto 855, 3) := by decide +kernel
theorem dLA_law_558 : decode bLA_law 558 = .ok (.aload_n 1, 1) := by decide +kernel
theorem dLA_law_559 : decode bLA_law 559 = .ok (.aload_n 0, 1) := by decide +kernel
theorem dLA_law_560 : decode bLA_law 560 = .ok (.iload 4, 2) := by decide +kernel
theorem dLA_law_562 : decode bLA_law 562 = .ok (.iconst 1, 1) := by decide +kernel
theorem dLA_law_563 : decode bLA_law 563 = .ok (.iadd, 1) := by decide +kernel
theorem dLA_law_564 : decode bLA_law 564 = .ok (.iaload, 1) := by decide +kernel
theorem dLA_law_565 : decode bLA_law 565 = .ok (.aload_n 0, 1) := by decide +kernel
theorem dLA_law_566 : decode bLA_law 566 = .ok (.iload 4, 2) := by decide +kernel
theorem dLA_law_568 : decode bLA_law 568 = .ok (.iconst 2, 1) := by decide +kernel
theorem dLA_law_569 : decode bLA_law 569 = .ok (.iadd, 1) := by decide +kernel
theorem dLA_law_570 : decode bLA_law 570 = .ok (.iaload, 1) := by decide +kernel
theorem dLA_law_571 : decode bLA_law 571 = .ok (.invokevirtual 56, 3) := by decide +kernel
theorem dLA_law_574 : decode bLA_law 574 = .ok (.aload_n 2, 1) := by decide +kernel
theorem dLA_law_575 : decode bLA_law 575 = .ok (.aload_n 0, 1) := by decide +kernel
theorem dLA_law_576 : decode bLA_law 576 = .ok (.iload 4, 2) := by decide +kernel
theorem dLA_law_578 : decode bLA_law 578 = .ok (.iconst 1, 1) := by decide +kernel
theorem dLA_law_579 : decode bLA_law 579 = .ok (.iadd, 1) := by decide +kernel
theorem dLA_law_580 : decode bLA_law 580 = .ok (.iaload, 1) := by decide +kernel
theorem dLA_law_581 : decode bLA_law 581 = .ok (.aload_n 0, 1) := by decide +kernel
theorem dLA_law_582 : decode bLA_law 582 = .ok (.iload 4, 2) := by decide +kernel
theorem dLA_law_584 : decode bLA_law 584 = .ok (.iconst 2, 1) := by decide +kernel
theorem dLA_law_585 : decode bLA_law 585 = .ok (.iadd, 1) := by decide +kernel
theorem dLA_law_586 : decode bLA_law 586 = .ok (.iaload, 1) := by decide +kernel
theorem dLA_law_587 : decode bLA_law 587 = .ok (.invokevirtual 60, 3) := by decide +kernel
theorem dLA_law_590 : decode bLA_law 590 = .ok (.if_icmp .eq 820, 3) := by decide +kernel
theorem dLA_law_595 : decode bLA_law 595 = .ok (.aload_n 1, 1) := by decide +kernel
theorem dLA_law_596 : decode bLA_law 596 = .ok (.aload_n 0, 1) := by decide +kernel
theorem dLA_law_597 : decode bLA_law 597 = .ok (.iload 4, 2) := by decide +kernel
theorem dLA_law_599 : decode bLA_law 599 = .ok (.iconst 1, 1) := by decide +kernel
theorem dLA_law_600 : decode bLA_law 600 = .ok (.iadd, 1) := by decide +kernel
theorem dLA_law_601 : decode bLA_law 601 = .ok (.iaload, 1) := by decide +kernel
theorem dLA_law_602 : decode bLA_law 602 = .ok (.aload_n 0, 1) := by decide +kernel
theorem dLA_law_603 : decode bLA_law 603 = .ok (.iload 4, 2) := by decide +kernel
theorem dLA_law_605 : decode bLA_law 605 = .ok (.iconst 2, 1) := by decide +kernel
theorem dLA_law_606 : decode bLA_law 606 = .ok (.iadd, 1) := by decide +kernel
theorem dLA_law_607 : decode bLA_law 607 = .ok (.iaload, 1) := by decide +kernel
theorem dLA_law_608 : decode bLA_law 608 = .ok (.i2l, 1) := by decide +kernel
theorem dLA_law_609 : decode bLA_law 609 = .ok (.bipush 32, 2) := by decide +kernel
theorem dLA_law_611 : decode bLA_law 611 = .ok (.lshl, 1) := by decide +kernel
theorem dLA_law_612 : decode bLA_law 612 = .ok (.aload_n 0, 1) := by decide +kernel
theorem dLA_law_613 : decode bLA_law 613 = .ok (.iload 4, 2) := by decide +kernel
theorem dLA_law_615 : decode bLA_law 615 = .ok (.iconst 3, 1) := by decide +kernel
theorem dLA_law_616 : decode bLA_law 616 = .ok (.iadd, 1) := by decide +kernel
theorem dLA_law_617 : decode bLA_law 617 = .ok (.iaload, 1) := by decide +kernel
theorem dLA_law_618 : decode bLA_law 618 = .ok (.i2l, 1) := by decide +kernel
theorem dLA_law_619 : decode bLA_law 619 = .ok (.ldc2_w 23, 3) := by decide +kernel
theorem dLA_law_622 : decode bLA_law 622 = .ok (.land, 1) := by decide +kernel
theorem dLA_law_623 : decode bLA_law 623 = .ok (.lor, 1) := by decide +kernel
theorem dLA_law_624 : decode bLA_law 624 = .ok (.invokevirtual 61, 3) := by decide +kernel
theorem dLA_law_627 : decode bLA_law 627 = .ok (.pop, 1) := by decide +kernel
theorem dLA_law_628 : decode bLA_law 628 = .ok (.aload_n 2, 1) := by decide +kernel
theorem dLA_law_629 : decode bLA_law 629 = .ok (.aload_n 0, 1) := by decide +kernel
theorem dLA_law_630 : decode bLA_law 630 = .ok (.iload 4, 2) := by decide +kernel
theorem dLA_law_632 : decode bLA_law 632 = .ok (.iconst 1, 1) := by decide +kernel
theorem dLA_law_633 : decode bLA_law 633 = .ok (.iadd, 1) := by decide +kernel
theorem dLA_law_634 : decode bLA_law 634 = .ok (.iaload, 1) := by decide +kernel
theorem dLA_law_635 : decode bLA_law 635 = .ok (.aload_n 0, 1) := by decide +kernel
theorem dLA_law_636 : decode bLA_law 636 = .ok (.iload 4, 2) := by decide +kernel
theorem dLA_law_638 : decode bLA_law 638 = .ok (.iconst 2, 1) := by decide +kernel
theorem dLA_law_639 : decode bLA_law 639 = .ok (.iadd, 1) := by decide +kernel
theorem dLA_law_640 : decode bLA_law 640 = .ok (.iaload, 1) := by decide +kernel
theorem dLA_law_641 : decode bLA_law 641 = .ok (.i2l, 1) := by decide +kernel
theorem dLA_law_642 : decode bLA_law 642 = .ok (.bipush 32, 2) := by decide +kernel
theorem dLA_law_644 : decode bLA_law 644 = .ok (.lshl, 1) := by decide +kernel
theorem dLA_law_645 : decode bLA_law 645 = .ok (.aload_n 0, 1) := by decide +kernel
theorem dLA_law_646 : decode bLA_law 646 = .ok (.iload 4, 2) := by decide +kernel
theorem dLA_law_648 : decode bLA_law 648 = .ok (.iconst 3, 1) := by decide +kernel
theorem dLA_law_649 : decode bLA_law 649 = .ok (.iadd, 1) := by decide +kernel
theorem dLA_law_650 : decode bLA_law 650 = .ok (.iaload, 1) := by decide +kernel
theorem dLA_law_651 : decode bLA_law 651 = .ok (.i2l, 1) := by decide +kernel
theorem dLA_law_652 : decode bLA_law 652 = .ok (.ldc2_w 23, 3) := by decide +kernel
theorem dLA_law_655 : decode bLA_law 655 = .ok (.land, 1) := by decide +kernel
theorem dLA_law_656 : decode bLA_law 656 = .ok (.lor, 1) := by decide +kernel
theorem dLA_law_657 : decode bLA_law 657 = .ok (.invokevirtual 65, 3) := by decide +kernel
theorem dLA_law_660 : decode bLA_law 660 = .ok (.pop, 1) := by decide +kernel
theorem dLA_law_661 : decode bLA_law 661 = .ok (.goto 749, 3) := by decide +kernel
theorem dLA_law_664 : decode bLA_law 664 = .ok (.aload_n 1, 1) := by decide +kernel
theorem dLA_law_665 : decode bLA_law 665 = .ok (.aload_n 0, 1) := by decide +kernel
theorem dLA_law_666 : decode bLA_law 666 = .ok (.iload 4, 2) := by decide +kernel
theorem dLA_law_668 : decode bLA_law 668 = .ok (.iconst 1, 1) := by decide +kernel
theorem dLA_law_669 : decode bLA_law 669 = .ok (.iadd, 1) := by decide +kernel
theorem dLA_law_670 : decode bLA_law 670 = .ok (.iaload, 1) := by decide +kernel
theorem dLA_law_671 : decode bLA_law 671 = .ok (.aload_n 0, 1) := by decide +kernel
theorem dLA_law_672 : decode bLA_law 672 = .ok (.iload 4, 2) := by decide +kernel
theorem dLA_law_674 : decode bLA_law 674 = .ok (.iconst 2, 1) := by decide +kernel
theorem dLA_law_675 : decode bLA_law 675 = .ok (.iadd, 1) := by decide +kernel
theorem dLA_law_676 : decode bLA_law 676 = .ok (.iaload, 1) := by decide +kernel
theorem dLA_law_677 : decode bLA_law 677 = .ok (.i2l, 1) := by decide +kernel
theorem dLA_law_678 : decode bLA_law 678 = .ok (.bipush 32, 2) := by decide +kernel
theorem dLA_law_680 : decode bLA_law 680 = .ok (.lshl, 1) := by decide +kernel
theorem dLA_law_681 : decode bLA_law 681 = .ok (.aload_n 0, 1) := by decide +kernel
theorem dLA_law_682 : decode bLA_law 682 = .ok (.iload 4, 2) := by decide +kernel
theorem dLA_law_684 : decode bLA_law 684 = .ok (.iconst 3, 1) := by decide +kernel
theorem dLA_law_685 : decode bLA_law 685 = .ok (.iadd, 1) := by decide +kernel
theorem dLA_law_686 : decode bLA_law 686 = .ok (.iaload, 1) := by decide +kernel
theorem dLA_law_687 : decode bLA_law 687 = .ok (.i2l, 1) := by decide +kernel
theorem dLA_law_688 : decode bLA_law 688 = .ok (.ldc2_w 23, 3) := by decide +kernel
theorem dLA_law_691 : decode bLA_law 691 = .ok (.land, 1) := by decide +kernel
theorem dLA_law_692 : decode bLA_law 692 = .ok (.lor, 1) := by decide +kernel
theorem dLA_law_693 : decode bLA_law 693 = .ok (.aload_n 0, 1) := by decide +kernel
theorem dLA_law_694 : decode bLA_law 694 = .ok (.iload 4, 2) := by decide +kernel
theorem dLA_law_696 : decode bLA_law 696 = .ok (.iconst 4, 1) := by decide +kernel
theorem dLA_law_697 : decode bLA_law 697 = .ok (.iadd, 1) := by decide +kernel
theorem dLA_law_698 : decode bLA_law 698 = .ok (.iaload, 1) := by decide +kernel
theorem dLA_law_699 : decode bLA_law 699 = .ok (.i2l, 1) := by decide +kernel
theorem dLA_law_700 : decode bLA_law 700 = .ok (.bipush 32, 2) := by decide +kernel
theorem dLA_law_702 : decode bLA_law 702 = .ok (.lshl, 1) := by decide +kernel
theorem dLA_law_703 : decode bLA_law 703 = .ok (.aload_n 0, 1) := by decide +kernel
theorem dLA_law_704 : decode bLA_law 704 = .ok (.iload 4, 2) := by decide +kernel
theorem dLA_law_706 : decode bLA_law 706 = .ok (.iconst 5, 1) := by decide +kernel
theorem dLA_law_707 : decode bLA_law 707 = .ok (.iadd, 1) := by decide +kernel
theorem dLA_law_708 : decode bLA_law 708 = .ok (.iaload, 1) := by decide +kernel
theorem dLA_law_709 : decode bLA_law 709 = .ok (.i2l, 1) := by decide +kernel
theorem dLA_law_710 : decode bLA_law 710 = .ok (.ldc2_w 23, 3) := by decide +kernel
theorem dLA_law_713 : decode bLA_law 713 = .ok (.land, 1) := by decide +kernel
theorem dLA_law_714 : decode bLA_law 714 = .ok (.lor, 1) := by decide +kernel
theorem dLA_law_715 : decode bLA_law 715 = .ok (.invokevirtual 66, 3) := by decide +kernel
theorem dLA_law_718 : decode bLA_law 718 = .ok (.pop, 1) := by decide +kernel
theorem dLA_law_719 : decode bLA_law 719 = .ok (.aload_n 2, 1) := by decide +kernel
theorem dLA_law_720 : decode bLA_law 720 = .ok (.aload_n 0, 1) := by decide +kernel
theorem dLA_law_721 : decode bLA_law 721 = .ok (.iload 4, 2) := by decide +kernel
theorem dLA_law_723 : decode bLA_law 723 = .ok (.iconst 1, 1) := by decide +kernel
theorem dLA_law_724 : decode bLA_law 724 = .ok (.iadd, 1) := by decide +kernel
theorem dLA_law_725 : decode bLA_law 725 = .ok (.iaload, 1) := by decide +kernel
theorem dLA_law_726 : decode bLA_law 726 = .ok (.aload_n 0, 1) := by decide +kernel
theorem dLA_law_727 : decode bLA_law 727 = .ok (.iload 4, 2) := by decide +kernel
theorem dLA_law_729 : decode bLA_law 729 = .ok (.iconst 2, 1) := by decide +kernel
theorem dLA_law_730 : decode bLA_law 730 = .ok (.iadd, 1) := by decide +kernel
theorem dLA_law_731 : decode bLA_law 731 = .ok (.iaload, 1) := by decide +kernel
theorem dLA_law_732 : decode bLA_law 732 = .ok (.i2l, 1) := by decide +kernel
theorem dLA_law_733 : decode bLA_law 733 = .ok (.bipush 32, 2) := by decide +kernel
theorem dLA_law_735 : decode bLA_law 735 = .ok (.lshl, 1) := by decide +kernel
theorem dLA_law_736 : decode bLA_law 736 = .ok (.aload_n 0, 1) := by decide +kernel
theorem dLA_law_737 : decode bLA_law 737 = .ok (.iload 4, 2) := by decide +kernel
theorem dLA_law_739 : decode bLA_law 739 = .ok (.iconst 3, 1) := by decide +kernel
theorem dLA_law_740 : decode bLA_law 740 = .ok (.iadd, 1) := by decide +kernel
theorem dLA_law_741 : decode bLA_law 741 = .ok (.iaload, 1) := by decide +kernel
theorem dLA_law_742 : decode bLA_law 742 = .ok (.i2l, 1) := by decide +kernel
theorem dLA_law_743 : decode bLA_law 743 = .ok (.ldc2_w 23, 3) := by decide +kernel
theorem dLA_law_746 : decode bLA_law 746 = .ok (.land, 1) := by decide +kernel
theorem dLA_law_747 : decode bLA_law 747 = .ok (.lor, 1) := by decide +kernel
theorem dLA_law_748 : decode bLA_law 748 = .ok (.aload_n 0, 1) := by decide +kernel
theorem dLA_law_749 : decode bLA_law 749 = .ok (.iload 4, 2) := by decide +kernel
theorem dLA_law_751 : decode bLA_law 751 = .ok (.iconst 4, 1) := by decide +kernel
theorem dLA_law_752 : decode bLA_law 752 = .ok (.iadd, 1) := by decide +kernel
theorem dLA_law_753 : decode bLA_law 753 = .ok (.iaload, 1) := by decide +kernel
theorem dLA_law_754 : decode bLA_law 754 = .ok (.i2l, 1) := by decide +kernel
theorem dLA_law_755 : decode bLA_law 755 = .ok (.bipush 32, 2) := by decide +kernel
theorem dLA_law_757 : decode bLA_law 757 = .ok (.lshl, 1) := by decide +kernel
theorem dLA_law_758 : decode bLA_law 758 = .ok (.aload_n 0, 1) := by decide +kernel
theorem dLA_law_759 : decode bLA_law 759 = .ok (.iload 4, 2) := by decide +kernel
theorem dLA_law_761 : decode bLA_law 761 = .ok (.iconst 5, 1) := by decide +kernel
theorem dLA_law_762 : decode bLA_law 762 = .ok (.iadd, 1) := by decide +kernel
theorem dLA_law_763 : decode bLA_law 763 = .ok (.iaload, 1) := by decide +kernel
theorem dLA_law_764 : decode bLA_law 764 = .ok (.i2l, 1) := by decide +kernel
theorem dLA_law_765 : decode bLA_law 765 = .ok (.ldc2_w 23, 3) := by decide +kernel
theorem dLA_law_768 : decode bLA_law 768 = .ok (.land, 1) := by decide +kernel
theorem dLA_law_769 : decode bLA_law 769 = .ok (.lor, 1) := by decide +kernel
