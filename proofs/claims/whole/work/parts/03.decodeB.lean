theorem dL_law_0 : decode cL_law 0 = .ok (.new 7, 3) := by decide +kernel
theorem dL_law_3 : decode cL_law 3 = .ok (.dup, 1) := by decide +kernel
theorem dL_law_4 : decode cL_law 4 = .ok (.invokespecial 9, 3) := by decide +kernel
theorem dL_law_7 : decode cL_law 7 = .ok (.astore_n 1, 1) := by decide +kernel
theorem dL_law_8 : decode cL_law 8 = .ok (.new 10, 3) := by decide +kernel
theorem dL_law_11 : decode cL_law 11 = .ok (.dup, 1) := by decide +kernel
theorem dL_law_12 : decode cL_law 12 = .ok (.invokespecial 12, 3) := by decide +kernel
theorem dL_law_15 : decode cL_law 15 = .ok (.astore_n 2, 1) := by decide +kernel
theorem dL_law_16 : decode cL_law 16 = .ok (.iconst 0, 1) := by decide +kernel
theorem dL_law_17 : decode cL_law 17 = .ok (.istore_n 3, 1) := by decide +kernel
theorem dL_law_18 : decode cL_law 18 = .ok (.iload_n 3, 1) := by decide +kernel
theorem dL_law_19 : decode cL_law 19 = .ok (.aload_n 0, 1) := by decide +kernel
theorem dL_law_20 : decode cL_law 20 = .ok (.arraylength, 1) := by decide +kernel
theorem dL_law_21 : decode cL_law 21 = .ok (.bipush 6, 2) := by decide +kernel
theorem dL_law_23 : decode cL_law 23 = .ok (.isub, 1) := by decide +kernel
theorem dL_law_24 : decode cL_law 24 = .ok (.if_icmp .gt 1361, 3) := by decide +kernel
theorem dL_law_27 : decode cL_law 27 = .ok (.aload_n 0, 1) := by decide +kernel
theorem dL_law_28 : decode cL_law 28 = .ok (.iload_n 3, 1) := by decide +kernel
theorem dL_law_29 : decode cL_law 29 = .ok (.iaload, 1) := by decide +kernel
theorem dL_law_30 : decode cL_law 30 = .ok (.bipush 63, 2) := by decide +kernel
theorem dL_law_32 : decode cL_law 32 = .ok (.iand, 1) := by decide +kernel
theorem dL_law_33 : decode cL_law 33 = .ok (.tableswitch 1346 0 35 #[159, 192, 235, 268, 301, 334, 367, 416, 449, 492, 515, 528, 551, 574, 607, 650, 683, 726, 749, 782, 826, 850, 883, 906, 939, 952, 985, 998, 1011, 1054, 1077, 1110, 1133, 1176, 1249, 1283], 159) := by decide +kernel
theorem dL_law_192 : decode cL_law 192 = .ok (.aload_n 1, 1) := by decide +kernel
theorem dL_law_193 : decode cL_law 193 = .ok (.aload_n 0, 1) := by decide +kernel
theorem dL_law_194 : decode cL_law 194 = .ok (.iload_n 3, 1) := by decide +kernel
theorem dL_law_195 : decode cL_law 195 = .ok (.iconst 1, 1) := by decide +kernel
theorem dL_law_196 : decode cL_law 196 = .ok (.iadd, 1) := by decide +kernel
theorem dL_law_197 : decode cL_law 197 = .ok (.iaload, 1) := by decide +kernel
theorem dL_law_198 : decode cL_law 198 = .ok (.aload_n 0, 1) := by decide +kernel
theorem dL_law_199 : decode cL_law 199 = .ok (.iload_n 3, 1) := by decide +kernel
theorem dL_law_200 : decode cL_law 200 = .ok (.iconst 2, 1) := by decide +kernel
theorem dL_law_201 : decode cL_law 201 = .ok (.iadd, 1) := by decide +kernel
theorem dL_law_202 : decode cL_law 202 = .ok (.iaload, 1) := by decide +kernel
theorem dL_law_203 : decode cL_law 203 = .ok (.invokevirtual 13, 3) := by decide +kernel
theorem dL_law_206 : decode cL_law 206 = .ok (.aload_n 2, 1) := by decide +kernel
theorem dL_law_207 : decode cL_law 207 = .ok (.aload_n 0, 1) := by decide +kernel
theorem dL_law_208 : decode cL_law 208 = .ok (.iload_n 3, 1) := by decide +kernel
theorem dL_law_209 : decode cL_law 209 = .ok (.iconst 1, 1) := by decide +kernel
theorem dL_law_210 : decode cL_law 210 = .ok (.iadd, 1) := by decide +kernel
theorem dL_law_211 : decode cL_law 211 = .ok (.iaload, 1) := by decide +kernel
theorem dL_law_212 : decode cL_law 212 = .ok (.aload_n 0, 1) := by decide +kernel
theorem dL_law_213 : decode cL_law 213 = .ok (.iload_n 3, 1) := by decide +kernel
theorem dL_law_214 : decode cL_law 214 = .ok (.iconst 2, 1) := by decide +kernel
theorem dL_law_215 : decode cL_law 215 = .ok (.iadd, 1) := by decide +kernel
theorem dL_law_216 : decode cL_law 216 = .ok (.iaload, 1) := by decide +kernel
theorem dL_law_217 : decode cL_law 217 = .ok (.invokevirtual 17, 3) := by decide +kernel
theorem dL_law_220 : decode cL_law 220 = .ok (.if_icmp .eq 1159, 3) := by decide +kernel
theorem dL_law_223 : decode cL_law 223 = .ok (.iconst 0, 1) := by decide +kernel
theorem dL_law_224 : decode cL_law 224 = .ok (.ireturn, 1) := by decide +kernel
theorem dL_law_225 : decode cL_law 225 = .ok (.aload_n 1, 1) := by decide +kernel
theorem dL_law_226 : decode cL_law 226 = .ok (.aload_n 0, 1) := by decide +kernel
theorem dL_law_227 : decode cL_law 227 = .ok (.iload_n 3, 1) := by decide +kernel
theorem dL_law_228 : decode cL_law 228 = .ok (.iconst 1, 1) := by decide +kernel
theorem dL_law_229 : decode cL_law 229 = .ok (.iadd, 1) := by decide +kernel
theorem dL_law_230 : decode cL_law 230 = .ok (.iaload, 1) := by decide +kernel
theorem dL_law_231 : decode cL_law 231 = .ok (.aload_n 0, 1) := by decide +kernel
theorem dL_law_232 : decode cL_law 232 = .ok (.iload_n 3, 1) := by decide +kernel
theorem dL_law_233 : decode cL_law 233 = .ok (.iconst 2, 1) := by decide +kernel
theorem dL_law_234 : decode cL_law 234 = .ok (.iadd, 1) := by decide +kernel
theorem dL_law_235 : decode cL_law 235 = .ok (.iaload, 1) := by decide +kernel
theorem dL_law_236 : decode cL_law 236 = .ok (.aload_n 0, 1) := by decide +kernel
theorem dL_law_237 : decode cL_law 237 = .ok (.iload_n 3, 1) := by decide +kernel
theorem dL_law_238 : decode cL_law 238 = .ok (.iconst 3, 1) := by decide +kernel
theorem dL_law_239 : decode cL_law 239 = .ok (.iadd, 1) := by decide +kernel
theorem dL_law_240 : decode cL_law 240 = .ok (.iaload, 1) := by decide +kernel
theorem dL_law_241 : decode cL_law 241 = .ok (.invokevirtual 18, 3) := by decide +kernel
theorem dL_law_244 : decode cL_law 244 = .ok (.aload_n 2, 1) := by decide +kernel
theorem dL_law_245 : decode cL_law 245 = .ok (.aload_n 0, 1) := by decide +kernel
theorem dL_law_246 : decode cL_law 246 = .ok (.iload_n 3, 1) := by decide +kernel
theorem dL_law_247 : decode cL_law 247 = .ok (.iconst 1, 1) := by decide +kernel
theorem dL_law_248 : decode cL_law 248 = .ok (.iadd, 1) := by decide +kernel
theorem dL_law_249 : decode cL_law 249 = .ok (.iaload, 1) := by decide +kernel
theorem dL_law_250 : decode cL_law 250 = .ok (.aload_n 0, 1) := by decide +kernel
theorem dL_law_251 : decode cL_law 251 = .ok (.iload_n 3, 1) := by decide +kernel
theorem dL_law_252 : decode cL_law 252 = .ok (.iconst 2, 1) := by decide +kernel
theorem dL_law_253 : decode cL_law 253 = .ok (.iadd, 1) := by decide +kernel
theorem dL_law_254 : decode cL_law 254 = .ok (.iaload, 1) := by decide +kernel
theorem dL_law_255 : decode cL_law 255 = .ok (.aload_n 0, 1) := by decide +kernel
theorem dL_law_256 : decode cL_law 256 = .ok (.iload_n 3, 1) := by decide +kernel
theorem dL_law_257 : decode cL_law 257 = .ok (.iconst 3, 1) := by decide +kernel
theorem dL_law_258 : decode cL_law 258 = .ok (.iadd, 1) := by decide +kernel
theorem dL_law_259 : decode cL_law 259 = .ok (.iaload, 1) := by decide +kernel
theorem dL_law_260 : decode cL_law 260 = .ok (.invokevirtual 22, 3) := by decide +kernel
theorem dL_law_263 : decode cL_law 263 = .ok (.if_icmp .eq 1116, 3) := by decide +kernel
theorem dL_law_266 : decode cL_law 266 = .ok (.iconst 0, 1) := by decide +kernel
theorem dL_law_267 : decode cL_law 267 = .ok (.ireturn, 1) := by decide +kernel
theorem dL_law_268 : decode cL_law 268 = .ok (.aload_n 1, 1) := by decide +kernel
theorem dL_law_269 : decode cL_law 269 = .ok (.aload_n 0, 1) := by decide +kernel
theorem dL_law_270 : decode cL_law 270 = .ok (.iload_n 3, 1) := by decide +kernel
theorem dL_law_271 : decode cL_law 271 = .ok (.iconst 1, 1) := by decide +kernel
theorem dL_law_272 : decode cL_law 272 = .ok (.iadd, 1) := by decide +kernel
theorem dL_law_273 : decode cL_law 273 = .ok (.iaload, 1) := by decide +kernel
theorem dL_law_274 : decode cL_law 274 = .ok (.aload_n 0, 1) := by decide +kernel
theorem dL_law_275 : decode cL_law 275 = .ok (.iload_n 3, 1) := by decide +kernel
theorem dL_law_276 : decode cL_law 276 = .ok (.iconst 2, 1) := by decide +kernel
theorem dL_law_277 : decode cL_law 277 = .ok (.iadd, 1) := by decide +kernel
theorem dL_law_278 : decode cL_law 278 = .ok (.iaload, 1) := by decide +kernel
theorem dL_law_279 : decode cL_law 279 = .ok (.invokevirtual 23, 3) := by decide +kernel
theorem dL_law_282 : decode cL_law 282 = .ok (.aload_n 2, 1) := by decide +kernel
theorem dL_law_283 : decode cL_law 283 = .ok (.aload_n 0, 1) := by decide +kernel
theorem dL_law_284 : decode cL_law 284 = .ok (.iload_n 3, 1) := by decide +kernel
theorem dL_law_285 : decode cL_law 285 = .ok (.iconst 1, 1) := by decide +kernel
theorem dL_law_286 : decode cL_law 286 = .ok (.iadd, 1) := by decide +kernel
theorem dL_law_287 : decode cL_law 287 = .ok (.iaload, 1) := by decide +kernel
theorem dL_law_288 : decode cL_law 288 = .ok (.aload_n 0, 1) := by decide +kernel
theorem dL_law_289 : decode cL_law 289 = .ok (.iload_n 3, 1) := by decide +kernel
theorem dL_law_290 : decode cL_law 290 = .ok (.iconst 2, 1) := by decide +kernel
theorem dL_law_291 : decode cL_law 291 = .ok (.iadd, 1) := by decide +kernel
theorem dL_law_292 : decode cL_law 292 = .ok (.iaload, 1) := by decide +kernel
theorem dL_law_293 : decode cL_law 293 = .ok (.invokevirtual 26, 3) := by decide +kernel
theorem dL_law_296 : decode cL_law 296 = .ok (.if_icmp .eq 1083, 3) := by decide +kernel
theorem dL_law_299 : decode cL_law 299 = .ok (.iconst 0, 1) := by decide +kernel
theorem dL_law_300 : decode cL_law 300 = .ok (.ireturn, 1) := by decide +kernel
theorem dL_law_301 : decode cL_law 301 = .ok (.aload_n 1, 1) := by decide +kernel
theorem dL_law_302 : decode cL_law 302 = .ok (.aload_n 0, 1) := by decide +kernel
theorem dL_law_303 : decode cL_law 303 = .ok (.iload_n 3, 1) := by decide +kernel
theorem dL_law_304 : decode cL_law 304 = .ok (.iconst 1, 1) := by decide +kernel
theorem dL_law_305 : decode cL_law 305 = .ok (.iadd, 1) := by decide +kernel
theorem dL_law_306 : decode cL_law 306 = .ok (.iaload, 1) := by decide +kernel
theorem dL_law_307 : decode cL_law 307 = .ok (.aload_n 0, 1) := by decide +kernel
theorem dL_law_308 : decode cL_law 308 = .ok (.iload_n 3, 1) := by decide +kernel
theorem dL_law_309 : decode cL_law 309 = .ok (.iconst 2, 1) := by decide +kernel
theorem dL_law_310 : decode cL_law 310 = .ok (.iadd, 1) := by decide +kernel
theorem dL_law_311 : decode cL_law 311 = .ok (.iaload, 1) := by decide +kernel
theorem dL_law_312 : decode cL_law 312 = .ok (.invokevirtual 27, 3) := by decide +kernel
theorem dL_law_315 : decode cL_law 315 = .ok (.aload_n 2, 1) := by decide +kernel
theorem dL_law_316 : decode cL_law 316 = .ok (.aload_n 0, 1) := by decide +kernel
theorem dL_law_317 : decode cL_law 317 = .ok (.iload_n 3, 1) := by decide +kernel
theorem dL_law_318 : decode cL_law 318 = .ok (.iconst 1, 1) := by decide +kernel
theorem dL_law_319 : decode cL_law 319 = .ok (.iadd, 1) := by decide +kernel
theorem dL_law_320 : decode cL_law 320 = .ok (.iaload, 1) := by decide +kernel
theorem dL_law_321 : decode cL_law 321 = .ok (.aload_n 0, 1) := by decide +kernel
theorem dL_law_322 : decode cL_law 322 = .ok (.iload_n 3, 1) := by decide +kernel
theorem dL_law_323 : decode cL_law 323 = .ok (.iconst 2, 1) := by decide +kernel
theorem dL_law_324 : decode cL_law 324 = .ok (.iadd, 1) := by decide +kernel
theorem dL_law_325 : decode cL_law 325 = .ok (.iaload, 1) := by decide +kernel
theorem dL_law_326 : decode cL_law 326 = .ok (.invokevirtual 30, 3) := by decide +kernel
theorem dL_law_329 : decode cL_law 329 = .ok (.if_icmp .eq 1050, 3) := by decide +kernel
theorem dL_law_332 : decode cL_law 332 = .ok (.iconst 0, 1) := by decide +kernel
theorem dL_law_333 : decode cL_law 333 = .ok (.ireturn, 1) := by decide +kernel
theorem dL_law_334 : decode cL_law 334 = .ok (.aload_n 1, 1) := by decide +kernel
theorem dL_law_335 : decode cL_law 335 = .ok (.aload_n 0, 1) := by decide +kernel
theorem dL_law_336 : decode cL_law 336 = .ok (.iload_n 3, 1) := by decide +kernel
theorem dL_law_337 : decode cL_law 337 = .ok (.iconst 1, 1) := by decide +kernel
theorem dL_law_338 : decode cL_law 338 = .ok (.iadd, 1) := by decide +kernel
theorem dL_law_339 : decode cL_law 339 = .ok (.iaload, 1) := by decide +kernel
theorem dL_law_340 : decode cL_law 340 = .ok (.aload_n 0, 1) := by decide +kernel
theorem dL_law_341 : decode cL_law 341 = .ok (.iload_n 3, 1) := by decide +kernel
theorem dL_law_342 : decode cL_law 342 = .ok (.iconst 2, 1) := by decide +kernel
theorem dL_law_343 : decode cL_law 343 = .ok (.iadd, 1) := by decide +kernel
theorem dL_law_344 : decode cL_law 344 = .ok (.iaload, 1) := by decide +kernel
theorem dL_law_345 : decode cL_law 345 = .ok (.invokevirtual 31, 3) := by decide +kernel
theorem dL_law_348 : decode cL_law 348 = .ok (.aload_n 2, 1) := by decide +kernel
theorem dL_law_349 : decode cL_law 349 = .ok (.aload_n 0, 1) := by decide +kernel
theorem dL_law_350 : decode cL_law 350 = .ok (.iload_n 3, 1) := by decide +kernel
theorem dL_law_351 : decode cL_law 351 = .ok (.iconst 1, 1) := by decide +kernel
theorem dL_law_352 : decode cL_law 352 = .ok (.iadd, 1) := by decide +kernel
theorem dL_law_353 : decode cL_law 353 = .ok (.iaload, 1) := by decide +kernel
theorem dL_law_354 : decode cL_law 354 = .ok (.aload_n 0, 1) := by decide +kernel
theorem dL_law_355 : decode cL_law 355 = .ok (.iload_n 3, 1) := by decide +kernel
theorem dL_law_356 : decode cL_law 356 = .ok (.iconst 2, 1) := by decide +kernel
theorem dL_law_357 : decode cL_law 357 = .ok (.iadd, 1) := by decide +kernel
theorem dL_law_358 : decode cL_law 358 = .ok (.iaload, 1) := by decide +kernel
theorem dL_law_359 : decode cL_law 359 = .ok (.invokevirtual 34, 3) := by decide +kernel
theorem dL_law_362 : decode cL_law 362 = .ok (.if_icmp .eq 1017, 3) := by decide +kernel
theorem dL_law_365 : decode cL_law 365 = .ok (.iconst 0, 1) := by decide +kernel
theorem dL_law_366 : decode cL_law 366 = .ok (.ireturn, 1) := by decide +kernel
theorem dL_law_367 : decode cL_law 367 = .ok (.aload_n 1, 1) := by decide +kernel
theorem dL_law_368 : decode cL_law 368 = .ok (.aload_n 0, 1) := by decide +kernel
theorem dL_law_369 : decode cL_law 369 = .ok (.iload_n 3, 1) := by decide +kernel
theorem dL_law_370 : decode cL_law 370 = .ok (.iconst 1, 1) := by decide +kernel
theorem dL_law_371 : decode cL_law 371 = .ok (.iadd, 1) := by decide +kernel
theorem dL_law_372 : decode cL_law 372 = .ok (.iaload, 1) := by decide +kernel
theorem dL_law_373 : decode cL_law 373 = .ok (.aload_n 0, 1) := by decide +kernel
theorem dL_law_374 : decode cL_law 374 = .ok (.iload_n 3, 1) := by decide +kernel
theorem dL_law_375 : decode cL_law 375 = .ok (.iconst 2, 1) := by decide +kernel
theorem dL_law_376 : decode cL_law 376 = .ok (.iadd, 1) := by decide +kernel
theorem dL_law_377 : decode cL_law 377 = .ok (.iaload, 1) := by decide +kernel
theorem dL_law_378 : decode cL_law 378 = .ok (.invokevirtual 35, 3) := by decide +kernel
theorem dL_law_381 : decode cL_law 381 = .ok (.aload_n 2, 1) := by decide +kernel
theorem dL_law_382 : decode cL_law 382 = .ok (.aload_n 0, 1) := by decide +kernel
theorem dL_law_383 : decode cL_law 383 = .ok (.iload_n 3, 1) := by decide +kernel
theorem dL_law_384 : decode cL_law 384 = .ok (.iconst 1, 1) := by decide +kernel
theorem dL_law_385 : decode cL_law 385 = .ok (.iadd, 1) := by decide +kernel
theorem dL_law_386 : decode cL_law 386 = .ok (.iaload, 1) := by decide +kernel
theorem dL_law_387 : decode cL_law 387 = .ok (.aload_n 0, 1) := by decide +kernel
theorem dL_law_388 : decode cL_law 388 = .ok (.iload_n 3, 1) := by decide +kernel
theorem dL_law_389 : decode cL_law 389 = .ok (.iconst 2, 1) := by decide +kernel
theorem dL_law_390 : decode cL_law 390 = .ok (.iadd, 1) := by decide +kernel
theorem dL_law_391 : decode cL_law 391 = .ok (.iaload, 1) := by decide +kernel
theorem dL_law_392 : decode cL_law 392 = .ok (.invokevirtual 38, 3) := by decide +kernel
theorem dL_law_395 : decode cL_law 395 = .ok (.if_icmp .eq 984, 3) := by decide +kernel
theorem dL_law_398 : decode cL_law 398 = .ok (.iconst 0, 1) := by decide +kernel
theorem dL_law_399 : decode cL_law 399 = .ok (.ireturn, 1) := by decide +kernel
theorem dL_law_400 : decode cL_law 400 = .ok (.aload_n 1, 1) := by decide +kernel
theorem dL_law_401 : decode cL_law 401 = .ok (.aload_n 0, 1) := by decide +kernel
theorem dL_law_402 : decode cL_law 402 = .ok (.iload_n 3, 1) := by decide +kernel
theorem dL_law_403 : decode cL_law 403 = .ok (.iconst 1, 1) := by decide +kernel
theorem dL_law_404 : decode cL_law 404 = .ok (.iadd, 1) := by decide +kernel
theorem dL_law_405 : decode cL_law 405 = .ok (.iaload, 1) := by decide +kernel
theorem dL_law_406 : decode cL_law 406 = .ok (.aload_n 0, 1) := by decide +kernel
theorem dL_law_407 : decode cL_law 407 = .ok (.iload_n 3, 1) := by decide +kernel
theorem dL_law_408 : decode cL_law 408 = .ok (.iconst 2, 1) := by decide +kernel
theorem dL_law_409 : decode cL_law 409 = .ok (.iadd, 1) := by decide +kernel
theorem dL_law_410 : decode cL_law 410 = .ok (.iaload, 1) := by decide +kernel
theorem dL_law_411 : decode cL_law 411 = .ok (.ifCond .eq 7, 3) := by decide +kernel
theorem dL_law_414 : decode cL_law 414 = .ok (.iconst 1, 1) := by decide +kernel
theorem dL_law_415 : decode cL_law 415 = .ok (.goto 4, 3) := by decide +kernel
theorem dL_law_418 : decode cL_law 418 = .ok (.iconst 0, 1) := by decide +kernel
theorem dL_law_419 : decode cL_law 419 = .ok (.invokevirtual 39, 3) := by decide +kernel
theorem dL_law_422 : decode cL_law 422 = .ok (.aload_n 2, 1) := by decide +kernel
theorem dL_law_423 : decode cL_law 423 = .ok (.aload_n 0, 1) := by decide +kernel
theorem dL_law_424 : decode cL_law 424 = .ok (.iload_n 3, 1) := by decide +kernel
theorem dL_law_425 : decode cL_law 425 = .ok (.iconst 1, 1) := by decide +kernel
theorem dL_law_426 : decode cL_law 426 = .ok (.iadd, 1) := by decide +kernel
theorem dL_law_427 : decode cL_law 427 = .ok (.iaload, 1) := by decide +kernel
theorem dL_law_428 : decode cL_law 428 = .ok (.aload_n 0, 1) := by decide +kernel
theorem dL_law_429 : decode cL_law 429 = .ok (.iload_n 3, 1) := by decide +kernel
theorem dL_law_430 : decode cL_law 430 = .ok (.iconst 2, 1) := by decide +kernel
theorem dL_law_431 : decode cL_law 431 = .ok (.iadd, 1) := by decide +kernel
theorem dL_law_432 : decode cL_law 432 = .ok (.iaload, 1) := by decide +kernel
theorem dL_law_433 : decode cL_law 433 = .ok (.ifCond .eq 7, 3) := by decide +kernel
theorem dL_law_436 : decode cL_law 436 = .ok (.iconst 1, 1) := by decide +kernel
theorem dL_law_437 : decode cL_law 437 = .ok (.goto 4, 3) := by decide +kernel
theorem dL_law_440 : decode cL_law 440 = .ok (.iconst 0, 1) := by decide +kernel
theorem dL_law_441 : decode cL_law 441 = .ok (.invokevirtual 43, 3) := by decide +kernel
theorem dL_law_444 : decode cL_law 444 = .ok (.if_icmp .eq 935, 3) := by decide +kernel
theorem dL_law_447 : decode cL_law 447 = .ok (.iconst 0, 1) := by decide +kernel
theorem dL_law_448 : decode cL_law 448 = .ok (.ireturn, 1) := by decide +kernel
theorem dL_law_449 : decode cL_law 449 = .ok (.aload_n 1, 1) := by decide +kernel
theorem dL_law_450 : decode cL_law 450 = .ok (.aload_n 0, 1) := by decide +kernel
theorem dL_law_451 : decode cL_law 451 = .ok (.iload_n 3, 1) := by decide +kernel
theorem dL_law_452 : decode cL_law 452 = .ok (.iconst 1, 1) := by decide +kernel
theorem dL_law_453 : decode cL_law 453 = .ok (.iadd, 1) := by decide +kernel
theorem dL_law_454 : decode cL_law 454 = .ok (.iaload, 1) := by decide +kernel
theorem dL_law_455 : decode cL_law 455 = .ok (.aload_n 0, 1) := by decide +kernel
theorem dL_law_456 : decode cL_law 456 = .ok (.iload_n 3, 1) := by decide +kernel
theorem dL_law_457 : decode cL_law 457 = .ok (.iconst 2, 1) := by decide +kernel
theorem dL_law_458 : decode cL_law 458 = .ok (.iadd, 1) := by decide +kernel
theorem dL_law_459 : decode cL_law 459 = .ok (.iaload, 1) := by decide +kernel
theorem dL_law_460 : decode cL_law 460 = .ok (.invokevirtual 44, 3) := by decide +kernel
theorem dL_law_463 : decode cL_law 463 = .ok (.aload_n 2, 1) := by decide +kernel
theorem dL_law_464 : decode cL_law 464 = .ok (.aload_n 0, 1) := by decide +kernel
theorem dL_law_465 : decode cL_law 465 = .ok (.iload_n 3, 1) := by decide +kernel
theorem dL_law_466 : decode cL_law 466 = .ok (.iconst 1, 1) := by decide +kernel
theorem dL_law_467 : decode cL_law 467 = .ok (.iadd, 1) := by decide +kernel
theorem dL_law_468 : decode cL_law 468 = .ok (.iaload, 1) := by decide +kernel
theorem dL_law_469 : decode cL_law 469 = .ok (.aload_n 0, 1) := by decide +kernel
theorem dL_law_470 : decode cL_law 470 = .ok (.iload_n 3, 1) := by decide +kernel
theorem dL_law_471 : decode cL_law 471 = .ok (.iconst 2, 1) := by decide +kernel
theorem dL_law_472 : decode cL_law 472 = .ok (.iadd, 1) := by decide +kernel
theorem dL_law_473 : decode cL_law 473 = .ok (.iaload, 1) := by decide +kernel
theorem dL_law_474 : decode cL_law 474 = .ok (.invokevirtual 47, 3) := by decide +kernel
theorem dL_law_477 : decode cL_law 477 = .ok (.if_icmp .eq 902, 3) := by decide +kernel
theorem dL_law_480 : decode cL_law 480 = .ok (.iconst 0, 1) := by decide +kernel
theorem dL_law_481 : decode cL_law 481 = .ok (.ireturn, 1) := by decide +kernel
theorem dL_law_482 : decode cL_law 482 = .ok (.aload_n 1, 1) := by decide +kernel
theorem dL_law_483 : decode cL_law 483 = .ok (.aload_n 0, 1) := by decide +kernel
theorem dL_law_484 : decode cL_law 484 = .ok (.iload_n 3, 1) := by decide +kernel
theorem dL_law_485 : decode cL_law 485 = .ok (.iconst 1, 1) := by decide +kernel
theorem dL_law_486 : decode cL_law 486 = .ok (.iadd, 1) := by decide +kernel
theorem dL_law_487 : decode cL_law 487 = .ok (.iaload, 1) := by decide +kernel
theorem dL_law_488 : decode cL_law 488 = .ok (.aload_n 0, 1) := by decide +kernel
theorem dL_law_489 : decode cL_law 489 = .ok (.iload_n 3, 1) := by decide +kernel
theorem dL_law_490 : decode cL_law 490 = .ok (.iconst 2, 1) := by decide +kernel
theorem dL_law_491 : decode cL_law 491 = .ok (.iadd, 1) := by decide +kernel
theorem dL_law_492 : decode cL_law 492 = .ok (.iaload, 1) := by decide +kernel
theorem dL_law_493 : decode cL_law 493 = .ok (.aload_n 0, 1) := by decide +kernel
theorem dL_law_494 : decode cL_law 494 = .ok (.iload_n 3, 1) := by decide +kernel
theorem dL_law_495 : decode cL_law 495 = .ok (.iconst 3, 1) := by decide +kernel
theorem dL_law_496 : decode cL_law 496 = .ok (.iadd, 1) := by decide +kernel
theorem dL_law_497 : decode cL_law 497 = .ok (.iaload, 1) := by decide +kernel
theorem dL_law_498 : decode cL_law 498 = .ok (.invokevirtual 48, 3) := by decide +kernel
theorem dL_law_501 : decode cL_law 501 = .ok (.aload_n 2, 1) := by decide +kernel
theorem dL_law_502 : decode cL_law 502 = .ok (.aload_n 0, 1) := by decide +kernel
theorem dL_law_503 : decode cL_law 503 = .ok (.iload_n 3, 1) := by decide +kernel
theorem dL_law_504 : decode cL_law 504 = .ok (.iconst 1, 1) := by decide +kernel
theorem dL_law_505 : decode cL_law 505 = .ok (.iadd, 1) := by decide +kernel
theorem dL_law_506 : decode cL_law 506 = .ok (.iaload, 1) := by decide +kernel
theorem dL_law_507 : decode cL_law 507 = .ok (.aload_n 0, 1) := by decide +kernel
theorem dL_law_508 : decode cL_law 508 = .ok (.iload_n 3, 1) := by decide +kernel
theorem dL_law_509 : decode cL_law 509 = .ok (.iconst 2, 1) := by decide +kernel
theorem dL_law_510 : decode cL_law 510 = .ok (.iadd, 1) := by decide +kernel
theorem dL_law_511 : decode cL_law 511 = .ok (.iaload, 1) := by decide +kernel
theorem dL_law_512 : decode cL_law 512 = .ok (.aload_n 0, 1) := by decide +kernel
theorem dL_law_513 : decode cL_law 513 = .ok (.iload_n 3, 1) := by decide +kernel
theorem dL_law_514 : decode cL_law 514 = .ok (.iconst 3, 1) := by decide +kernel
theorem dL_law_515 : decode cL_law 515 = .ok (.iadd, 1) := by decide +kernel
theorem dL_law_516 : decode cL_law 516 = .ok (.iaload, 1) := by decide +kernel
theorem dL_law_517 : decode cL_law 517 = .ok (.invokevirtual 51, 3) := by decide +kernel
theorem dL_law_520 : decode cL_law 520 = .ok (.if_icmp .eq 859, 3) := by decide +kernel
theorem dL_law_523 : decode cL_law 523 = .ok (.iconst 0, 1) := by decide +kernel
theorem dL_law_524 : decode cL_law 524 = .ok (.ireturn, 1) := by decide +kernel
theorem dL_law_525 : decode cL_law 525 = .ok (.aload_n 1, 1) := by decide +kernel
theorem dL_law_526 : decode cL_law 526 = .ok (.aload_n 0, 1) := by decide +kernel
theorem dL_law_527 : decode cL_law 527 = .ok (.iload_n 3, 1) := by decide +kernel
theorem dL_law_528 : decode cL_law 528 = .ok (.iconst 1, 1) := by decide +kernel
theorem dL_law_529 : decode cL_law 529 = .ok (.iadd, 1) := by decide +kernel
theorem dL_law_530 : decode cL_law 530 = .ok (.iaload, 1) := by decide +kernel
theorem dL_law_531 : decode cL_law 531 = .ok (.invokevirtual 52, 3) := by decide +kernel
theorem dL_law_534 : decode cL_law 534 = .ok (.aload_n 2, 1) := by decide +kernel
theorem dL_law_535 : decode cL_law 535 = .ok (.aload_n 0, 1) := by decide +kernel
theorem dL_law_536 : decode cL_law 536 = .ok (.iload_n 3, 1) := by decide +kernel
theorem dL_law_537 : decode cL_law 537 = .ok (.iconst 1, 1) := by decide +kernel
theorem dL_law_538 : decode cL_law 538 = .ok (.iadd, 1) := by decide +kernel
theorem dL_law_539 : decode cL_law 539 = .ok (.iaload, 1) := by decide +kernel
theorem dL_law_540 : decode cL_law 540 = .ok (.invokevirtual 56, 3) := by decide +kernel
theorem dL_law_543 : decode cL_law 543 = .ok (.if_icmp .eq 836, 3) := by decide +kernel
theorem dL_law_546 : decode cL_law 546 = .ok (.iconst 0, 1) := by decide +kernel
theorem dL_law_547 : decode cL_law 547 = .ok (.ireturn, 1) := by decide +kernel
theorem dL_law_548 : decode cL_law 548 = .ok (.aload_n 1, 1) := by decide +kernel
theorem dL_law_549 : decode cL_law 549 = .ok (.invokevirtual 57, 3) := by decide +kernel
theorem dL_law_552 : decode cL_law 552 = .ok (.aload_n 2, 1) := by decide +kernel
theorem dL_law_553 : decode cL_law 553 = .ok (.invokevirtual 61, 3) := by decide +kernel
theorem dL_law_556 : decode cL_law 556 = .ok (.if_icmp .eq 823, 3) := by decide +kernel
theorem dL_law_559 : decode cL_law 559 = .ok (.iconst 0, 1) := by decide +kernel
theorem dL_law_560 : decode cL_law 560 = .ok (.ireturn, 1) := by decide +kernel
theorem dL_law_561 : decode cL_law 561 = .ok (.aload_n 1, 1) := by decide +kernel
theorem dL_law_562 : decode cL_law 562 = .ok (.aload_n 0, 1) := by decide +kernel
theorem dL_law_563 : decode cL_law 563 = .ok (.iload_n 3, 1) := by decide +kernel
theorem dL_law_564 : decode cL_law 564 = .ok (.iconst 1, 1) := by decide +kernel
theorem dL_law_565 : decode cL_law 565 = .ok (.iadd, 1) := by decide +kernel
theorem dL_law_566 : decode cL_law 566 = .ok (.iaload, 1) := by decide +kernel
theorem dL_law_567 : decode cL_law 567 = .ok (.invokevirtual 62, 3) := by decide +kernel
theorem dL_law_570 : decode cL_law 570 = .ok (.aload_n 2, 1) := by decide +kernel
theorem dL_law_571 : decode cL_law 571 = .ok (.aload_n 0, 1) := by decide +kernel
theorem dL_law_572 : decode cL_law 572 = .ok (.iload_n 3, 1) := by decide +kernel
theorem dL_law_573 : decode cL_law 573 = .ok (.iconst 1, 1) := by decide +kernel
theorem dL_law_574 : decode cL_law 574 = .ok (.iadd, 1) := by decide +kernel
theorem dL_law_575 : decode cL_law 575 = .ok (.iaload, 1) := by decide +kernel
theorem dL_law_576 : decode cL_law 576 = .ok (.invokevirtual 65, 3) := by decide +kernel
theorem dL_law_579 : decode cL_law 579 = .ok (.if_icmp .eq 800, 3) := by decide +kernel
theorem dL_law_582 : decode cL_law 582 = .ok (.iconst 0, 1) := by decide +kernel
theorem dL_law_583 : decode cL_law 583 = .ok (.ireturn, 1) := by decide +kernel
theorem dL_law_584 : decode cL_law 584 = .ok (.aload_n 1, 1) := by decide +kernel
theorem dL_law_585 : decode cL_law 585 = .ok (.aload_n 0, 1) := by decide +kernel
theorem dL_law_586 : decode cL_law 586 = .ok (.iload_n 3, 1) := by decide +kernel
theorem dL_law_587 : decode cL_law 587 = .ok (.iconst 1, 1) := by decide +kernel
theorem dL_law_588 : decode cL_law 588 = .ok (.iadd, 1) := by decide +kernel
theorem dL_law_589 : decode cL_law 589 = .ok (.iaload, 1) := by decide +kernel
theorem dL_law_590 : decode cL_law 590 = .ok (.invokevirtual 66, 3) := by decide +kernel
theorem dL_law_593 : decode cL_law 593 = .ok (.aload_n 2, 1) := by decide +kernel
theorem dL_law_594 : decode cL_law 594 = .ok (.aload_n 0, 1) := by decide +kernel
theorem dL_law_595 : decode cL_law 595 = .ok (.iload_n 3, 1) := by decide +kernel
theorem dL_law_596 : decode cL_law 596 = .ok (.iconst 1, 1) := by decide +kernel
theorem dL_law_597 : decode cL_law 597 = .ok (.iadd, 1) := by decide +kernel
theorem dL_law_598 : decode cL_law 598 = .ok (.iaload, 1) := by decide +kernel
theorem dL_law_599 : decode cL_law 599 = .ok (.invokevirtual 69, 3) := by decide +kernel
theorem dL_law_602 : decode cL_law 602 = .ok (.if_icmp .eq 777, 3) := by decide +kernel
theorem dL_law_605 : decode cL_law 605 = .ok (.iconst 0, 1) := by decide +kernel
theorem dL_law_606 : decode cL_law 606 = .ok (.ireturn, 1) := by decide +kernel
theorem dL_law_607 : decode cL_law 607 = .ok (.aload_n 1, 1) := by decide +kernel
theorem dL_law_608 : decode cL_law 608 = .ok (.aload_n 0, 1) := by decide +kernel
theorem dL_law_609 : decode cL_law 609 = .ok (.iload_n 3, 1) := by decide +kernel
theorem dL_law_610 : decode cL_law 610 = .ok (.iconst 1, 1) := by decide +kernel
theorem dL_law_611 : decode cL_law 611 = .ok (.iadd, 1) := by decide +kernel
theorem dL_law_612 : decode cL_law 612 = .ok (.iaload, 1) := by decide +kernel
theorem dL_law_613 : decode cL_law 613 = .ok (.aload_n 0, 1) := by decide +kernel
theorem dL_law_614 : decode cL_law 614 = .ok (.iload_n 3, 1) := by decide +kernel
theorem dL_law_615 : decode cL_law 615 = .ok (.iconst 2, 1) := by decide +kernel
theorem dL_law_616 : decode cL_law 616 = .ok (.iadd, 1) := by decide +kernel
theorem dL_law_617 : decode cL_law 617 = .ok (.iaload, 1) := by decide +kernel
theorem dL_law_618 : decode cL_law 618 = .ok (.invokevirtual 70, 3) := by decide +kernel
theorem dL_law_621 : decode cL_law 621 = .ok (.aload_n 2, 1) := by decide +kernel
theorem dL_law_622 : decode cL_law 622 = .ok (.aload_n 0, 1) := by decide +kernel
theorem dL_law_623 : decode cL_law 623 = .ok (.iload_n 3, 1) := by decide +kernel
theorem dL_law_624 : decode cL_law 624 = .ok (.iconst 1, 1) := by decide +kernel
theorem dL_law_625 : decode cL_law 625 = .ok (.iadd, 1) := by decide +kernel
theorem dL_law_626 : decode cL_law 626 = .ok (.iaload, 1) := by decide +kernel
theorem dL_law_627 : decode cL_law 627 = .ok (.aload_n 0, 1) := by decide +kernel
theorem dL_law_628 : decode cL_law 628 = .ok (.iload_n 3, 1) := by decide +kernel
theorem dL_law_629 : decode cL_law 629 = .ok (.iconst 2, 1) := by decide +kernel
theorem dL_law_630 : decode cL_law 630 = .ok (.iadd, 1) := by decide +kernel
theorem dL_law_631 : decode cL_law 631 = .ok (.iaload, 1) := by decide +kernel
theorem dL_law_632 : decode cL_law 632 = .ok (.invokevirtual 73, 3) := by decide +kernel
theorem dL_law_635 : decode cL_law 635 = .ok (.if_icmp .eq 744, 3) := by decide +kernel
theorem dL_law_638 : decode cL_law 638 = .ok (.iconst 0, 1) := by decide +kernel
theorem dL_law_639 : decode cL_law 639 = .ok (.ireturn, 1) := by decide +kernel
theorem dL_law_640 : decode cL_law 640 = .ok (.aload_n 1, 1) := by decide +kernel
theorem dL_law_641 : decode cL_law 641 = .ok (.aload_n 0, 1) := by decide +kernel
theorem dL_law_642 : decode cL_law 642 = .ok (.iload_n 3, 1) := by decide +kernel
theorem dL_law_643 : decode cL_law 643 = .ok (.iconst 1, 1) := by decide +kernel
theorem dL_law_644 : decode cL_law 644 = .ok (.iadd, 1) := by decide +kernel
theorem dL_law_645 : decode cL_law 645 = .ok (.iaload, 1) := by decide +kernel
theorem dL_law_646 : decode cL_law 646 = .ok (.aload_n 0, 1) := by decide +kernel
theorem dL_law_647 : decode cL_law 647 = .ok (.iload_n 3, 1) := by decide +kernel
theorem dL_law_648 : decode cL_law 648 = .ok (.iconst 2, 1) := by decide +kernel
theorem dL_law_649 : decode cL_law 649 = .ok (.iadd, 1) := by decide +kernel
theorem dL_law_650 : decode cL_law 650 = .ok (.iaload, 1) := by decide +kernel
theorem dL_law_651 : decode cL_law 651 = .ok (.aload_n 0, 1) := by decide +kernel
theorem dL_law_652 : decode cL_law 652 = .ok (.iload_n 3, 1) := by decide +kernel
theorem dL_law_653 : decode cL_law 653 = .ok (.iconst 3, 1) := by decide +kernel
theorem dL_law_654 : decode cL_law 654 = .ok (.iadd, 1) := by decide +kernel
theorem dL_law_655 : decode cL_law 655 = .ok (.iaload, 1) := by decide +kernel
theorem dL_law_656 : decode cL_law 656 = .ok (.invokevirtual 74, 3) := by decide +kernel
theorem dL_law_659 : decode cL_law 659 = .ok (.aload_n 2, 1) := by decide +kernel
theorem dL_law_660 : decode cL_law 660 = .ok (.aload_n 0, 1) := by decide +kernel
theorem dL_law_661 : decode cL_law 661 = .ok (.iload_n 3, 1) := by decide +kernel
theorem dL_law_662 : decode cL_law 662 = .ok (.iconst 1, 1) := by decide +kernel
theorem dL_law_663 : decode cL_law 663 = .ok (.iadd, 1) := by decide +kernel
theorem dL_law_664 : decode cL_law 664 = .ok (.iaload, 1) := by decide +kernel
theorem dL_law_665 : decode cL_law 665 = .ok (.aload_n 0, 1) := by decide +kernel
theorem dL_law_666 : decode cL_law 666 = .ok (.iload_n 3, 1) := by decide +kernel
theorem dL_law_667 : decode cL_law 667 = .ok (.iconst 2, 1) := by decide +kernel
theorem dL_law_668 : decode cL_law 668 = .ok (.iadd, 1) := by decide +kernel
theorem dL_law_669 : decode cL_law 669 = .ok (.iaload, 1) := by decide +kernel
theorem dL_law_670 : decode cL_law 670 = .ok (.aload_n 0, 1) := by decide +kernel
theorem dL_law_671 : decode cL_law 671 = .ok (.iload_n 3, 1) := by decide +kernel
theorem dL_law_672 : decode cL_law 672 = .ok (.iconst 3, 1) := by decide +kernel
theorem dL_law_673 : decode cL_law 673 = .ok (.iadd, 1) := by decide +kernel
theorem dL_law_674 : decode cL_law 674 = .ok (.iaload, 1) := by decide +kernel
theorem dL_law_675 : decode cL_law 675 = .ok (.invokevirtual 77, 3) := by decide +kernel
theorem dL_law_678 : decode cL_law 678 = .ok (.if_icmp .eq 701, 3) := by decide +kernel
theorem dL_law_681 : decode cL_law 681 = .ok (.iconst 0, 1) := by decide +kernel
theorem dL_law_682 : decode cL_law 682 = .ok (.ireturn, 1) := by decide +kernel
theorem dL_law_683 : decode cL_law 683 = .ok (.aload_n 1, 1) := by decide +kernel
theorem dL_law_684 : decode cL_law 684 = .ok (.aload_n 0, 1) := by decide +kernel
theorem dL_law_685 : decode cL_law 685 = .ok (.iload_n 3, 1) := by decide +kernel
theorem dL_law_686 : decode cL_law 686 = .ok (.iconst 1, 1) := by decide +kernel
theorem dL_law_687 : decode cL_law 687 = .ok (.iadd, 1) := by decide +kernel
theorem dL_law_688 : decode cL_law 688 = .ok (.iaload, 1) := by decide +kernel
theorem dL_law_689 : decode cL_law 689 = .ok (.aload_n 0, 1) := by decide +kernel
theorem dL_law_690 : decode cL_law 690 = .ok (.iload_n 3, 1) := by decide +kernel
theorem dL_law_691 : decode cL_law 691 = .ok (.iconst 2, 1) := by decide +kernel
theorem dL_law_692 : decode cL_law 692 = .ok (.iadd, 1) := by decide +kernel
theorem dL_law_693 : decode cL_law 693 = .ok (.iaload, 1) := by decide +kernel
theorem dL_law_694 : decode cL_law 694 = .ok (.invokevirtual 78, 3) := by decide +kernel
theorem dL_law_697 : decode cL_law 697 = .ok (.aload_n 2, 1) := by decide +kernel
theorem dL_law_698 : decode cL_law 698 = .ok (.aload_n 0, 1) := by decide +kernel
theorem dL_law_699 : decode cL_law 699 = .ok (.iload_n 3, 1) := by decide +kernel
theorem dL_law_700 : decode cL_law 700 = .ok (.iconst 1, 1) := by decide +kernel
theorem dL_law_701 : decode cL_law 701 = .ok (.iadd, 1) := by decide +kernel
theorem dL_law_702 : decode cL_law 702 = .ok (.iaload, 1) := by decide +kernel
theorem dL_law_703 : decode cL_law 703 = .ok (.aload_n 0, 1) := by decide +kernel
theorem dL_law_704 : decode cL_law 704 = .ok (.iload_n 3, 1) := by decide +kernel
theorem dL_law_705 : decode cL_law 705 = .ok (.iconst 2, 1) := by decide +kernel
theorem dL_law_706 : decode cL_law 706 = .ok (.iadd, 1) := by decide +kernel
theorem dL_law_707 : decode cL_law 707 = .ok (.iaload, 1) := by decide +kernel
theorem dL_law_708 : decode cL_law 708 = .ok (.invokevirtual 81, 3) := by decide +kernel
theorem dL_law_711 : decode cL_law 711 = .ok (.if_icmp .eq 668, 3) := by decide +kernel
theorem dL_law_714 : decode cL_law 714 = .ok (.iconst 0, 1) := by decide +kernel
theorem dL_law_715 : decode cL_law 715 = .ok (.ireturn, 1) := by decide +kernel
theorem dL_law_716 : decode cL_law 716 = .ok (.aload_n 1, 1) := by decide +kernel
theorem dL_law_717 : decode cL_law 717 = .ok (.aload_n 0, 1) := by decide +kernel
theorem dL_law_718 : decode cL_law 718 = .ok (.iload_n 3, 1) := by decide +kernel
theorem dL_law_719 : decode cL_law 719 = .ok (.iconst 1, 1) := by decide +kernel
theorem dL_law_720 : decode cL_law 720 = .ok (.iadd, 1) := by decide +kernel
theorem dL_law_721 : decode cL_law 721 = .ok (.iaload, 1) := by decide +kernel
theorem dL_law_722 : decode cL_law 722 = .ok (.aload_n 0, 1) := by decide +kernel
theorem dL_law_723 : decode cL_law 723 = .ok (.iload_n 3, 1) := by decide +kernel
theorem dL_law_724 : decode cL_law 724 = .ok (.iconst 2, 1) := by decide +kernel
theorem dL_law_725 : decode cL_law 725 = .ok (.iadd, 1) := by decide +kernel
theorem dL_law_726 : decode cL_law 726 = .ok (.iaload, 1) := by decide +kernel
theorem dL_law_727 : decode cL_law 727 = .ok (.aload_n 0, 1) := by decide +kernel
theorem dL_law_728 : decode cL_law 728 = .ok (.iload_n 3, 1) := by decide +kernel
theorem dL_law_729 : decode cL_law 729 = .ok (.iconst 3, 1) := by decide +kernel
theorem dL_law_730 : decode cL_law 730 = .ok (.iadd, 1) := by decide +kernel
theorem dL_law_731 : decode cL_law 731 = .ok (.iaload, 1) := by decide +kernel
theorem dL_law_732 : decode cL_law 732 = .ok (.invokevirtual 82, 3) := by decide +kernel
theorem dL_law_735 : decode cL_law 735 = .ok (.aload_n 2, 1) := by decide +kernel
theorem dL_law_736 : decode cL_law 736 = .ok (.aload_n 0, 1) := by decide +kernel
theorem dL_law_737 : decode cL_law 737 = .ok (.iload_n 3, 1) := by decide +kernel
theorem dL_law_738 : decode cL_law 738 = .ok (.iconst 1, 1) := by decide +kernel
theorem dL_law_739 : decode cL_law 739 = .ok (.iadd, 1) := by decide +kernel
theorem dL_law_740 : decode cL_law 740 = .ok (.iaload, 1) := by decide +kernel
theorem dL_law_741 : decode cL_law 741 = .ok (.aload_n 0, 1) := by decide +kernel
theorem dL_law_742 : decode cL_law 742 = .ok (.iload_n 3, 1) := by decide +kernel
theorem dL_law_743 : decode cL_law 743 = .ok (.iconst 2, 1) := by decide +kernel
theorem dL_law_744 : decode cL_law 744 = .ok (.iadd, 1) := by decide +kernel
theorem dL_law_745 : decode cL_law 745 = .ok (.iaload, 1) := by decide +kernel
theorem dL_law_746 : decode cL_law 746 = .ok (.aload_n 0, 1) := by decide +kernel
theorem dL_law_747 : decode cL_law 747 = .ok (.iload_n 3, 1) := by decide +kernel
theorem dL_law_748 : decode cL_law 748 = .ok (.iconst 3, 1) := by decide +kernel
theorem dL_law_749 : decode cL_law 749 = .ok (.iadd, 1) := by decide +kernel
theorem dL_law_750 : decode cL_law 750 = .ok (.iaload, 1) := by decide +kernel
theorem dL_law_751 : decode cL_law 751 = .ok (.invokevirtual 85, 3) := by decide +kernel
theorem dL_law_754 : decode cL_law 754 = .ok (.if_icmp .eq 625, 3) := by decide +kernel
theorem dL_law_757 : decode cL_law 757 = .ok (.iconst 0, 1) := by decide +kernel
theorem dL_law_758 : decode cL_law 758 = .ok (.ireturn, 1) := by decide +kernel
theorem dL_law_759 : decode cL_law 759 = .ok (.aload_n 1, 1) := by decide +kernel
theorem dL_law_760 : decode cL_law 760 = .ok (.aload_n 0, 1) := by decide +kernel
theorem dL_law_761 : decode cL_law 761 = .ok (.iload_n 3, 1) := by decide +kernel
theorem dL_law_762 : decode cL_law 762 = .ok (.iconst 1, 1) := by decide +kernel
theorem dL_law_763 : decode cL_law 763 = .ok (.iadd, 1) := by decide +kernel
theorem dL_law_764 : decode cL_law 764 = .ok (.iaload, 1) := by decide +kernel
theorem dL_law_765 : decode cL_law 765 = .ok (.invokevirtual 86, 3) := by decide +kernel
theorem dL_law_768 : decode cL_law 768 = .ok (.aload_n 2, 1) := by decide +kernel
theorem dL_law_769 : decode cL_law 769 = .ok (.aload_n 0, 1) := by decide +kernel
theorem dL_law_770 : decode cL_law 770 = .ok (.iload_n 3, 1) := by decide +kernel
theorem dL_law_771 : decode cL_law 771 = .ok (.iconst 1, 1) := by decide +kernel
theorem dL_law_772 : decode cL_law 772 = .ok (.iadd, 1) := by decide +kernel
theorem dL_law_773 : decode cL_law 773 = .ok (.iaload, 1) := by decide +kernel
theorem dL_law_774 : decode cL_law 774 = .ok (.invokevirtual 89, 3) := by decide +kernel
theorem dL_law_777 : decode cL_law 777 = .ok (.if_icmp .eq 602, 3) := by decide +kernel
theorem dL_law_780 : decode cL_law 780 = .ok (.iconst 0, 1) := by decide +kernel
theorem dL_law_781 : decode cL_law 781 = .ok (.ireturn, 1) := by decide +kernel
theorem dL_law_782 : decode cL_law 782 = .ok (.aload_n 1, 1) := by decide +kernel
theorem dL_law_783 : decode cL_law 783 = .ok (.aload_n 0, 1) := by decide +kernel
theorem dL_law_784 : decode cL_law 784 = .ok (.iload_n 3, 1) := by decide +kernel
theorem dL_law_785 : decode cL_law 785 = .ok (.iconst 1, 1) := by decide +kernel
theorem dL_law_786 : decode cL_law 786 = .ok (.iadd, 1) := by decide +kernel
theorem dL_law_787 : decode cL_law 787 = .ok (.iaload, 1) := by decide +kernel
theorem dL_law_788 : decode cL_law 788 = .ok (.aload_n 0, 1) := by decide +kernel
theorem dL_law_789 : decode cL_law 789 = .ok (.iload_n 3, 1) := by decide +kernel
theorem dL_law_790 : decode cL_law 790 = .ok (.iconst 2, 1) := by decide +kernel
theorem dL_law_791 : decode cL_law 791 = .ok (.iadd, 1) := by decide +kernel
theorem dL_law_792 : decode cL_law 792 = .ok (.iaload, 1) := by decide +kernel
theorem dL_law_793 : decode cL_law 793 = .ok (.invokevirtual 90, 3) := by decide +kernel
theorem dL_law_796 : decode cL_law 796 = .ok (.aload_n 2, 1) := by decide +kernel
theorem dL_law_797 : decode cL_law 797 = .ok (.aload_n 0, 1) := by decide +kernel
theorem dL_law_798 : decode cL_law 798 = .ok (.iload_n 3, 1) := by decide +kernel
theorem dL_law_799 : decode cL_law 799 = .ok (.iconst 1, 1) := by decide +kernel
theorem dL_law_800 : decode cL_law 800 = .ok (.iadd, 1) := by decide +kernel
theorem dL_law_801 : decode cL_law 801 = .ok (.iaload, 1) := by decide +kernel
theorem dL_law_802 : decode cL_law 802 = .ok (.aload_n 0, 1) := by decide +kernel
theorem dL_law_803 : decode cL_law 803 = .ok (.iload_n 3, 1) := by decide +kernel
theorem dL_law_804 : decode cL_law 804 = .ok (.iconst 2, 1) := by decide +kernel
theorem dL_law_805 : decode cL_law 805 = .ok (.iadd, 1) := by decide +kernel
theorem dL_law_806 : decode cL_law 806 = .ok (.iaload, 1) := by decide +kernel
theorem dL_law_807 : decode cL_law 807 = .ok (.invokevirtual 93, 3) := by decide +kernel
theorem dL_law_810 : decode cL_law 810 = .ok (.if_icmp .eq 569, 3) := by decide +kernel
theorem dL_law_813 : decode cL_law 813 = .ok (.iconst 0, 1) := by decide +kernel
theorem dL_law_814 : decode cL_law 814 = .ok (.ireturn, 1) := by decide +kernel
theorem dL_law_815 : decode cL_law 815 = .ok (.aload_n 1, 1) := by decide +kernel
theorem dL_law_816 : decode cL_law 816 = .ok (.aload_n 0, 1) := by decide +kernel
theorem dL_law_817 : decode cL_law 817 = .ok (.iload_n 3, 1) := by decide +kernel
theorem dL_law_818 : decode cL_law 818 = .ok (.iconst 1, 1) := by decide +kernel
theorem dL_law_819 : decode cL_law 819 = .ok (.iadd, 1) := by decide +kernel
theorem dL_law_820 : decode cL_law 820 = .ok (.iaload, 1) := by decide +kernel
theorem dL_law_821 : decode cL_law 821 = .ok (.aload_n 0, 1) := by decide +kernel
theorem dL_law_822 : decode cL_law 822 = .ok (.iload_n 3, 1) := by decide +kernel
theorem dL_law_823 : decode cL_law 823 = .ok (.iconst 2, 1) := by decide +kernel
theorem dL_law_824 : decode cL_law 824 = .ok (.iadd, 1) := by decide +kernel
theorem dL_law_825 : decode cL_law 825 = .ok (.iaload, 1) := by decide +kernel
theorem dL_law_826 : decode cL_law 826 = .ok (.aload_n 0, 1) := by decide +kernel
theorem dL_law_827 : decode cL_law 827 = .ok (.iload_n 3, 1) := by decide +kernel
theorem dL_law_828 : decode cL_law 828 = .ok (.iconst 3, 1) := by decide +kernel
theorem dL_law_829 : decode cL_law 829 = .ok (.iadd, 1) := by decide +kernel
theorem dL_law_830 : decode cL_law 830 = .ok (.iaload, 1) := by decide +kernel
theorem dL_law_831 : decode cL_law 831 = .ok (.invokevirtual 94, 3) := by decide +kernel
theorem dL_law_834 : decode cL_law 834 = .ok (.aload_n 2, 1) := by decide +kernel
theorem dL_law_835 : decode cL_law 835 = .ok (.aload_n 0, 1) := by decide +kernel
theorem dL_law_836 : decode cL_law 836 = .ok (.iload_n 3, 1) := by decide +kernel
theorem dL_law_837 : decode cL_law 837 = .ok (.iconst 1, 1) := by decide +kernel
theorem dL_law_838 : decode cL_law 838 = .ok (.iadd, 1) := by decide +kernel
theorem dL_law_839 : decode cL_law 839 = .ok (.iaload, 1) := by decide +kernel
theorem dL_law_840 : decode cL_law 840 = .ok (.aload_n 0, 1) := by decide +kernel
theorem dL_law_841 : decode cL_law 841 = .ok (.iload_n 3, 1) := by decide +kernel
theorem dL_law_842 : decode cL_law 842 = .ok (.iconst 2, 1) := by decide +kernel
theorem dL_law_843 : decode cL_law 843 = .ok (.iadd, 1) := by decide +kernel
theorem dL_law_844 : decode cL_law 844 = .ok (.iaload, 1) := by decide +kernel
theorem dL_law_845 : decode cL_law 845 = .ok (.aload_n 0, 1) := by decide +kernel
theorem dL_law_846 : decode cL_law 846 = .ok (.iload_n 3, 1) := by decide +kernel
theorem dL_law_847 : decode cL_law 847 = .ok (.iconst 3, 1) := by decide +kernel
theorem dL_law_848 : decode cL_law 848 = .ok (.iadd, 1) := by decide +kernel
theorem dL_law_849 : decode cL_law 849 = .ok (.iaload, 1) := by decide +kernel
theorem dL_law_850 : decode cL_law 850 = .ok (.invokevirtual 98, 3) := by decide +kernel
theorem dL_law_853 : decode cL_law 853 = .ok (.lcmp, 1) := by decide +kernel
theorem dL_law_854 : decode cL_law 854 = .ok (.ifCond .eq 525, 3) := by decide +kernel
theorem dL_law_857 : decode cL_law 857 = .ok (.iconst 0, 1) := by decide +kernel
theorem dL_law_858 : decode cL_law 858 = .ok (.ireturn, 1) := by decide +kernel
theorem dL_law_859 : decode cL_law 859 = .ok (.aload_n 1, 1) := by decide +kernel
theorem dL_law_860 : decode cL_law 860 = .ok (.aload_n 0, 1) := by decide +kernel
theorem dL_law_861 : decode cL_law 861 = .ok (.iload_n 3, 1) := by decide +kernel
theorem dL_law_862 : decode cL_law 862 = .ok (.iconst 1, 1) := by decide +kernel
theorem dL_law_863 : decode cL_law 863 = .ok (.iadd, 1) := by decide +kernel
theorem dL_law_864 : decode cL_law 864 = .ok (.iaload, 1) := by decide +kernel
theorem dL_law_865 : decode cL_law 865 = .ok (.invokevirtual 99, 3) := by decide +kernel
theorem dL_law_868 : decode cL_law 868 = .ok (.aload_n 2, 1) := by decide +kernel
theorem dL_law_869 : decode cL_law 869 = .ok (.aload_n 0, 1) := by decide +kernel
theorem dL_law_870 : decode cL_law 870 = .ok (.iload_n 3, 1) := by decide +kernel
theorem dL_law_871 : decode cL_law 871 = .ok (.iconst 1, 1) := by decide +kernel
theorem dL_law_872 : decode cL_law 872 = .ok (.iadd, 1) := by decide +kernel
theorem dL_law_873 : decode cL_law 873 = .ok (.iaload, 1) := by decide +kernel
theorem dL_law_874 : decode cL_law 874 = .ok (.invokevirtual 103, 3) := by decide +kernel
theorem dL_law_877 : decode cL_law 877 = .ok (.lcmp, 1) := by decide +kernel
theorem dL_law_878 : decode cL_law 878 = .ok (.ifCond .eq 501, 3) := by decide +kernel
theorem dL_law_881 : decode cL_law 881 = .ok (.iconst 0, 1) := by decide +kernel
theorem dL_law_882 : decode cL_law 882 = .ok (.ireturn, 1) := by decide +kernel
theorem dL_law_883 : decode cL_law 883 = .ok (.aload_n 1, 1) := by decide +kernel
theorem dL_law_884 : decode cL_law 884 = .ok (.aload_n 0, 1) := by decide +kernel
theorem dL_law_885 : decode cL_law 885 = .ok (.iload_n 3, 1) := by decide +kernel
theorem dL_law_886 : decode cL_law 886 = .ok (.iconst 1, 1) := by decide +kernel
theorem dL_law_887 : decode cL_law 887 = .ok (.iadd, 1) := by decide +kernel
theorem dL_law_888 : decode cL_law 888 = .ok (.iaload, 1) := by decide +kernel
theorem dL_law_889 : decode cL_law 889 = .ok (.aload_n 0, 1) := by decide +kernel
theorem dL_law_890 : decode cL_law 890 = .ok (.iload_n 3, 1) := by decide +kernel
theorem dL_law_891 : decode cL_law 891 = .ok (.iconst 2, 1) := by decide +kernel
theorem dL_law_892 : decode cL_law 892 = .ok (.iadd, 1) := by decide +kernel
theorem dL_law_893 : decode cL_law 893 = .ok (.iaload, 1) := by decide +kernel
theorem dL_law_894 : decode cL_law 894 = .ok (.invokevirtual 104, 3) := by decide +kernel
theorem dL_law_897 : decode cL_law 897 = .ok (.aload_n 2, 1) := by decide +kernel
theorem dL_law_898 : decode cL_law 898 = .ok (.aload_n 0, 1) := by decide +kernel
theorem dL_law_899 : decode cL_law 899 = .ok (.iload_n 3, 1) := by decide +kernel
theorem dL_law_900 : decode cL_law 900 = .ok (.iconst 1, 1) := by decide +kernel
theorem dL_law_901 : decode cL_law 901 = .ok (.iadd, 1) := by decide +kernel
theorem dL_law_902 : decode cL_law 902 = .ok (.iaload, 1) := by decide +kernel
theorem dL_law_903 : decode cL_law 903 = .ok (.aload_n 0, 1) := by decide +kernel
theorem dL_law_904 : decode cL_law 904 = .ok (.iload_n 3, 1) := by decide +kernel
theorem dL_law_905 : decode cL_law 905 = .ok (.iconst 2, 1) := by decide +kernel
theorem dL_law_906 : decode cL_law 906 = .ok (.iadd, 1) := by decide +kernel
theorem dL_law_907 : decode cL_law 907 = .ok (.iaload, 1) := by decide +kernel
theorem dL_law_908 : decode cL_law 908 = .ok (.invokevirtual 107, 3) := by decide +kernel
theorem dL_law_911 : decode cL_law 911 = .ok (.if_icmp .eq 468, 3) := by decide +kernel
theorem dL_law_914 : decode cL_law 914 = .ok (.iconst 0, 1) := by decide +kernel
theorem dL_law_915 : decode cL_law 915 = .ok (.ireturn, 1) := by decide +kernel
theorem dL_law_916 : decode cL_law 916 = .ok (.aload_n 1, 1) := by decide +kernel
theorem dL_law_917 : decode cL_law 917 = .ok (.aload_n 0, 1) := by decide +kernel
theorem dL_law_918 : decode cL_law 918 = .ok (.iload_n 3, 1) := by decide +kernel
theorem dL_law_919 : decode cL_law 919 = .ok (.iconst 1, 1) := by decide +kernel
theorem dL_law_920 : decode cL_law 920 = .ok (.iadd, 1) := by decide +kernel
theorem dL_law_921 : decode cL_law 921 = .ok (.iaload, 1) := by decide +kernel
theorem dL_law_922 : decode cL_law 922 = .ok (.invokevirtual 108, 3) := by decide +kernel
theorem dL_law_925 : decode cL_law 925 = .ok (.aload_n 2, 1) := by decide +kernel
theorem dL_law_926 : decode cL_law 926 = .ok (.aload_n 0, 1) := by decide +kernel
theorem dL_law_927 : decode cL_law 927 = .ok (.iload_n 3, 1) := by decide +kernel
theorem dL_law_928 : decode cL_law 928 = .ok (.iconst 1, 1) := by decide +kernel
theorem dL_law_929 : decode cL_law 929 = .ok (.iadd, 1) := by decide +kernel
theorem dL_law_930 : decode cL_law 930 = .ok (.iaload, 1) := by decide +kernel
theorem dL_law_931 : decode cL_law 931 = .ok (.invokevirtual 111, 3) := by decide +kernel
theorem dL_law_934 : decode cL_law 934 = .ok (.if_icmp .eq 445, 3) := by decide +kernel
theorem dL_law_937 : decode cL_law 937 = .ok (.iconst 0, 1) := by decide +kernel
theorem dL_law_938 : decode cL_law 938 = .ok (.ireturn, 1) := by decide +kernel
theorem dL_law_939 : decode cL_law 939 = .ok (.aload_n 1, 1) := by decide +kernel
theorem dL_law_940 : decode cL_law 940 = .ok (.aload_n 0, 1) := by decide +kernel
theorem dL_law_941 : decode cL_law 941 = .ok (.iload_n 3, 1) := by decide +kernel
theorem dL_law_942 : decode cL_law 942 = .ok (.iconst 1, 1) := by decide +kernel
theorem dL_law_943 : decode cL_law 943 = .ok (.iadd, 1) := by decide +kernel
theorem dL_law_944 : decode cL_law 944 = .ok (.iaload, 1) := by decide +kernel
theorem dL_law_945 : decode cL_law 945 = .ok (.aload_n 0, 1) := by decide +kernel
theorem dL_law_946 : decode cL_law 946 = .ok (.iload_n 3, 1) := by decide +kernel
theorem dL_law_947 : decode cL_law 947 = .ok (.iconst 2, 1) := by decide +kernel
theorem dL_law_948 : decode cL_law 948 = .ok (.iadd, 1) := by decide +kernel
theorem dL_law_949 : decode cL_law 949 = .ok (.iaload, 1) := by decide +kernel
theorem dL_law_950 : decode cL_law 950 = .ok (.invokevirtual 112, 3) := by decide +kernel
theorem dL_law_953 : decode cL_law 953 = .ok (.aload_n 2, 1) := by decide +kernel
theorem dL_law_954 : decode cL_law 954 = .ok (.aload_n 0, 1) := by decide +kernel
theorem dL_law_955 : decode cL_law 955 = .ok (.iload_n 3, 1) := by decide +kernel
theorem dL_law_956 : decode cL_law 956 = .ok (.iconst 1, 1) := by decide +kernel
theorem dL_law_957 : decode cL_law 957 = .ok (.iadd, 1) := by decide +kernel
theorem dL_law_958 : decode cL_law 958 = .ok (.iaload, 1) := by decide +kernel
theorem dL_law_959 : decode cL_law 959 = .ok (.aload_n 0, 1) := by decide +kernel
theorem dL_law_960 : decode cL_law 960 = .ok (.iload_n 3, 1) := by decide +kernel
theorem dL_law_961 : decode cL_law 961 = .ok (.iconst 2, 1) := by decide +kernel
theorem dL_law_962 : decode cL_law 962 = .ok (.iadd, 1) := by decide +kernel
theorem dL_law_963 : decode cL_law 963 = .ok (.iaload, 1) := by decide +kernel
theorem dL_law_964 : decode cL_law 964 = .ok (.invokevirtual 115, 3) := by decide +kernel
theorem dL_law_967 : decode cL_law 967 = .ok (.if_icmp .eq 412, 3) := by decide +kernel
theorem dL_law_970 : decode cL_law 970 = .ok (.iconst 0, 1) := by decide +kernel
theorem dL_law_971 : decode cL_law 971 = .ok (.ireturn, 1) := by decide +kernel
theorem dL_law_972 : decode cL_law 972 = .ok (.aload_n 1, 1) := by decide +kernel
theorem dL_law_973 : decode cL_law 973 = .ok (.invokevirtual 116, 3) := by decide +kernel
theorem dL_law_976 : decode cL_law 976 = .ok (.aload_n 2, 1) := by decide +kernel
theorem dL_law_977 : decode cL_law 977 = .ok (.invokevirtual 119, 3) := by decide +kernel
theorem dL_law_980 : decode cL_law 980 = .ok (.if_icmp .eq 399, 3) := by decide +kernel
theorem dL_law_983 : decode cL_law 983 = .ok (.iconst 0, 1) := by decide +kernel
theorem dL_law_984 : decode cL_law 984 = .ok (.ireturn, 1) := by decide +kernel
theorem dL_law_985 : decode cL_law 985 = .ok (.aload_n 1, 1) := by decide +kernel
theorem dL_law_986 : decode cL_law 986 = .ok (.aload_n 0, 1) := by decide +kernel
theorem dL_law_987 : decode cL_law 987 = .ok (.iload_n 3, 1) := by decide +kernel
theorem dL_law_988 : decode cL_law 988 = .ok (.iconst 1, 1) := by decide +kernel
theorem dL_law_989 : decode cL_law 989 = .ok (.iadd, 1) := by decide +kernel
theorem dL_law_990 : decode cL_law 990 = .ok (.iaload, 1) := by decide +kernel
theorem dL_law_991 : decode cL_law 991 = .ok (.aload_n 0, 1) := by decide +kernel
theorem dL_law_992 : decode cL_law 992 = .ok (.iload_n 3, 1) := by decide +kernel
theorem dL_law_993 : decode cL_law 993 = .ok (.iconst 2, 1) := by decide +kernel
theorem dL_law_994 : decode cL_law 994 = .ok (.iadd, 1) := by decide +kernel
theorem dL_law_995 : decode cL_law 995 = .ok (.iaload, 1) := by decide +kernel
theorem dL_law_996 : decode cL_law 996 = .ok (.invokevirtual 120, 3) := by decide +kernel
theorem dL_law_999 : decode cL_law 999 = .ok (.aload_n 2, 1) := by decide +kernel
theorem dL_law_1000 : decode cL_law 1000 = .ok (.aload_n 0, 1) := by decide +kernel
theorem dL_law_1001 : decode cL_law 1001 = .ok (.iload_n 3, 1) := by decide +kernel
theorem dL_law_1002 : decode cL_law 1002 = .ok (.iconst 1, 1) := by decide +kernel
theorem dL_law_1003 : decode cL_law 1003 = .ok (.iadd, 1) := by decide +kernel
theorem dL_law_1004 : decode cL_law 1004 = .ok (.iaload, 1) := by decide +kernel
theorem dL_law_1005 : decode cL_law 1005 = .ok (.aload_n 0, 1) := by decide +kernel
theorem dL_law_1006 : decode cL_law 1006 = .ok (.iload_n 3, 1) := by decide +kernel
theorem dL_law_1007 : decode cL_law 1007 = .ok (.iconst 2, 1) := by decide +kernel
theorem dL_law_1008 : decode cL_law 1008 = .ok (.iadd, 1) := by decide +kernel
theorem dL_law_1009 : decode cL_law 1009 = .ok (.iaload, 1) := by decide +kernel
theorem dL_law_1010 : decode cL_law 1010 = .ok (.invokevirtual 123, 3) := by decide +kernel
theorem dL_law_1013 : decode cL_law 1013 = .ok (.if_icmp .eq 366, 3) := by decide +kernel
theorem dL_law_1016 : decode cL_law 1016 = .ok (.iconst 0, 1) := by decide +kernel
theorem dL_law_1017 : decode cL_law 1017 = .ok (.ireturn, 1) := by decide +kernel
theorem dL_law_1018 : decode cL_law 1018 = .ok (.aload_n 1, 1) := by decide +kernel
theorem dL_law_1019 : decode cL_law 1019 = .ok (.invokevirtual 124, 3) := by decide +kernel
theorem dL_law_1022 : decode cL_law 1022 = .ok (.aload_n 2, 1) := by decide +kernel
theorem dL_law_1023 : decode cL_law 1023 = .ok (.invokevirtual 127, 3) := by decide +kernel
theorem dL_law_1026 : decode cL_law 1026 = .ok (.if_icmp .eq 353, 3) := by decide +kernel
theorem dL_law_1029 : decode cL_law 1029 = .ok (.iconst 0, 1) := by decide +kernel
theorem dL_law_1030 : decode cL_law 1030 = .ok (.ireturn, 1) := by decide +kernel
theorem dL_law_1031 : decode cL_law 1031 = .ok (.aload_n 1, 1) := by decide +kernel
theorem dL_law_1032 : decode cL_law 1032 = .ok (.invokevirtual 128, 3) := by decide +kernel
theorem dL_law_1035 : decode cL_law 1035 = .ok (.aload_n 2, 1) := by decide +kernel
theorem dL_law_1036 : decode cL_law 1036 = .ok (.invokevirtual 131, 3) := by decide +kernel
theorem dL_law_1039 : decode cL_law 1039 = .ok (.if_icmp .eq 340, 3) := by decide +kernel
theorem dL_law_1042 : decode cL_law 1042 = .ok (.iconst 0, 1) := by decide +kernel
theorem dL_law_1043 : decode cL_law 1043 = .ok (.ireturn, 1) := by decide +kernel
theorem dL_law_1044 : decode cL_law 1044 = .ok (.aload_n 1, 1) := by decide +kernel
theorem dL_law_1045 : decode cL_law 1045 = .ok (.aload_n 0, 1) := by decide +kernel
theorem dL_law_1046 : decode cL_law 1046 = .ok (.iload_n 3, 1) := by decide +kernel
theorem dL_law_1047 : decode cL_law 1047 = .ok (.iconst 1, 1) := by decide +kernel
theorem dL_law_1048 : decode cL_law 1048 = .ok (.iadd, 1) := by decide +kernel
theorem dL_law_1049 : decode cL_law 1049 = .ok (.iaload, 1) := by decide +kernel
theorem dL_law_1050 : decode cL_law 1050 = .ok (.aload_n 0, 1) := by decide +kernel
theorem dL_law_1051 : decode cL_law 1051 = .ok (.iload_n 3, 1) := by decide +kernel
theorem dL_law_1052 : decode cL_law 1052 = .ok (.iconst 2, 1) := by decide +kernel
theorem dL_law_1053 : decode cL_law 1053 = .ok (.iadd, 1) := by decide +kernel
theorem dL_law_1054 : decode cL_law 1054 = .ok (.iaload, 1) := by decide +kernel
theorem dL_law_1055 : decode cL_law 1055 = .ok (.aload_n 0, 1) := by decide +kernel
theorem dL_law_1056 : decode cL_law 1056 = .ok (.iload_n 3, 1) := by decide +kernel
theorem dL_law_1057 : decode cL_law 1057 = .ok (.iconst 3, 1) := by decide +kernel
theorem dL_law_1058 : decode cL_law 1058 = .ok (.iadd, 1) := by decide +kernel
theorem dL_law_1059 : decode cL_law 1059 = .ok (.iaload, 1) := by decide +kernel
theorem dL_law_1060 : decode cL_law 1060 = .ok (.invokevirtual 132, 3) := by decide +kernel
theorem dL_law_1063 : decode cL_law 1063 = .ok (.aload_n 2, 1) := by decide +kernel
theorem dL_law_1064 : decode cL_law 1064 = .ok (.aload_n 0, 1) := by decide +kernel
theorem dL_law_1065 : decode cL_law 1065 = .ok (.iload_n 3, 1) := by decide +kernel
theorem dL_law_1066 : decode cL_law 1066 = .ok (.iconst 1, 1) := by decide +kernel
theorem dL_law_1067 : decode cL_law 1067 = .ok (.iadd, 1) := by decide +kernel
theorem dL_law_1068 : decode cL_law 1068 = .ok (.iaload, 1) := by decide +kernel
theorem dL_law_1069 : decode cL_law 1069 = .ok (.aload_n 0, 1) := by decide +kernel
theorem dL_law_1070 : decode cL_law 1070 = .ok (.iload_n 3, 1) := by decide +kernel
theorem dL_law_1071 : decode cL_law 1071 = .ok (.iconst 2, 1) := by decide +kernel
theorem dL_law_1072 : decode cL_law 1072 = .ok (.iadd, 1) := by decide +kernel
theorem dL_law_1073 : decode cL_law 1073 = .ok (.iaload, 1) := by decide +kernel
theorem dL_law_1074 : decode cL_law 1074 = .ok (.aload_n 0, 1) := by decide +kernel
theorem dL_law_1075 : decode cL_law 1075 = .ok (.iload_n 3, 1) := by decide +kernel
theorem dL_law_1076 : decode cL_law 1076 = .ok (.iconst 3, 1) := by decide +kernel
theorem dL_law_1077 : decode cL_law 1077 = .ok (.iadd, 1) := by decide +kernel
theorem dL_law_1078 : decode cL_law 1078 = .ok (.iaload, 1) := by decide +kernel
theorem dL_law_1079 : decode cL_law 1079 = .ok (.invokevirtual 135, 3) := by decide +kernel
theorem dL_law_1082 : decode cL_law 1082 = .ok (.if_icmp .eq 297, 3) := by decide +kernel
theorem dL_law_1085 : decode cL_law 1085 = .ok (.iconst 0, 1) := by decide +kernel
theorem dL_law_1086 : decode cL_law 1086 = .ok (.ireturn, 1) := by decide +kernel
theorem dL_law_1087 : decode cL_law 1087 = .ok (.aload_n 1, 1) := by decide +kernel
theorem dL_law_1088 : decode cL_law 1088 = .ok (.aload_n 0, 1) := by decide +kernel
theorem dL_law_1089 : decode cL_law 1089 = .ok (.iload_n 3, 1) := by decide +kernel
theorem dL_law_1090 : decode cL_law 1090 = .ok (.iconst 1, 1) := by decide +kernel
theorem dL_law_1091 : decode cL_law 1091 = .ok (.iadd, 1) := by decide +kernel
theorem dL_law_1092 : decode cL_law 1092 = .ok (.iaload, 1) := by decide +kernel
theorem dL_law_1093 : decode cL_law 1093 = .ok (.invokevirtual 136, 3) := by decide +kernel
theorem dL_law_1096 : decode cL_law 1096 = .ok (.aload_n 2, 1) := by decide +kernel
theorem dL_law_1097 : decode cL_law 1097 = .ok (.aload_n 0, 1) := by decide +kernel
theorem dL_law_1098 : decode cL_law 1098 = .ok (.iload_n 3, 1) := by decide +kernel
theorem dL_law_1099 : decode cL_law 1099 = .ok (.iconst 1, 1) := by decide +kernel
theorem dL_law_1100 : decode cL_law 1100 = .ok (.iadd, 1) := by decide +kernel
theorem dL_law_1101 : decode cL_law 1101 = .ok (.iaload, 1) := by decide +kernel
theorem dL_law_1102 : decode cL_law 1102 = .ok (.invokevirtual 139, 3) := by decide +kernel
theorem dL_law_1105 : decode cL_law 1105 = .ok (.if_icmp .eq 274, 3) := by decide +kernel
theorem dL_law_1108 : decode cL_law 1108 = .ok (.iconst 0, 1) := by decide +kernel
theorem dL_law_1109 : decode cL_law 1109 = .ok (.ireturn, 1) := by decide +kernel
theorem dL_law_1110 : decode cL_law 1110 = .ok (.aload_n 1, 1) := by decide +kernel
theorem dL_law_1111 : decode cL_law 1111 = .ok (.aload_n 0, 1) := by decide +kernel
theorem dL_law_1112 : decode cL_law 1112 = .ok (.iload_n 3, 1) := by decide +kernel
theorem dL_law_1113 : decode cL_law 1113 = .ok (.iconst 1, 1) := by decide +kernel
theorem dL_law_1114 : decode cL_law 1114 = .ok (.iadd, 1) := by decide +kernel
theorem dL_law_1115 : decode cL_law 1115 = .ok (.iaload, 1) := by decide +kernel
theorem dL_law_1116 : decode cL_law 1116 = .ok (.aload_n 0, 1) := by decide +kernel
theorem dL_law_1117 : decode cL_law 1117 = .ok (.iload_n 3, 1) := by decide +kernel
theorem dL_law_1118 : decode cL_law 1118 = .ok (.iconst 2, 1) := by decide +kernel
theorem dL_law_1119 : decode cL_law 1119 = .ok (.iadd, 1) := by decide +kernel
theorem dL_law_1120 : decode cL_law 1120 = .ok (.iaload, 1) := by decide +kernel
theorem dL_law_1121 : decode cL_law 1121 = .ok (.invokevirtual 140, 3) := by decide +kernel
theorem dL_law_1124 : decode cL_law 1124 = .ok (.aload_n 2, 1) := by decide +kernel
theorem dL_law_1125 : decode cL_law 1125 = .ok (.aload_n 0, 1) := by decide +kernel
theorem dL_law_1126 : decode cL_law 1126 = .ok (.iload_n 3, 1) := by decide +kernel
theorem dL_law_1127 : decode cL_law 1127 = .ok (.iconst 1, 1) := by decide +kernel
theorem dL_law_1128 : decode cL_law 1128 = .ok (.iadd, 1) := by decide +kernel
theorem dL_law_1129 : decode cL_law 1129 = .ok (.iaload, 1) := by decide +kernel
theorem dL_law_1130 : decode cL_law 1130 = .ok (.aload_n 0, 1) := by decide +kernel
theorem dL_law_1131 : decode cL_law 1131 = .ok (.iload_n 3, 1) := by decide +kernel
theorem dL_law_1132 : decode cL_law 1132 = .ok (.iconst 2, 1) := by decide +kernel
theorem dL_law_1133 : decode cL_law 1133 = .ok (.iadd, 1) := by decide +kernel
theorem dL_law_1134 : decode cL_law 1134 = .ok (.iaload, 1) := by decide +kernel
theorem dL_law_1135 : decode cL_law 1135 = .ok (.invokevirtual 143, 3) := by decide +kernel
theorem dL_law_1138 : decode cL_law 1138 = .ok (.if_icmp .eq 241, 3) := by decide +kernel
theorem dL_law_1141 : decode cL_law 1141 = .ok (.iconst 0, 1) := by decide +kernel
theorem dL_law_1142 : decode cL_law 1142 = .ok (.ireturn, 1) := by decide +kernel
theorem dL_law_1143 : decode cL_law 1143 = .ok (.aload_n 1, 1) := by decide +kernel
theorem dL_law_1144 : decode cL_law 1144 = .ok (.aload_n 0, 1) := by decide +kernel
theorem dL_law_1145 : decode cL_law 1145 = .ok (.iload_n 3, 1) := by decide +kernel
theorem dL_law_1146 : decode cL_law 1146 = .ok (.iconst 1, 1) := by decide +kernel
theorem dL_law_1147 : decode cL_law 1147 = .ok (.iadd, 1) := by decide +kernel
theorem dL_law_1148 : decode cL_law 1148 = .ok (.iaload, 1) := by decide +kernel
theorem dL_law_1149 : decode cL_law 1149 = .ok (.invokevirtual 144, 3) := by decide +kernel
theorem dL_law_1152 : decode cL_law 1152 = .ok (.aload_n 2, 1) := by decide +kernel
theorem dL_law_1153 : decode cL_law 1153 = .ok (.aload_n 0, 1) := by decide +kernel
theorem dL_law_1154 : decode cL_law 1154 = .ok (.iload_n 3, 1) := by decide +kernel
theorem dL_law_1155 : decode cL_law 1155 = .ok (.iconst 1, 1) := by decide +kernel
theorem dL_law_1156 : decode cL_law 1156 = .ok (.iadd, 1) := by decide +kernel
theorem dL_law_1157 : decode cL_law 1157 = .ok (.iaload, 1) := by decide +kernel
theorem dL_law_1158 : decode cL_law 1158 = .ok (.invokevirtual 147, 3) := by decide +kernel
theorem dL_law_1161 : decode cL_law 1161 = .ok (.if_icmp .eq 218, 3) := by decide +kernel
theorem dL_law_1164 : decode cL_law 1164 = .ok (.iconst 0, 1) := by decide +kernel
theorem dL_law_1165 : decode cL_law 1165 = .ok (.ireturn, 1) := by decide +kernel
theorem dL_law_1166 : decode cL_law 1166 = .ok (.aload_n 1, 1) := by decide +kernel
theorem dL_law_1167 : decode cL_law 1167 = .ok (.aload_n 0, 1) := by decide +kernel
theorem dL_law_1168 : decode cL_law 1168 = .ok (.iload_n 3, 1) := by decide +kernel
theorem dL_law_1169 : decode cL_law 1169 = .ok (.iconst 1, 1) := by decide +kernel
theorem dL_law_1170 : decode cL_law 1170 = .ok (.iadd, 1) := by decide +kernel
theorem dL_law_1171 : decode cL_law 1171 = .ok (.iaload, 1) := by decide +kernel
theorem dL_law_1172 : decode cL_law 1172 = .ok (.aload_n 0, 1) := by decide +kernel
theorem dL_law_1173 : decode cL_law 1173 = .ok (.iload_n 3, 1) := by decide +kernel
theorem dL_law_1174 : decode cL_law 1174 = .ok (.iconst 2, 1) := by decide +kernel
theorem dL_law_1175 : decode cL_law 1175 = .ok (.iadd, 1) := by decide +kernel
theorem dL_law_1176 : decode cL_law 1176 = .ok (.iaload, 1) := by decide +kernel
theorem dL_law_1177 : decode cL_law 1177 = .ok (.aload_n 0, 1) := by decide +kernel
theorem dL_law_1178 : decode cL_law 1178 = .ok (.iload_n 3, 1) := by decide +kernel
theorem dL_law_1179 : decode cL_law 1179 = .ok (.iconst 3, 1) := by decide +kernel
theorem dL_law_1180 : decode cL_law 1180 = .ok (.iadd, 1) := by decide +kernel
theorem dL_law_1181 : decode cL_law 1181 = .ok (.iaload, 1) := by decide +kernel
theorem dL_law_1182 : decode cL_law 1182 = .ok (.invokevirtual 148, 3) := by decide +kernel
theorem dL_law_1185 : decode cL_law 1185 = .ok (.aload_n 2, 1) := by decide +kernel
theorem dL_law_1186 : decode cL_law 1186 = .ok (.aload_n 0, 1) := by decide +kernel
theorem dL_law_1187 : decode cL_law 1187 = .ok (.iload_n 3, 1) := by decide +kernel
theorem dL_law_1188 : decode cL_law 1188 = .ok (.iconst 1, 1) := by decide +kernel
theorem dL_law_1189 : decode cL_law 1189 = .ok (.iadd, 1) := by decide +kernel
theorem dL_law_1190 : decode cL_law 1190 = .ok (.iaload, 1) := by decide +kernel
theorem dL_law_1191 : decode cL_law 1191 = .ok (.aload_n 0, 1) := by decide +kernel
theorem dL_law_1192 : decode cL_law 1192 = .ok (.iload_n 3, 1) := by decide +kernel
theorem dL_law_1193 : decode cL_law 1193 = .ok (.iconst 2, 1) := by decide +kernel
theorem dL_law_1194 : decode cL_law 1194 = .ok (.iadd, 1) := by decide +kernel
theorem dL_law_1195 : decode cL_law 1195 = .ok (.iaload, 1) := by decide +kernel
theorem dL_law_1196 : decode cL_law 1196 = .ok (.aload_n 0, 1) := by decide +kernel
theorem dL_law_1197 : decode cL_law 1197 = .ok (.iload_n 3, 1) := by decide +kernel
theorem dL_law_1198 : decode cL_law 1198 = .ok (.iconst 3, 1) := by decide +kernel
theorem dL_law_1199 : decode cL_law 1199 = .ok (.iadd, 1) := by decide +kernel
theorem dL_law_1200 : decode cL_law 1200 = .ok (.iaload, 1) := by decide +kernel
theorem dL_law_1201 : decode cL_law 1201 = .ok (.invokevirtual 151, 3) := by decide +kernel
theorem dL_law_1204 : decode cL_law 1204 = .ok (.if_icmp .eq 175, 3) := by decide +kernel
theorem dL_law_1207 : decode cL_law 1207 = .ok (.iconst 0, 1) := by decide +kernel
theorem dL_law_1208 : decode cL_law 1208 = .ok (.ireturn, 1) := by decide +kernel
theorem dL_law_1209 : decode cL_law 1209 = .ok (.aload_n 1, 1) := by decide +kernel
theorem dL_law_1210 : decode cL_law 1210 = .ok (.aload_n 0, 1) := by decide +kernel
theorem dL_law_1211 : decode cL_law 1211 = .ok (.iload_n 3, 1) := by decide +kernel
theorem dL_law_1212 : decode cL_law 1212 = .ok (.iconst 1, 1) := by decide +kernel
theorem dL_law_1213 : decode cL_law 1213 = .ok (.iadd, 1) := by decide +kernel
theorem dL_law_1214 : decode cL_law 1214 = .ok (.iaload, 1) := by decide +kernel
theorem dL_law_1215 : decode cL_law 1215 = .ok (.aload_n 0, 1) := by decide +kernel
theorem dL_law_1216 : decode cL_law 1216 = .ok (.iload_n 3, 1) := by decide +kernel
theorem dL_law_1217 : decode cL_law 1217 = .ok (.iconst 2, 1) := by decide +kernel
theorem dL_law_1218 : decode cL_law 1218 = .ok (.iadd, 1) := by decide +kernel
theorem dL_law_1219 : decode cL_law 1219 = .ok (.iaload, 1) := by decide +kernel
theorem dL_law_1220 : decode cL_law 1220 = .ok (.aload_n 0, 1) := by decide +kernel
theorem dL_law_1221 : decode cL_law 1221 = .ok (.iload_n 3, 1) := by decide +kernel
theorem dL_law_1222 : decode cL_law 1222 = .ok (.iconst 3, 1) := by decide +kernel
theorem dL_law_1223 : decode cL_law 1223 = .ok (.iadd, 1) := by decide +kernel
theorem dL_law_1224 : decode cL_law 1224 = .ok (.iaload, 1) := by decide +kernel
theorem dL_law_1225 : decode cL_law 1225 = .ok (.i2l, 1) := by decide +kernel
theorem dL_law_1226 : decode cL_law 1226 = .ok (.bipush 32, 2) := by decide +kernel
theorem dL_law_1228 : decode cL_law 1228 = .ok (.lshl, 1) := by decide +kernel
theorem dL_law_1229 : decode cL_law 1229 = .ok (.aload_n 0, 1) := by decide +kernel
theorem dL_law_1230 : decode cL_law 1230 = .ok (.iload_n 3, 1) := by decide +kernel
theorem dL_law_1231 : decode cL_law 1231 = .ok (.iconst 4, 1) := by decide +kernel
theorem dL_law_1232 : decode cL_law 1232 = .ok (.iadd, 1) := by decide +kernel
theorem dL_law_1233 : decode cL_law 1233 = .ok (.iaload, 1) := by decide +kernel
theorem dL_law_1234 : decode cL_law 1234 = .ok (.i2l, 1) := by decide +kernel
theorem dL_law_1235 : decode cL_law 1235 = .ok (.ldc2_w 152, 3) := by decide +kernel
theorem dL_law_1238 : decode cL_law 1238 = .ok (.land, 1) := by decide +kernel
theorem dL_law_1239 : decode cL_law 1239 = .ok (.lor, 1) := by decide +kernel
theorem dL_law_1240 : decode cL_law 1240 = .ok (.invokevirtual 154, 3) := by decide +kernel
theorem dL_law_1243 : decode cL_law 1243 = .ok (.aload_n 2, 1) := by decide +kernel
theorem dL_law_1244 : decode cL_law 1244 = .ok (.aload_n 0, 1) := by decide +kernel
theorem dL_law_1245 : decode cL_law 1245 = .ok (.iload_n 3, 1) := by decide +kernel
theorem dL_law_1246 : decode cL_law 1246 = .ok (.iconst 1, 1) := by decide +kernel
theorem dL_law_1247 : decode cL_law 1247 = .ok (.iadd, 1) := by decide +kernel
theorem dL_law_1248 : decode cL_law 1248 = .ok (.iaload, 1) := by decide +kernel
theorem dL_law_1249 : decode cL_law 1249 = .ok (.aload_n 0, 1) := by decide +kernel
theorem dL_law_1250 : decode cL_law 1250 = .ok (.iload_n 3, 1) := by decide +kernel
theorem dL_law_1251 : decode cL_law 1251 = .ok (.iconst 2, 1) := by decide +kernel
theorem dL_law_1252 : decode cL_law 1252 = .ok (.iadd, 1) := by decide +kernel
theorem dL_law_1253 : decode cL_law 1253 = .ok (.iaload, 1) := by decide +kernel
theorem dL_law_1254 : decode cL_law 1254 = .ok (.aload_n 0, 1) := by decide +kernel
theorem dL_law_1255 : decode cL_law 1255 = .ok (.iload_n 3, 1) := by decide +kernel
theorem dL_law_1256 : decode cL_law 1256 = .ok (.iconst 3, 1) := by decide +kernel
theorem dL_law_1257 : decode cL_law 1257 = .ok (.iadd, 1) := by decide +kernel
theorem dL_law_1258 : decode cL_law 1258 = .ok (.iaload, 1) := by decide +kernel
theorem dL_law_1259 : decode cL_law 1259 = .ok (.i2l, 1) := by decide +kernel
theorem dL_law_1260 : decode cL_law 1260 = .ok (.bipush 32, 2) := by decide +kernel
theorem dL_law_1262 : decode cL_law 1262 = .ok (.lshl, 1) := by decide +kernel
theorem dL_law_1263 : decode cL_law 1263 = .ok (.aload_n 0, 1) := by decide +kernel
theorem dL_law_1264 : decode cL_law 1264 = .ok (.iload_n 3, 1) := by decide +kernel
theorem dL_law_1265 : decode cL_law 1265 = .ok (.iconst 4, 1) := by decide +kernel
theorem dL_law_1266 : decode cL_law 1266 = .ok (.iadd, 1) := by decide +kernel
theorem dL_law_1267 : decode cL_law 1267 = .ok (.iaload, 1) := by decide +kernel
theorem dL_law_1268 : decode cL_law 1268 = .ok (.i2l, 1) := by decide +kernel
theorem dL_law_1269 : decode cL_law 1269 = .ok (.ldc2_w 152, 3) := by decide +kernel
theorem dL_law_1272 : decode cL_law 1272 = .ok (.land, 1) := by decide +kernel
theorem dL_law_1273 : decode cL_law 1273 = .ok (.lor, 1) := by decide +kernel
theorem dL_law_1274 : decode cL_law 1274 = .ok (.invokevirtual 158, 3) := by decide +kernel
theorem dL_law_1277 : decode cL_law 1277 = .ok (.if_icmp .eq 102, 3) := by decide +kernel
theorem dL_law_1280 : decode cL_law 1280 = .ok (.iconst 0, 1) := by decide +kernel
theorem dL_law_1281 : decode cL_law 1281 = .ok (.ireturn, 1) := by decide +kernel
theorem dL_law_1282 : decode cL_law 1282 = .ok (.aload_n 1, 1) := by decide +kernel
theorem dL_law_1283 : decode cL_law 1283 = .ok (.aload_n 0, 1) := by decide +kernel
theorem dL_law_1284 : decode cL_law 1284 = .ok (.iload_n 3, 1) := by decide +kernel
theorem dL_law_1285 : decode cL_law 1285 = .ok (.iconst 1, 1) := by decide +kernel
theorem dL_law_1286 : decode cL_law 1286 = .ok (.iadd, 1) := by decide +kernel
theorem dL_law_1287 : decode cL_law 1287 = .ok (.iaload, 1) := by decide +kernel
theorem dL_law_1288 : decode cL_law 1288 = .ok (.aload_n 0, 1) := by decide +kernel
theorem dL_law_1289 : decode cL_law 1289 = .ok (.iload_n 3, 1) := by decide +kernel
theorem dL_law_1290 : decode cL_law 1290 = .ok (.iconst 2, 1) := by decide +kernel
theorem dL_law_1291 : decode cL_law 1291 = .ok (.iadd, 1) := by decide +kernel
theorem dL_law_1292 : decode cL_law 1292 = .ok (.iaload, 1) := by decide +kernel
theorem dL_law_1293 : decode cL_law 1293 = .ok (.invokevirtual 159, 3) := by decide +kernel
theorem dL_law_1296 : decode cL_law 1296 = .ok (.aload_n 2, 1) := by decide +kernel
theorem dL_law_1297 : decode cL_law 1297 = .ok (.aload_n 0, 1) := by decide +kernel
theorem dL_law_1298 : decode cL_law 1298 = .ok (.iload_n 3, 1) := by decide +kernel
theorem dL_law_1299 : decode cL_law 1299 = .ok (.iconst 1, 1) := by decide +kernel
theorem dL_law_1300 : decode cL_law 1300 = .ok (.iadd, 1) := by decide +kernel
theorem dL_law_1301 : decode cL_law 1301 = .ok (.iaload, 1) := by decide +kernel
theorem dL_law_1302 : decode cL_law 1302 = .ok (.aload_n 0, 1) := by decide +kernel
theorem dL_law_1303 : decode cL_law 1303 = .ok (.iload_n 3, 1) := by decide +kernel
theorem dL_law_1304 : decode cL_law 1304 = .ok (.iconst 2, 1) := by decide +kernel
theorem dL_law_1305 : decode cL_law 1305 = .ok (.iadd, 1) := by decide +kernel
theorem dL_law_1306 : decode cL_law 1306 = .ok (.iaload, 1) := by decide +kernel
theorem dL_law_1307 : decode cL_law 1307 = .ok (.invokevirtual 163, 3) := by decide +kernel
theorem dL_law_1310 : decode cL_law 1310 = .ok (.lcmp, 1) := by decide +kernel
theorem dL_law_1311 : decode cL_law 1311 = .ok (.ifCond .eq 68, 3) := by decide +kernel
theorem dL_law_1314 : decode cL_law 1314 = .ok (.iconst 0, 1) := by decide +kernel
theorem dL_law_1315 : decode cL_law 1315 = .ok (.ireturn, 1) := by decide +kernel
theorem dL_law_1316 : decode cL_law 1316 = .ok (.aload_n 1, 1) := by decide +kernel
theorem dL_law_1317 : decode cL_law 1317 = .ok (.aload_n 0, 1) := by decide +kernel
theorem dL_law_1318 : decode cL_law 1318 = .ok (.iload_n 3, 1) := by decide +kernel
theorem dL_law_1319 : decode cL_law 1319 = .ok (.iconst 1, 1) := by decide +kernel
theorem dL_law_1320 : decode cL_law 1320 = .ok (.iadd, 1) := by decide +kernel
theorem dL_law_1321 : decode cL_law 1321 = .ok (.iaload, 1) := by decide +kernel
theorem dL_law_1322 : decode cL_law 1322 = .ok (.aload_n 0, 1) := by decide +kernel
theorem dL_law_1323 : decode cL_law 1323 = .ok (.iload_n 3, 1) := by decide +kernel
theorem dL_law_1324 : decode cL_law 1324 = .ok (.iconst 2, 1) := by decide +kernel
theorem dL_law_1325 : decode cL_law 1325 = .ok (.iadd, 1) := by decide +kernel
theorem dL_law_1326 : decode cL_law 1326 = .ok (.iaload, 1) := by decide +kernel
theorem dL_law_1327 : decode cL_law 1327 = .ok (.aload_n 0, 1) := by decide +kernel
theorem dL_law_1328 : decode cL_law 1328 = .ok (.iload_n 3, 1) := by decide +kernel
theorem dL_law_1329 : decode cL_law 1329 = .ok (.iconst 3, 1) := by decide +kernel
theorem dL_law_1330 : decode cL_law 1330 = .ok (.iadd, 1) := by decide +kernel
theorem dL_law_1331 : decode cL_law 1331 = .ok (.iaload, 1) := by decide +kernel
theorem dL_law_1332 : decode cL_law 1332 = .ok (.aload_n 0, 1) := by decide +kernel
theorem dL_law_1333 : decode cL_law 1333 = .ok (.iload_n 3, 1) := by decide +kernel
theorem dL_law_1334 : decode cL_law 1334 = .ok (.iconst 4, 1) := by decide +kernel
theorem dL_law_1335 : decode cL_law 1335 = .ok (.iadd, 1) := by decide +kernel
theorem dL_law_1336 : decode cL_law 1336 = .ok (.iaload, 1) := by decide +kernel
theorem dL_law_1337 : decode cL_law 1337 = .ok (.aload_n 0, 1) := by decide +kernel
theorem dL_law_1338 : decode cL_law 1338 = .ok (.iload_n 3, 1) := by decide +kernel
theorem dL_law_1339 : decode cL_law 1339 = .ok (.iconst 5, 1) := by decide +kernel
theorem dL_law_1340 : decode cL_law 1340 = .ok (.iadd, 1) := by decide +kernel
theorem dL_law_1341 : decode cL_law 1341 = .ok (.iaload, 1) := by decide +kernel
theorem dL_law_1342 : decode cL_law 1342 = .ok (.invokevirtual 164, 3) := by decide +kernel
theorem dL_law_1345 : decode cL_law 1345 = .ok (.aload_n 2, 1) := by decide +kernel
theorem dL_law_1346 : decode cL_law 1346 = .ok (.aload_n 0, 1) := by decide +kernel
theorem dL_law_1347 : decode cL_law 1347 = .ok (.iload_n 3, 1) := by decide +kernel
theorem dL_law_1348 : decode cL_law 1348 = .ok (.iconst 1, 1) := by decide +kernel
theorem dL_law_1349 : decode cL_law 1349 = .ok (.iadd, 1) := by decide +kernel
theorem dL_law_1350 : decode cL_law 1350 = .ok (.iaload, 1) := by decide +kernel
theorem dL_law_1351 : decode cL_law 1351 = .ok (.aload_n 0, 1) := by decide +kernel
theorem dL_law_1352 : decode cL_law 1352 = .ok (.iload_n 3, 1) := by decide +kernel
theorem dL_law_1353 : decode cL_law 1353 = .ok (.iconst 2, 1) := by decide +kernel
theorem dL_law_1354 : decode cL_law 1354 = .ok (.iadd, 1) := by decide +kernel
theorem dL_law_1355 : decode cL_law 1355 = .ok (.iaload, 1) := by decide +kernel
theorem dL_law_1356 : decode cL_law 1356 = .ok (.aload_n 0, 1) := by decide +kernel
theorem dL_law_1357 : decode cL_law 1357 = .ok (.iload_n 3, 1) := by decide +kernel
theorem dL_law_1358 : decode cL_law 1358 = .ok (.iconst 3, 1) := by decide +kernel
theorem dL_law_1359 : decode cL_law 1359 = .ok (.iadd, 1) := by decide +kernel
theorem dL_law_1360 : decode cL_law 1360 = .ok (.iaload, 1) := by decide +kernel
theorem dL_law_1361 : decode cL_law 1361 = .ok (.aload_n 0, 1) := by decide +kernel
theorem dL_law_1362 : decode cL_law 1362 = .ok (.iload_n 3, 1) := by decide +kernel
theorem dL_law_1363 : decode cL_law 1363 = .ok (.iconst 4, 1) := by decide +kernel
theorem dL_law_1364 : decode cL_law 1364 = .ok (.iadd, 1) := by decide +kernel
theorem dL_law_1365 : decode cL_law 1365 = .ok (.iaload, 1) := by decide +kernel
theorem dL_law_1366 : decode cL_law 1366 = .ok (.aload_n 0, 1) := by decide +kernel
theorem dL_law_1367 : decode cL_law 1367 = .ok (.iload_n 3, 1) := by decide +kernel
theorem dL_law_1368 : decode cL_law 1368 = .ok (.iconst 5, 1) := by decide +kernel
theorem dL_law_1369 : decode cL_law 1369 = .ok (.iadd, 1) := by decide +kernel
theorem dL_law_1370 : decode cL_law 1370 = .ok (.iaload, 1) := by decide +kernel
theorem dL_law_1371 : decode cL_law 1371 = .ok (.invokevirtual 168, 3) := by decide +kernel
theorem dL_law_1374 : decode cL_law 1374 = .ok (.if_icmp .eq 5, 3) := by decide +kernel
theorem dL_law_1377 : decode cL_law 1377 = .ok (.iconst 0, 1) := by decide +kernel
theorem dL_law_1378 : decode cL_law 1378 = .ok (.ireturn, 1) := by decide +kernel
theorem dL_law_1379 : decode cL_law 1379 = .ok (.iinc 3 6, 3) := by decide +kernel
theorem dL_law_1382 : decode cL_law 1382 = .ok (.goto (-1364), 3) := by decide +kernel
theorem dL_law_1385 : decode cL_law 1385 = .ok (.iconst 1, 1) := by decide +kernel
theorem dL_law_1386 : decode cL_law 1386 = .ok (.ireturn, 1) := by decide +kernel
theorem dX9_init_0 : decode cX9_init 0 = .ok (.aload_n 0, 1) := by decide +kernel
theorem dX9_init_1 : decode cX9_init 1 = .ok (.invokespecial 3, 3) := by decide +kernel
theorem dX9_init_4 : decode cX9_init 4 = .ok (.aload_n 0, 1) := by decide +kernel
theorem dX9_init_5 : decode cX9_init 5 = .ok (.sipush 146, 3) := by decide +kernel
theorem dX9_init_8 : decode cX9_init 8 = .ok (.newarray .int, 2) := by decide +kernel
theorem dX9_init_10 : decode cX9_init 10 = .ok (.putfield 9, 3) := by decide +kernel
theorem dX9_init_13 : decode cX9_init 13 = .ok (.aload_n 0, 1) := by decide +kernel
theorem dX9_init_14 : decode cX9_init 14 = .ok (.sipush 146, 3) := by decide +kernel
theorem dX9_init_17 : decode cX9_init 17 = .ok (.newarray .int, 2) := by decide +kernel
theorem dX9_init_19 : decode cX9_init 19 = .ok (.putfield 15, 3) := by decide +kernel
theorem dX9_init_22 : decode cX9_init 22 = .ok (.aload_n 0, 1) := by decide +kernel
theorem dX9_init_23 : decode cX9_init 23 = .ok (.sipush 146, 3) := by decide +kernel
theorem dX9_init_26 : decode cX9_init 26 = .ok (.newarray .int, 2) := by decide +kernel
theorem dX9_init_28 : decode cX9_init 28 = .ok (.putfield 18, 3) := by decide +kernel
theorem dX9_init_31 : decode cX9_init 31 = .ok (.aload_n 0, 1) := by decide +kernel
theorem dX9_init_32 : decode cX9_init 32 = .ok (.bipush 100, 2) := by decide +kernel
theorem dX9_init_34 : decode cX9_init 34 = .ok (.newarray .int, 2) := by decide +kernel
theorem dX9_init_36 : decode cX9_init 36 = .ok (.putfield 21, 3) := by decide +kernel
theorem dX9_init_39 : decode cX9_init 39 = .ok (.aload_n 0, 1) := by decide +kernel
theorem dX9_init_40 : decode cX9_init 40 = .ok (.sipush 600, 3) := by decide +kernel
theorem dX9_init_43 : decode cX9_init 43 = .ok (.newarray .int, 2) := by decide +kernel
theorem dX9_init_45 : decode cX9_init 45 = .ok (.putfield 24, 3) := by decide +kernel
theorem dX9_init_48 : decode cX9_init 48 = .ok (.aload_n 0, 1) := by decide +kernel
theorem dX9_init_49 : decode cX9_init 49 = .ok (.bipush 6, 2) := by decide +kernel
theorem dX9_init_51 : decode cX9_init 51 = .ok (.newarray .int, 2) := by decide +kernel
theorem dX9_init_53 : decode cX9_init 53 = .ok (.putfield 27, 3) := by decide +kernel
theorem dX9_init_56 : decode cX9_init 56 = .ok (.aload_n 0, 1) := by decide +kernel
theorem dX9_init_57 : decode cX9_init 57 = .ok (.bipush 100, 2) := by decide +kernel
theorem dX9_init_59 : decode cX9_init 59 = .ok (.newarray .int, 2) := by decide +kernel
theorem dX9_init_61 : decode cX9_init 61 = .ok (.putfield 30, 3) := by decide +kernel
theorem dX9_init_64 : decode cX9_init 64 = .ok (.aload_n 0, 1) := by decide +kernel
theorem dX9_init_65 : decode cX9_init 65 = .ok (.bipush 6, 2) := by decide +kernel
theorem dX9_init_67 : decode cX9_init 67 = .ok (.newarray .int, 2) := by decide +kernel
theorem dX9_init_69 : decode cX9_init 69 = .ok (.putfield 33, 3) := by decide +kernel
theorem dX9_init_72 : decode cX9_init 72 = .ok (.aload_n 0, 1) := by decide +kernel
theorem dX9_init_73 : decode cX9_init 73 = .ok (.bipush 6, 2) := by decide +kernel
theorem dX9_init_75 : decode cX9_init 75 = .ok (.newarray .char, 2) := by decide +kernel
theorem dX9_init_77 : decode cX9_init 77 = .ok (.dup, 1) := by decide +kernel
theorem dX9_init_78 : decode cX9_init 78 = .ok (.iconst 0, 1) := by decide +kernel
theorem dX9_init_79 : decode cX9_init 79 = .ok (.bipush 112, 2) := by decide +kernel
theorem dX9_init_81 : decode cX9_init 81 = .ok (.castore, 1) := by decide +kernel
theorem dX9_init_82 : decode cX9_init 82 = .ok (.dup, 1) := by decide +kernel
theorem dX9_init_83 : decode cX9_init 83 = .ok (.iconst 1, 1) := by decide +kernel
theorem dX9_init_84 : decode cX9_init 84 = .ok (.bipush 107, 2) := by decide +kernel
theorem dX9_init_86 : decode cX9_init 86 = .ok (.castore, 1) := by decide +kernel
theorem dX9_init_87 : decode cX9_init 87 = .ok (.dup, 1) := by decide +kernel
theorem dX9_init_88 : decode cX9_init 88 = .ok (.iconst 2, 1) := by decide +kernel
theorem dX9_init_89 : decode cX9_init 89 = .ok (.bipush 118, 2) := by decide +kernel
theorem dX9_init_91 : decode cX9_init 91 = .ok (.castore, 1) := by decide +kernel
theorem dX9_init_92 : decode cX9_init 92 = .ok (.dup, 1) := by decide +kernel
theorem dX9_init_93 : decode cX9_init 93 = .ok (.iconst 3, 1) := by decide +kernel
theorem dX9_init_94 : decode cX9_init 94 = .ok (.bipush 98, 2) := by decide +kernel
theorem dX9_init_96 : decode cX9_init 96 = .ok (.castore, 1) := by decide +kernel
theorem dX9_init_97 : decode cX9_init 97 = .ok (.dup, 1) := by decide +kernel
theorem dX9_init_98 : decode cX9_init 98 = .ok (.iconst 4, 1) := by decide +kernel
theorem dX9_init_99 : decode cX9_init 99 = .ok (.bipush 110, 2) := by decide +kernel
theorem dX9_init_101 : decode cX9_init 101 = .ok (.castore, 1) := by decide +kernel
theorem dX9_init_102 : decode cX9_init 102 = .ok (.dup, 1) := by decide +kernel
theorem dX9_init_103 : decode cX9_init 103 = .ok (.iconst 5, 1) := by decide +kernel
theorem dX9_init_104 : decode cX9_init 104 = .ok (.bipush 104, 2) := by decide +kernel
theorem dX9_init_106 : decode cX9_init 106 = .ok (.castore, 1) := by decide +kernel
theorem dX9_init_107 : decode cX9_init 107 = .ok (.putfield 36, 3) := by decide +kernel
theorem dX9_init_110 : decode cX9_init 110 = .ok (.aload_n 0, 1) := by decide +kernel
theorem dX9_init_111 : decode cX9_init 111 = .ok (.iconst 3, 1) := by decide +kernel
theorem dX9_init_112 : decode cX9_init 112 = .ok (.newarray .char, 2) := by decide +kernel
theorem dX9_init_114 : decode cX9_init 114 = .ok (.dup, 1) := by decide +kernel
theorem dX9_init_115 : decode cX9_init 115 = .ok (.iconst 0, 1) := by decide +kernel
theorem dX9_init_116 : decode cX9_init 116 = .ok (.bipush 103, 2) := by decide +kernel
theorem dX9_init_118 : decode cX9_init 118 = .ok (.castore, 1) := by decide +kernel
theorem dX9_init_119 : decode cX9_init 119 = .ok (.dup, 1) := by decide +kernel
theorem dX9_init_120 : decode cX9_init 120 = .ok (.iconst 1, 1) := by decide +kernel
theorem dX9_init_121 : decode cX9_init 121 = .ok (.bipush 98, 2) := by decide +kernel
theorem dX9_init_123 : decode cX9_init 123 = .ok (.castore, 1) := by decide +kernel
theorem dX9_init_124 : decode cX9_init 124 = .ok (.dup, 1) := by decide +kernel
theorem dX9_init_125 : decode cX9_init 125 = .ok (.iconst 2, 1) := by decide +kernel
theorem dX9_init_126 : decode cX9_init 126 = .ok (.bipush 100, 2) := by decide +kernel
theorem dX9_init_128 : decode cX9_init 128 = .ok (.castore, 1) := by decide +kernel
theorem dX9_init_129 : decode cX9_init 129 = .ok (.putfield 40, 3) := by decide +kernel
theorem dX9_init_132 : decode cX9_init 132 = .ok (.aload_n 0, 1) := by decide +kernel
theorem dX9_init_133 : decode cX9_init 133 = .ok (.bipush 15, 2) := by decide +kernel
theorem dX9_init_135 : decode cX9_init 135 = .ok (.newarray .char, 2) := by decide +kernel
theorem dX9_init_137 : decode cX9_init 137 = .ok (.dup, 1) := by decide +kernel
theorem dX9_init_138 : decode cX9_init 138 = .ok (.iconst 0, 1) := by decide +kernel
theorem dX9_init_139 : decode cX9_init 139 = .ok (.bipush 103, 2) := by decide +kernel
theorem dX9_init_141 : decode cX9_init 141 = .ok (.castore, 1) := by decide +kernel
theorem dX9_init_142 : decode cX9_init 142 = .ok (.dup, 1) := by decide +kernel
theorem dX9_init_143 : decode cX9_init 143 = .ok (.iconst 1, 1) := by decide +kernel
theorem dX9_init_144 : decode cX9_init 144 = .ok (.bipush 114, 2) := by decide +kernel
theorem dX9_init_146 : decode cX9_init 146 = .ok (.castore, 1) := by decide +kernel
theorem dX9_init_147 : decode cX9_init 147 = .ok (.dup, 1) := by decide +kernel
theorem dX9_init_148 : decode cX9_init 148 = .ok (.iconst 2, 1) := by decide +kernel
theorem dX9_init_149 : decode cX9_init 149 = .ok (.bipush 97, 2) := by decide +kernel
theorem dX9_init_151 : decode cX9_init 151 = .ok (.castore, 1) := by decide +kernel
theorem dX9_init_152 : decode cX9_init 152 = .ok (.dup, 1) := by decide +kernel
theorem dX9_init_153 : decode cX9_init 153 = .ok (.iconst 3, 1) := by decide +kernel
theorem dX9_init_154 : decode cX9_init 154 = .ok (.bipush 110, 2) := by decide +kernel
theorem dX9_init_156 : decode cX9_init 156 = .ok (.castore, 1) := by decide +kernel
theorem dX9_init_157 : decode cX9_init 157 = .ok (.dup, 1) := by decide +kernel
theorem dX9_init_158 : decode cX9_init 158 = .ok (.iconst 4, 1) := by decide +kernel
theorem dX9_init_159 : decode cX9_init 159 = .ok (.bipush 116, 2) := by decide +kernel
theorem dX9_init_161 : decode cX9_init 161 = .ok (.castore, 1) := by decide +kernel
theorem dX9_init_162 : decode cX9_init 162 = .ok (.dup, 1) := by decide +kernel
theorem dX9_init_163 : decode cX9_init 163 = .ok (.iconst 5, 1) := by decide +kernel
theorem dX9_init_164 : decode cX9_init 164 = .ok (.bipush 98, 2) := by decide +kernel
theorem dX9_init_166 : decode cX9_init 166 = .ok (.castore, 1) := by decide +kernel
theorem dX9_init_167 : decode cX9_init 167 = .ok (.dup, 1) := by decide +kernel
theorem dX9_init_168 : decode cX9_init 168 = .ok (.bipush 6, 2) := by decide +kernel
theorem dX9_init_170 : decode cX9_init 170 = .ok (.bipush 97, 2) := by decide +kernel
theorem dX9_init_172 : decode cX9_init 172 = .ok (.castore, 1) := by decide +kernel
theorem dX9_init_173 : decode cX9_init 173 = .ok (.dup, 1) := by decide +kernel
theorem dX9_init_174 : decode cX9_init 174 = .ok (.bipush 7, 2) := by decide +kernel
theorem dX9_init_176 : decode cX9_init 176 = .ok (.bipush 114, 2) := by decide +kernel
theorem dX9_init_178 : decode cX9_init 178 = .ok (.castore, 1) := by decide +kernel
theorem dX9_init_179 : decode cX9_init 179 = .ok (.dup, 1) := by decide +kernel
theorem dX9_init_180 : decode cX9_init 180 = .ok (.bipush 8, 2) := by decide +kernel
theorem dX9_init_182 : decode cX9_init 182 = .ok (.iconst 0, 1) := by decide +kernel
theorem dX9_init_183 : decode cX9_init 183 = .ok (.castore, 1) := by decide +kernel
theorem dX9_init_184 : decode cX9_init 184 = .ok (.dup, 1) := by decide +kernel
theorem dX9_init_185 : decode cX9_init 185 = .ok (.bipush 9, 2) := by decide +kernel
theorem dX9_init_187 : decode cX9_init 187 = .ok (.iconst 0, 1) := by decide +kernel
theorem dX9_init_188 : decode cX9_init 188 = .ok (.castore, 1) := by decide +kernel
theorem dX9_init_189 : decode cX9_init 189 = .ok (.dup, 1) := by decide +kernel
theorem dX9_init_190 : decode cX9_init 190 = .ok (.bipush 10, 2) := by decide +kernel
theorem dX9_init_192 : decode cX9_init 192 = .ok (.bipush 100, 2) := by decide +kernel
theorem dX9_init_194 : decode cX9_init 194 = .ok (.castore, 1) := by decide +kernel
theorem dX9_init_195 : decode cX9_init 195 = .ok (.dup, 1) := by decide +kernel
theorem dX9_init_196 : decode cX9_init 196 = .ok (.bipush 11, 2) := by decide +kernel
theorem dX9_init_198 : decode cX9_init 198 = .ok (.bipush 97, 2) := by decide +kernel
theorem dX9_init_200 : decode cX9_init 200 = .ok (.castore, 1) := by decide +kernel
theorem dX9_init_201 : decode cX9_init 201 = .ok (.dup, 1) := by decide +kernel
theorem dX9_init_202 : decode cX9_init 202 = .ok (.bipush 12, 2) := by decide +kernel
theorem dX9_init_204 : decode cX9_init 204 = .ok (.bipush 114, 2) := by decide +kernel
theorem dX9_init_206 : decode cX9_init 206 = .ok (.castore, 1) := by decide +kernel
theorem dX9_init_207 : decode cX9_init 207 = .ok (.dup, 1) := by decide +kernel
theorem dX9_init_208 : decode cX9_init 208 = .ok (.bipush 13, 2) := by decide +kernel
theorem dX9_init_210 : decode cX9_init 210 = .ok (.bipush 107, 2) := by decide +kernel
theorem dX9_init_212 : decode cX9_init 212 = .ok (.castore, 1) := by decide +kernel
theorem dX9_init_213 : decode cX9_init 213 = .ok (.dup, 1) := by decide +kernel
theorem dX9_init_214 : decode cX9_init 214 = .ok (.bipush 14, 2) := by decide +kernel
theorem dX9_init_216 : decode cX9_init 216 = .ok (.iconst 0, 1) := by decide +kernel
theorem dX9_init_217 : decode cX9_init 217 = .ok (.castore, 1) := by decide +kernel
theorem dX9_init_218 : decode cX9_init 218 = .ok (.putfield 43, 3) := by decide +kernel
theorem dX9_init_221 : decode cX9_init 221 = .ok (.aload_n 0, 1) := by decide +kernel
theorem dX9_init_222 : decode cX9_init 222 = .ok (.bipush 9, 2) := by decide +kernel
theorem dX9_init_224 : decode cX9_init 224 = .ok (.newarray .int, 2) := by decide +kernel
theorem dX9_init_226 : decode cX9_init 226 = .ok (.putfield 46, 3) := by decide +kernel
theorem dX9_init_229 : decode cX9_init 229 = .ok (.aload_n 0, 1) := by decide +kernel
theorem dX9_init_230 : decode cX9_init 230 = .ok (.sipush 1536, 3) := by decide +kernel
theorem dX9_init_233 : decode cX9_init 233 = .ok (.newarray .boolean, 2) := by decide +kernel
theorem dX9_init_235 : decode cX9_init 235 = .ok (.putfield 49, 3) := by decide +kernel
theorem dX9_init_238 : decode cX9_init 238 = .ok (.aload_n 0, 1) := by decide +kernel
theorem dX9_init_239 : decode cX9_init 239 = .ok (.sipush 1536, 3) := by decide +kernel
theorem dX9_init_242 : decode cX9_init 242 = .ok (.newarray .int, 2) := by decide +kernel
theorem dX9_init_244 : decode cX9_init 244 = .ok (.putfield 53, 3) := by decide +kernel
theorem dX9_init_247 : decode cX9_init 247 = .ok (.aload_n 0, 1) := by decide +kernel
theorem dX9_init_248 : decode cX9_init 248 = .ok (.sipush 1536, 3) := by decide +kernel
theorem dX9_init_251 : decode cX9_init 251 = .ok (.newarray .int, 2) := by decide +kernel
theorem dX9_init_253 : decode cX9_init 253 = .ok (.putfield 56, 3) := by decide +kernel
theorem dX9_init_256 : decode cX9_init 256 = .ok (.aload_n 0, 1) := by decide +kernel
theorem dX9_init_257 : decode cX9_init 257 = .ok (.sipush 1536, 3) := by decide +kernel
theorem dX9_init_260 : decode cX9_init 260 = .ok (.newarray .int, 2) := by decide +kernel
theorem dX9_init_262 : decode cX9_init 262 = .ok (.putfield 59, 3) := by decide +kernel
theorem dX9_init_265 : decode cX9_init 265 = .ok (.aload_n 0, 1) := by decide +kernel
theorem dX9_init_266 : decode cX9_init 266 = .ok (.sipush 1536, 3) := by decide +kernel
theorem dX9_init_269 : decode cX9_init 269 = .ok (.newarray .int, 2) := by decide +kernel
theorem dX9_init_271 : decode cX9_init 271 = .ok (.putfield 62, 3) := by decide +kernel
theorem dX9_init_274 : decode cX9_init 274 = .ok (.aload_n 0, 1) := by decide +kernel
theorem dX9_init_275 : decode cX9_init 275 = .ok (.bipush 12, 2) := by decide +kernel
theorem dX9_init_277 : decode cX9_init 277 = .ok (.newarray .int, 2) := by decide +kernel
theorem dX9_init_279 : decode cX9_init 279 = .ok (.putfield 65, 3) := by decide +kernel
theorem dX9_init_282 : decode cX9_init 282 = .ok (.aload_n 0, 1) := by decide +kernel
theorem dX9_init_283 : decode cX9_init 283 = .ok (.bipush 7, 2) := by decide +kernel
theorem dX9_init_285 : decode cX9_init 285 = .ok (.newarray .int, 2) := by decide +kernel
theorem dX9_init_287 : decode cX9_init 287 = .ok (.dup, 1) := by decide +kernel
theorem dX9_init_288 : decode cX9_init 288 = .ok (.iconst 0, 1) := by decide +kernel
theorem dX9_init_289 : decode cX9_init 289 = .ok (.iconst (-1), 1) := by decide +kernel
theorem dX9_init_290 : decode cX9_init 290 = .ok (.iastore, 1) := by decide +kernel
theorem dX9_init_291 : decode cX9_init 291 = .ok (.dup, 1) := by decide +kernel
theorem dX9_init_292 : decode cX9_init 292 = .ok (.iconst 1, 1) := by decide +kernel
theorem dX9_init_293 : decode cX9_init 293 = .ok (.iconst 0, 1) := by decide +kernel
theorem dX9_init_294 : decode cX9_init 294 = .ok (.iastore, 1) := by decide +kernel
theorem dX9_init_295 : decode cX9_init 295 = .ok (.dup, 1) := by decide +kernel
theorem dX9_init_296 : decode cX9_init 296 = .ok (.iconst 2, 1) := by decide +kernel
theorem dX9_init_297 : decode cX9_init 297 = .ok (.iconst 0, 1) := by decide +kernel
theorem dX9_init_298 : decode cX9_init 298 = .ok (.iastore, 1) := by decide +kernel
theorem dX9_init_299 : decode cX9_init 299 = .ok (.dup, 1) := by decide +kernel
theorem dX9_init_300 : decode cX9_init 300 = .ok (.iconst 3, 1) := by decide +kernel
theorem dX9_init_301 : decode cX9_init 301 = .ok (.iconst 0, 1) := by decide +kernel
theorem dX9_init_302 : decode cX9_init 302 = .ok (.iastore, 1) := by decide +kernel
theorem dX9_init_303 : decode cX9_init 303 = .ok (.dup, 1) := by decide +kernel
theorem dX9_init_304 : decode cX9_init 304 = .ok (.iconst 4, 1) := by decide +kernel
theorem dX9_init_305 : decode cX9_init 305 = .ok (.iconst 1, 1) := by decide +kernel
theorem dX9_init_306 : decode cX9_init 306 = .ok (.iastore, 1) := by decide +kernel
theorem dX9_init_307 : decode cX9_init 307 = .ok (.dup, 1) := by decide +kernel
theorem dX9_init_308 : decode cX9_init 308 = .ok (.iconst 5, 1) := by decide +kernel
theorem dX9_init_309 : decode cX9_init 309 = .ok (.iconst 2, 1) := by decide +kernel
theorem dX9_init_310 : decode cX9_init 310 = .ok (.iastore, 1) := by decide +kernel
theorem dX9_init_311 : decode cX9_init 311 = .ok (.dup, 1) := by decide +kernel
theorem dX9_init_312 : decode cX9_init 312 = .ok (.bipush 6, 2) := by decide +kernel
theorem dX9_init_314 : decode cX9_init 314 = .ok (.iconst 3, 1) := by decide +kernel
theorem dX9_init_315 : decode cX9_init 315 = .ok (.iastore, 1) := by decide +kernel
theorem dX9_init_316 : decode cX9_init 316 = .ok (.putfield 68, 3) := by decide +kernel
theorem dX9_init_319 : decode cX9_init 319 = .ok (.aload_n 0, 1) := by decide +kernel
theorem dX9_init_320 : decode cX9_init 320 = .ok (.bipush 21, 2) := by decide +kernel
theorem dX9_init_322 : decode cX9_init 322 = .ok (.newarray .int, 2) := by decide +kernel
theorem dX9_init_324 : decode cX9_init 324 = .ok (.dup, 1) := by decide +kernel
theorem dX9_init_325 : decode cX9_init 325 = .ok (.iconst 0, 1) := by decide +kernel
theorem dX9_init_326 : decode cX9_init 326 = .ok (.bipush 10, 2) := by decide +kernel
theorem dX9_init_328 : decode cX9_init 328 = .ok (.iastore, 1) := by decide +kernel
theorem dX9_init_329 : decode cX9_init 329 = .ok (.dup, 1) := by decide +kernel
theorem dX9_init_330 : decode cX9_init 330 = .ok (.iconst 1, 1) := by decide +kernel
theorem dX9_init_331 : decode cX9_init 331 = .ok (.bipush 11, 2) := by decide +kernel
theorem dX9_init_333 : decode cX9_init 333 = .ok (.iastore, 1) := by decide +kernel
theorem dX9_init_334 : decode cX9_init 334 = .ok (.dup, 1) := by decide +kernel
theorem dX9_init_335 : decode cX9_init 335 = .ok (.iconst 2, 1) := by decide +kernel
theorem dX9_init_336 : decode cX9_init 336 = .ok (.bipush 12, 2) := by decide +kernel
theorem dX9_init_338 : decode cX9_init 338 = .ok (.iastore, 1) := by decide +kernel
theorem dX9_init_339 : decode cX9_init 339 = .ok (.dup, 1) := by decide +kernel
theorem dX9_init_340 : decode cX9_init 340 = .ok (.iconst 3, 1) := by decide +kernel
theorem dX9_init_341 : decode cX9_init 341 = .ok (.iconst 0, 1) := by decide +kernel
theorem dX9_init_342 : decode cX9_init 342 = .ok (.iastore, 1) := by decide +kernel
theorem dX9_init_343 : decode cX9_init 343 = .ok (.dup, 1) := by decide +kernel
theorem dX9_init_344 : decode cX9_init 344 = .ok (.iconst 4, 1) := by decide +kernel
theorem dX9_init_345 : decode cX9_init 345 = .ok (.bipush 20, 2) := by decide +kernel
theorem dX9_init_347 : decode cX9_init 347 = .ok (.iastore, 1) := by decide +kernel
theorem dX9_init_348 : decode cX9_init 348 = .ok (.dup, 1) := by decide +kernel
theorem dX9_init_349 : decode cX9_init 349 = .ok (.iconst 5, 1) := by decide +kernel
theorem dX9_init_350 : decode cX9_init 350 = .ok (.iconst 0, 1) := by decide +kernel
theorem dX9_init_351 : decode cX9_init 351 = .ok (.iastore, 1) := by decide +kernel
theorem dX9_init_352 : decode cX9_init 352 = .ok (.dup, 1) := by decide +kernel
theorem dX9_init_353 : decode cX9_init 353 = .ok (.bipush 6, 2) := by decide +kernel
theorem dX9_init_355 : decode cX9_init 355 = .ok (.bipush 30, 2) := by decide +kernel
theorem dX9_init_357 : decode cX9_init 357 = .ok (.iastore, 1) := by decide +kernel
theorem dX9_init_358 : decode cX9_init 358 = .ok (.dup, 1) := by decide +kernel
theorem dX9_init_359 : decode cX9_init 359 = .ok (.bipush 7, 2) := by decide +kernel
theorem dX9_init_361 : decode cX9_init 361 = .ok (.iconst 0, 1) := by decide +kernel
theorem dX9_init_362 : decode cX9_init 362 = .ok (.iastore, 1) := by decide +kernel
theorem dX9_init_363 : decode cX9_init 363 = .ok (.dup, 1) := by decide +kernel
theorem dX9_init_364 : decode cX9_init 364 = .ok (.bipush 8, 2) := by decide +kernel
theorem dX9_init_366 : decode cX9_init 366 = .ok (.iconst 0, 1) := by decide +kernel
theorem dX9_init_367 : decode cX9_init 367 = .ok (.iastore, 1) := by decide +kernel
theorem dX9_init_368 : decode cX9_init 368 = .ok (.dup, 1) := by decide +kernel
theorem dX9_init_369 : decode cX9_init 369 = .ok (.bipush 9, 2) := by decide +kernel
theorem dX9_init_371 : decode cX9_init 371 = .ok (.iconst 0, 1) := by decide +kernel
theorem dX9_init_372 : decode cX9_init 372 = .ok (.iastore, 1) := by decide +kernel
theorem dX9_init_373 : decode cX9_init 373 = .ok (.dup, 1) := by decide +kernel
theorem dX9_init_374 : decode cX9_init 374 = .ok (.bipush 10, 2) := by decide +kernel
theorem dX9_init_376 : decode cX9_init 376 = .ok (.iconst 0, 1) := by decide +kernel
theorem dX9_init_377 : decode cX9_init 377 = .ok (.iastore, 1) := by decide +kernel
theorem dX9_init_378 : decode cX9_init 378 = .ok (.dup, 1) := by decide +kernel
theorem dX9_init_379 : decode cX9_init 379 = .ok (.bipush 11, 2) := by decide +kernel
theorem dX9_init_381 : decode cX9_init 381 = .ok (.bipush 40, 2) := by decide +kernel
theorem dX9_init_383 : decode cX9_init 383 = .ok (.iastore, 1) := by decide +kernel
theorem dX9_init_384 : decode cX9_init 384 = .ok (.dup, 1) := by decide +kernel
theorem dX9_init_385 : decode cX9_init 385 = .ok (.bipush 12, 2) := by decide +kernel
theorem dX9_init_387 : decode cX9_init 387 = .ok (.bipush 50, 2) := by decide +kernel
theorem dX9_init_389 : decode cX9_init 389 = .ok (.iastore, 1) := by decide +kernel
theorem dX9_init_390 : decode cX9_init 390 = .ok (.dup, 1) := by decide +kernel
theorem dX9_init_391 : decode cX9_init 391 = .ok (.bipush 13, 2) := by decide +kernel
theorem dX9_init_393 : decode cX9_init 393 = .ok (.bipush 51, 2) := by decide +kernel
theorem dX9_init_395 : decode cX9_init 395 = .ok (.iastore, 1) := by decide +kernel
theorem dX9_init_396 : decode cX9_init 396 = .ok (.dup, 1) := by decide +kernel
theorem dX9_init_397 : decode cX9_init 397 = .ok (.bipush 14, 2) := by decide +kernel
theorem dX9_init_399 : decode cX9_init 399 = .ok (.iconst 0, 1) := by decide +kernel
theorem dX9_init_400 : decode cX9_init 400 = .ok (.iastore, 1) := by decide +kernel
theorem dX9_init_401 : decode cX9_init 401 = .ok (.dup, 1) := by decide +kernel
theorem dX9_init_402 : decode cX9_init 402 = .ok (.bipush 15, 2) := by decide +kernel
theorem dX9_init_404 : decode cX9_init 404 = .ok (.iconst 0, 1) := by decide +kernel
theorem dX9_init_405 : decode cX9_init 405 = .ok (.iastore, 1) := by decide +kernel
theorem dX9_init_406 : decode cX9_init 406 = .ok (.dup, 1) := by decide +kernel
theorem dX9_init_407 : decode cX9_init 407 = .ok (.bipush 16, 2) := by decide +kernel
theorem dX9_init_409 : decode cX9_init 409 = .ok (.iconst 0, 1) := by decide +kernel
theorem dX9_init_410 : decode cX9_init 410 = .ok (.iastore, 1) := by decide +kernel
theorem dX9_init_411 : decode cX9_init 411 = .ok (.dup, 1) := by decide +kernel
theorem dX9_init_412 : decode cX9_init 412 = .ok (.bipush 17, 2) := by decide +kernel
theorem dX9_init_414 : decode cX9_init 414 = .ok (.bipush 60, 2) := by decide +kernel
theorem dX9_init_416 : decode cX9_init 416 = .ok (.iastore, 1) := by decide +kernel
theorem dX9_init_417 : decode cX9_init 417 = .ok (.dup, 1) := by decide +kernel
theorem dX9_init_418 : decode cX9_init 418 = .ok (.bipush 18, 2) := by decide +kernel
theorem dX9_init_420 : decode cX9_init 420 = .ok (.bipush 71, 2) := by decide +kernel
theorem dX9_init_422 : decode cX9_init 422 = .ok (.iastore, 1) := by decide +kernel
theorem dX9_init_423 : decode cX9_init 423 = .ok (.dup, 1) := by decide +kernel
theorem dX9_init_424 : decode cX9_init 424 = .ok (.bipush 19, 2) := by decide +kernel
theorem dX9_init_426 : decode cX9_init 426 = .ok (.bipush 70, 2) := by decide +kernel
theorem dX9_init_428 : decode cX9_init 428 = .ok (.iastore, 1) := by decide +kernel
theorem dX9_init_429 : decode cX9_init 429 = .ok (.dup, 1) := by decide +kernel
theorem dX9_init_430 : decode cX9_init 430 = .ok (.bipush 20, 2) := by decide +kernel
theorem dX9_init_432 : decode cX9_init 432 = .ok (.iconst 0, 1) := by decide +kernel
theorem dX9_init_433 : decode cX9_init 433 = .ok (.iastore, 1) := by decide +kernel
theorem dX9_init_434 : decode cX9_init 434 = .ok (.putfield 71, 3) := by decide +kernel
theorem dX9_init_437 : decode cX9_init 437 = .ok (.aload_n 0, 1) := by decide +kernel
theorem dX9_init_438 : decode cX9_init 438 = .ok (.bipush 20, 2) := by decide +kernel
theorem dX9_init_440 : decode cX9_init 440 = .ok (.newarray .int, 2) := by decide +kernel
theorem dX9_init_442 : decode cX9_init 442 = .ok (.putfield 74, 3) := by decide +kernel
theorem dX9_init_445 : decode cX9_init 445 = .ok (.aload_n 0, 1) := by decide +kernel
theorem dX9_init_446 : decode cX9_init 446 = .ok (.bipush 6, 2) := by decide +kernel
theorem dX9_init_448 : decode cX9_init 448 = .ok (.newarray .int, 2) := by decide +kernel
theorem dX9_init_450 : decode cX9_init 450 = .ok (.dup, 1) := by decide +kernel
theorem dX9_init_451 : decode cX9_init 451 = .ok (.iconst 0, 1) := by decide +kernel
theorem dX9_init_452 : decode cX9_init 452 = .ok (.iconst (-1), 1) := by decide +kernel
theorem dX9_init_453 : decode cX9_init 453 = .ok (.iastore, 1) := by decide +kernel
theorem dX9_init_454 : decode cX9_init 454 = .ok (.dup, 1) := by decide +kernel
theorem dX9_init_455 : decode cX9_init 455 = .ok (.iconst 1, 1) := by decide +kernel
theorem dX9_init_456 : decode cX9_init 456 = .ok (.iconst (-1), 1) := by decide +kernel
theorem dX9_init_457 : decode cX9_init 457 = .ok (.iastore, 1) := by decide +kernel
theorem dX9_init_458 : decode cX9_init 458 = .ok (.dup, 1) := by decide +kernel
theorem dX9_init_459 : decode cX9_init 459 = .ok (.iconst 2, 1) := by decide +kernel
theorem dX9_init_460 : decode cX9_init 460 = .ok (.iconst (-1), 1) := by decide +kernel
theorem dX9_init_461 : decode cX9_init 461 = .ok (.iastore, 1) := by decide +kernel
theorem dX9_init_462 : decode cX9_init 462 = .ok (.dup, 1) := by decide +kernel
theorem dX9_init_463 : decode cX9_init 463 = .ok (.iconst 3, 1) := by decide +kernel
theorem dX9_init_464 : decode cX9_init 464 = .ok (.iconst (-1), 1) := by decide +kernel
theorem dX9_init_465 : decode cX9_init 465 = .ok (.iastore, 1) := by decide +kernel
theorem dX9_init_466 : decode cX9_init 466 = .ok (.dup, 1) := by decide +kernel
theorem dX9_init_467 : decode cX9_init 467 = .ok (.iconst 4, 1) := by decide +kernel
theorem dX9_init_468 : decode cX9_init 468 = .ok (.iconst (-1), 1) := by decide +kernel
theorem dX9_init_469 : decode cX9_init 469 = .ok (.iastore, 1) := by decide +kernel
theorem dX9_init_470 : decode cX9_init 470 = .ok (.dup, 1) := by decide +kernel
theorem dX9_init_471 : decode cX9_init 471 = .ok (.iconst 5, 1) := by decide +kernel
theorem dX9_init_472 : decode cX9_init 472 = .ok (.iconst (-1), 1) := by decide +kernel
theorem dX9_init_473 : decode cX9_init 473 = .ok (.iastore, 1) := by decide +kernel
theorem dX9_init_474 : decode cX9_init 474 = .ok (.putfield 77, 3) := by decide +kernel
theorem dX9_init_477 : decode cX9_init 477 = .ok (.aload_n 0, 1) := by decide +kernel
theorem dX9_init_478 : decode cX9_init 478 = .ok (.bipush 6, 2) := by decide +kernel
theorem dX9_init_480 : decode cX9_init 480 = .ok (.newarray .int, 2) := by decide +kernel
theorem dX9_init_482 : decode cX9_init 482 = .ok (.putfield 80, 3) := by decide +kernel
theorem dX9_init_485 : decode cX9_init 485 = .ok (.aload_n 0, 1) := by decide +kernel
theorem dX9_init_486 : decode cX9_init 486 = .ok (.sipush 360, 3) := by decide +kernel
theorem dX9_init_489 : decode cX9_init 489 = .ok (.newarray .long, 2) := by decide +kernel
theorem dX9_init_491 : decode cX9_init 491 = .ok (.putfield 83, 3) := by decide +kernel
theorem dX9_init_494 : decode cX9_init 494 = .ok (.aload_n 0, 1) := by decide +kernel
theorem dX9_init_495 : decode cX9_init 495 = .ok (.bipush 60, 2) := by decide +kernel
theorem dX9_init_497 : decode cX9_init 497 = .ok (.newarray .long, 2) := by decide +kernel
theorem dX9_init_499 : decode cX9_init 499 = .ok (.putfield 87, 3) := by decide +kernel
theorem dX9_init_502 : decode cX9_init 502 = .ok (.return_, 1) := by decide +kernel
theorem dX9_isIn_0 : decode cX9_isIn 0 = .ok (.iload_n 0, 1) := by decide +kernel
theorem dX9_isIn_1 : decode cX9_isIn 1 = .ok (.iload_n 1, 1) := by decide +kernel
theorem dX9_isIn_2 : decode cX9_isIn 2 = .ok (.if_icmp .lt 12, 3) := by decide +kernel
theorem dX9_isIn_5 : decode cX9_isIn 5 = .ok (.iload_n 0, 1) := by decide +kernel
theorem dX9_isIn_6 : decode cX9_isIn 6 = .ok (.iload_n 2, 1) := by decide +kernel
theorem dX9_isIn_7 : decode cX9_isIn 7 = .ok (.if_icmp .gt 7, 3) := by decide +kernel
theorem dX9_isIn_10 : decode cX9_isIn 10 = .ok (.iconst 1, 1) := by decide +kernel
theorem dX9_isIn_11 : decode cX9_isIn 11 = .ok (.goto 4, 3) := by decide +kernel
theorem dX9_isIn_14 : decode cX9_isIn 14 = .ok (.iconst 0, 1) := by decide +kernel
theorem dX9_isIn_15 : decode cX9_isIn 15 = .ok (.ireturn, 1) := by decide +kernel
theorem dX9_move_0 : decode cX9_move 0 = .ok (.iconst 0, 1) := by decide +kernel
theorem dX9_move_1 : decode cX9_move 1 = .ok (.istore_n 2, 1) := by decide +kernel
theorem dX9_move_2 : decode cX9_move 2 = .ok (.iload_n 2, 1) := by decide +kernel
theorem dX9_move_3 : decode cX9_move 3 = .ok (.sipush 146, 3) := by decide +kernel
theorem dX9_move_6 : decode cX9_move 6 = .ok (.if_icmp .ge 15, 3) := by decide +kernel
theorem dX9_move_9 : decode cX9_move 9 = .ok (.aload_n 1, 1) := by decide +kernel
theorem dX9_move_10 : decode cX9_move 10 = .ok (.iload_n 2, 1) := by decide +kernel
theorem dX9_move_11 : decode cX9_move 11 = .ok (.aload_n 0, 1) := by decide +kernel
theorem dX9_move_12 : decode cX9_move 12 = .ok (.iload_n 2, 1) := by decide +kernel
theorem dX9_move_13 : decode cX9_move 13 = .ok (.iaload, 1) := by decide +kernel
theorem dX9_move_14 : decode cX9_move 14 = .ok (.iastore, 1) := by decide +kernel
theorem dX9_move_15 : decode cX9_move 15 = .ok (.iinc 2 1, 3) := by decide +kernel
theorem dX9_move_18 : decode cX9_move 18 = .ok (.goto (-16), 3) := by decide +kernel
theorem dX9_move_21 : decode cX9_move 21 = .ok (.return_, 1) := by decide +kernel
theorem dX9_image_0 : decode cX9_image 0 = .ok (.aload_n 0, 1) := by decide +kernel
theorem dX9_image_1 : decode cX9_image 1 = .ok (.iconst 1, 1) := by decide +kernel
theorem dX9_image_2 : decode cX9_image 2 = .ok (.putfield 90, 3) := by decide +kernel
theorem dX9_image_5 : decode cX9_image 5 = .ok (.aload_n 0, 1) := by decide +kernel
theorem dX9_image_6 : decode cX9_image 6 = .ok (.getfield 9, 3) := by decide +kernel
theorem dX9_image_9 : decode cX9_image 9 = .ok (.aload_n 0, 1) := by decide +kernel
theorem dX9_image_10 : decode cX9_image 10 = .ok (.getfield 18, 3) := by decide +kernel
theorem dX9_image_13 : decode cX9_image 13 = .ok (.invokestatic 94, 3) := by decide +kernel
theorem dX9_image_16 : decode cX9_image 16 = .ok (.aload_n 0, 1) := by decide +kernel
theorem dX9_image_17 : decode cX9_image 17 = .ok (.getfield 9, 3) := by decide +kernel
theorem dX9_image_20 : decode cX9_image 20 = .ok (.bipush 92, 2) := by decide +kernel
theorem dX9_image_22 : decode cX9_image 22 = .ok (.iaload, 1) := by decide +kernel
theorem dX9_image_23 : decode cX9_image 23 = .ok (.ireturn, 1) := by decide +kernel
theorem dX9_undo_0 : decode cX9_undo 0 = .ok (.aload_n 0, 1) := by decide +kernel
theorem dX9_undo_1 : decode cX9_undo 1 = .ok (.getfield 90, 3) := by decide +kernel
theorem dX9_undo_4 : decode cX9_undo 4 = .ok (.ifCond .ne 6, 3) := by decide +kernel
theorem dX9_undo_7 : decode cX9_undo 7 = .ok (.bipush (-3), 2) := by decide +kernel
theorem dX9_undo_9 : decode cX9_undo 9 = .ok (.ireturn, 1) := by decide +kernel
theorem dX9_undo_10 : decode cX9_undo 10 = .ok (.aload_n 0, 1) := by decide +kernel
theorem dX9_undo_11 : decode cX9_undo 11 = .ok (.getfield 18, 3) := by decide +kernel
theorem dX9_undo_14 : decode cX9_undo 14 = .ok (.aload_n 0, 1) := by decide +kernel
theorem dX9_undo_15 : decode cX9_undo 15 = .ok (.getfield 9, 3) := by decide +kernel
theorem dX9_undo_18 : decode cX9_undo 18 = .ok (.invokestatic 94, 3) := by decide +kernel
theorem dX9_undo_21 : decode cX9_undo 21 = .ok (.aload_n 0, 1) := by decide +kernel
theorem dX9_undo_22 : decode cX9_undo 22 = .ok (.getfield 9, 3) := by decide +kernel
theorem dX9_undo_25 : decode cX9_undo 25 = .ok (.bipush 92, 2) := by decide +kernel
theorem dX9_undo_27 : decode cX9_undo 27 = .ok (.iaload, 1) := by decide +kernel
theorem dX9_undo_28 : decode cX9_undo 28 = .ok (.ireturn, 1) := by decide +kernel
theorem dX9_isQuarter_0 : decode cX9_isQuarter 0 = .ok (.iload_n 0, 1) := by decide +kernel
theorem dX9_isQuarter_1 : decode cX9_isQuarter 1 = .ok (.iconst 0, 1) := by decide +kernel
theorem dX9_isQuarter_2 : decode cX9_isQuarter 2 = .ok (.iconst 5, 1) := by decide +kernel
theorem dX9_isQuarter_3 : decode cX9_isQuarter 3 = .ok (.invokestatic 98, 3) := by decide +kernel
theorem dX9_isQuarter_6 : decode cX9_isQuarter 6 = .ok (.ireturn, 1) := by decide +kernel
theorem dX9_isBridge_0 : decode cX9_isBridge 0 = .ok (.iload_n 1, 1) := by decide +kernel
theorem dX9_isBridge_1 : decode cX9_isBridge 1 = .ok (.iconst 0, 1) := by decide +kernel
theorem dX9_isBridge_2 : decode cX9_isBridge 2 = .ok (.aload_n 0, 1) := by decide +kernel
theorem dX9_isBridge_3 : decode cX9_isBridge 3 = .ok (.getfield 9, 3) := by decide +kernel
theorem dX9_isBridge_6 : decode cX9_isBridge 6 = .ok (.bipush 93, 2) := by decide +kernel
theorem dX9_isBridge_8 : decode cX9_isBridge 8 = .ok (.iaload, 1) := by decide +kernel
theorem dX9_isBridge_9 : decode cX9_isBridge 9 = .ok (.iconst 1, 1) := by decide +kernel
theorem dX9_isBridge_10 : decode cX9_isBridge 10 = .ok (.isub, 1) := by decide +kernel
theorem dX9_isBridge_11 : decode cX9_isBridge 11 = .ok (.invokestatic 98, 3) := by decide +kernel
theorem dX9_isBridge_14 : decode cX9_isBridge 14 = .ok (.ireturn, 1) := by decide +kernel
theorem dX9_isOne_0 : decode cX9_isOne 0 = .ok (.iload_n 1, 1) := by decide +kernel
theorem dX9_isOne_1 : decode cX9_isOne 1 = .ok (.iconst 0, 1) := by decide +kernel
theorem dX9_isOne_2 : decode cX9_isOne 2 = .ok (.aload_n 0, 1) := by decide +kernel
theorem dX9_isOne_3 : decode cX9_isOne 3 = .ok (.getfield 9, 3) := by decide +kernel
theorem dX9_isOne_6 : decode cX9_isOne 6 = .ok (.bipush 92, 2) := by decide +kernel
theorem dX9_isOne_8 : decode cX9_isOne 8 = .ok (.iaload, 1) := by decide +kernel
theorem dX9_isOne_9 : decode cX9_isOne 9 = .ok (.iconst 1, 1) := by decide +kernel
theorem dX9_isOne_10 : decode cX9_isOne 10 = .ok (.isub, 1) := by decide +kernel
theorem dX9_isOne_11 : decode cX9_isOne 11 = .ok (.invokestatic 98, 3) := by decide +kernel
theorem dX9_isOne_14 : decode cX9_isOne 14 = .ok (.ireturn, 1) := by decide +kernel
theorem dX9_one_0 : decode cX9_one 0 = .ok (.aload_n 0, 1) := by decide +kernel
theorem dX9_one_1 : decode cX9_one 1 = .ok (.getfield 9, 3) := by decide +kernel
theorem dX9_one_4 : decode cX9_one 4 = .ok (.bipush 32, 2) := by decide +kernel
theorem dX9_one_6 : decode cX9_one 6 = .ok (.bipush 10, 2) := by decide +kernel
theorem dX9_one_8 : decode cX9_one 8 = .ok (.iload_n 1, 1) := by decide +kernel
theorem dX9_one_9 : decode cX9_one 9 = .ok (.imul, 1) := by decide +kernel
theorem dX9_one_10 : decode cX9_one 10 = .ok (.iadd, 1) := by decide +kernel
theorem dX9_one_11 : decode cX9_one 11 = .ok (.iload_n 2, 1) := by decide +kernel
theorem dX9_one_12 : decode cX9_one 12 = .ok (.iadd, 1) := by decide +kernel
theorem dX9_one_13 : decode cX9_one 13 = .ok (.iaload, 1) := by decide +kernel
theorem dX9_one_14 : decode cX9_one 14 = .ok (.ireturn, 1) := by decide +kernel
theorem dX9_change_0 : decode cX9_change 0 = .ok (.aload_n 0, 1) := by decide +kernel
theorem dX9_change_1 : decode cX9_change 1 = .ok (.iload_n 1, 1) := by decide +kernel
theorem dX9_change_2 : decode cX9_change 2 = .ok (.iload_n 2, 1) := by decide +kernel
theorem dX9_change_3 : decode cX9_change 3 = .ok (.invokevirtual 102, 3) := by decide +kernel
theorem dX9_change_6 : decode cX9_change 6 = .ok (.istore 4, 2) := by decide +kernel
theorem dX9_change_8 : decode cX9_change 8 = .ok (.aload_n 0, 1) := by decide +kernel
theorem dX9_change_9 : decode cX9_change 9 = .ok (.getfield 9, 3) := by decide +kernel
theorem dX9_change_12 : decode cX9_change 12 = .ok (.bipush 32, 2) := by decide +kernel
theorem dX9_change_14 : decode cX9_change 14 = .ok (.bipush 10, 2) := by decide +kernel
theorem dX9_change_16 : decode cX9_change 16 = .ok (.iload_n 1, 1) := by decide +kernel
theorem dX9_change_17 : decode cX9_change 17 = .ok (.imul, 1) := by decide +kernel
theorem dX9_change_18 : decode cX9_change 18 = .ok (.iadd, 1) := by decide +kernel
theorem dX9_change_19 : decode cX9_change 19 = .ok (.iload_n 2, 1) := by decide +kernel
theorem dX9_change_20 : decode cX9_change 20 = .ok (.iadd, 1) := by decide +kernel
theorem dX9_change_21 : decode cX9_change 21 = .ok (.iload_n 3, 1) := by decide +kernel
theorem dX9_change_22 : decode cX9_change 22 = .ok (.iastore, 1) := by decide +kernel
theorem dX9_change_23 : decode cX9_change 23 = .ok (.iload 4, 2) := by decide +kernel
theorem dX9_change_25 : decode cX9_change 25 = .ok (.ireturn, 1) := by decide +kernel
theorem dX9_end_0 : decode cX9_end 0 = .ok (.aload_n 0, 1) := by decide +kernel
theorem dX9_end_1 : decode cX9_end 1 = .ok (.getfield 9, 3) := by decide +kernel
theorem dX9_end_4 : decode cX9_end 4 = .ok (.iconst 4, 1) := by decide +kernel
theorem dX9_end_5 : decode cX9_end 5 = .ok (.iload_n 1, 1) := by decide +kernel
theorem dX9_end_6 : decode cX9_end 6 = .ok (.imul, 1) := by decide +kernel
theorem dX9_end_7 : decode cX9_end 7 = .ok (.iload_n 2, 1) := by decide +kernel
theorem dX9_end_8 : decode cX9_end 8 = .ok (.iadd, 1) := by decide +kernel
theorem dX9_end_9 : decode cX9_end 9 = .ok (.iaload, 1) := by decide +kernel
theorem dX9_end_10 : decode cX9_end 10 = .ok (.ireturn, 1) := by decide +kernel
theorem dX9_sister_0 : decode cX9_sister 0 = .ok (.aload_n 0, 1) := by decide +kernel
theorem dX9_sister_1 : decode cX9_sister 1 = .ok (.getfield 9, 3) := by decide +kernel
theorem dX9_sister_4 : decode cX9_sister 4 = .ok (.iconst 4, 1) := by decide +kernel
theorem dX9_sister_5 : decode cX9_sister 5 = .ok (.iload_n 1, 1) := by decide +kernel
theorem dX9_sister_6 : decode cX9_sister 6 = .ok (.imul, 1) := by decide +kernel
theorem dX9_sister_7 : decode cX9_sister 7 = .ok (.iconst 2, 1) := by decide +kernel
theorem dX9_sister_8 : decode cX9_sister 8 = .ok (.iadd, 1) := by decide +kernel
theorem dX9_sister_9 : decode cX9_sister 9 = .ok (.iaload, 1) := by decide +kernel
theorem dX9_sister_10 : decode cX9_sister 10 = .ok (.ireturn, 1) := by decide +kernel
theorem dX9_isLost_0 : decode cX9_isLost 0 = .ok (.aload_n 0, 1) := by decide +kernel
theorem dX9_isLost_1 : decode cX9_isLost 1 = .ok (.getfield 9, 3) := by decide +kernel
theorem dX9_isLost_4 : decode cX9_isLost 4 = .ok (.iconst 4, 1) := by decide +kernel
theorem dX9_isLost_5 : decode cX9_isLost 5 = .ok (.iload_n 1, 1) := by decide +kernel
theorem dX9_isLost_6 : decode cX9_isLost 6 = .ok (.imul, 1) := by decide +kernel
theorem dX9_isLost_7 : decode cX9_isLost 7 = .ok (.iconst 3, 1) := by decide +kernel
theorem dX9_isLost_8 : decode cX9_isLost 8 = .ok (.iadd, 1) := by decide +kernel
theorem dX9_isLost_9 : decode cX9_isLost 9 = .ok (.iaload, 1) := by decide +kernel
theorem dX9_isLost_10 : decode cX9_isLost 10 = .ok (.iconst 1, 1) := by decide +kernel
theorem dX9_isLost_11 : decode cX9_isLost 11 = .ok (.if_icmp .ne 7, 3) := by decide +kernel
theorem dX9_isLost_14 : decode cX9_isLost 14 = .ok (.iconst 1, 1) := by decide +kernel
theorem dX9_isLost_15 : decode cX9_isLost 15 = .ok (.goto 4, 3) := by decide +kernel
theorem dX9_isLost_18 : decode cX9_isLost 18 = .ok (.iconst 0, 1) := by decide +kernel
theorem dX9_isLost_19 : decode cX9_isLost 19 = .ok (.ireturn, 1) := by decide +kernel
theorem dX9_many_0 : decode cX9_many 0 = .ok (.iconst 0, 1) := by decide +kernel
theorem dX9_many_1 : decode cX9_many 1 = .ok (.istore_n 1, 1) := by decide +kernel
theorem dX9_many_2 : decode cX9_many 2 = .ok (.iconst 0, 1) := by decide +kernel
theorem dX9_many_3 : decode cX9_many 3 = .ok (.istore_n 2, 1) := by decide +kernel
theorem dX9_many_4 : decode cX9_many 4 = .ok (.iload_n 2, 1) := by decide +kernel
theorem dX9_many_5 : decode cX9_many 5 = .ok (.bipush 8, 2) := by decide +kernel
theorem dX9_many_7 : decode cX9_many 7 = .ok (.if_icmp .ge 17, 3) := by decide +kernel
theorem dX9_many_10 : decode cX9_many 10 = .ok (.iload_n 1, 1) := by decide +kernel
theorem dX9_many_11 : decode cX9_many 11 = .ok (.iload_n 0, 1) := by decide +kernel
theorem dX9_many_12 : decode cX9_many 12 = .ok (.iload_n 2, 1) := by decide +kernel
theorem dX9_many_13 : decode cX9_many 13 = .ok (.ishr, 1) := by decide +kernel
theorem dX9_many_14 : decode cX9_many 14 = .ok (.iconst 1, 1) := by decide +kernel
theorem dX9_many_15 : decode cX9_many 15 = .ok (.iand, 1) := by decide +kernel
theorem dX9_many_16 : decode cX9_many 16 = .ok (.iadd, 1) := by decide +kernel
theorem dX9_many_17 : decode cX9_many 17 = .ok (.istore_n 1, 1) := by decide +kernel
theorem dX9_many_18 : decode cX9_many 18 = .ok (.iinc 2 1, 3) := by decide +kernel
theorem dX9_many_21 : decode cX9_many 21 = .ok (.goto (-17), 3) := by decide +kernel
theorem dX9_many_24 : decode cX9_many 24 = .ok (.iload_n 1, 1) := by decide +kernel
theorem dX9_many_25 : decode cX9_many 25 = .ok (.ireturn, 1) := by decide +kernel
theorem dX9_orNever_0 : decode cX9_orNever 0 = .ok (.iload_n 0, 1) := by decide +kernel
theorem dX9_orNever_1 : decode cX9_orNever 1 = .ok (.iconst (-1), 1) := by decide +kernel
theorem dX9_orNever_2 : decode cX9_orNever 2 = .ok (.if_icmp .ne 8, 3) := by decide +kernel
theorem dX9_orNever_5 : decode cX9_orNever 5 = .ok (.bipush (-5), 2) := by decide +kernel
theorem dX9_orNever_7 : decode cX9_orNever 7 = .ok (.goto 4, 3) := by decide +kernel
theorem dX9_orNever_10 : decode cX9_orNever 10 = .ok (.iload_n 0, 1) := by decide +kernel
theorem dX9_orNever_11 : decode cX9_orNever 11 = .ok (.ireturn, 1) := by decide +kernel
theorem dX9_bridge_0 : decode cX9_bridge 0 = .ok (.iload_n 1, 1) := by decide +kernel
theorem dX9_bridge_1 : decode cX9_bridge 1 = .ok (.invokestatic 106, 3) := by decide +kernel
theorem dX9_bridge_4 : decode cX9_bridge 4 = .ok (.ifCond .eq 10, 3) := by decide +kernel
theorem dX9_bridge_7 : decode cX9_bridge 7 = .ok (.iload_n 2, 1) := by decide +kernel
theorem dX9_bridge_8 : decode cX9_bridge 8 = .ok (.invokestatic 106, 3) := by decide +kernel
theorem dX9_bridge_11 : decode cX9_bridge 11 = .ok (.ifCond .ne 5, 3) := by decide +kernel
theorem dX9_bridge_14 : decode cX9_bridge 14 = .ok (.iconst (-1), 1) := by decide +kernel
theorem dX9_bridge_15 : decode cX9_bridge 15 = .ok (.ireturn, 1) := by decide +kernel
theorem dX9_bridge_16 : decode cX9_bridge 16 = .ok (.iload_n 1, 1) := by decide +kernel
theorem dX9_bridge_17 : decode cX9_bridge 17 = .ok (.iload_n 2, 1) := by decide +kernel
theorem dX9_bridge_18 : decode cX9_bridge 18 = .ok (.if_icmp .ne 6, 3) := by decide +kernel
theorem dX9_bridge_21 : decode cX9_bridge 21 = .ok (.bipush (-2), 2) := by decide +kernel
theorem dX9_bridge_23 : decode cX9_bridge 23 = .ok (.ireturn, 1) := by decide +kernel
theorem dX9_bridge_24 : decode cX9_bridge 24 = .ok (.aload_n 0, 1) := by decide +kernel
theorem dX9_bridge_25 : decode cX9_bridge 25 = .ok (.getfield 9, 3) := by decide +kernel
theorem dX9_bridge_28 : decode cX9_bridge 28 = .ok (.bipush 93, 2) := by decide +kernel
theorem dX9_bridge_30 : decode cX9_bridge 30 = .ok (.iaload, 1) := by decide +kernel
theorem dX9_bridge_31 : decode cX9_bridge 31 = .ok (.istore_n 3, 1) := by decide +kernel
theorem dX9_bridge_32 : decode cX9_bridge 32 = .ok (.iload_n 3, 1) := by decide +kernel
theorem dX9_bridge_33 : decode cX9_bridge 33 = .ok (.bipush 8, 2) := by decide +kernel
theorem dX9_bridge_35 : decode cX9_bridge 35 = .ok (.if_icmp .ne 6, 3) := by decide +kernel
theorem dX9_bridge_38 : decode cX9_bridge 38 = .ok (.bipush (-4), 2) := by decide +kernel
theorem dX9_bridge_40 : decode cX9_bridge 40 = .ok (.ireturn, 1) := by decide +kernel
theorem dX9_bridge_41 : decode cX9_bridge 41 = .ok (.aload_n 0, 1) := by decide +kernel
theorem dX9_bridge_42 : decode cX9_bridge 42 = .ok (.getfield 9, 3) := by decide +kernel
theorem dX9_bridge_45 : decode cX9_bridge 45 = .ok (.iconst 4, 1) := by decide +kernel
theorem dX9_bridge_46 : decode cX9_bridge 46 = .ok (.iload_n 3, 1) := by decide +kernel
theorem dX9_bridge_47 : decode cX9_bridge 47 = .ok (.imul, 1) := by decide +kernel
theorem dX9_bridge_48 : decode cX9_bridge 48 = .ok (.iload_n 1, 1) := by decide +kernel
theorem dX9_bridge_49 : decode cX9_bridge 49 = .ok (.iastore, 1) := by decide +kernel
theorem dX9_bridge_50 : decode cX9_bridge 50 = .ok (.aload_n 0, 1) := by decide +kernel
theorem dX9_bridge_51 : decode cX9_bridge 51 = .ok (.getfield 9, 3) := by decide +kernel
theorem dX9_bridge_54 : decode cX9_bridge 54 = .ok (.iconst 4, 1) := by decide +kernel
theorem dX9_bridge_55 : decode cX9_bridge 55 = .ok (.iload_n 3, 1) := by decide +kernel
theorem dX9_bridge_56 : decode cX9_bridge 56 = .ok (.imul, 1) := by decide +kernel
theorem dX9_bridge_57 : decode cX9_bridge 57 = .ok (.iconst 1, 1) := by decide +kernel
theorem dX9_bridge_58 : decode cX9_bridge 58 = .ok (.iadd, 1) := by decide +kernel
theorem dX9_bridge_59 : decode cX9_bridge 59 = .ok (.iload_n 2, 1) := by decide +kernel
theorem dX9_bridge_60 : decode cX9_bridge 60 = .ok (.iastore, 1) := by decide +kernel
theorem dX9_bridge_61 : decode cX9_bridge 61 = .ok (.aload_n 0, 1) := by decide +kernel
theorem dX9_bridge_62 : decode cX9_bridge 62 = .ok (.getfield 9, 3) := by decide +kernel
theorem dX9_bridge_65 : decode cX9_bridge 65 = .ok (.iconst 4, 1) := by decide +kernel
theorem dX9_bridge_66 : decode cX9_bridge 66 = .ok (.iload_n 3, 1) := by decide +kernel
theorem dX9_bridge_67 : decode cX9_bridge 67 = .ok (.imul, 1) := by decide +kernel
theorem dX9_bridge_68 : decode cX9_bridge 68 = .ok (.iconst 2, 1) := by decide +kernel
theorem dX9_bridge_69 : decode cX9_bridge 69 = .ok (.iadd, 1) := by decide +kernel
theorem dX9_bridge_70 : decode cX9_bridge 70 = .ok (.iload_n 3, 1) := by decide +kernel
theorem dX9_bridge_71 : decode cX9_bridge 71 = .ok (.iconst 2, 1) := by decide +kernel
theorem dX9_bridge_72 : decode cX9_bridge 72 = .ok (.irem, 1) := by decide +kernel
theorem dX9_bridge_73 : decode cX9_bridge 73 = .ok (.iconst 1, 1) := by decide +kernel
theorem dX9_bridge_74 : decode cX9_bridge 74 = .ok (.if_icmp .ne 9, 3) := by decide +kernel
theorem dX9_bridge_77 : decode cX9_bridge 77 = .ok (.iload_n 3, 1) := by decide +kernel
theorem dX9_bridge_78 : decode cX9_bridge 78 = .ok (.iconst 1, 1) := by decide +kernel
theorem dX9_bridge_79 : decode cX9_bridge 79 = .ok (.isub, 1) := by decide +kernel
theorem dX9_bridge_80 : decode cX9_bridge 80 = .ok (.goto 4, 3) := by decide +kernel
theorem dX9_bridge_83 : decode cX9_bridge 83 = .ok (.iconst (-1), 1) := by decide +kernel
theorem dX9_bridge_84 : decode cX9_bridge 84 = .ok (.iastore, 1) := by decide +kernel
theorem dX9_bridge_85 : decode cX9_bridge 85 = .ok (.aload_n 0, 1) := by decide +kernel
theorem dX9_bridge_86 : decode cX9_bridge 86 = .ok (.getfield 9, 3) := by decide +kernel
theorem dX9_bridge_89 : decode cX9_bridge 89 = .ok (.iconst 4, 1) := by decide +kernel
theorem dX9_bridge_90 : decode cX9_bridge 90 = .ok (.iload_n 3, 1) := by decide +kernel
theorem dX9_bridge_91 : decode cX9_bridge 91 = .ok (.imul, 1) := by decide +kernel
theorem dX9_bridge_92 : decode cX9_bridge 92 = .ok (.iconst 3, 1) := by decide +kernel
theorem dX9_bridge_93 : decode cX9_bridge 93 = .ok (.iadd, 1) := by decide +kernel
theorem dX9_bridge_94 : decode cX9_bridge 94 = .ok (.iconst 0, 1) := by decide +kernel
theorem dX9_bridge_95 : decode cX9_bridge 95 = .ok (.iastore, 1) := by decide +kernel
theorem dX9_bridge_96 : decode cX9_bridge 96 = .ok (.iload_n 3, 1) := by decide +kernel
theorem dX9_bridge_97 : decode cX9_bridge 97 = .ok (.iconst 2, 1) := by decide +kernel
theorem dX9_bridge_98 : decode cX9_bridge 98 = .ok (.irem, 1) := by decide +kernel
theorem dX9_bridge_99 : decode cX9_bridge 99 = .ok (.iconst 1, 1) := by decide +kernel
theorem dX9_bridge_100 : decode cX9_bridge 100 = .ok (.if_icmp .ne 14, 3) := by decide +kernel
theorem dX9_bridge_103 : decode cX9_bridge 103 = .ok (.aload_n 0, 1) := by decide +kernel
theorem dX9_bridge_104 : decode cX9_bridge 104 = .ok (.getfield 9, 3) := by decide +kernel
theorem dX9_bridge_107 : decode cX9_bridge 107 = .ok (.iconst 4, 1) := by decide +kernel
theorem dX9_bridge_108 : decode cX9_bridge 108 = .ok (.iload_n 3, 1) := by decide +kernel
theorem dX9_bridge_109 : decode cX9_bridge 109 = .ok (.imul, 1) := by decide +kernel
theorem dX9_bridge_110 : decode cX9_bridge 110 = .ok (.iconst 2, 1) := by decide +kernel
theorem dX9_bridge_111 : decode cX9_bridge 111 = .ok (.isub, 1) := by decide +kernel
theorem dX9_bridge_112 : decode cX9_bridge 112 = .ok (.iload_n 3, 1) := by decide +kernel
theorem dX9_bridge_113 : decode cX9_bridge 113 = .ok (.iastore, 1) := by decide +kernel
theorem dX9_bridge_114 : decode cX9_bridge 114 = .ok (.aload_n 0, 1) := by decide +kernel
theorem dX9_bridge_115 : decode cX9_bridge 115 = .ok (.getfield 9, 3) := by decide +kernel
theorem dX9_bridge_118 : decode cX9_bridge 118 = .ok (.bipush 93, 2) := by decide +kernel
theorem dX9_bridge_120 : decode cX9_bridge 120 = .ok (.dup2, 1) := by decide +kernel
theorem dX9_bridge_121 : decode cX9_bridge 121 = .ok (.iaload, 1) := by decide +kernel
theorem dX9_bridge_122 : decode cX9_bridge 122 = .ok (.iconst 1, 1) := by decide +kernel
theorem dX9_bridge_123 : decode cX9_bridge 123 = .ok (.iadd, 1) := by decide +kernel
theorem dX9_bridge_124 : decode cX9_bridge 124 = .ok (.iastore, 1) := by decide +kernel
theorem dX9_bridge_125 : decode cX9_bridge 125 = .ok (.iload_n 3, 1) := by decide +kernel
theorem dX9_bridge_126 : decode cX9_bridge 126 = .ok (.ireturn, 1) := by decide +kernel
theorem dX9_one__0 : decode cX9_one_ 0 = .ok (.iload_n 1, 1) := by decide +kernel
theorem dX9_one__1 : decode cX9_one_ 1 = .ok (.iconst 0, 1) := by decide +kernel
theorem dX9_one__2 : decode cX9_one_ 2 = .ok (.bipush 6, 2) := by decide +kernel
theorem dX9_one__4 : decode cX9_one_ 4 = .ok (.invokestatic 98, 3) := by decide +kernel
theorem dX9_one__7 : decode cX9_one_ 7 = .ok (.ifCond .eq 10, 3) := by decide +kernel
theorem dX9_one__10 : decode cX9_one_ 10 = .ok (.iload_n 3, 1) := by decide +kernel
theorem dX9_one__11 : decode cX9_one_ 11 = .ok (.invokestatic 106, 3) := by decide +kernel
theorem dX9_one__14 : decode cX9_one_ 14 = .ok (.ifCond .ne 5, 3) := by decide +kernel
theorem dX9_one__17 : decode cX9_one_ 17 = .ok (.iconst (-1), 1) := by decide +kernel
theorem dX9_one__18 : decode cX9_one_ 18 = .ok (.ireturn, 1) := by decide +kernel
theorem dX9_one__19 : decode cX9_one_ 19 = .ok (.iload_n 2, 1) := by decide +kernel
theorem dX9_one__20 : decode cX9_one_ 20 = .ok (.iconst 0, 1) := by decide +kernel
theorem dX9_one__21 : decode cX9_one_ 21 = .ok (.bipush 9, 2) := by decide +kernel
theorem dX9_one__23 : decode cX9_one_ 23 = .ok (.invokestatic 98, 3) := by decide +kernel
theorem dX9_one__26 : decode cX9_one_ 26 = .ok (.ifCond .ne 6, 3) := by decide +kernel
theorem dX9_one__29 : decode cX9_one_ 29 = .ok (.bipush (-2), 2) := by decide +kernel
theorem dX9_one__31 : decode cX9_one_ 31 = .ok (.ireturn, 1) := by decide +kernel
theorem dX9_one__32 : decode cX9_one_ 32 = .ok (.aload_n 0, 1) := by decide +kernel
theorem dX9_one__33 : decode cX9_one_ 33 = .ok (.getfield 9, 3) := by decide +kernel
theorem dX9_one__36 : decode cX9_one_ 36 = .ok (.bipush 92, 2) := by decide +kernel
theorem dX9_one__38 : decode cX9_one_ 38 = .ok (.iaload, 1) := by decide +kernel
theorem dX9_one__39 : decode cX9_one_ 39 = .ok (.istore 4, 2) := by decide +kernel
theorem dX9_one__41 : decode cX9_one_ 41 = .ok (.iload 4, 2) := by decide +kernel
theorem dX9_one__43 : decode cX9_one_ 43 = .ok (.bipush 6, 2) := by decide +kernel
theorem dX9_one__45 : decode cX9_one_ 45 = .ok (.if_icmp .ne 6, 3) := by decide +kernel
theorem dX9_one__48 : decode cX9_one_ 48 = .ok (.bipush (-4), 2) := by decide +kernel
theorem dX9_one__50 : decode cX9_one_ 50 = .ok (.ireturn, 1) := by decide +kernel
theorem dX9_one__51 : decode cX9_one_ 51 = .ok (.iconst 0, 1) := by decide +kernel
theorem dX9_one__52 : decode cX9_one_ 52 = .ok (.istore 5, 2) := by decide +kernel
theorem dX9_one__54 : decode cX9_one_ 54 = .ok (.iload 5, 2) := by decide +kernel
theorem dX9_one__56 : decode cX9_one_ 56 = .ok (.bipush 10, 2) := by decide +kernel
theorem dX9_one__58 : decode cX9_one_ 58 = .ok (.if_icmp .ge 19, 3) := by decide +kernel
theorem dX9_one__61 : decode cX9_one_ 61 = .ok (.aload_n 0, 1) := by decide +kernel
theorem dX9_one__62 : decode cX9_one_ 62 = .ok (.iload 4, 2) := by decide +kernel
theorem dX9_one__64 : decode cX9_one_ 64 = .ok (.iload 5, 2) := by decide +kernel
theorem dX9_one__66 : decode cX9_one_ 66 = .ok (.iconst 0, 1) := by decide +kernel
theorem dX9_one__67 : decode cX9_one_ 67 = .ok (.invokevirtual 110, 3) := by decide +kernel
theorem dX9_one__70 : decode cX9_one_ 70 = .ok (.pop, 1) := by decide +kernel
theorem dX9_one__71 : decode cX9_one_ 71 = .ok (.iinc 5 1, 3) := by decide +kernel
theorem dX9_one__74 : decode cX9_one_ 74 = .ok (.goto (-20), 3) := by decide +kernel
theorem dX9_one__77 : decode cX9_one_ 77 = .ok (.aload_n 0, 1) := by decide +kernel
theorem dX9_one__78 : decode cX9_one_ 78 = .ok (.iload 4, 2) := by decide +kernel
theorem dX9_one__80 : decode cX9_one_ 80 = .ok (.iconst 0, 1) := by decide +kernel
theorem dX9_one__81 : decode cX9_one_ 81 = .ok (.iload_n 1, 1) := by decide +kernel
theorem dX9_one__82 : decode cX9_one_ 82 = .ok (.invokevirtual 110, 3) := by decide +kernel
theorem dX9_one__85 : decode cX9_one_ 85 = .ok (.pop, 1) := by decide +kernel
theorem dX9_one__86 : decode cX9_one_ 86 = .ok (.aload_n 0, 1) := by decide +kernel
theorem dX9_one__87 : decode cX9_one_ 87 = .ok (.iload 4, 2) := by decide +kernel
theorem dX9_one__89 : decode cX9_one_ 89 = .ok (.iconst 1, 1) := by decide +kernel
theorem dX9_one__90 : decode cX9_one_ 90 = .ok (.iload_n 2, 1) := by decide +kernel
theorem dX9_one__91 : decode cX9_one_ 91 = .ok (.invokevirtual 110, 3) := by decide +kernel
theorem dX9_one__94 : decode cX9_one_ 94 = .ok (.pop, 1) := by decide +kernel
theorem dX9_one__95 : decode cX9_one_ 95 = .ok (.aload_n 0, 1) := by decide +kernel
theorem dX9_one__96 : decode cX9_one_ 96 = .ok (.iload 4, 2) := by decide +kernel
theorem dX9_one__98 : decode cX9_one_ 98 = .ok (.iconst 2, 1) := by decide +kernel
theorem dX9_one__99 : decode cX9_one_ 99 = .ok (.iload_n 3, 1) := by decide +kernel
theorem dX9_one__100 : decode cX9_one_ 100 = .ok (.invokevirtual 110, 3) := by decide +kernel
theorem dX9_one__103 : decode cX9_one_ 103 = .ok (.pop, 1) := by decide +kernel
theorem dX9_one__104 : decode cX9_one_ 104 = .ok (.aload_n 0, 1) := by decide +kernel
theorem dX9_one__105 : decode cX9_one_ 105 = .ok (.iload 4, 2) := by decide +kernel
theorem dX9_one__107 : decode cX9_one_ 107 = .ok (.iconst 3, 1) := by decide +kernel
theorem dX9_one__108 : decode cX9_one_ 108 = .ok (.iload_n 3, 1) := by decide +kernel
theorem dX9_one__109 : decode cX9_one_ 109 = .ok (.invokevirtual 110, 3) := by decide +kernel
theorem dX9_one__112 : decode cX9_one_ 112 = .ok (.pop, 1) := by decide +kernel
theorem dX9_one__113 : decode cX9_one_ 113 = .ok (.aload_n 0, 1) := by decide +kernel
theorem dX9_one__114 : decode cX9_one_ 114 = .ok (.iload 4, 2) := by decide +kernel
theorem dX9_one__116 : decode cX9_one_ 116 = .ok (.iconst 4, 1) := by decide +kernel
theorem dX9_one__117 : decode cX9_one_ 117 = .ok (.iconst (-1), 1) := by decide +kernel
theorem dX9_one__118 : decode cX9_one_ 118 = .ok (.invokevirtual 110, 3) := by decide +kernel
theorem dX9_one__121 : decode cX9_one_ 121 = .ok (.pop, 1) := by decide +kernel
theorem dX9_one__122 : decode cX9_one_ 122 = .ok (.aload_n 0, 1) := by decide +kernel
theorem dX9_one__123 : decode cX9_one_ 123 = .ok (.getfield 9, 3) := by decide +kernel
theorem dX9_one__126 : decode cX9_one_ 126 = .ok (.bipush 92, 2) := by decide +kernel
theorem dX9_one__128 : decode cX9_one_ 128 = .ok (.dup2, 1) := by decide +kernel
theorem dX9_one__129 : decode cX9_one_ 129 = .ok (.iaload, 1) := by decide +kernel
theorem dX9_one__130 : decode cX9_one_ 130 = .ok (.iconst 1, 1) := by decide +kernel
theorem dX9_one__131 : decode cX9_one_ 131 = .ok (.iadd, 1) := by decide +kernel
theorem dX9_one__132 : decode cX9_one_ 132 = .ok (.iastore, 1) := by decide +kernel
theorem dX9_one__133 : decode cX9_one_ 133 = .ok (.iload 4, 2) := by decide +kernel
theorem dX9_one__135 : decode cX9_one_ 135 = .ok (.ireturn, 1) := by decide +kernel
theorem dX9_of_0 : decode cX9_of 0 = .ok (.aload_n 0, 1) := by decide +kernel
theorem dX9_of_1 : decode cX9_of 1 = .ok (.iload_n 1, 1) := by decide +kernel
theorem dX9_of_2 : decode cX9_of 2 = .ok (.invokevirtual 114, 3) := by decide +kernel
theorem dX9_of_5 : decode cX9_of 5 = .ok (.ifCond .ne 7, 3) := by decide +kernel
theorem dX9_of_8 : decode cX9_of 8 = .ok (.sipush (-10001), 3) := by decide +kernel
theorem dX9_of_11 : decode cX9_of 11 = .ok (.ireturn, 1) := by decide +kernel
theorem dX9_of_12 : decode cX9_of 12 = .ok (.iload_n 2, 1) := by decide +kernel
theorem dX9_of_13 : decode cX9_of 13 = .ok (.iconst 0, 1) := by decide +kernel
theorem dX9_of_14 : decode cX9_of 14 = .ok (.iconst 5, 1) := by decide +kernel
theorem dX9_of_15 : decode cX9_of 15 = .ok (.invokestatic 98, 3) := by decide +kernel
theorem dX9_of_18 : decode cX9_of 18 = .ok (.ifCond .eq 27, 3) := by decide +kernel
theorem dX9_of_21 : decode cX9_of 21 = .ok (.iload_n 2, 1) := by decide +kernel
theorem dX9_of_22 : decode cX9_of 22 = .ok (.iconst 4, 1) := by decide +kernel
theorem dX9_of_23 : decode cX9_of 23 = .ok (.if_icmp .ne 15, 3) := by decide +kernel
theorem dX9_of_26 : decode cX9_of 26 = .ok (.aload_n 0, 1) := by decide +kernel
theorem dX9_of_27 : decode cX9_of 27 = .ok (.iload_n 1, 1) := by decide +kernel
theorem dX9_of_28 : decode cX9_of 28 = .ok (.iconst 4, 1) := by decide +kernel
theorem dX9_of_29 : decode cX9_of 29 = .ok (.invokevirtual 102, 3) := by decide +kernel
theorem dX9_of_32 : decode cX9_of 32 = .ok (.invokestatic 117, 3) := by decide +kernel
theorem dX9_of_35 : decode cX9_of 35 = .ok (.goto 9, 3) := by decide +kernel
theorem dX9_of_38 : decode cX9_of 38 = .ok (.aload_n 0, 1) := by decide +kernel
theorem dX9_of_39 : decode cX9_of 39 = .ok (.iload_n 1, 1) := by decide +kernel
theorem dX9_of_40 : decode cX9_of 40 = .ok (.iload_n 2, 1) := by decide +kernel
theorem dX9_of_41 : decode cX9_of 41 = .ok (.invokevirtual 102, 3) := by decide +kernel
theorem dX9_of_44 : decode cX9_of 44 = .ok (.ireturn, 1) := by decide +kernel
theorem dX9_of_45 : decode cX9_of 45 = .ok (.iload_n 2, 1) := by decide +kernel
theorem dX9_of_46 : decode cX9_of 46 = .ok (.bipush 6, 2) := by decide +kernel
theorem dX9_of_48 : decode cX9_of 48 = .ok (.if_icmp .ne 9, 3) := by decide +kernel
theorem dX9_of_51 : decode cX9_of 51 = .ok (.aload_n 0, 1) := by decide +kernel
theorem dX9_of_52 : decode cX9_of 52 = .ok (.iload_n 1, 1) := by decide +kernel
theorem dX9_of_53 : decode cX9_of 53 = .ok (.invokevirtual 121, 3) := by decide +kernel
theorem dX9_of_56 : decode cX9_of 56 = .ok (.ireturn, 1) := by decide +kernel
theorem dX9_of_57 : decode cX9_of 57 = .ok (.iload_n 2, 1) := by decide +kernel
theorem dX9_of_58 : decode cX9_of 58 = .ok (.bipush 7, 2) := by decide +kernel
theorem dX9_of_60 : decode cX9_of 60 = .ok (.if_icmp .ne 11, 3) := by decide +kernel
theorem dX9_of_63 : decode cX9_of 63 = .ok (.aload_n 0, 1) := by decide +kernel
theorem dX9_of_64 : decode cX9_of 64 = .ok (.iload_n 1, 1) := by decide +kernel
theorem dX9_of_65 : decode cX9_of 65 = .ok (.invokevirtual 124, 3) := by decide +kernel
theorem dX9_of_68 : decode cX9_of 68 = .ok (.goto 43, 3) := by decide +kernel
theorem dX9_of_71 : decode cX9_of 71 = .ok (.iload_n 2, 1) := by decide +kernel
theorem dX9_of_72 : decode cX9_of 72 = .ok (.bipush 8, 2) := by decide +kernel
theorem dX9_of_74 : decode cX9_of 74 = .ok (.if_icmp .ne 11, 3) := by decide +kernel
theorem dX9_of_77 : decode cX9_of 77 = .ok (.aload_n 0, 1) := by decide +kernel
theorem dX9_of_78 : decode cX9_of 78 = .ok (.iload_n 1, 1) := by decide +kernel
theorem dX9_of_79 : decode cX9_of 79 = .ok (.invokevirtual 127, 3) := by decide +kernel
theorem dX9_of_82 : decode cX9_of 82 = .ok (.goto 29, 3) := by decide +kernel
theorem dX9_of_85 : decode cX9_of 85 = .ok (.aload_n 0, 1) := by decide +kernel
theorem dX9_of_86 : decode cX9_of 86 = .ok (.iload_n 2, 1) := by decide +kernel
theorem dX9_of_87 : decode cX9_of 87 = .ok (.bipush 10, 2) := by decide +kernel
theorem dX9_of_89 : decode cX9_of 89 = .ok (.isub, 1) := by decide +kernel
theorem dX9_of_90 : decode cX9_of 90 = .ok (.invokevirtual 130, 3) := by decide +kernel
theorem dX9_of_93 : decode cX9_of 93 = .ok (.ifCond .eq 15, 3) := by decide +kernel
theorem dX9_of_96 : decode cX9_of 96 = .ok (.aload_n 0, 1) := by decide +kernel
theorem dX9_of_97 : decode cX9_of 97 = .ok (.iload_n 1, 1) := by decide +kernel
theorem dX9_of_98 : decode cX9_of 98 = .ok (.iload_n 2, 1) := by decide +kernel
theorem dX9_of_99 : decode cX9_of 99 = .ok (.bipush 10, 2) := by decide +kernel
theorem dX9_of_101 : decode cX9_of 101 = .ok (.isub, 1) := by decide +kernel
theorem dX9_of_102 : decode cX9_of 102 = .ok (.invokevirtual 133, 3) := by decide +kernel
theorem dX9_of_105 : decode cX9_of 105 = .ok (.goto 6, 3) := by decide +kernel
theorem dX9_of_108 : decode cX9_of 108 = .ok (.sipush (-10001), 3) := by decide +kernel
theorem dX9_of_111 : decode cX9_of 111 = .ok (.ireturn, 1) := by decide +kernel
theorem dX9_span_0 : decode cX9_span 0 = .ok (.aload_n 0, 1) := by decide +kernel
theorem dX9_span_1 : decode cX9_span 1 = .ok (.iload_n 1, 1) := by decide +kernel
theorem dX9_span_2 : decode cX9_span 2 = .ok (.invokevirtual 130, 3) := by decide +kernel
theorem dX9_span_5 : decode cX9_span 5 = .ok (.ifCond .eq 12, 3) := by decide +kernel
theorem dX9_span_8 : decode cX9_span 8 = .ok (.iload_n 2, 1) := by decide +kernel
theorem dX9_span_9 : decode cX9_span 9 = .ok (.iconst 0, 1) := by decide +kernel
theorem dX9_span_10 : decode cX9_span 10 = .ok (.iconst 3, 1) := by decide +kernel
theorem dX9_span_11 : decode cX9_span 11 = .ok (.invokestatic 98, 3) := by decide +kernel
theorem dX9_span_14 : decode cX9_span 14 = .ok (.ifCond .ne 5, 3) := by decide +kernel
theorem dX9_span_17 : decode cX9_span 17 = .ok (.iconst (-1), 1) := by decide +kernel
theorem dX9_span_18 : decode cX9_span 18 = .ok (.ireturn, 1) := by decide +kernel
theorem dX9_span_19 : decode cX9_span 19 = .ok (.iload_n 2, 1) := by decide +kernel
theorem dX9_span_20 : decode cX9_span 20 = .ok (.iconst 2, 1) := by decide +kernel
theorem dX9_span_21 : decode cX9_span 21 = .ok (.if_icmp .ne 14, 3) := by decide +kernel
theorem dX9_span_24 : decode cX9_span 24 = .ok (.aload_n 0, 1) := by decide +kernel
theorem dX9_span_25 : decode cX9_span 25 = .ok (.iload_n 1, 1) := by decide +kernel
theorem dX9_span_26 : decode cX9_span 26 = .ok (.invokevirtual 136, 3) := by decide +kernel
theorem dX9_span_29 : decode cX9_span 29 = .ok (.invokestatic 117, 3) := by decide +kernel
theorem dX9_span_32 : decode cX9_span 32 = .ok (.goto 13, 3) := by decide +kernel
theorem dX9_span_35 : decode cX9_span 35 = .ok (.aload_n 0, 1) := by decide +kernel
theorem dX9_span_36 : decode cX9_span 36 = .ok (.getfield 9, 3) := by decide +kernel
theorem dX9_span_39 : decode cX9_span 39 = .ok (.iconst 4, 1) := by decide +kernel
theorem dX9_span_40 : decode cX9_span 40 = .ok (.iload_n 1, 1) := by decide +kernel
theorem dX9_span_41 : decode cX9_span 41 = .ok (.imul, 1) := by decide +kernel
theorem dX9_span_42 : decode cX9_span 42 = .ok (.iload_n 2, 1) := by decide +kernel
theorem dX9_span_43 : decode cX9_span 43 = .ok (.iadd, 1) := by decide +kernel
theorem dX9_span_44 : decode cX9_span 44 = .ok (.iaload, 1) := by decide +kernel
theorem dX9_span_45 : decode cX9_span 45 = .ok (.ireturn, 1) := by decide +kernel
theorem dX9_errand_0 : decode cX9_errand 0 = .ok (.aload_n 0, 1) := by decide +kernel
theorem dX9_errand_1 : decode cX9_errand 1 = .ok (.iload_n 1, 1) := by decide +kernel
theorem dX9_errand_2 : decode cX9_errand 2 = .ok (.invokevirtual 114, 3) := by decide +kernel
theorem dX9_errand_5 : decode cX9_errand 5 = .ok (.ifCond .eq 25, 3) := by decide +kernel
theorem dX9_errand_8 : decode cX9_errand 8 = .ok (.iload_n 2, 1) := by decide +kernel
theorem dX9_errand_9 : decode cX9_errand 9 = .ok (.iconst (-1), 1) := by decide +kernel
theorem dX9_errand_10 : decode cX9_errand 10 = .ok (.iconst 5, 1) := by decide +kernel
theorem dX9_errand_11 : decode cX9_errand 11 = .ok (.invokestatic 98, 3) := by decide +kernel
theorem dX9_errand_14 : decode cX9_errand 14 = .ok (.ifCond .eq 16, 3) := by decide +kernel
theorem dX9_errand_17 : decode cX9_errand 17 = .ok (.aload_n 0, 1) := by decide +kernel
theorem dX9_errand_18 : decode cX9_errand 18 = .ok (.iload_n 1, 1) := by decide +kernel
theorem dX9_errand_19 : decode cX9_errand 19 = .ok (.iconst 4, 1) := by decide +kernel
theorem dX9_errand_20 : decode cX9_errand 20 = .ok (.iload_n 2, 1) := by decide +kernel
theorem dX9_errand_21 : decode cX9_errand 21 = .ok (.invokevirtual 110, 3) := by decide +kernel
theorem dX9_errand_24 : decode cX9_errand 24 = .ok (.invokestatic 117, 3) := by decide +kernel
theorem dX9_errand_27 : decode cX9_errand 27 = .ok (.goto 4, 3) := by decide +kernel
theorem dX9_errand_30 : decode cX9_errand 30 = .ok (.iconst (-1), 1) := by decide +kernel
theorem dX9_errand_31 : decode cX9_errand 31 = .ok (.ireturn, 1) := by decide +kernel
theorem dX9_cross_0 : decode cX9_cross 0 = .ok (.aload_n 0, 1) := by decide +kernel
theorem dX9_cross_1 : decode cX9_cross 1 = .ok (.iload_n 1, 1) := by decide +kernel
theorem dX9_cross_2 : decode cX9_cross 2 = .ok (.invokevirtual 114, 3) := by decide +kernel
theorem dX9_cross_5 : decode cX9_cross 5 = .ok (.ifCond .eq 11, 3) := by decide +kernel
theorem dX9_cross_8 : decode cX9_cross 8 = .ok (.aload_n 0, 1) := by decide +kernel
theorem dX9_cross_9 : decode cX9_cross 9 = .ok (.iload_n 2, 1) := by decide +kernel
theorem dX9_cross_10 : decode cX9_cross 10 = .ok (.invokevirtual 130, 3) := by decide +kernel
theorem dX9_cross_13 : decode cX9_cross 13 = .ok (.ifCond .ne 5, 3) := by decide +kernel
theorem dX9_cross_16 : decode cX9_cross 16 = .ok (.iconst (-1), 1) := by decide +kernel
theorem dX9_cross_17 : decode cX9_cross 17 = .ok (.ireturn, 1) := by decide +kernel
theorem dX9_cross_18 : decode cX9_cross 18 = .ok (.aload_n 0, 1) := by decide +kernel
theorem dX9_cross_19 : decode cX9_cross 19 = .ok (.iload_n 1, 1) := by decide +kernel
theorem dX9_cross_20 : decode cX9_cross 20 = .ok (.invokevirtual 127, 3) := by decide +kernel
theorem dX9_cross_23 : decode cX9_cross 23 = .ok (.iload_n 2, 1) := by decide +kernel
theorem dX9_cross_24 : decode cX9_cross 24 = .ok (.ishr, 1) := by decide +kernel
theorem dX9_cross_25 : decode cX9_cross 25 = .ok (.iconst 1, 1) := by decide +kernel
theorem dX9_cross_26 : decode cX9_cross 26 = .ok (.iand, 1) := by decide +kernel
theorem dX9_cross_27 : decode cX9_cross 27 = .ok (.ifCond .ne 6, 3) := by decide +kernel
theorem dX9_cross_30 : decode cX9_cross 30 = .ok (.bipush (-3), 2) := by decide +kernel
theorem dX9_cross_32 : decode cX9_cross 32 = .ok (.ireturn, 1) := by decide +kernel
theorem dX9_cross_33 : decode cX9_cross 33 = .ok (.aload_n 0, 1) := by decide +kernel
theorem dX9_cross_34 : decode cX9_cross 34 = .ok (.iload_n 1, 1) := by decide +kernel
theorem dX9_cross_35 : decode cX9_cross 35 = .ok (.iload_n 2, 1) := by decide +kernel
theorem dX9_cross_36 : decode cX9_cross 36 = .ok (.invokevirtual 139, 3) := by decide +kernel
theorem dX9_cross_39 : decode cX9_cross 39 = .ok (.aload_n 0, 1) := by decide +kernel
theorem dX9_cross_40 : decode cX9_cross 40 = .ok (.iload_n 1, 1) := by decide +kernel
theorem dX9_cross_41 : decode cX9_cross 41 = .ok (.iconst 2, 1) := by decide +kernel
theorem dX9_cross_42 : decode cX9_cross 42 = .ok (.invokevirtual 102, 3) := by decide +kernel
theorem dX9_cross_45 : decode cX9_cross 45 = .ok (.ireturn, 1) := by decide +kernel
theorem dX9_lose_0 : decode cX9_lose 0 = .ok (.aload_n 0, 1) := by decide +kernel
theorem dX9_lose_1 : decode cX9_lose 1 = .ok (.iload_n 1, 1) := by decide +kernel
theorem dX9_lose_2 : decode cX9_lose 2 = .ok (.invokevirtual 130, 3) := by decide +kernel
theorem dX9_lose_5 : decode cX9_lose 5 = .ok (.ifCond .ne 5, 3) := by decide +kernel
theorem dX9_lose_8 : decode cX9_lose 8 = .ok (.iconst (-1), 1) := by decide +kernel
theorem dX9_lose_9 : decode cX9_lose 9 = .ok (.ireturn, 1) := by decide +kernel
theorem dX9_lose_10 : decode cX9_lose 10 = .ok (.aload_n 0, 1) := by decide +kernel
theorem dX9_lose_11 : decode cX9_lose 11 = .ok (.getfield 9, 3) := by decide +kernel
theorem dX9_lose_14 : decode cX9_lose 14 = .ok (.iconst 4, 1) := by decide +kernel
theorem dX9_lose_15 : decode cX9_lose 15 = .ok (.iload_n 1, 1) := by decide +kernel
theorem dX9_lose_16 : decode cX9_lose 16 = .ok (.imul, 1) := by decide +kernel
theorem dX9_lose_17 : decode cX9_lose 17 = .ok (.iconst 3, 1) := by decide +kernel
theorem dX9_lose_18 : decode cX9_lose 18 = .ok (.iadd, 1) := by decide +kernel
theorem dX9_lose_19 : decode cX9_lose 19 = .ok (.iaload, 1) := by decide +kernel
theorem dX9_lose_20 : decode cX9_lose 20 = .ok (.istore_n 3, 1) := by decide +kernel
theorem dX9_lose_21 : decode cX9_lose 21 = .ok (.aload_n 0, 1) := by decide +kernel
theorem dX9_lose_22 : decode cX9_lose 22 = .ok (.getfield 9, 3) := by decide +kernel
theorem dX9_lose_25 : decode cX9_lose 25 = .ok (.iconst 4, 1) := by decide +kernel
theorem dX9_lose_26 : decode cX9_lose 26 = .ok (.iload_n 1, 1) := by decide +kernel
theorem dX9_lose_27 : decode cX9_lose 27 = .ok (.imul, 1) := by decide +kernel
theorem dX9_lose_28 : decode cX9_lose 28 = .ok (.iconst 3, 1) := by decide +kernel
theorem dX9_lose_29 : decode cX9_lose 29 = .ok (.iadd, 1) := by decide +kernel
theorem dX9_lose_30 : decode cX9_lose 30 = .ok (.iload_n 2, 1) := by decide +kernel
theorem dX9_lose_31 : decode cX9_lose 31 = .ok (.ifCond .eq 7, 3) := by decide +kernel
theorem dX9_lose_34 : decode cX9_lose 34 = .ok (.iconst 1, 1) := by decide +kernel
theorem dX9_lose_35 : decode cX9_lose 35 = .ok (.goto 4, 3) := by decide +kernel
theorem dX9_lose_38 : decode cX9_lose 38 = .ok (.iconst 0, 1) := by decide +kernel
theorem dX9_lose_39 : decode cX9_lose 39 = .ok (.iastore, 1) := by decide +kernel
theorem dX9_lose_40 : decode cX9_lose 40 = .ok (.iload_n 3, 1) := by decide +kernel
theorem dX9_lose_41 : decode cX9_lose 41 = .ok (.ireturn, 1) := by decide +kernel
theorem dX9_isSwap_0 : decode cX9_isSwap 0 = .ok (.iload_n 1, 1) := by decide +kernel
theorem dX9_isSwap_1 : decode cX9_isSwap 1 = .ok (.iload_n 2, 1) := by decide +kernel
theorem dX9_isSwap_2 : decode cX9_isSwap 2 = .ok (.if_icmp .eq 34, 3) := by decide +kernel
theorem dX9_isSwap_5 : decode cX9_isSwap 5 = .ok (.aload_n 0, 1) := by decide +kernel
theorem dX9_isSwap_6 : decode cX9_isSwap 6 = .ok (.iload_n 1, 1) := by decide +kernel
theorem dX9_isSwap_7 : decode cX9_isSwap 7 = .ok (.invokevirtual 136, 3) := by decide +kernel
theorem dX9_isSwap_10 : decode cX9_isSwap 10 = .ok (.iconst (-1), 1) := by decide +kernel
theorem dX9_isSwap_11 : decode cX9_isSwap 11 = .ok (.if_icmp .eq 25, 3) := by decide +kernel
theorem dX9_isSwap_14 : decode cX9_isSwap 14 = .ok (.aload_n 0, 1) := by decide +kernel
theorem dX9_isSwap_15 : decode cX9_isSwap 15 = .ok (.iload_n 2, 1) := by decide +kernel
theorem dX9_isSwap_16 : decode cX9_isSwap 16 = .ok (.invokevirtual 136, 3) := by decide +kernel
theorem dX9_isSwap_19 : decode cX9_isSwap 19 = .ok (.iconst (-1), 1) := by decide +kernel
theorem dX9_isSwap_20 : decode cX9_isSwap 20 = .ok (.if_icmp .eq 16, 3) := by decide +kernel
theorem dX9_isSwap_23 : decode cX9_isSwap 23 = .ok (.aload_n 0, 1) := by decide +kernel
theorem dX9_isSwap_24 : decode cX9_isSwap 24 = .ok (.iload_n 1, 1) := by decide +kernel
theorem dX9_isSwap_25 : decode cX9_isSwap 25 = .ok (.invokevirtual 136, 3) := by decide +kernel
theorem dX9_isSwap_28 : decode cX9_isSwap 28 = .ok (.iload_n 2, 1) := by decide +kernel
theorem dX9_isSwap_29 : decode cX9_isSwap 29 = .ok (.if_icmp .eq 7, 3) := by decide +kernel
theorem dX9_isSwap_32 : decode cX9_isSwap 32 = .ok (.iconst 1, 1) := by decide +kernel
theorem dX9_isSwap_33 : decode cX9_isSwap 33 = .ok (.goto 4, 3) := by decide +kernel
theorem dX9_isSwap_36 : decode cX9_isSwap 36 = .ok (.iconst 0, 1) := by decide +kernel
theorem dX9_isSwap_37 : decode cX9_isSwap 37 = .ok (.ireturn, 1) := by decide +kernel
theorem dX9_goSwap_0 : decode cX9_goSwap 0 = .ok (.aload_n 0, 1) := by decide +kernel
theorem dX9_goSwap_1 : decode cX9_goSwap 1 = .ok (.iload_n 1, 1) := by decide +kernel
theorem dX9_goSwap_2 : decode cX9_goSwap 2 = .ok (.invokevirtual 136, 3) := by decide +kernel
theorem dX9_goSwap_5 : decode cX9_goSwap 5 = .ok (.istore_n 3, 1) := by decide +kernel
theorem dX9_goSwap_6 : decode cX9_goSwap 6 = .ok (.aload_n 0, 1) := by decide +kernel
theorem dX9_goSwap_7 : decode cX9_goSwap 7 = .ok (.iload_n 2, 1) := by decide +kernel
theorem dX9_goSwap_8 : decode cX9_goSwap 8 = .ok (.invokevirtual 136, 3) := by decide +kernel
theorem dX9_goSwap_11 : decode cX9_goSwap 11 = .ok (.istore 4, 2) := by decide +kernel
theorem dX9_goSwap_13 : decode cX9_goSwap 13 = .ok (.aload_n 0, 1) := by decide +kernel
theorem dX9_goSwap_14 : decode cX9_goSwap 14 = .ok (.getfield 9, 3) := by decide +kernel
theorem dX9_goSwap_17 : decode cX9_goSwap 17 = .ok (.iconst 4, 1) := by decide +kernel
theorem dX9_goSwap_18 : decode cX9_goSwap 18 = .ok (.iload_n 1, 1) := by decide +kernel
theorem dX9_goSwap_19 : decode cX9_goSwap 19 = .ok (.imul, 1) := by decide +kernel
theorem dX9_goSwap_20 : decode cX9_goSwap 20 = .ok (.iconst 2, 1) := by decide +kernel
theorem dX9_goSwap_21 : decode cX9_goSwap 21 = .ok (.iadd, 1) := by decide +kernel
theorem dX9_goSwap_22 : decode cX9_goSwap 22 = .ok (.iload 4, 2) := by decide +kernel
theorem dX9_goSwap_24 : decode cX9_goSwap 24 = .ok (.iastore, 1) := by decide +kernel
theorem dX9_goSwap_25 : decode cX9_goSwap 25 = .ok (.aload_n 0, 1) := by decide +kernel
theorem dX9_goSwap_26 : decode cX9_goSwap 26 = .ok (.getfield 9, 3) := by decide +kernel
theorem dX9_goSwap_29 : decode cX9_goSwap 29 = .ok (.iconst 4, 1) := by decide +kernel
theorem dX9_goSwap_30 : decode cX9_goSwap 30 = .ok (.iload 4, 2) := by decide +kernel
theorem dX9_goSwap_32 : decode cX9_goSwap 32 = .ok (.imul, 1) := by decide +kernel
theorem dX9_goSwap_33 : decode cX9_goSwap 33 = .ok (.iconst 2, 1) := by decide +kernel
theorem dX9_goSwap_34 : decode cX9_goSwap 34 = .ok (.iadd, 1) := by decide +kernel
theorem dX9_goSwap_35 : decode cX9_goSwap 35 = .ok (.iload_n 1, 1) := by decide +kernel
theorem dX9_goSwap_36 : decode cX9_goSwap 36 = .ok (.iastore, 1) := by decide +kernel
theorem dX9_goSwap_37 : decode cX9_goSwap 37 = .ok (.aload_n 0, 1) := by decide +kernel
theorem dX9_goSwap_38 : decode cX9_goSwap 38 = .ok (.getfield 9, 3) := by decide +kernel
theorem dX9_goSwap_41 : decode cX9_goSwap 41 = .ok (.iconst 4, 1) := by decide +kernel
theorem dX9_goSwap_42 : decode cX9_goSwap 42 = .ok (.iload_n 2, 1) := by decide +kernel
theorem dX9_goSwap_43 : decode cX9_goSwap 43 = .ok (.imul, 1) := by decide +kernel
theorem dX9_goSwap_44 : decode cX9_goSwap 44 = .ok (.iconst 2, 1) := by decide +kernel
theorem dX9_goSwap_45 : decode cX9_goSwap 45 = .ok (.iadd, 1) := by decide +kernel
theorem dX9_goSwap_46 : decode cX9_goSwap 46 = .ok (.iload_n 3, 1) := by decide +kernel
theorem dX9_goSwap_47 : decode cX9_goSwap 47 = .ok (.iastore, 1) := by decide +kernel
theorem dX9_goSwap_48 : decode cX9_goSwap 48 = .ok (.aload_n 0, 1) := by decide +kernel
theorem dX9_goSwap_49 : decode cX9_goSwap 49 = .ok (.getfield 9, 3) := by decide +kernel
theorem dX9_goSwap_52 : decode cX9_goSwap 52 = .ok (.iconst 4, 1) := by decide +kernel
theorem dX9_goSwap_53 : decode cX9_goSwap 53 = .ok (.iload_n 3, 1) := by decide +kernel
theorem dX9_goSwap_54 : decode cX9_goSwap 54 = .ok (.imul, 1) := by decide +kernel
theorem dX9_goSwap_55 : decode cX9_goSwap 55 = .ok (.iconst 2, 1) := by decide +kernel
theorem dX9_goSwap_56 : decode cX9_goSwap 56 = .ok (.iadd, 1) := by decide +kernel
theorem dX9_goSwap_57 : decode cX9_goSwap 57 = .ok (.iload_n 2, 1) := by decide +kernel
theorem dX9_goSwap_58 : decode cX9_goSwap 58 = .ok (.iastore, 1) := by decide +kernel
theorem dX9_goSwap_59 : decode cX9_goSwap 59 = .ok (.return_, 1) := by decide +kernel
theorem dX9_swap_0 : decode cX9_swap 0 = .ok (.aload_n 0, 1) := by decide +kernel
theorem dX9_swap_1 : decode cX9_swap 1 = .ok (.iload_n 1, 1) := by decide +kernel
theorem dX9_swap_2 : decode cX9_swap 2 = .ok (.invokevirtual 130, 3) := by decide +kernel
theorem dX9_swap_5 : decode cX9_swap 5 = .ok (.ifCond .eq 11, 3) := by decide +kernel
theorem dX9_swap_8 : decode cX9_swap 8 = .ok (.aload_n 0, 1) := by decide +kernel
theorem dX9_swap_9 : decode cX9_swap 9 = .ok (.iload_n 2, 1) := by decide +kernel
theorem dX9_swap_10 : decode cX9_swap 10 = .ok (.invokevirtual 130, 3) := by decide +kernel
theorem dX9_swap_13 : decode cX9_swap 13 = .ok (.ifCond .ne 5, 3) := by decide +kernel
theorem dX9_swap_16 : decode cX9_swap 16 = .ok (.iconst (-1), 1) := by decide +kernel
theorem dX9_swap_17 : decode cX9_swap 17 = .ok (.ireturn, 1) := by decide +kernel
theorem dX9_swap_18 : decode cX9_swap 18 = .ok (.aload_n 0, 1) := by decide +kernel
theorem dX9_swap_19 : decode cX9_swap 19 = .ok (.iload_n 1, 1) := by decide +kernel
theorem dX9_swap_20 : decode cX9_swap 20 = .ok (.iload_n 2, 1) := by decide +kernel
theorem dX9_swap_21 : decode cX9_swap 21 = .ok (.invokevirtual 143, 3) := by decide +kernel
theorem dX9_swap_24 : decode cX9_swap 24 = .ok (.ifCond .ne 6, 3) := by decide +kernel
theorem dX9_swap_27 : decode cX9_swap 27 = .ok (.bipush (-3), 2) := by decide +kernel
theorem dX9_swap_29 : decode cX9_swap 29 = .ok (.ireturn, 1) := by decide +kernel
theorem dX9_swap_30 : decode cX9_swap 30 = .ok (.aload_n 0, 1) := by decide +kernel
theorem dX9_swap_31 : decode cX9_swap 31 = .ok (.iload_n 1, 1) := by decide +kernel
theorem dX9_swap_32 : decode cX9_swap 32 = .ok (.iload_n 2, 1) := by decide +kernel
theorem dX9_swap_33 : decode cX9_swap 33 = .ok (.invokevirtual 147, 3) := by decide +kernel
theorem dX9_swap_36 : decode cX9_swap 36 = .ok (.aload_n 0, 1) := by decide +kernel
theorem dX9_swap_37 : decode cX9_swap 37 = .ok (.iload_n 1, 1) := by decide +kernel
theorem dX9_swap_38 : decode cX9_swap 38 = .ok (.invokevirtual 136, 3) := by decide +kernel
theorem dX9_swap_41 : decode cX9_swap 41 = .ok (.ireturn, 1) := by decide +kernel
theorem dX9_row_0 : decode cX9_row 0 = .ok (.aload_n 0, 1) := by decide +kernel
theorem dX9_row_1 : decode cX9_row 1 = .ok (.iload_n 1, 1) := by decide +kernel
theorem dX9_row_2 : decode cX9_row 2 = .ok (.invokevirtual 114, 3) := by decide +kernel
theorem dX9_row_5 : decode cX9_row 5 = .ok (.ifCond .eq 12, 3) := by decide +kernel
theorem dX9_row_8 : decode cX9_row 8 = .ok (.iload_n 2, 1) := by decide +kernel
theorem dX9_row_9 : decode cX9_row 9 = .ok (.iconst 0, 1) := by decide +kernel
theorem dX9_row_10 : decode cX9_row 10 = .ok (.iconst 3, 1) := by decide +kernel
theorem dX9_row_11 : decode cX9_row 11 = .ok (.invokestatic 98, 3) := by decide +kernel
theorem dX9_row_14 : decode cX9_row 14 = .ok (.ifCond .ne 5, 3) := by decide +kernel
theorem dX9_row_17 : decode cX9_row 17 = .ok (.iconst (-1), 1) := by decide +kernel
theorem dX9_row_18 : decode cX9_row 18 = .ok (.ireturn, 1) := by decide +kernel
theorem dX9_row_19 : decode cX9_row 19 = .ok (.iload_n 3, 1) := by decide +kernel
theorem dX9_row_20 : decode cX9_row 20 = .ok (.iconst 0, 1) := by decide +kernel
theorem dX9_row_21 : decode cX9_row 21 = .ok (.bipush 9, 2) := by decide +kernel
theorem dX9_row_23 : decode cX9_row 23 = .ok (.invokestatic 98, 3) := by decide +kernel
theorem dX9_row_26 : decode cX9_row 26 = .ok (.ifCond .ne 6, 3) := by decide +kernel
theorem dX9_row_29 : decode cX9_row 29 = .ok (.bipush (-2), 2) := by decide +kernel
theorem dX9_row_31 : decode cX9_row 31 = .ok (.ireturn, 1) := by decide +kernel
theorem dX9_row_32 : decode cX9_row 32 = .ok (.aload_n 0, 1) := by decide +kernel
theorem dX9_row_33 : decode cX9_row 33 = .ok (.iload_n 1, 1) := by decide +kernel
theorem dX9_row_34 : decode cX9_row 34 = .ok (.iconst 0, 1) := by decide +kernel
theorem dX9_row_35 : decode cX9_row 35 = .ok (.invokevirtual 102, 3) := by decide +kernel
theorem dX9_row_38 : decode cX9_row 38 = .ok (.bipush 6, 2) := by decide +kernel
theorem dX9_row_40 : decode cX9_row 40 = .ok (.if_icmp .ne 16, 3) := by decide +kernel
theorem dX9_row_43 : decode cX9_row 43 = .ok (.aload_n 0, 1) := by decide +kernel
theorem dX9_row_44 : decode cX9_row 44 = .ok (.iload_n 1, 1) := by decide +kernel
theorem dX9_row_45 : decode cX9_row 45 = .ok (.bipush 6, 2) := by decide +kernel
theorem dX9_row_47 : decode cX9_row 47 = .ok (.iload_n 2, 1) := by decide +kernel
theorem dX9_row_48 : decode cX9_row 48 = .ok (.iadd, 1) := by decide +kernel
theorem dX9_row_49 : decode cX9_row 49 = .ok (.iload_n 3, 1) := by decide +kernel
theorem dX9_row_50 : decode cX9_row 50 = .ok (.invokevirtual 110, 3) := by decide +kernel
theorem dX9_row_53 : decode cX9_row 53 = .ok (.goto 5, 3) := by decide +kernel
theorem dX9_row_56 : decode cX9_row 56 = .ok (.bipush (-3), 2) := by decide +kernel
theorem dX9_row_58 : decode cX9_row 58 = .ok (.ireturn, 1) := by decide +kernel
theorem dX9_feed_0 : decode cX9_feed 0 = .ok (.iload_n 1, 1) := by decide +kernel
theorem dX9_feed_1 : decode cX9_feed 1 = .ok (.iconst 0, 1) := by decide +kernel
theorem dX9_feed_2 : decode cX9_feed 2 = .ok (.bipush 127, 2) := by decide +kernel
theorem dX9_feed_4 : decode cX9_feed 4 = .ok (.invokestatic 98, 3) := by decide +kernel
theorem dX9_feed_7 : decode cX9_feed 7 = .ok (.ifCond .ne 6, 3) := by decide +kernel
theorem dX9_feed_10 : decode cX9_feed 10 = .ok (.bipush (-2), 2) := by decide +kernel
theorem dX9_feed_12 : decode cX9_feed 12 = .ok (.ireturn, 1) := by decide +kernel
theorem dX9_feed_13 : decode cX9_feed 13 = .ok (.aload_n 0, 1) := by decide +kernel
theorem dX9_feed_14 : decode cX9_feed 14 = .ok (.getfield 150, 3) := by decide +kernel
theorem dX9_feed_17 : decode cX9_feed 17 = .ok (.bipush 100, 2) := by decide +kernel
theorem dX9_feed_19 : decode cX9_feed 19 = .ok (.if_icmp .ne 6, 3) := by decide +kernel
theorem dX9_feed_22 : decode cX9_feed 22 = .ok (.bipush (-4), 2) := by decide +kernel
theorem dX9_feed_24 : decode cX9_feed 24 = .ok (.ireturn, 1) := by decide +kernel
theorem dX9_feed_25 : decode cX9_feed 25 = .ok (.aload_n 0, 1) := by decide +kernel
theorem dX9_feed_26 : decode cX9_feed 26 = .ok (.getfield 21, 3) := by decide +kernel
theorem dX9_feed_29 : decode cX9_feed 29 = .ok (.aload_n 0, 1) := by decide +kernel
theorem dX9_feed_30 : decode cX9_feed 30 = .ok (.getfield 150, 3) := by decide +kernel
theorem dX9_feed_33 : decode cX9_feed 33 = .ok (.iload_n 1, 1) := by decide +kernel
theorem dX9_feed_34 : decode cX9_feed 34 = .ok (.iastore, 1) := by decide +kernel
theorem dX9_feed_35 : decode cX9_feed 35 = .ok (.aload_n 0, 1) := by decide +kernel
theorem dX9_feed_36 : decode cX9_feed 36 = .ok (.dup, 1) := by decide +kernel
theorem dX9_feed_37 : decode cX9_feed 37 = .ok (.getfield 150, 3) := by decide +kernel
theorem dX9_feed_40 : decode cX9_feed 40 = .ok (.iconst 1, 1) := by decide +kernel
theorem dX9_feed_41 : decode cX9_feed 41 = .ok (.iadd, 1) := by decide +kernel
theorem dX9_feed_42 : decode cX9_feed 42 = .ok (.putfield 150, 3) := by decide +kernel
theorem dX9_feed_45 : decode cX9_feed 45 = .ok (.aload_n 0, 1) := by decide +kernel
theorem dX9_feed_46 : decode cX9_feed 46 = .ok (.getfield 150, 3) := by decide +kernel
theorem dX9_feed_49 : decode cX9_feed 49 = .ok (.ireturn, 1) := by decide +kernel
theorem dX9_isAt_0 : decode cX9_isAt 0 = .ok (.aload_n 0, 1) := by decide +kernel
theorem dX9_isAt_1 : decode cX9_isAt 1 = .ok (.getfield 154, 3) := by decide +kernel
theorem dX9_isAt_4 : decode cX9_isAt 4 = .ok (.ifCond .eq 31, 3) := by decide +kernel
theorem dX9_isAt_7 : decode cX9_isAt 7 = .ok (.aload_n 0, 1) := by decide +kernel
theorem dX9_isAt_8 : decode cX9_isAt 8 = .ok (.getfield 157, 3) := by decide +kernel
theorem dX9_isAt_11 : decode cX9_isAt 11 = .ok (.aload_n 0, 1) := by decide +kernel
theorem dX9_isAt_12 : decode cX9_isAt 12 = .ok (.getfield 160, 3) := by decide +kernel
theorem dX9_isAt_15 : decode cX9_isAt 15 = .ok (.if_icmp .ge 20, 3) := by decide +kernel
theorem dX9_isAt_18 : decode cX9_isAt 18 = .ok (.aload_n 0, 1) := by decide +kernel
theorem dX9_isAt_19 : decode cX9_isAt 19 = .ok (.getfield 30, 3) := by decide +kernel
theorem dX9_isAt_22 : decode cX9_isAt 22 = .ok (.aload_n 0, 1) := by decide +kernel
theorem dX9_isAt_23 : decode cX9_isAt 23 = .ok (.getfield 157, 3) := by decide +kernel
theorem dX9_isAt_26 : decode cX9_isAt 26 = .ok (.iaload, 1) := by decide +kernel
theorem dX9_isAt_27 : decode cX9_isAt 27 = .ok (.iload_n 1, 1) := by decide +kernel
theorem dX9_isAt_28 : decode cX9_isAt 28 = .ok (.if_icmp .ne 7, 3) := by decide +kernel
theorem dX9_isAt_31 : decode cX9_isAt 31 = .ok (.iconst 1, 1) := by decide +kernel
theorem dX9_isAt_32 : decode cX9_isAt 32 = .ok (.goto 4, 3) := by decide +kernel
theorem dX9_isAt_35 : decode cX9_isAt 35 = .ok (.iconst 0, 1) := by decide +kernel
theorem dX9_isAt_36 : decode cX9_isAt 36 = .ok (.ireturn, 1) := by decide +kernel
theorem dX9_takes_0 : decode cX9_takes 0 = .ok (.aload_n 0, 1) := by decide +kernel
theorem dX9_takes_1 : decode cX9_takes 1 = .ok (.iload_n 1, 1) := by decide +kernel
theorem dX9_takes_2 : decode cX9_takes 2 = .ok (.invokevirtual 163, 3) := by decide +kernel
theorem dX9_takes_5 : decode cX9_takes 5 = .ok (.ifCond .eq 16, 3) := by decide +kernel
theorem dX9_takes_8 : decode cX9_takes 8 = .ok (.aload_n 0, 1) := by decide +kernel
theorem dX9_takes_9 : decode cX9_takes 9 = .ok (.dup, 1) := by decide +kernel
theorem dX9_takes_10 : decode cX9_takes 10 = .ok (.getfield 157, 3) := by decide +kernel
theorem dX9_takes_13 : decode cX9_takes 13 = .ok (.iconst 1, 1) := by decide +kernel
theorem dX9_takes_14 : decode cX9_takes 14 = .ok (.iadd, 1) := by decide +kernel
theorem dX9_takes_15 : decode cX9_takes 15 = .ok (.putfield 157, 3) := by decide +kernel
theorem dX9_takes_18 : decode cX9_takes 18 = .ok (.goto 8, 3) := by decide +kernel
theorem dX9_takes_21 : decode cX9_takes 21 = .ok (.aload_n 0, 1) := by decide +kernel
theorem dX9_takes_22 : decode cX9_takes 22 = .ok (.iconst 0, 1) := by decide +kernel
theorem dX9_takes_23 : decode cX9_takes 23 = .ok (.putfield 154, 3) := by decide +kernel
theorem dX9_takes_26 : decode cX9_takes 26 = .ok (.return_, 1) := by decide +kernel
theorem dX9_isDigit_0 : decode cX9_isDigit 0 = .ok (.aload_n 0, 1) := by decide +kernel
theorem dX9_isDigit_1 : decode cX9_isDigit 1 = .ok (.getfield 154, 3) := by decide +kernel
theorem dX9_isDigit_4 : decode cX9_isDigit 4 = .ok (.ifCond .eq 46, 3) := by decide +kernel
theorem dX9_isDigit_7 : decode cX9_isDigit 7 = .ok (.aload_n 0, 1) := by decide +kernel
theorem dX9_isDigit_8 : decode cX9_isDigit 8 = .ok (.getfield 157, 3) := by decide +kernel
theorem dX9_isDigit_11 : decode cX9_isDigit 11 = .ok (.aload_n 0, 1) := by decide +kernel
theorem dX9_isDigit_12 : decode cX9_isDigit 12 = .ok (.getfield 160, 3) := by decide +kernel
theorem dX9_isDigit_15 : decode cX9_isDigit 15 = .ok (.if_icmp .ge 35, 3) := by decide +kernel
theorem dX9_isDigit_18 : decode cX9_isDigit 18 = .ok (.aload_n 0, 1) := by decide +kernel
theorem dX9_isDigit_19 : decode cX9_isDigit 19 = .ok (.getfield 30, 3) := by decide +kernel
theorem dX9_isDigit_22 : decode cX9_isDigit 22 = .ok (.aload_n 0, 1) := by decide +kernel
theorem dX9_isDigit_23 : decode cX9_isDigit 23 = .ok (.getfield 157, 3) := by decide +kernel
theorem dX9_isDigit_26 : decode cX9_isDigit 26 = .ok (.iaload, 1) := by decide +kernel
theorem dX9_isDigit_27 : decode cX9_isDigit 27 = .ok (.bipush 48, 2) := by decide +kernel
theorem dX9_isDigit_29 : decode cX9_isDigit 29 = .ok (.if_icmp .lt 21, 3) := by decide +kernel
theorem dX9_isDigit_32 : decode cX9_isDigit 32 = .ok (.aload_n 0, 1) := by decide +kernel
theorem dX9_isDigit_33 : decode cX9_isDigit 33 = .ok (.getfield 30, 3) := by decide +kernel
theorem dX9_isDigit_36 : decode cX9_isDigit 36 = .ok (.aload_n 0, 1) := by decide +kernel
theorem dX9_isDigit_37 : decode cX9_isDigit 37 = .ok (.getfield 157, 3) := by decide +kernel
theorem dX9_isDigit_40 : decode cX9_isDigit 40 = .ok (.iaload, 1) := by decide +kernel
theorem dX9_isDigit_41 : decode cX9_isDigit 41 = .ok (.bipush 57, 2) := by decide +kernel
theorem dX9_isDigit_43 : decode cX9_isDigit 43 = .ok (.if_icmp .gt 7, 3) := by decide +kernel
theorem dX9_isDigit_46 : decode cX9_isDigit 46 = .ok (.iconst 1, 1) := by decide +kernel
theorem dX9_isDigit_47 : decode cX9_isDigit 47 = .ok (.goto 4, 3) := by decide +kernel
theorem dX9_isDigit_50 : decode cX9_isDigit 50 = .ok (.iconst 0, 1) := by decide +kernel
theorem dX9_isDigit_51 : decode cX9_isDigit 51 = .ok (.ireturn, 1) := by decide +kernel
theorem dX9_number_0 : decode cX9_number 0 = .ok (.aload_n 0, 1) := by decide +kernel
theorem dX9_number_1 : decode cX9_number 1 = .ok (.invokevirtual 166, 3) := by decide +kernel
theorem dX9_number_4 : decode cX9_number 4 = .ok (.ifCond .ne 10, 3) := by decide +kernel
theorem dX9_number_7 : decode cX9_number 7 = .ok (.aload_n 0, 1) := by decide +kernel
theorem dX9_number_8 : decode cX9_number 8 = .ok (.iconst 0, 1) := by decide +kernel
theorem dX9_number_9 : decode cX9_number 9 = .ok (.putfield 154, 3) := by decide +kernel
theorem dX9_number_12 : decode cX9_number 12 = .ok (.iconst 0, 1) := by decide +kernel
theorem dX9_number_13 : decode cX9_number 13 = .ok (.ireturn, 1) := by decide +kernel
theorem dX9_number_14 : decode cX9_number 14 = .ok (.aload_n 0, 1) := by decide +kernel
theorem dX9_number_15 : decode cX9_number 15 = .ok (.getfield 30, 3) := by decide +kernel
theorem dX9_number_18 : decode cX9_number 18 = .ok (.aload_n 0, 1) := by decide +kernel
theorem dX9_number_19 : decode cX9_number 19 = .ok (.getfield 157, 3) := by decide +kernel
theorem dX9_number_22 : decode cX9_number 22 = .ok (.iaload, 1) := by decide +kernel
theorem dX9_number_23 : decode cX9_number 23 = .ok (.bipush 48, 2) := by decide +kernel
theorem dX9_number_25 : decode cX9_number 25 = .ok (.isub, 1) := by decide +kernel
theorem dX9_number_26 : decode cX9_number 26 = .ok (.istore_n 1, 1) := by decide +kernel
theorem dX9_number_27 : decode cX9_number 27 = .ok (.aload_n 0, 1) := by decide +kernel
theorem dX9_number_28 : decode cX9_number 28 = .ok (.dup, 1) := by decide +kernel
theorem dX9_number_29 : decode cX9_number 29 = .ok (.getfield 157, 3) := by decide +kernel
theorem dX9_number_32 : decode cX9_number 32 = .ok (.iconst 1, 1) := by decide +kernel
theorem dX9_number_33 : decode cX9_number 33 = .ok (.iadd, 1) := by decide +kernel
theorem dX9_number_34 : decode cX9_number 34 = .ok (.putfield 157, 3) := by decide +kernel
theorem dX9_number_37 : decode cX9_number 37 = .ok (.aload_n 0, 1) := by decide +kernel
theorem dX9_number_38 : decode cX9_number 38 = .ok (.invokevirtual 166, 3) := by decide +kernel
theorem dX9_number_41 : decode cX9_number 41 = .ok (.ifCond .eq 31, 3) := by decide +kernel
theorem dX9_number_44 : decode cX9_number 44 = .ok (.bipush 10, 2) := by decide +kernel
theorem dX9_number_46 : decode cX9_number 46 = .ok (.iload_n 1, 1) := by decide +kernel
theorem dX9_number_47 : decode cX9_number 47 = .ok (.imul, 1) := by decide +kernel
theorem dX9_number_48 : decode cX9_number 48 = .ok (.aload_n 0, 1) := by decide +kernel
theorem dX9_number_49 : decode cX9_number 49 = .ok (.getfield 30, 3) := by decide +kernel
theorem dX9_number_52 : decode cX9_number 52 = .ok (.aload_n 0, 1) := by decide +kernel
theorem dX9_number_53 : decode cX9_number 53 = .ok (.getfield 157, 3) := by decide +kernel
theorem dX9_number_56 : decode cX9_number 56 = .ok (.iaload, 1) := by decide +kernel
theorem dX9_number_57 : decode cX9_number 57 = .ok (.iadd, 1) := by decide +kernel
theorem dX9_number_58 : decode cX9_number 58 = .ok (.bipush 48, 2) := by decide +kernel
theorem dX9_number_60 : decode cX9_number 60 = .ok (.isub, 1) := by decide +kernel
theorem dX9_number_61 : decode cX9_number 61 = .ok (.istore_n 1, 1) := by decide +kernel
theorem dX9_number_62 : decode cX9_number 62 = .ok (.aload_n 0, 1) := by decide +kernel
theorem dX9_number_63 : decode cX9_number 63 = .ok (.dup, 1) := by decide +kernel
theorem dX9_number_64 : decode cX9_number 64 = .ok (.getfield 157, 3) := by decide +kernel
theorem dX9_number_67 : decode cX9_number 67 = .ok (.iconst 1, 1) := by decide +kernel
theorem dX9_number_68 : decode cX9_number 68 = .ok (.iadd, 1) := by decide +kernel
theorem dX9_number_69 : decode cX9_number 69 = .ok (.putfield 157, 3) := by decide +kernel
theorem dX9_number_72 : decode cX9_number 72 = .ok (.iload_n 1, 1) := by decide +kernel
theorem dX9_number_73 : decode cX9_number 73 = .ok (.ireturn, 1) := by decide +kernel
theorem dX9_test_0 : decode cX9_test 0 = .ok (.iconst (-1), 1) := by decide +kernel
theorem dX9_test_1 : decode cX9_test 1 = .ok (.istore_n 1, 1) := by decide +kernel
theorem dX9_test_2 : decode cX9_test 2 = .ok (.iconst 0, 1) := by decide +kernel
theorem dX9_test_3 : decode cX9_test 3 = .ok (.istore_n 2, 1) := by decide +kernel
theorem dX9_test_4 : decode cX9_test 4 = .ok (.iload_n 2, 1) := by decide +kernel
theorem dX9_test_5 : decode cX9_test 5 = .ok (.bipush 6, 2) := by decide +kernel
theorem dX9_test_7 : decode cX9_test 7 = .ok (.if_icmp .ge 28, 3) := by decide +kernel
theorem dX9_test_10 : decode cX9_test 10 = .ok (.aload_n 0, 1) := by decide +kernel
theorem dX9_test_11 : decode cX9_test 11 = .ok (.aload_n 0, 1) := by decide +kernel
theorem dX9_test_12 : decode cX9_test 12 = .ok (.getfield 36, 3) := by decide +kernel
theorem dX9_test_15 : decode cX9_test 15 = .ok (.iload_n 2, 1) := by decide +kernel
theorem dX9_test_16 : decode cX9_test 16 = .ok (.caload, 1) := by decide +kernel
theorem dX9_test_17 : decode cX9_test 17 = .ok (.invokevirtual 163, 3) := by decide +kernel
theorem dX9_test_20 : decode cX9_test 20 = .ok (.ifCond .eq 7, 3) := by decide +kernel
theorem dX9_test_23 : decode cX9_test 23 = .ok (.iload_n 2, 1) := by decide +kernel
theorem dX9_test_24 : decode cX9_test 24 = .ok (.goto 4, 3) := by decide +kernel
theorem dX9_test_27 : decode cX9_test 27 = .ok (.iload_n 1, 1) := by decide +kernel
theorem dX9_test_28 : decode cX9_test 28 = .ok (.istore_n 1, 1) := by decide +kernel
theorem dX9_test_29 : decode cX9_test 29 = .ok (.iinc 2 1, 3) := by decide +kernel
theorem dX9_test_32 : decode cX9_test 32 = .ok (.goto (-28), 3) := by decide +kernel
theorem dX9_test_35 : decode cX9_test 35 = .ok (.iload_n 1, 1) := by decide +kernel
theorem dX9_test_36 : decode cX9_test 36 = .ok (.iconst (-1), 1) := by decide +kernel
theorem dX9_test_37 : decode cX9_test 37 = .ok (.if_icmp .ne 10, 3) := by decide +kernel
theorem dX9_test_40 : decode cX9_test 40 = .ok (.aload_n 0, 1) := by decide +kernel
theorem dX9_test_41 : decode cX9_test 41 = .ok (.iconst 0, 1) := by decide +kernel
theorem dX9_test_42 : decode cX9_test 42 = .ok (.putfield 154, 3) := by decide +kernel
theorem dX9_test_45 : decode cX9_test 45 = .ok (.iconst 0, 1) := by decide +kernel
theorem dX9_test_46 : decode cX9_test 46 = .ok (.ireturn, 1) := by decide +kernel
theorem dX9_test_47 : decode cX9_test 47 = .ok (.aload_n 0, 1) := by decide +kernel
theorem dX9_test_48 : decode cX9_test 48 = .ok (.dup, 1) := by decide +kernel
theorem dX9_test_49 : decode cX9_test 49 = .ok (.getfield 157, 3) := by decide +kernel
theorem dX9_test_52 : decode cX9_test 52 = .ok (.iconst 1, 1) := by decide +kernel
theorem dX9_test_53 : decode cX9_test 53 = .ok (.iadd, 1) := by decide +kernel
theorem dX9_test_54 : decode cX9_test 54 = .ok (.putfield 157, 3) := by decide +kernel
theorem dX9_test_57 : decode cX9_test 57 = .ok (.aload_n 0, 1) := by decide +kernel
theorem dX9_test_58 : decode cX9_test 58 = .ok (.bipush 60, 2) := by decide +kernel
theorem dX9_test_60 : decode cX9_test 60 = .ok (.invokevirtual 163, 3) := by decide +kernel
theorem dX9_test_63 : decode cX9_test 63 = .ok (.ifCond .eq 7, 3) := by decide +kernel
theorem dX9_test_66 : decode cX9_test 66 = .ok (.iconst (-1), 1) := by decide +kernel
theorem dX9_test_67 : decode cX9_test 67 = .ok (.goto 17, 3) := by decide +kernel
theorem dX9_test_70 : decode cX9_test 70 = .ok (.aload_n 0, 1) := by decide +kernel
theorem dX9_test_71 : decode cX9_test 71 = .ok (.bipush 62, 2) := by decide +kernel
theorem dX9_test_73 : decode cX9_test 73 = .ok (.invokevirtual 163, 3) := by decide +kernel
theorem dX9_test_76 : decode cX9_test 76 = .ok (.ifCond .eq 7, 3) := by decide +kernel
theorem dX9_test_79 : decode cX9_test 79 = .ok (.iconst 1, 1) := by decide +kernel
theorem dX9_test_80 : decode cX9_test 80 = .ok (.goto 4, 3) := by decide +kernel
theorem dX9_test_83 : decode cX9_test 83 = .ok (.iconst 0, 1) := by decide +kernel
theorem dX9_test_84 : decode cX9_test 84 = .ok (.istore_n 2, 1) := by decide +kernel
theorem dX9_test_85 : decode cX9_test 85 = .ok (.aload_n 0, 1) := by decide +kernel
theorem dX9_test_86 : decode cX9_test 86 = .ok (.iload_n 2, 1) := by decide +kernel
theorem dX9_test_87 : decode cX9_test 87 = .ok (.ifCond .ge 8, 3) := by decide +kernel
theorem dX9_test_90 : decode cX9_test 90 = .ok (.bipush 60, 2) := by decide +kernel
theorem dX9_test_92 : decode cX9_test 92 = .ok (.goto 14, 3) := by decide +kernel
theorem dX9_test_95 : decode cX9_test 95 = .ok (.iload_n 2, 1) := by decide +kernel
theorem dX9_test_96 : decode cX9_test 96 = .ok (.ifCond .le 8, 3) := by decide +kernel
theorem dX9_test_99 : decode cX9_test 99 = .ok (.bipush 62, 2) := by decide +kernel
theorem dX9_test_101 : decode cX9_test 101 = .ok (.goto 5, 3) := by decide +kernel
theorem dX9_test_104 : decode cX9_test 104 = .ok (.bipush 61, 2) := by decide +kernel
theorem dX9_test_106 : decode cX9_test 106 = .ok (.invokevirtual 170, 3) := by decide +kernel
theorem dX9_test_109 : decode cX9_test 109 = .ok (.aload_n 0, 1) := by decide +kernel
theorem dX9_test_110 : decode cX9_test 110 = .ok (.invokevirtual 174, 3) := by decide +kernel
theorem dX9_test_113 : decode cX9_test 113 = .ok (.istore_n 3, 1) := by decide +kernel
theorem dX9_test_114 : decode cX9_test 114 = .ok (.iload_n 2, 1) := by decide +kernel
theorem dX9_test_115 : decode cX9_test 115 = .ok (.ifCond .ge 21, 3) := by decide +kernel
theorem dX9_test_118 : decode cX9_test 118 = .ok (.aload_n 0, 1) := by decide +kernel
theorem dX9_test_119 : decode cX9_test 119 = .ok (.getfield 33, 3) := by decide +kernel
theorem dX9_test_122 : decode cX9_test 122 = .ok (.iload_n 1, 1) := by decide +kernel
theorem dX9_test_123 : decode cX9_test 123 = .ok (.iaload, 1) := by decide +kernel
theorem dX9_test_124 : decode cX9_test 124 = .ok (.iload_n 3, 1) := by decide +kernel
theorem dX9_test_125 : decode cX9_test 125 = .ok (.if_icmp .ge 7, 3) := by decide +kernel
theorem dX9_test_128 : decode cX9_test 128 = .ok (.iconst 1, 1) := by decide +kernel
theorem dX9_test_129 : decode cX9_test 129 = .ok (.goto 44, 3) := by decide +kernel
theorem dX9_test_132 : decode cX9_test 132 = .ok (.iconst 0, 1) := by decide +kernel
theorem dX9_test_133 : decode cX9_test 133 = .ok (.goto 40, 3) := by decide +kernel
theorem dX9_test_136 : decode cX9_test 136 = .ok (.iload_n 2, 1) := by decide +kernel
theorem dX9_test_137 : decode cX9_test 137 = .ok (.ifCond .le 21, 3) := by decide +kernel
theorem dX9_test_140 : decode cX9_test 140 = .ok (.aload_n 0, 1) := by decide +kernel
theorem dX9_test_141 : decode cX9_test 141 = .ok (.getfield 33, 3) := by decide +kernel
theorem dX9_test_144 : decode cX9_test 144 = .ok (.iload_n 1, 1) := by decide +kernel
theorem dX9_test_145 : decode cX9_test 145 = .ok (.iaload, 1) := by decide +kernel
theorem dX9_test_146 : decode cX9_test 146 = .ok (.iload_n 3, 1) := by decide +kernel
theorem dX9_test_147 : decode cX9_test 147 = .ok (.if_icmp .le 7, 3) := by decide +kernel
theorem dX9_test_150 : decode cX9_test 150 = .ok (.iconst 1, 1) := by decide +kernel
theorem dX9_test_151 : decode cX9_test 151 = .ok (.goto 22, 3) := by decide +kernel
theorem dX9_test_154 : decode cX9_test 154 = .ok (.iconst 0, 1) := by decide +kernel
theorem dX9_test_155 : decode cX9_test 155 = .ok (.goto 18, 3) := by decide +kernel
theorem dX9_test_158 : decode cX9_test 158 = .ok (.aload_n 0, 1) := by decide +kernel
theorem dX9_test_159 : decode cX9_test 159 = .ok (.getfield 33, 3) := by decide +kernel
theorem dX9_test_162 : decode cX9_test 162 = .ok (.iload_n 1, 1) := by decide +kernel
theorem dX9_test_163 : decode cX9_test 163 = .ok (.iaload, 1) := by decide +kernel
theorem dX9_test_164 : decode cX9_test 164 = .ok (.iload_n 3, 1) := by decide +kernel
theorem dX9_test_165 : decode cX9_test 165 = .ok (.if_icmp .ne 7, 3) := by decide +kernel
theorem dX9_test_168 : decode cX9_test 168 = .ok (.iconst 1, 1) := by decide +kernel
theorem dX9_test_169 : decode cX9_test 169 = .ok (.goto 4, 3) := by decide +kernel
theorem dX9_test_172 : decode cX9_test 172 = .ok (.iconst 0, 1) := by decide +kernel
theorem dX9_test_173 : decode cX9_test 173 = .ok (.ireturn, 1) := by decide +kernel
theorem dX9_factor_0 : decode cX9_factor 0 = .ok (.aload_n 0, 1) := by decide +kernel
theorem dX9_factor_1 : decode cX9_factor 1 = .ok (.getfield 178, 3) := by decide +kernel
theorem dX9_factor_4 : decode cX9_factor 4 = .ok (.iconst 4, 1) := by decide +kernel
theorem dX9_factor_5 : decode cX9_factor 5 = .ok (.if_icmp .ge 58, 3) := by decide +kernel
theorem dX9_factor_8 : decode cX9_factor 8 = .ok (.aload_n 0, 1) := by decide +kernel
theorem dX9_factor_9 : decode cX9_factor 9 = .ok (.bipush 33, 2) := by decide +kernel
theorem dX9_factor_11 : decode cX9_factor 11 = .ok (.invokevirtual 163, 3) := by decide +kernel
theorem dX9_factor_14 : decode cX9_factor 14 = .ok (.ifCond .eq 49, 3) := by decide +kernel
theorem dX9_factor_17 : decode cX9_factor 17 = .ok (.aload_n 0, 1) := by decide +kernel
theorem dX9_factor_18 : decode cX9_factor 18 = .ok (.dup, 1) := by decide +kernel
theorem dX9_factor_19 : decode cX9_factor 19 = .ok (.getfield 157, 3) := by decide +kernel
theorem dX9_factor_22 : decode cX9_factor 22 = .ok (.iconst 1, 1) := by decide +kernel
theorem dX9_factor_23 : decode cX9_factor 23 = .ok (.iadd, 1) := by decide +kernel
theorem dX9_factor_24 : decode cX9_factor 24 = .ok (.putfield 157, 3) := by decide +kernel
theorem dX9_factor_27 : decode cX9_factor 27 = .ok (.aload_n 0, 1) := by decide +kernel
theorem dX9_factor_28 : decode cX9_factor 28 = .ok (.dup, 1) := by decide +kernel
theorem dX9_factor_29 : decode cX9_factor 29 = .ok (.getfield 178, 3) := by decide +kernel
theorem dX9_factor_32 : decode cX9_factor 32 = .ok (.iconst 1, 1) := by decide +kernel
theorem dX9_factor_33 : decode cX9_factor 33 = .ok (.iadd, 1) := by decide +kernel
theorem dX9_factor_34 : decode cX9_factor 34 = .ok (.putfield 178, 3) := by decide +kernel
theorem dX9_factor_37 : decode cX9_factor 37 = .ok (.aload_n 0, 1) := by decide +kernel
theorem dX9_factor_38 : decode cX9_factor 38 = .ok (.invokevirtual 181, 3) := by decide +kernel
theorem dX9_factor_41 : decode cX9_factor 41 = .ok (.ifCond .ne 7, 3) := by decide +kernel
theorem dX9_factor_44 : decode cX9_factor 44 = .ok (.iconst 1, 1) := by decide +kernel
theorem dX9_factor_45 : decode cX9_factor 45 = .ok (.goto 4, 3) := by decide +kernel
theorem dX9_factor_48 : decode cX9_factor 48 = .ok (.iconst 0, 1) := by decide +kernel
theorem dX9_factor_49 : decode cX9_factor 49 = .ok (.istore_n 1, 1) := by decide +kernel
theorem dX9_factor_50 : decode cX9_factor 50 = .ok (.aload_n 0, 1) := by decide +kernel
theorem dX9_factor_51 : decode cX9_factor 51 = .ok (.dup, 1) := by decide +kernel
theorem dX9_factor_52 : decode cX9_factor 52 = .ok (.getfield 178, 3) := by decide +kernel
theorem dX9_factor_55 : decode cX9_factor 55 = .ok (.iconst 1, 1) := by decide +kernel
theorem dX9_factor_56 : decode cX9_factor 56 = .ok (.isub, 1) := by decide +kernel
theorem dX9_factor_57 : decode cX9_factor 57 = .ok (.putfield 178, 3) := by decide +kernel
theorem dX9_factor_60 : decode cX9_factor 60 = .ok (.goto 69, 3) := by decide +kernel
theorem dX9_factor_63 : decode cX9_factor 63 = .ok (.aload_n 0, 1) := by decide +kernel
theorem dX9_factor_64 : decode cX9_factor 64 = .ok (.getfield 178, 3) := by decide +kernel
theorem dX9_factor_67 : decode cX9_factor 67 = .ok (.iconst 4, 1) := by decide +kernel
theorem dX9_factor_68 : decode cX9_factor 68 = .ok (.if_icmp .ge 56, 3) := by decide +kernel
theorem dX9_factor_71 : decode cX9_factor 71 = .ok (.aload_n 0, 1) := by decide +kernel
theorem dX9_factor_72 : decode cX9_factor 72 = .ok (.bipush 40, 2) := by decide +kernel
theorem dX9_factor_74 : decode cX9_factor 74 = .ok (.invokevirtual 163, 3) := by decide +kernel
theorem dX9_factor_77 : decode cX9_factor 77 = .ok (.ifCond .eq 47, 3) := by decide +kernel
theorem dX9_factor_80 : decode cX9_factor 80 = .ok (.aload_n 0, 1) := by decide +kernel
theorem dX9_factor_81 : decode cX9_factor 81 = .ok (.dup, 1) := by decide +kernel
theorem dX9_factor_82 : decode cX9_factor 82 = .ok (.getfield 157, 3) := by decide +kernel
theorem dX9_factor_85 : decode cX9_factor 85 = .ok (.iconst 1, 1) := by decide +kernel
theorem dX9_factor_86 : decode cX9_factor 86 = .ok (.iadd, 1) := by decide +kernel
theorem dX9_factor_87 : decode cX9_factor 87 = .ok (.putfield 157, 3) := by decide +kernel
theorem dX9_factor_90 : decode cX9_factor 90 = .ok (.aload_n 0, 1) := by decide +kernel
theorem dX9_factor_91 : decode cX9_factor 91 = .ok (.dup, 1) := by decide +kernel
theorem dX9_factor_92 : decode cX9_factor 92 = .ok (.getfield 178, 3) := by decide +kernel
theorem dX9_factor_95 : decode cX9_factor 95 = .ok (.iconst 1, 1) := by decide +kernel
theorem dX9_factor_96 : decode cX9_factor 96 = .ok (.iadd, 1) := by decide +kernel
theorem dX9_factor_97 : decode cX9_factor 97 = .ok (.putfield 178, 3) := by decide +kernel
theorem dX9_factor_100 : decode cX9_factor 100 = .ok (.aload_n 0, 1) := by decide +kernel
theorem dX9_factor_101 : decode cX9_factor 101 = .ok (.invokevirtual 184, 3) := by decide +kernel
theorem dX9_factor_104 : decode cX9_factor 104 = .ok (.istore_n 1, 1) := by decide +kernel
theorem dX9_factor_105 : decode cX9_factor 105 = .ok (.aload_n 0, 1) := by decide +kernel
theorem dX9_factor_106 : decode cX9_factor 106 = .ok (.dup, 1) := by decide +kernel
theorem dX9_factor_107 : decode cX9_factor 107 = .ok (.getfield 178, 3) := by decide +kernel
theorem dX9_factor_110 : decode cX9_factor 110 = .ok (.iconst 1, 1) := by decide +kernel
theorem dX9_factor_111 : decode cX9_factor 111 = .ok (.isub, 1) := by decide +kernel
theorem dX9_factor_112 : decode cX9_factor 112 = .ok (.putfield 178, 3) := by decide +kernel
theorem dX9_factor_115 : decode cX9_factor 115 = .ok (.aload_n 0, 1) := by decide +kernel
theorem dX9_factor_116 : decode cX9_factor 116 = .ok (.bipush 41, 2) := by decide +kernel
theorem dX9_factor_118 : decode cX9_factor 118 = .ok (.invokevirtual 170, 3) := by decide +kernel
theorem dX9_factor_121 : decode cX9_factor 121 = .ok (.goto 8, 3) := by decide +kernel
theorem dX9_factor_124 : decode cX9_factor 124 = .ok (.aload_n 0, 1) := by decide +kernel
theorem dX9_factor_125 : decode cX9_factor 125 = .ok (.invokevirtual 187, 3) := by decide +kernel
theorem dX9_factor_128 : decode cX9_factor 128 = .ok (.istore_n 1, 1) := by decide +kernel
theorem dX9_factor_129 : decode cX9_factor 129 = .ok (.iload_n 1, 1) := by decide +kernel
theorem dX9_factor_130 : decode cX9_factor 130 = .ok (.ireturn, 1) := by decide +kernel
theorem dX9_both_0 : decode cX9_both 0 = .ok (.aload_n 0, 1) := by decide +kernel
theorem dX9_both_1 : decode cX9_both 1 = .ok (.invokevirtual 181, 3) := by decide +kernel
theorem dX9_both_4 : decode cX9_both 4 = .ok (.istore_n 1, 1) := by decide +kernel
theorem dX9_both_5 : decode cX9_both 5 = .ok (.aload_n 0, 1) := by decide +kernel
theorem dX9_both_6 : decode cX9_both 6 = .ok (.bipush 38, 2) := by decide +kernel
theorem dX9_both_8 : decode cX9_both 8 = .ok (.invokevirtual 163, 3) := by decide +kernel
theorem dX9_both_11 : decode cX9_both 11 = .ok (.ifCond .eq 35, 3) := by decide +kernel
theorem dX9_both_14 : decode cX9_both 14 = .ok (.aload_n 0, 1) := by decide +kernel
theorem dX9_both_15 : decode cX9_both 15 = .ok (.dup, 1) := by decide +kernel
theorem dX9_both_16 : decode cX9_both 16 = .ok (.getfield 157, 3) := by decide +kernel
theorem dX9_both_19 : decode cX9_both 19 = .ok (.iconst 1, 1) := by decide +kernel
theorem dX9_both_20 : decode cX9_both 20 = .ok (.iadd, 1) := by decide +kernel
theorem dX9_both_21 : decode cX9_both 21 = .ok (.putfield 157, 3) := by decide +kernel
theorem dX9_both_24 : decode cX9_both 24 = .ok (.aload_n 0, 1) := by decide +kernel
theorem dX9_both_25 : decode cX9_both 25 = .ok (.invokevirtual 181, 3) := by decide +kernel
theorem dX9_both_28 : decode cX9_both 28 = .ok (.istore_n 2, 1) := by decide +kernel
theorem dX9_both_29 : decode cX9_both 29 = .ok (.iload_n 1, 1) := by decide +kernel
theorem dX9_both_30 : decode cX9_both 30 = .ok (.ifCond .eq 11, 3) := by decide +kernel
theorem dX9_both_33 : decode cX9_both 33 = .ok (.iload_n 2, 1) := by decide +kernel
theorem dX9_both_34 : decode cX9_both 34 = .ok (.ifCond .eq 7, 3) := by decide +kernel
theorem dX9_both_37 : decode cX9_both 37 = .ok (.iconst 1, 1) := by decide +kernel
theorem dX9_both_38 : decode cX9_both 38 = .ok (.goto 4, 3) := by decide +kernel
theorem dX9_both_41 : decode cX9_both 41 = .ok (.iconst 0, 1) := by decide +kernel
theorem dX9_both_42 : decode cX9_both 42 = .ok (.istore_n 1, 1) := by decide +kernel
theorem dX9_both_43 : decode cX9_both 43 = .ok (.goto (-38), 3) := by decide +kernel
theorem dX9_both_46 : decode cX9_both 46 = .ok (.iload_n 1, 1) := by decide +kernel
theorem dX9_both_47 : decode cX9_both 47 = .ok (.ireturn, 1) := by decide +kernel
theorem dX9_any_0 : decode cX9_any 0 = .ok (.aload_n 0, 1) := by decide +kernel
theorem dX9_any_1 : decode cX9_any 1 = .ok (.invokevirtual 190, 3) := by decide +kernel
theorem dX9_any_4 : decode cX9_any 4 = .ok (.istore_n 1, 1) := by decide +kernel
theorem dX9_any_5 : decode cX9_any 5 = .ok (.aload_n 0, 1) := by decide +kernel
theorem dX9_any_6 : decode cX9_any 6 = .ok (.bipush 124, 2) := by decide +kernel
theorem dX9_any_8 : decode cX9_any 8 = .ok (.invokevirtual 163, 3) := by decide +kernel
theorem dX9_any_11 : decode cX9_any 11 = .ok (.ifCond .eq 35, 3) := by decide +kernel
theorem dX9_any_14 : decode cX9_any 14 = .ok (.aload_n 0, 1) := by decide +kernel
theorem dX9_any_15 : decode cX9_any 15 = .ok (.dup, 1) := by decide +kernel
theorem dX9_any_16 : decode cX9_any 16 = .ok (.getfield 157, 3) := by decide +kernel
theorem dX9_any_19 : decode cX9_any 19 = .ok (.iconst 1, 1) := by decide +kernel
theorem dX9_any_20 : decode cX9_any 20 = .ok (.iadd, 1) := by decide +kernel
theorem dX9_any_21 : decode cX9_any 21 = .ok (.putfield 157, 3) := by decide +kernel
theorem dX9_any_24 : decode cX9_any 24 = .ok (.aload_n 0, 1) := by decide +kernel
theorem dX9_any_25 : decode cX9_any 25 = .ok (.invokevirtual 190, 3) := by decide +kernel
theorem dX9_any_28 : decode cX9_any 28 = .ok (.istore_n 2, 1) := by decide +kernel
theorem dX9_any_29 : decode cX9_any 29 = .ok (.iload_n 1, 1) := by decide +kernel
theorem dX9_any_30 : decode cX9_any 30 = .ok (.ifCond .ne 7, 3) := by decide +kernel
theorem dX9_any_33 : decode cX9_any 33 = .ok (.iload_n 2, 1) := by decide +kernel
theorem dX9_any_34 : decode cX9_any 34 = .ok (.ifCond .eq 7, 3) := by decide +kernel
theorem dX9_any_37 : decode cX9_any 37 = .ok (.iconst 1, 1) := by decide +kernel
theorem dX9_any_38 : decode cX9_any 38 = .ok (.goto 4, 3) := by decide +kernel
theorem dX9_any_41 : decode cX9_any 41 = .ok (.iconst 0, 1) := by decide +kernel
theorem dX9_any_42 : decode cX9_any 42 = .ok (.istore_n 1, 1) := by decide +kernel
theorem dX9_any_43 : decode cX9_any 43 = .ok (.goto (-38), 3) := by decide +kernel
theorem dX9_any_46 : decode cX9_any 46 = .ok (.iload_n 1, 1) := by decide +kernel
theorem dX9_any_47 : decode cX9_any 47 = .ok (.ireturn, 1) := by decide +kernel
theorem dX9_clause_0 : decode cX9_clause 0 = .ok (.iconst (-1), 1) := by decide +kernel
theorem dX9_clause_1 : decode cX9_clause 1 = .ok (.istore_n 1, 1) := by decide +kernel
theorem dX9_clause_2 : decode cX9_clause 2 = .ok (.iconst 0, 1) := by decide +kernel
theorem dX9_clause_3 : decode cX9_clause 3 = .ok (.istore_n 2, 1) := by decide +kernel
theorem dX9_clause_4 : decode cX9_clause 4 = .ok (.iload_n 2, 1) := by decide +kernel
theorem dX9_clause_5 : decode cX9_clause 5 = .ok (.iconst 3, 1) := by decide +kernel
theorem dX9_clause_6 : decode cX9_clause 6 = .ok (.if_icmp .ge 28, 3) := by decide +kernel
theorem dX9_clause_9 : decode cX9_clause 9 = .ok (.aload_n 0, 1) := by decide +kernel
theorem dX9_clause_10 : decode cX9_clause 10 = .ok (.aload_n 0, 1) := by decide +kernel
theorem dX9_clause_11 : decode cX9_clause 11 = .ok (.getfield 40, 3) := by decide +kernel
theorem dX9_clause_14 : decode cX9_clause 14 = .ok (.iload_n 2, 1) := by decide +kernel
theorem dX9_clause_15 : decode cX9_clause 15 = .ok (.caload, 1) := by decide +kernel
theorem dX9_clause_16 : decode cX9_clause 16 = .ok (.invokevirtual 163, 3) := by decide +kernel
theorem dX9_clause_19 : decode cX9_clause 19 = .ok (.ifCond .eq 7, 3) := by decide +kernel
theorem dX9_clause_22 : decode cX9_clause 22 = .ok (.iload_n 2, 1) := by decide +kernel
theorem dX9_clause_23 : decode cX9_clause 23 = .ok (.goto 4, 3) := by decide +kernel
theorem dX9_clause_26 : decode cX9_clause 26 = .ok (.iload_n 1, 1) := by decide +kernel
theorem dX9_clause_27 : decode cX9_clause 27 = .ok (.istore_n 1, 1) := by decide +kernel
theorem dX9_clause_28 : decode cX9_clause 28 = .ok (.iinc 2 1, 3) := by decide +kernel
theorem dX9_clause_31 : decode cX9_clause 31 = .ok (.goto (-27), 3) := by decide +kernel
theorem dX9_clause_34 : decode cX9_clause 34 = .ok (.iload_n 1, 1) := by decide +kernel
theorem dX9_clause_35 : decode cX9_clause 35 = .ok (.iconst (-1), 1) := by decide +kernel
theorem dX9_clause_36 : decode cX9_clause 36 = .ok (.if_icmp .ne 9, 3) := by decide +kernel
theorem dX9_clause_39 : decode cX9_clause 39 = .ok (.aload_n 0, 1) := by decide +kernel
theorem dX9_clause_40 : decode cX9_clause 40 = .ok (.iconst 0, 1) := by decide +kernel
theorem dX9_clause_41 : decode cX9_clause 41 = .ok (.putfield 154, 3) := by decide +kernel
theorem dX9_clause_44 : decode cX9_clause 44 = .ok (.return_, 1) := by decide +kernel
theorem dX9_clause_45 : decode cX9_clause 45 = .ok (.iconst 0, 1) := by decide +kernel
theorem dX9_clause_46 : decode cX9_clause 46 = .ok (.istore_n 2, 1) := by decide +kernel
theorem dX9_clause_47 : decode cX9_clause 47 = .ok (.iload_n 2, 1) := by decide +kernel
theorem dX9_clause_48 : decode cX9_clause 48 = .ok (.iconst 5, 1) := by decide +kernel
theorem dX9_clause_49 : decode cX9_clause 49 = .ok (.if_icmp .ge 36, 3) := by decide +kernel
theorem dX9_clause_52 : decode cX9_clause 52 = .ok (.aload_n 0, 1) := by decide +kernel
theorem dX9_clause_53 : decode cX9_clause 53 = .ok (.getfield 43, 3) := by decide +kernel
theorem dX9_clause_56 : decode cX9_clause 56 = .ok (.iconst 5, 1) := by decide +kernel
theorem dX9_clause_57 : decode cX9_clause 57 = .ok (.iload_n 1, 1) := by decide +kernel
theorem dX9_clause_58 : decode cX9_clause 58 = .ok (.imul, 1) := by decide +kernel
theorem dX9_clause_59 : decode cX9_clause 59 = .ok (.iload_n 2, 1) := by decide +kernel
theorem dX9_clause_60 : decode cX9_clause 60 = .ok (.iadd, 1) := by decide +kernel
theorem dX9_clause_61 : decode cX9_clause 61 = .ok (.caload, 1) := by decide +kernel
theorem dX9_clause_62 : decode cX9_clause 62 = .ok (.ifCond .eq 23, 3) := by decide +kernel
theorem dX9_clause_65 : decode cX9_clause 65 = .ok (.aload_n 0, 1) := by decide +kernel
theorem dX9_clause_66 : decode cX9_clause 66 = .ok (.aload_n 0, 1) := by decide +kernel
theorem dX9_clause_67 : decode cX9_clause 67 = .ok (.getfield 43, 3) := by decide +kernel
theorem dX9_clause_70 : decode cX9_clause 70 = .ok (.iconst 5, 1) := by decide +kernel
theorem dX9_clause_71 : decode cX9_clause 71 = .ok (.iload_n 1, 1) := by decide +kernel
theorem dX9_clause_72 : decode cX9_clause 72 = .ok (.imul, 1) := by decide +kernel
theorem dX9_clause_73 : decode cX9_clause 73 = .ok (.iload_n 2, 1) := by decide +kernel
theorem dX9_clause_74 : decode cX9_clause 74 = .ok (.iadd, 1) := by decide +kernel
theorem dX9_clause_75 : decode cX9_clause 75 = .ok (.caload, 1) := by decide +kernel
theorem dX9_clause_76 : decode cX9_clause 76 = .ok (.invokevirtual 170, 3) := by decide +kernel
theorem dX9_clause_79 : decode cX9_clause 79 = .ok (.iinc 2 1, 3) := by decide +kernel
theorem dX9_clause_82 : decode cX9_clause 82 = .ok (.goto (-35), 3) := by decide +kernel
theorem dX9_clause_85 : decode cX9_clause 85 = .ok (.aload_n 0, 1) := by decide +kernel
theorem dX9_clause_86 : decode cX9_clause 86 = .ok (.bipush 32, 2) := by decide +kernel
theorem dX9_clause_88 : decode cX9_clause 88 = .ok (.invokevirtual 170, 3) := by decide +kernel
theorem dX9_clause_91 : decode cX9_clause 91 = .ok (.aload_n 0, 1) := by decide +kernel
theorem dX9_clause_92 : decode cX9_clause 92 = .ok (.invokevirtual 174, 3) := by decide +kernel
theorem dX9_clause_95 : decode cX9_clause 95 = .ok (.istore_n 2, 1) := by decide +kernel
theorem dX9_clause_96 : decode cX9_clause 96 = .ok (.iload_n 1, 1) := by decide +kernel
theorem dX9_clause_97 : decode cX9_clause 97 = .ok (.iconst 2, 1) := by decide +kernel
theorem dX9_clause_98 : decode cX9_clause 98 = .ok (.if_icmp .ne 9, 3) := by decide +kernel
theorem dX9_clause_101 : decode cX9_clause 101 = .ok (.aload_n 0, 1) := by decide +kernel
theorem dX9_clause_102 : decode cX9_clause 102 = .ok (.iload_n 2, 1) := by decide +kernel
theorem dX9_clause_103 : decode cX9_clause 103 = .ok (.putfield 193, 3) := by decide +kernel
theorem dX9_clause_106 : decode cX9_clause 106 = .ok (.return_, 1) := by decide +kernel
theorem dX9_clause_107 : decode cX9_clause 107 = .ok (.aload_n 0, 1) := by decide +kernel
theorem dX9_clause_108 : decode cX9_clause 108 = .ok (.bipush 32, 2) := by decide +kernel
theorem dX9_clause_110 : decode cX9_clause 110 = .ok (.invokevirtual 170, 3) := by decide +kernel
theorem dX9_clause_113 : decode cX9_clause 113 = .ok (.aload_n 0, 1) := by decide +kernel
theorem dX9_clause_114 : decode cX9_clause 114 = .ok (.iconst 0, 1) := by decide +kernel
theorem dX9_clause_115 : decode cX9_clause 115 = .ok (.putfield 178, 3) := by decide +kernel
theorem dX9_clause_118 : decode cX9_clause 118 = .ok (.aload_n 0, 1) := by decide +kernel
theorem dX9_clause_119 : decode cX9_clause 119 = .ok (.invokevirtual 184, 3) := by decide +kernel
theorem dX9_clause_122 : decode cX9_clause 122 = .ok (.istore_n 3, 1) := by decide +kernel
theorem dX9_clause_123 : decode cX9_clause 123 = .ok (.aload_n 0, 1) := by decide +kernel
theorem dX9_clause_124 : decode cX9_clause 124 = .ok (.dup, 1) := by decide +kernel
theorem dX9_clause_125 : decode cX9_clause 125 = .ok (.getfield 196, 3) := by decide +kernel
theorem dX9_clause_128 : decode cX9_clause 128 = .ok (.iload_n 3, 1) := by decide +kernel
theorem dX9_clause_129 : decode cX9_clause 129 = .ok (.ifCond .ne 7, 3) := by decide +kernel
theorem dX9_clause_132 : decode cX9_clause 132 = .ok (.iconst 0, 1) := by decide +kernel
theorem dX9_clause_133 : decode cX9_clause 133 = .ok (.goto 13, 3) := by decide +kernel
theorem dX9_clause_136 : decode cX9_clause 136 = .ok (.iload_n 1, 1) := by decide +kernel
theorem dX9_clause_137 : decode cX9_clause 137 = .ok (.ifCond .ne 7, 3) := by decide +kernel
theorem dX9_clause_140 : decode cX9_clause 140 = .ok (.iload_n 2, 1) := by decide +kernel
theorem dX9_clause_141 : decode cX9_clause 141 = .ok (.goto 5, 3) := by decide +kernel
theorem dX9_clause_144 : decode cX9_clause 144 = .ok (.iload_n 2, 1) := by decide +kernel
theorem dX9_clause_145 : decode cX9_clause 145 = .ok (.ineg, 1) := by decide +kernel
theorem dX9_clause_146 : decode cX9_clause 146 = .ok (.iadd, 1) := by decide +kernel
theorem dX9_clause_147 : decode cX9_clause 147 = .ok (.putfield 196, 3) := by decide +kernel
theorem dX9_clause_150 : decode cX9_clause 150 = .ok (.return_, 1) := by decide +kernel
theorem dX9_readAll_0 : decode cX9_readAll 0 = .ok (.aload_n 0, 1) := by decide +kernel
theorem dX9_readAll_1 : decode cX9_readAll 1 = .ok (.iconst 0, 1) := by decide +kernel
theorem dX9_readAll_2 : decode cX9_readAll 2 = .ok (.putfield 157, 3) := by decide +kernel
theorem dX9_readAll_5 : decode cX9_readAll 5 = .ok (.aload_n 0, 1) := by decide +kernel
theorem dX9_readAll_6 : decode cX9_readAll 6 = .ok (.iconst 1, 1) := by decide +kernel
theorem dX9_readAll_7 : decode cX9_readAll 7 = .ok (.putfield 154, 3) := by decide +kernel
theorem dX9_readAll_10 : decode cX9_readAll 10 = .ok (.aload_n 0, 1) := by decide +kernel
theorem dX9_readAll_11 : decode cX9_readAll 11 = .ok (.iconst 3, 1) := by decide +kernel
theorem dX9_readAll_12 : decode cX9_readAll 12 = .ok (.putfield 196, 3) := by decide +kernel
theorem dX9_readAll_15 : decode cX9_readAll 15 = .ok (.aload_n 0, 1) := by decide +kernel
theorem dX9_readAll_16 : decode cX9_readAll 16 = .ok (.iconst 0, 1) := by decide +kernel
theorem dX9_readAll_17 : decode cX9_readAll 17 = .ok (.putfield 193, 3) := by decide +kernel
theorem dX9_readAll_20 : decode cX9_readAll 20 = .ok (.iconst 1, 1) := by decide +kernel
theorem dX9_readAll_21 : decode cX9_readAll 21 = .ok (.istore_n 1, 1) := by decide +kernel
theorem dX9_readAll_22 : decode cX9_readAll 22 = .ok (.aload_n 0, 1) := by decide +kernel
theorem dX9_readAll_23 : decode cX9_readAll 23 = .ok (.invokevirtual 199, 3) := by decide +kernel
theorem dX9_readAll_26 : decode cX9_readAll 26 = .ok (.iload_n 1, 1) := by decide +kernel
theorem dX9_readAll_27 : decode cX9_readAll 27 = .ok (.bipush 10, 2) := by decide +kernel
theorem dX9_readAll_29 : decode cX9_readAll 29 = .ok (.if_icmp .ge 32, 3) := by decide +kernel
theorem dX9_readAll_32 : decode cX9_readAll 32 = .ok (.aload_n 0, 1) := by decide +kernel
theorem dX9_readAll_33 : decode cX9_readAll 33 = .ok (.bipush 59, 2) := by decide +kernel
theorem dX9_readAll_35 : decode cX9_readAll 35 = .ok (.invokevirtual 163, 3) := by decide +kernel
theorem dX9_readAll_38 : decode cX9_readAll 38 = .ok (.ifCond .eq 23, 3) := by decide +kernel
theorem dX9_readAll_41 : decode cX9_readAll 41 = .ok (.aload_n 0, 1) := by decide +kernel
theorem dX9_readAll_42 : decode cX9_readAll 42 = .ok (.dup, 1) := by decide +kernel
theorem dX9_readAll_43 : decode cX9_readAll 43 = .ok (.getfield 157, 3) := by decide +kernel
theorem dX9_readAll_46 : decode cX9_readAll 46 = .ok (.iconst 1, 1) := by decide +kernel
theorem dX9_readAll_47 : decode cX9_readAll 47 = .ok (.iadd, 1) := by decide +kernel
theorem dX9_readAll_48 : decode cX9_readAll 48 = .ok (.putfield 157, 3) := by decide +kernel
theorem dX9_readAll_51 : decode cX9_readAll 51 = .ok (.aload_n 0, 1) := by decide +kernel
theorem dX9_readAll_52 : decode cX9_readAll 52 = .ok (.invokevirtual 199, 3) := by decide +kernel
theorem dX9_readAll_55 : decode cX9_readAll 55 = .ok (.iinc 1 1, 3) := by decide +kernel
theorem dX9_readAll_58 : decode cX9_readAll 58 = .ok (.goto (-32), 3) := by decide +kernel
theorem dX9_readAll_61 : decode cX9_readAll 61 = .ok (.aload_n 0, 1) := by decide +kernel
theorem dX9_readAll_62 : decode cX9_readAll 62 = .ok (.getfield 154, 3) := by decide +kernel
theorem dX9_readAll_65 : decode cX9_readAll 65 = .ok (.ifCond .eq 18, 3) := by decide +kernel
theorem dX9_readAll_68 : decode cX9_readAll 68 = .ok (.aload_n 0, 1) := by decide +kernel
theorem dX9_readAll_69 : decode cX9_readAll 69 = .ok (.getfield 157, 3) := by decide +kernel
theorem dX9_readAll_72 : decode cX9_readAll 72 = .ok (.aload_n 0, 1) := by decide +kernel
theorem dX9_readAll_73 : decode cX9_readAll 73 = .ok (.getfield 160, 3) := by decide +kernel
theorem dX9_readAll_76 : decode cX9_readAll 76 = .ok (.if_icmp .ne 7, 3) := by decide +kernel
theorem dX9_readAll_79 : decode cX9_readAll 79 = .ok (.iconst 1, 1) := by decide +kernel
theorem dX9_readAll_80 : decode cX9_readAll 80 = .ok (.goto 4, 3) := by decide +kernel
theorem dX9_readAll_83 : decode cX9_readAll 83 = .ok (.iconst 0, 1) := by decide +kernel
theorem dX9_readAll_84 : decode cX9_readAll 84 = .ok (.ireturn, 1) := by decide +kernel
theorem dX9_readFor_0 : decode cX9_readFor 0 = .ok (.aload_n 0, 1) := by decide +kernel
theorem dX9_readFor_1 : decode cX9_readFor 1 = .ok (.getfield 33, 3) := by decide +kernel
theorem dX9_readFor_4 : decode cX9_readFor 4 = .ok (.iconst 0, 1) := by decide +kernel
theorem dX9_readFor_5 : decode cX9_readFor 5 = .ok (.iload_n 1, 1) := by decide +kernel
theorem dX9_readFor_6 : decode cX9_readFor 6 = .ok (.iastore, 1) := by decide +kernel
theorem dX9_readFor_7 : decode cX9_readFor 7 = .ok (.aload_n 0, 1) := by decide +kernel
theorem dX9_readFor_8 : decode cX9_readFor 8 = .ok (.getfield 33, 3) := by decide +kernel
theorem dX9_readFor_11 : decode cX9_readFor 11 = .ok (.iconst 1, 1) := by decide +kernel
theorem dX9_readFor_12 : decode cX9_readFor 12 = .ok (.aload_n 0, 1) := by decide +kernel
theorem dX9_readFor_13 : decode cX9_readFor 13 = .ok (.iload_n 1, 1) := by decide +kernel
theorem dX9_readFor_14 : decode cX9_readFor 14 = .ok (.iconst 0, 1) := by decide +kernel
theorem dX9_readFor_15 : decode cX9_readFor 15 = .ok (.invokevirtual 102, 3) := by decide +kernel
theorem dX9_readFor_18 : decode cX9_readFor 18 = .ok (.iastore, 1) := by decide +kernel
theorem dX9_readFor_19 : decode cX9_readFor 19 = .ok (.aload_n 0, 1) := by decide +kernel
theorem dX9_readFor_20 : decode cX9_readFor 20 = .ok (.getfield 33, 3) := by decide +kernel
theorem dX9_readFor_23 : decode cX9_readFor 23 = .ok (.iconst 2, 1) := by decide +kernel
theorem dX9_readFor_24 : decode cX9_readFor 24 = .ok (.aload_n 0, 1) := by decide +kernel
theorem dX9_readFor_25 : decode cX9_readFor 25 = .ok (.iload_n 1, 1) := by decide +kernel
theorem dX9_readFor_26 : decode cX9_readFor 26 = .ok (.iconst 1, 1) := by decide +kernel
theorem dX9_readFor_27 : decode cX9_readFor 27 = .ok (.invokevirtual 102, 3) := by decide +kernel
theorem dX9_readFor_30 : decode cX9_readFor 30 = .ok (.iastore, 1) := by decide +kernel
theorem dX9_readFor_31 : decode cX9_readFor 31 = .ok (.aload_n 0, 1) := by decide +kernel
theorem dX9_readFor_32 : decode cX9_readFor 32 = .ok (.getfield 33, 3) := by decide +kernel
theorem dX9_readFor_35 : decode cX9_readFor 35 = .ok (.iconst 3, 1) := by decide +kernel
theorem dX9_readFor_36 : decode cX9_readFor 36 = .ok (.iload_n 2, 1) := by decide +kernel
theorem dX9_readFor_37 : decode cX9_readFor 37 = .ok (.iastore, 1) := by decide +kernel
theorem dX9_readFor_38 : decode cX9_readFor 38 = .ok (.aload_n 0, 1) := by decide +kernel
theorem dX9_readFor_39 : decode cX9_readFor 39 = .ok (.getfield 33, 3) := by decide +kernel
theorem dX9_readFor_42 : decode cX9_readFor 42 = .ok (.iconst 4, 1) := by decide +kernel
theorem dX9_readFor_43 : decode cX9_readFor 43 = .ok (.aload_n 0, 1) := by decide +kernel
theorem dX9_readFor_44 : decode cX9_readFor 44 = .ok (.iload_n 1, 1) := by decide +kernel
theorem dX9_readFor_45 : decode cX9_readFor 45 = .ok (.iconst 5, 1) := by decide +kernel
theorem dX9_readFor_46 : decode cX9_readFor 46 = .ok (.invokevirtual 102, 3) := by decide +kernel
theorem dX9_readFor_49 : decode cX9_readFor 49 = .ok (.invokestatic 202, 3) := by decide +kernel
theorem dX9_readFor_52 : decode cX9_readFor 52 = .ok (.iastore, 1) := by decide +kernel
theorem dX9_readFor_53 : decode cX9_readFor 53 = .ok (.aload_n 0, 1) := by decide +kernel
theorem dX9_readFor_54 : decode cX9_readFor 54 = .ok (.getfield 33, 3) := by decide +kernel
theorem dX9_readFor_57 : decode cX9_readFor 57 = .ok (.iconst 5, 1) := by decide +kernel
theorem dX9_readFor_58 : decode cX9_readFor 58 = .ok (.aload_n 0, 1) := by decide +kernel
theorem dX9_readFor_59 : decode cX9_readFor 59 = .ok (.getfield 9, 3) := by decide +kernel
theorem dX9_readFor_62 : decode cX9_readFor 62 = .ok (.bipush 94, 2) := by decide +kernel
theorem dX9_readFor_64 : decode cX9_readFor 64 = .ok (.iaload, 1) := by decide +kernel
theorem dX9_readFor_65 : decode cX9_readFor 65 = .ok (.bipush 10, 2) := by decide +kernel
theorem dX9_readFor_67 : decode cX9_readFor 67 = .ok (.irem, 1) := by decide +kernel
theorem dX9_readFor_68 : decode cX9_readFor 68 = .ok (.iastore, 1) := by decide +kernel
theorem dX9_readFor_69 : decode cX9_readFor 69 = .ok (.aload_n 0, 1) := by decide +kernel
theorem dX9_readFor_70 : decode cX9_readFor 70 = .ok (.getfield 9, 3) := by decide +kernel
theorem dX9_readFor_73 : decode cX9_readFor 73 = .ok (.bipush 95, 2) := by decide +kernel
theorem dX9_readFor_75 : decode cX9_readFor 75 = .ok (.iaload, 1) := by decide +kernel
theorem dX9_readFor_76 : decode cX9_readFor 76 = .ok (.ifCond .ne 14, 3) := by decide +kernel
theorem dX9_readFor_79 : decode cX9_readFor 79 = .ok (.aload_n 0, 1) := by decide +kernel
theorem dX9_readFor_80 : decode cX9_readFor 80 = .ok (.iconst 3, 1) := by decide +kernel
theorem dX9_readFor_81 : decode cX9_readFor 81 = .ok (.putfield 196, 3) := by decide +kernel
theorem dX9_readFor_84 : decode cX9_readFor 84 = .ok (.aload_n 0, 1) := by decide +kernel
theorem dX9_readFor_85 : decode cX9_readFor 85 = .ok (.iconst 0, 1) := by decide +kernel
theorem dX9_readFor_86 : decode cX9_readFor 86 = .ok (.putfield 193, 3) := by decide +kernel
theorem dX9_readFor_89 : decode cX9_readFor 89 = .ok (.return_, 1) := by decide +kernel
theorem dX9_readFor_90 : decode cX9_readFor 90 = .ok (.aload_n 0, 1) := by decide +kernel
theorem dX9_readFor_91 : decode cX9_readFor 91 = .ok (.getfield 9, 3) := by decide +kernel
theorem dX9_readFor_94 : decode cX9_readFor 94 = .ok (.bipush 95, 2) := by decide +kernel
theorem dX9_readFor_96 : decode cX9_readFor 96 = .ok (.iaload, 1) := by decide +kernel
theorem dX9_readFor_97 : decode cX9_readFor 97 = .ok (.iconst 1, 1) := by decide +kernel
theorem dX9_readFor_98 : decode cX9_readFor 98 = .ok (.isub, 1) := by decide +kernel
theorem dX9_readFor_99 : decode cX9_readFor 99 = .ok (.istore_n 3, 1) := by decide +kernel
theorem dX9_readFor_100 : decode cX9_readFor 100 = .ok (.aload_n 0, 1) := by decide +kernel
theorem dX9_readFor_101 : decode cX9_readFor 101 = .ok (.aload_n 0, 1) := by decide +kernel
theorem dX9_readFor_102 : decode cX9_readFor 102 = .ok (.getfield 27, 3) := by decide +kernel
theorem dX9_readFor_105 : decode cX9_readFor 105 = .ok (.iload_n 3, 1) := by decide +kernel
theorem dX9_readFor_106 : decode cX9_readFor 106 = .ok (.iaload, 1) := by decide +kernel
theorem dX9_readFor_107 : decode cX9_readFor 107 = .ok (.putfield 160, 3) := by decide +kernel
theorem dX9_readFor_110 : decode cX9_readFor 110 = .ok (.iconst 0, 1) := by decide +kernel
theorem dX9_readFor_111 : decode cX9_readFor 111 = .ok (.istore 4, 2) := by decide +kernel
theorem dX9_readFor_113 : decode cX9_readFor 113 = .ok (.iload 4, 2) := by decide +kernel
theorem dX9_readFor_115 : decode cX9_readFor 115 = .ok (.aload_n 0, 1) := by decide +kernel
theorem dX9_readFor_116 : decode cX9_readFor 116 = .ok (.getfield 160, 3) := by decide +kernel
theorem dX9_readFor_119 : decode cX9_readFor 119 = .ok (.if_icmp .ge 28, 3) := by decide +kernel
theorem dX9_readFor_122 : decode cX9_readFor 122 = .ok (.aload_n 0, 1) := by decide +kernel
theorem dX9_readFor_123 : decode cX9_readFor 123 = .ok (.getfield 30, 3) := by decide +kernel
theorem dX9_readFor_126 : decode cX9_readFor 126 = .ok (.iload 4, 2) := by decide +kernel
theorem dX9_readFor_128 : decode cX9_readFor 128 = .ok (.aload_n 0, 1) := by decide +kernel
theorem dX9_readFor_129 : decode cX9_readFor 129 = .ok (.getfield 24, 3) := by decide +kernel
theorem dX9_readFor_132 : decode cX9_readFor 132 = .ok (.bipush 100, 2) := by decide +kernel
theorem dX9_readFor_134 : decode cX9_readFor 134 = .ok (.iload_n 3, 1) := by decide +kernel
theorem dX9_readFor_135 : decode cX9_readFor 135 = .ok (.imul, 1) := by decide +kernel
theorem dX9_readFor_136 : decode cX9_readFor 136 = .ok (.iload 4, 2) := by decide +kernel
theorem dX9_readFor_138 : decode cX9_readFor 138 = .ok (.iadd, 1) := by decide +kernel
theorem dX9_readFor_139 : decode cX9_readFor 139 = .ok (.iaload, 1) := by decide +kernel
theorem dX9_readFor_140 : decode cX9_readFor 140 = .ok (.iastore, 1) := by decide +kernel
theorem dX9_readFor_141 : decode cX9_readFor 141 = .ok (.iinc 4 1, 3) := by decide +kernel
theorem dX9_readFor_144 : decode cX9_readFor 144 = .ok (.goto (-31), 3) := by decide +kernel
theorem dX9_readFor_147 : decode cX9_readFor 147 = .ok (.aload_n 0, 1) := by decide +kernel
theorem dX9_readFor_148 : decode cX9_readFor 148 = .ok (.invokevirtual 205, 3) := by decide +kernel
theorem dX9_readFor_151 : decode cX9_readFor 151 = .ok (.pop, 1) := by decide +kernel
theorem dX9_readFor_152 : decode cX9_readFor 152 = .ok (.return_, 1) := by decide +kernel
theorem dX9_city_0 : decode cX9_city 0 = .ok (.aload_n 0, 1) := by decide +kernel
theorem dX9_city_1 : decode cX9_city 1 = .ok (.getfield 208, 3) := by decide +kernel
theorem dX9_city_4 : decode cX9_city 4 = .ok (.bipush 6, 2) := by decide +kernel
theorem dX9_city_6 : decode cX9_city 6 = .ok (.if_icmp .ne 6, 3) := by decide +kernel
theorem dX9_city_9 : decode cX9_city 9 = .ok (.bipush (-4), 2) := by decide +kernel
theorem dX9_city_11 : decode cX9_city 11 = .ok (.ireturn, 1) := by decide +kernel
theorem dX9_city_12 : decode cX9_city 12 = .ok (.aload_n 0, 1) := by decide +kernel
theorem dX9_city_13 : decode cX9_city 13 = .ok (.aload_n 0, 1) := by decide +kernel
theorem dX9_city_14 : decode cX9_city 14 = .ok (.getfield 150, 3) := by decide +kernel
theorem dX9_city_17 : decode cX9_city 17 = .ok (.putfield 160, 3) := by decide +kernel
theorem dX9_city_20 : decode cX9_city 20 = .ok (.iconst 0, 1) := by decide +kernel
theorem dX9_city_21 : decode cX9_city 21 = .ok (.istore_n 1, 1) := by decide +kernel
theorem dX9_city_22 : decode cX9_city 22 = .ok (.iload_n 1, 1) := by decide +kernel
theorem dX9_city_23 : decode cX9_city 23 = .ok (.aload_n 0, 1) := by decide +kernel
theorem dX9_city_24 : decode cX9_city 24 = .ok (.getfield 160, 3) := by decide +kernel
theorem dX9_city_27 : decode cX9_city 27 = .ok (.if_icmp .ge 21, 3) := by decide +kernel
theorem dX9_city_30 : decode cX9_city 30 = .ok (.aload_n 0, 1) := by decide +kernel
theorem dX9_city_31 : decode cX9_city 31 = .ok (.getfield 30, 3) := by decide +kernel
theorem dX9_city_34 : decode cX9_city 34 = .ok (.iload_n 1, 1) := by decide +kernel
theorem dX9_city_35 : decode cX9_city 35 = .ok (.aload_n 0, 1) := by decide +kernel
theorem dX9_city_36 : decode cX9_city 36 = .ok (.getfield 21, 3) := by decide +kernel
theorem dX9_city_39 : decode cX9_city 39 = .ok (.iload_n 1, 1) := by decide +kernel
theorem dX9_city_40 : decode cX9_city 40 = .ok (.iaload, 1) := by decide +kernel
theorem dX9_city_41 : decode cX9_city 41 = .ok (.iastore, 1) := by decide +kernel
theorem dX9_city_42 : decode cX9_city 42 = .ok (.iinc 1 1, 3) := by decide +kernel
theorem dX9_city_45 : decode cX9_city 45 = .ok (.goto (-23), 3) := by decide +kernel
theorem dX9_city_48 : decode cX9_city 48 = .ok (.aload_n 0, 1) := by decide +kernel
theorem dX9_city_49 : decode cX9_city 49 = .ok (.iconst 0, 1) := by decide +kernel
theorem dX9_city_50 : decode cX9_city 50 = .ok (.putfield 150, 3) := by decide +kernel
theorem dX9_city_53 : decode cX9_city 53 = .ok (.aload_n 0, 1) := by decide +kernel
theorem dX9_city_54 : decode cX9_city 54 = .ok (.invokevirtual 205, 3) := by decide +kernel
theorem dX9_city_57 : decode cX9_city 57 = .ok (.ifCond .ne 11, 3) := by decide +kernel
theorem dX9_city_60 : decode cX9_city 60 = .ok (.bipush (-10), 2) := by decide +kernel
theorem dX9_city_62 : decode cX9_city 62 = .ok (.aload_n 0, 1) := by decide +kernel
theorem dX9_city_63 : decode cX9_city 63 = .ok (.getfield 157, 3) := by decide +kernel
theorem dX9_city_66 : decode cX9_city 66 = .ok (.isub, 1) := by decide +kernel
theorem dX9_city_67 : decode cX9_city 67 = .ok (.ireturn, 1) := by decide +kernel
theorem dX9_city_68 : decode cX9_city 68 = .ok (.iconst 0, 1) := by decide +kernel
theorem dX9_city_69 : decode cX9_city 69 = .ok (.istore_n 1, 1) := by decide +kernel
theorem dX9_city_70 : decode cX9_city 70 = .ok (.iload_n 1, 1) := by decide +kernel
theorem dX9_city_71 : decode cX9_city 71 = .ok (.aload_n 0, 1) := by decide +kernel
theorem dX9_city_72 : decode cX9_city 72 = .ok (.getfield 160, 3) := by decide +kernel
theorem dX9_city_75 : decode cX9_city 75 = .ok (.if_icmp .ge 29, 3) := by decide +kernel
theorem dX9_city_78 : decode cX9_city 78 = .ok (.aload_n 0, 1) := by decide +kernel
theorem dX9_city_79 : decode cX9_city 79 = .ok (.getfield 24, 3) := by decide +kernel
theorem dX9_city_82 : decode cX9_city 82 = .ok (.bipush 100, 2) := by decide +kernel
theorem dX9_city_84 : decode cX9_city 84 = .ok (.aload_n 0, 1) := by decide +kernel
theorem dX9_city_85 : decode cX9_city 85 = .ok (.getfield 208, 3) := by decide +kernel
theorem dX9_city_88 : decode cX9_city 88 = .ok (.imul, 1) := by decide +kernel
theorem dX9_city_89 : decode cX9_city 89 = .ok (.iload_n 1, 1) := by decide +kernel
theorem dX9_city_90 : decode cX9_city 90 = .ok (.iadd, 1) := by decide +kernel
theorem dX9_city_91 : decode cX9_city 91 = .ok (.aload_n 0, 1) := by decide +kernel
theorem dX9_city_92 : decode cX9_city 92 = .ok (.getfield 30, 3) := by decide +kernel
theorem dX9_city_95 : decode cX9_city 95 = .ok (.iload_n 1, 1) := by decide +kernel
theorem dX9_city_96 : decode cX9_city 96 = .ok (.iaload, 1) := by decide +kernel
theorem dX9_city_97 : decode cX9_city 97 = .ok (.iastore, 1) := by decide +kernel
theorem dX9_city_98 : decode cX9_city 98 = .ok (.iinc 1 1, 3) := by decide +kernel
theorem dX9_city_101 : decode cX9_city 101 = .ok (.goto (-31), 3) := by decide +kernel
theorem dX9_city_104 : decode cX9_city 104 = .ok (.aload_n 0, 1) := by decide +kernel
theorem dX9_city_105 : decode cX9_city 105 = .ok (.getfield 27, 3) := by decide +kernel
theorem dX9_city_108 : decode cX9_city 108 = .ok (.aload_n 0, 1) := by decide +kernel
theorem dX9_city_109 : decode cX9_city 109 = .ok (.getfield 208, 3) := by decide +kernel
theorem dX9_city_112 : decode cX9_city 112 = .ok (.aload_n 0, 1) := by decide +kernel
theorem dX9_city_113 : decode cX9_city 113 = .ok (.getfield 160, 3) := by decide +kernel
theorem dX9_city_116 : decode cX9_city 116 = .ok (.iastore, 1) := by decide +kernel
theorem dX9_city_117 : decode cX9_city 117 = .ok (.aload_n 0, 1) := by decide +kernel
theorem dX9_city_118 : decode cX9_city 118 = .ok (.dup, 1) := by decide +kernel
theorem dX9_city_119 : decode cX9_city 119 = .ok (.getfield 208, 3) := by decide +kernel
theorem dX9_city_122 : decode cX9_city 122 = .ok (.iconst 1, 1) := by decide +kernel
theorem dX9_city_123 : decode cX9_city 123 = .ok (.iadd, 1) := by decide +kernel
theorem dX9_city_124 : decode cX9_city 124 = .ok (.putfield 208, 3) := by decide +kernel
theorem dX9_city_127 : decode cX9_city 127 = .ok (.aload_n 0, 1) := by decide +kernel
theorem dX9_city_128 : decode cX9_city 128 = .ok (.getfield 9, 3) := by decide +kernel
theorem dX9_city_131 : decode cX9_city 131 = .ok (.bipush 95, 2) := by decide +kernel
theorem dX9_city_133 : decode cX9_city 133 = .ok (.aload_n 0, 1) := by decide +kernel
theorem dX9_city_134 : decode cX9_city 134 = .ok (.getfield 208, 3) := by decide +kernel
theorem dX9_city_137 : decode cX9_city 137 = .ok (.iastore, 1) := by decide +kernel
theorem dX9_city_138 : decode cX9_city 138 = .ok (.aload_n 0, 1) := by decide +kernel
theorem dX9_city_139 : decode cX9_city 139 = .ok (.getfield 208, 3) := by decide +kernel
theorem dX9_city_142 : decode cX9_city 142 = .ok (.iconst 1, 1) := by decide +kernel
theorem dX9_city_143 : decode cX9_city 143 = .ok (.isub, 1) := by decide +kernel
theorem dX9_city_144 : decode cX9_city 144 = .ok (.ireturn, 1) := by decide +kernel
theorem dX9_leave_0 : decode cX9_leave 0 = .ok (.aload_n 0, 1) := by decide +kernel
theorem dX9_leave_1 : decode cX9_leave 1 = .ok (.iload_n 1, 1) := by decide +kernel
theorem dX9_leave_2 : decode cX9_leave 2 = .ok (.iload_n 2, 1) := by decide +kernel
theorem dX9_leave_3 : decode cX9_leave 3 = .ok (.invokevirtual 211, 3) := by decide +kernel
theorem dX9_leave_6 : decode cX9_leave 6 = .ok (.aload_n 0, 1) := by decide +kernel
theorem dX9_leave_7 : decode cX9_leave 7 = .ok (.iload_n 1, 1) := by decide +kernel
theorem dX9_leave_8 : decode cX9_leave 8 = .ok (.iconst 5, 1) := by decide +kernel
theorem dX9_leave_9 : decode cX9_leave 9 = .ok (.invokevirtual 102, 3) := by decide +kernel
theorem dX9_leave_12 : decode cX9_leave 12 = .ok (.invokestatic 202, 3) := by decide +kernel
theorem dX9_leave_15 : decode cX9_leave 15 = .ok (.istore_n 3, 1) := by decide +kernel
theorem dX9_leave_16 : decode cX9_leave 16 = .ok (.aload_n 0, 1) := by decide +kernel
theorem dX9_leave_17 : decode cX9_leave 17 = .ok (.getfield 196, 3) := by decide +kernel
theorem dX9_leave_20 : decode cX9_leave 20 = .ok (.aload_n 0, 1) := by decide +kernel
theorem dX9_leave_21 : decode cX9_leave 21 = .ok (.iload_n 1, 1) := by decide +kernel
theorem dX9_leave_22 : decode cX9_leave 22 = .ok (.iconst 1, 1) := by decide +kernel
theorem dX9_leave_23 : decode cX9_leave 23 = .ok (.invokevirtual 102, 3) := by decide +kernel
theorem dX9_leave_26 : decode cX9_leave 26 = .ok (.iadd, 1) := by decide +kernel
theorem dX9_leave_27 : decode cX9_leave 27 = .ok (.iload_n 2, 1) := by decide +kernel
theorem dX9_leave_28 : decode cX9_leave 28 = .ok (.iconst 2, 1) := by decide +kernel
theorem dX9_leave_29 : decode cX9_leave 29 = .ok (.irem, 1) := by decide +kernel
theorem dX9_leave_30 : decode cX9_leave 30 = .ok (.iconst 1, 1) := by decide +kernel
theorem dX9_leave_31 : decode cX9_leave 31 = .ok (.if_icmp .ne 7, 3) := by decide +kernel
theorem dX9_leave_34 : decode cX9_leave 34 = .ok (.iconst 5, 1) := by decide +kernel
theorem dX9_leave_35 : decode cX9_leave 35 = .ok (.goto 4, 3) := by decide +kernel
theorem dX9_leave_38 : decode cX9_leave 38 = .ok (.iconst 0, 1) := by decide +kernel
theorem dX9_leave_39 : decode cX9_leave 39 = .ok (.isub, 1) := by decide +kernel
theorem dX9_leave_40 : decode cX9_leave 40 = .ok (.istore 4, 2) := by decide +kernel
theorem dX9_leave_42 : decode cX9_leave 42 = .ok (.aload_n 0, 1) := by decide +kernel
theorem dX9_leave_43 : decode cX9_leave 43 = .ok (.iload_n 1, 1) := by decide +kernel
theorem dX9_leave_44 : decode cX9_leave 44 = .ok (.iconst 0, 1) := by decide +kernel
theorem dX9_leave_45 : decode cX9_leave 45 = .ok (.invokevirtual 102, 3) := by decide +kernel
theorem dX9_leave_48 : decode cX9_leave 48 = .ok (.tableswitch 103 1 6 #[40, 43, 50, 59, 71, 80], 40) := by decide +kernel
theorem dX9_leave_88 : decode cX9_leave 88 = .ok (.iload 4, 2) := by decide +kernel
theorem dX9_leave_90 : decode cX9_leave 90 = .ok (.ireturn, 1) := by decide +kernel
theorem dX9_leave_91 : decode cX9_leave 91 = .ok (.aload_n 0, 1) := by decide +kernel
theorem dX9_leave_92 : decode cX9_leave 92 = .ok (.getfield 196, 3) := by decide +kernel
theorem dX9_leave_95 : decode cX9_leave 95 = .ok (.iconst 2, 1) := by decide +kernel
theorem dX9_leave_96 : decode cX9_leave 96 = .ok (.idiv, 1) := by decide +kernel
theorem dX9_leave_97 : decode cX9_leave 97 = .ok (.ireturn, 1) := by decide +kernel
theorem dX9_leave_98 : decode cX9_leave 98 = .ok (.aload_n 0, 1) := by decide +kernel
theorem dX9_leave_99 : decode cX9_leave 99 = .ok (.getfield 196, 3) := by decide +kernel
theorem dX9_leave_102 : decode cX9_leave 102 = .ok (.iconst 2, 1) := by decide +kernel
theorem dX9_leave_103 : decode cX9_leave 103 = .ok (.iload_n 3, 1) := by decide +kernel
theorem dX9_leave_104 : decode cX9_leave 104 = .ok (.imul, 1) := by decide +kernel
theorem dX9_leave_105 : decode cX9_leave 105 = .ok (.isub, 1) := by decide +kernel
theorem dX9_leave_106 : decode cX9_leave 106 = .ok (.ireturn, 1) := by decide +kernel
theorem dX9_leave_107 : decode cX9_leave 107 = .ok (.iload_n 3, 1) := by decide +kernel
theorem dX9_leave_108 : decode cX9_leave 108 = .ok (.iconst 2, 1) := by decide +kernel
theorem dX9_leave_109 : decode cX9_leave 109 = .ok (.if_icmp .le 7, 3) := by decide +kernel
theorem dX9_leave_112 : decode cX9_leave 112 = .ok (.iconst 0, 1) := by decide +kernel
theorem dX9_leave_113 : decode cX9_leave 113 = .ok (.goto 5, 3) := by decide +kernel
theorem dX9_leave_116 : decode cX9_leave 116 = .ok (.iload 4, 2) := by decide +kernel
theorem dX9_leave_118 : decode cX9_leave 118 = .ok (.ireturn, 1) := by decide +kernel
theorem dX9_leave_119 : decode cX9_leave 119 = .ok (.aload_n 0, 1) := by decide +kernel
theorem dX9_leave_120 : decode cX9_leave 120 = .ok (.getfield 196, 3) := by decide +kernel
theorem dX9_leave_123 : decode cX9_leave 123 = .ok (.iconst 2, 1) := by decide +kernel
theorem dX9_leave_124 : decode cX9_leave 124 = .ok (.idiv, 1) := by decide +kernel
theorem dX9_leave_125 : decode cX9_leave 125 = .ok (.iconst 2, 1) := by decide +kernel
theorem dX9_leave_126 : decode cX9_leave 126 = .ok (.iadd, 1) := by decide +kernel
theorem dX9_leave_127 : decode cX9_leave 127 = .ok (.ireturn, 1) := by decide +kernel
theorem dX9_leave_128 : decode cX9_leave 128 = .ok (.aload_n 0, 1) := by decide +kernel
theorem dX9_leave_129 : decode cX9_leave 129 = .ok (.getfield 196, 3) := by decide +kernel
theorem dX9_leave_132 : decode cX9_leave 132 = .ok (.iconst 2, 1) := by decide +kernel
theorem dX9_leave_133 : decode cX9_leave 133 = .ok (.iload_n 3, 1) := by decide +kernel
theorem dX9_leave_134 : decode cX9_leave 134 = .ok (.imul, 1) := by decide +kernel
theorem dX9_leave_135 : decode cX9_leave 135 = .ok (.isub, 1) := by decide +kernel
theorem dX9_leave_136 : decode cX9_leave 136 = .ok (.aload_n 0, 1) := by decide +kernel
theorem dX9_leave_137 : decode cX9_leave 137 = .ok (.iload_n 1, 1) := by decide +kernel
theorem dX9_leave_138 : decode cX9_leave 138 = .ok (.bipush 6, 2) := by decide +kernel
theorem dX9_leave_140 : decode cX9_leave 140 = .ok (.iload_n 2, 1) := by decide +kernel
theorem dX9_leave_141 : decode cX9_leave 141 = .ok (.iconst 4, 1) := by decide +kernel
theorem dX9_leave_142 : decode cX9_leave 142 = .ok (.irem, 1) := by decide +kernel
theorem dX9_leave_143 : decode cX9_leave 143 = .ok (.iadd, 1) := by decide +kernel
theorem dX9_leave_144 : decode cX9_leave 144 = .ok (.invokevirtual 102, 3) := by decide +kernel
theorem dX9_leave_147 : decode cX9_leave 147 = .ok (.iadd, 1) := by decide +kernel
theorem dX9_leave_148 : decode cX9_leave 148 = .ok (.iconst 4, 1) := by decide +kernel
theorem dX9_leave_149 : decode cX9_leave 149 = .ok (.isub, 1) := by decide +kernel
theorem dX9_leave_150 : decode cX9_leave 150 = .ok (.ireturn, 1) := by decide +kernel
theorem dX9_leave_151 : decode cX9_leave 151 = .ok (.aload_n 0, 1) := by decide +kernel
theorem dX9_leave_152 : decode cX9_leave 152 = .ok (.getfield 196, 3) := by decide +kernel
theorem dX9_leave_155 : decode cX9_leave 155 = .ok (.ireturn, 1) := by decide +kernel
theorem dX9_mayAnywhere_0 : decode cX9_mayAnywhere 0 = .ok (.iconst 0, 1) := by decide +kernel
theorem dX9_mayAnywhere_1 : decode cX9_mayAnywhere 1 = .ok (.istore_n 2, 1) := by decide +kernel
theorem dX9_mayAnywhere_2 : decode cX9_mayAnywhere 2 = .ok (.iconst 0, 1) := by decide +kernel
theorem dX9_mayAnywhere_3 : decode cX9_mayAnywhere 3 = .ok (.istore_n 3, 1) := by decide +kernel
theorem dX9_mayAnywhere_4 : decode cX9_mayAnywhere 4 = .ok (.iload_n 3, 1) := by decide +kernel
theorem dX9_mayAnywhere_5 : decode cX9_mayAnywhere 5 = .ok (.aload_n 0, 1) := by decide +kernel
theorem dX9_mayAnywhere_6 : decode cX9_mayAnywhere 6 = .ok (.getfield 9, 3) := by decide +kernel
theorem dX9_mayAnywhere_9 : decode cX9_mayAnywhere 9 = .ok (.bipush 93, 2) := by decide +kernel
theorem dX9_mayAnywhere_11 : decode cX9_mayAnywhere 11 = .ok (.iaload, 1) := by decide +kernel
theorem dX9_mayAnywhere_12 : decode cX9_mayAnywhere 12 = .ok (.if_icmp .ge 47, 3) := by decide +kernel
theorem dX9_mayAnywhere_15 : decode cX9_mayAnywhere 15 = .ok (.iload_n 2, 1) := by decide +kernel
theorem dX9_mayAnywhere_16 : decode cX9_mayAnywhere 16 = .ok (.aload_n 0, 1) := by decide +kernel
theorem dX9_mayAnywhere_17 : decode cX9_mayAnywhere 17 = .ok (.iload_n 3, 1) := by decide +kernel
theorem dX9_mayAnywhere_18 : decode cX9_mayAnywhere 18 = .ok (.invokevirtual 214, 3) := by decide +kernel
theorem dX9_mayAnywhere_21 : decode cX9_mayAnywhere 21 = .ok (.ifCond .eq 13, 3) := by decide +kernel
theorem dX9_mayAnywhere_24 : decode cX9_mayAnywhere 24 = .ok (.aload_n 0, 1) := by decide +kernel
theorem dX9_mayAnywhere_25 : decode cX9_mayAnywhere 25 = .ok (.iload_n 1, 1) := by decide +kernel
theorem dX9_mayAnywhere_26 : decode cX9_mayAnywhere 26 = .ok (.iconst 0, 1) := by decide +kernel
theorem dX9_mayAnywhere_27 : decode cX9_mayAnywhere 27 = .ok (.invokevirtual 102, 3) := by decide +kernel
theorem dX9_mayAnywhere_30 : decode cX9_mayAnywhere 30 = .ok (.iconst 5, 1) := by decide +kernel
theorem dX9_mayAnywhere_31 : decode cX9_mayAnywhere 31 = .ok (.if_icmp .ne 19, 3) := by decide +kernel
theorem dX9_mayAnywhere_34 : decode cX9_mayAnywhere 34 = .ok (.aload_n 0, 1) := by decide +kernel
theorem dX9_mayAnywhere_35 : decode cX9_mayAnywhere 35 = .ok (.iload_n 1, 1) := by decide +kernel
theorem dX9_mayAnywhere_36 : decode cX9_mayAnywhere 36 = .ok (.iload_n 3, 1) := by decide +kernel
theorem dX9_mayAnywhere_37 : decode cX9_mayAnywhere 37 = .ok (.invokevirtual 133, 3) := by decide +kernel
theorem dX9_mayAnywhere_40 : decode cX9_mayAnywhere 40 = .ok (.iconst 1, 1) := by decide +kernel
theorem dX9_mayAnywhere_41 : decode cX9_mayAnywhere 41 = .ok (.if_icmp .lt 9, 3) := by decide +kernel
theorem dX9_mayAnywhere_44 : decode cX9_mayAnywhere 44 = .ok (.iconst 1, 1) := by decide +kernel
theorem dX9_mayAnywhere_45 : decode cX9_mayAnywhere 45 = .ok (.iload_n 3, 1) := by decide +kernel
theorem dX9_mayAnywhere_46 : decode cX9_mayAnywhere 46 = .ok (.ishl, 1) := by decide +kernel
theorem dX9_mayAnywhere_47 : decode cX9_mayAnywhere 47 = .ok (.goto 4, 3) := by decide +kernel
theorem dX9_mayAnywhere_50 : decode cX9_mayAnywhere 50 = .ok (.iconst 0, 1) := by decide +kernel
theorem dX9_mayAnywhere_51 : decode cX9_mayAnywhere 51 = .ok (.ior, 1) := by decide +kernel
theorem dX9_mayAnywhere_52 : decode cX9_mayAnywhere 52 = .ok (.istore_n 2, 1) := by decide +kernel
theorem dX9_mayAnywhere_53 : decode cX9_mayAnywhere 53 = .ok (.iinc 3 1, 3) := by decide +kernel
theorem dX9_mayAnywhere_56 : decode cX9_mayAnywhere 56 = .ok (.goto (-52), 3) := by decide +kernel
theorem dX9_mayAnywhere_59 : decode cX9_mayAnywhere 59 = .ok (.iload_n 2, 1) := by decide +kernel
theorem dX9_mayAnywhere_60 : decode cX9_mayAnywhere 60 = .ok (.ireturn, 1) := by decide +kernel
theorem dX9_may_0 : decode cX9_may 0 = .ok (.iconst 0, 1) := by decide +kernel
theorem dX9_may_1 : decode cX9_may 1 = .ok (.istore_n 2, 1) := by decide +kernel
theorem dX9_may_2 : decode cX9_may 2 = .ok (.iconst 0, 1) := by decide +kernel
theorem dX9_may_3 : decode cX9_may 3 = .ok (.istore_n 3, 1) := by decide +kernel
theorem dX9_may_4 : decode cX9_may 4 = .ok (.iload_n 3, 1) := by decide +kernel
theorem dX9_may_5 : decode cX9_may 5 = .ok (.aload_n 0, 1) := by decide +kernel
theorem dX9_may_6 : decode cX9_may 6 = .ok (.getfield 9, 3) := by decide +kernel
theorem dX9_may_9 : decode cX9_may 9 = .ok (.bipush 93, 2) := by decide +kernel
theorem dX9_may_11 : decode cX9_may 11 = .ok (.iaload, 1) := by decide +kernel
theorem dX9_may_12 : decode cX9_may 12 = .ok (.if_icmp .ge 49, 3) := by decide +kernel
theorem dX9_may_15 : decode cX9_may 15 = .ok (.iload_n 2, 1) := by decide +kernel
theorem dX9_may_16 : decode cX9_may 16 = .ok (.aload_n 0, 1) := by decide +kernel
theorem dX9_may_17 : decode cX9_may 17 = .ok (.iload_n 3, 1) := by decide +kernel
theorem dX9_may_18 : decode cX9_may 18 = .ok (.iconst 0, 1) := by decide +kernel
theorem dX9_may_19 : decode cX9_may 19 = .ok (.invokevirtual 217, 3) := by decide +kernel
theorem dX9_may_22 : decode cX9_may 22 = .ok (.aload_n 0, 1) := by decide +kernel
theorem dX9_may_23 : decode cX9_may 23 = .ok (.iload_n 1, 1) := by decide +kernel
theorem dX9_may_24 : decode cX9_may 24 = .ok (.iconst 2, 1) := by decide +kernel
theorem dX9_may_25 : decode cX9_may 25 = .ok (.invokevirtual 102, 3) := by decide +kernel
theorem dX9_may_28 : decode cX9_may 28 = .ok (.if_icmp .eq 18, 3) := by decide +kernel
theorem dX9_may_31 : decode cX9_may 31 = .ok (.aload_n 0, 1) := by decide +kernel
theorem dX9_may_32 : decode cX9_may 32 = .ok (.iload_n 3, 1) := by decide +kernel
theorem dX9_may_33 : decode cX9_may 33 = .ok (.iconst 1, 1) := by decide +kernel
theorem dX9_may_34 : decode cX9_may 34 = .ok (.invokevirtual 217, 3) := by decide +kernel
theorem dX9_may_37 : decode cX9_may 37 = .ok (.aload_n 0, 1) := by decide +kernel
theorem dX9_may_38 : decode cX9_may 38 = .ok (.iload_n 1, 1) := by decide +kernel
theorem dX9_may_39 : decode cX9_may 39 = .ok (.iconst 2, 1) := by decide +kernel
theorem dX9_may_40 : decode cX9_may 40 = .ok (.invokevirtual 102, 3) := by decide +kernel
theorem dX9_may_43 : decode cX9_may 43 = .ok (.if_icmp .ne 9, 3) := by decide +kernel
theorem dX9_may_46 : decode cX9_may 46 = .ok (.iconst 1, 1) := by decide +kernel
theorem dX9_may_47 : decode cX9_may 47 = .ok (.iload_n 3, 1) := by decide +kernel
theorem dX9_may_48 : decode cX9_may 48 = .ok (.ishl, 1) := by decide +kernel
theorem dX9_may_49 : decode cX9_may 49 = .ok (.goto 4, 3) := by decide +kernel
theorem dX9_may_52 : decode cX9_may 52 = .ok (.iconst 0, 1) := by decide +kernel
theorem dX9_may_53 : decode cX9_may 53 = .ok (.ior, 1) := by decide +kernel
theorem dX9_may_54 : decode cX9_may 54 = .ok (.istore_n 2, 1) := by decide +kernel
theorem dX9_may_55 : decode cX9_may 55 = .ok (.iinc 3 1, 3) := by decide +kernel
theorem dX9_may_58 : decode cX9_may 58 = .ok (.goto (-54), 3) := by decide +kernel
theorem dX9_may_61 : decode cX9_may 61 = .ok (.iload_n 2, 1) := by decide +kernel
theorem dX9_may_62 : decode cX9_may 62 = .ok (.aload_n 0, 1) := by decide +kernel
theorem dX9_may_63 : decode cX9_may 63 = .ok (.iload_n 1, 1) := by decide +kernel
theorem dX9_may_64 : decode cX9_may 64 = .ok (.invokevirtual 220, 3) := by decide +kernel
theorem dX9_may_67 : decode cX9_may 67 = .ok (.iand, 1) := by decide +kernel
theorem dX9_may_68 : decode cX9_may 68 = .ok (.ireturn, 1) := by decide +kernel
theorem dX9_halfBy_0 : decode cX9_halfBy 0 = .ok (.aload_n 0, 1) := by decide +kernel
theorem dX9_halfBy_1 : decode cX9_halfBy 1 = .ok (.iload_n 2, 1) := by decide +kernel
theorem dX9_halfBy_2 : decode cX9_halfBy 2 = .ok (.invokevirtual 136, 3) := by decide +kernel
theorem dX9_halfBy_5 : decode cX9_halfBy 5 = .ok (.istore_n 3, 1) := by decide +kernel
theorem dX9_halfBy_6 : decode cX9_halfBy 6 = .ok (.iload_n 3, 1) := by decide +kernel
theorem dX9_halfBy_7 : decode cX9_halfBy 7 = .ok (.iconst (-1), 1) := by decide +kernel
theorem dX9_halfBy_8 : decode cX9_halfBy 8 = .ok (.if_icmp .eq 22, 3) := by decide +kernel
theorem dX9_halfBy_11 : decode cX9_halfBy 11 = .ok (.iload_n 1, 1) := by decide +kernel
theorem dX9_halfBy_12 : decode cX9_halfBy 12 = .ok (.iload_n 3, 1) := by decide +kernel
theorem dX9_halfBy_13 : decode cX9_halfBy 13 = .ok (.ishr, 1) := by decide +kernel
theorem dX9_halfBy_14 : decode cX9_halfBy 14 = .ok (.iconst 1, 1) := by decide +kernel
theorem dX9_halfBy_15 : decode cX9_halfBy 15 = .ok (.iand, 1) := by decide +kernel
theorem dX9_halfBy_16 : decode cX9_halfBy 16 = .ok (.iconst 1, 1) := by decide +kernel
theorem dX9_halfBy_17 : decode cX9_halfBy 17 = .ok (.if_icmp .ne 13, 3) := by decide +kernel
theorem dX9_halfBy_20 : decode cX9_halfBy 20 = .ok (.iload_n 1, 1) := by decide +kernel
theorem dX9_halfBy_21 : decode cX9_halfBy 21 = .ok (.iconst 1, 1) := by decide +kernel
theorem dX9_halfBy_22 : decode cX9_halfBy 22 = .ok (.iload_n 3, 1) := by decide +kernel
theorem dX9_halfBy_23 : decode cX9_halfBy 23 = .ok (.ishl, 1) := by decide +kernel
theorem dX9_halfBy_24 : decode cX9_halfBy 24 = .ok (.iconst (-1), 1) := by decide +kernel
theorem dX9_halfBy_25 : decode cX9_halfBy 25 = .ok (.ixor, 1) := by decide +kernel
theorem dX9_halfBy_26 : decode cX9_halfBy 26 = .ok (.iand, 1) := by decide +kernel
theorem dX9_halfBy_27 : decode cX9_halfBy 27 = .ok (.goto 8, 3) := by decide +kernel
theorem dX9_halfBy_30 : decode cX9_halfBy 30 = .ok (.iload_n 1, 1) := by decide +kernel
theorem dX9_halfBy_31 : decode cX9_halfBy 31 = .ok (.iconst 1, 1) := by decide +kernel
theorem dX9_halfBy_32 : decode cX9_halfBy 32 = .ok (.iload_n 2, 1) := by decide +kernel
theorem dX9_halfBy_33 : decode cX9_halfBy 33 = .ok (.ishl, 1) := by decide +kernel
theorem dX9_halfBy_34 : decode cX9_halfBy 34 = .ok (.ixor, 1) := by decide +kernel
theorem dX9_halfBy_35 : decode cX9_halfBy 35 = .ok (.ireturn, 1) := by decide +kernel
theorem dX9_crosses_0 : decode cX9_crosses 0 = .ok (.aload_n 0, 1) := by decide +kernel
theorem dX9_crosses_1 : decode cX9_crosses 1 = .ok (.iload_n 1, 1) := by decide +kernel
theorem dX9_crosses_2 : decode cX9_crosses 2 = .ok (.iconst 2, 1) := by decide +kernel
theorem dX9_crosses_3 : decode cX9_crosses 3 = .ok (.aload_n 0, 1) := by decide +kernel
theorem dX9_crosses_4 : decode cX9_crosses 4 = .ok (.iload_n 2, 1) := by decide +kernel
theorem dX9_crosses_5 : decode cX9_crosses 5 = .ok (.iconst 0, 1) := by decide +kernel
theorem dX9_crosses_6 : decode cX9_crosses 6 = .ok (.invokevirtual 217, 3) := by decide +kernel
theorem dX9_crosses_9 : decode cX9_crosses 9 = .ok (.aload_n 0, 1) := by decide +kernel
theorem dX9_crosses_10 : decode cX9_crosses 10 = .ok (.iload_n 2, 1) := by decide +kernel
theorem dX9_crosses_11 : decode cX9_crosses 11 = .ok (.iconst 1, 1) := by decide +kernel
theorem dX9_crosses_12 : decode cX9_crosses 12 = .ok (.invokevirtual 217, 3) := by decide +kernel
theorem dX9_crosses_15 : decode cX9_crosses 15 = .ok (.iadd, 1) := by decide +kernel
theorem dX9_crosses_16 : decode cX9_crosses 16 = .ok (.aload_n 0, 1) := by decide +kernel
theorem dX9_crosses_17 : decode cX9_crosses 17 = .ok (.iload_n 1, 1) := by decide +kernel
theorem dX9_crosses_18 : decode cX9_crosses 18 = .ok (.iconst 2, 1) := by decide +kernel
theorem dX9_crosses_19 : decode cX9_crosses 19 = .ok (.invokevirtual 102, 3) := by decide +kernel
theorem dX9_crosses_22 : decode cX9_crosses 22 = .ok (.isub, 1) := by decide +kernel
theorem dX9_crosses_23 : decode cX9_crosses 23 = .ok (.invokevirtual 110, 3) := by decide +kernel
theorem dX9_crosses_26 : decode cX9_crosses 26 = .ok (.pop, 1) := by decide +kernel
theorem dX9_crosses_27 : decode cX9_crosses 27 = .ok (.aload_n 0, 1) := by decide +kernel
theorem dX9_crosses_28 : decode cX9_crosses 28 = .ok (.iload_n 1, 1) := by decide +kernel
theorem dX9_crosses_29 : decode cX9_crosses 29 = .ok (.iconst 5, 1) := by decide +kernel
theorem dX9_crosses_30 : decode cX9_crosses 30 = .ok (.aload_n 0, 1) := by decide +kernel
theorem dX9_crosses_31 : decode cX9_crosses 31 = .ok (.aload_n 0, 1) := by decide +kernel
theorem dX9_crosses_32 : decode cX9_crosses 32 = .ok (.iload_n 1, 1) := by decide +kernel
theorem dX9_crosses_33 : decode cX9_crosses 33 = .ok (.iconst 5, 1) := by decide +kernel
theorem dX9_crosses_34 : decode cX9_crosses 34 = .ok (.invokevirtual 102, 3) := by decide +kernel
theorem dX9_crosses_37 : decode cX9_crosses 37 = .ok (.iload_n 2, 1) := by decide +kernel
theorem dX9_crosses_38 : decode cX9_crosses 38 = .ok (.invokevirtual 223, 3) := by decide +kernel
theorem dX9_crosses_41 : decode cX9_crosses 41 = .ok (.invokevirtual 110, 3) := by decide +kernel
theorem dX9_crosses_44 : decode cX9_crosses 44 = .ok (.pop, 1) := by decide +kernel
theorem dX9_crosses_45 : decode cX9_crosses 45 = .ok (.aload_n 0, 1) := by decide +kernel
theorem dX9_crosses_46 : decode cX9_crosses 46 = .ok (.iload_n 1, 1) := by decide +kernel
theorem dX9_crosses_47 : decode cX9_crosses 47 = .ok (.iconst 5, 1) := by decide +kernel
theorem dX9_crosses_48 : decode cX9_crosses 48 = .ok (.invokevirtual 102, 3) := by decide +kernel
theorem dX9_crosses_51 : decode cX9_crosses 51 = .ok (.ifCond .ne 16, 3) := by decide +kernel
theorem dX9_crosses_54 : decode cX9_crosses 54 = .ok (.aload_n 0, 1) := by decide +kernel
theorem dX9_crosses_55 : decode cX9_crosses 55 = .ok (.iload_n 1, 1) := by decide +kernel
theorem dX9_crosses_56 : decode cX9_crosses 56 = .ok (.iconst 3, 1) := by decide +kernel
theorem dX9_crosses_57 : decode cX9_crosses 57 = .ok (.aload_n 0, 1) := by decide +kernel
theorem dX9_crosses_58 : decode cX9_crosses 58 = .ok (.iload_n 1, 1) := by decide +kernel
theorem dX9_crosses_59 : decode cX9_crosses 59 = .ok (.iconst 2, 1) := by decide +kernel
theorem dX9_crosses_60 : decode cX9_crosses 60 = .ok (.invokevirtual 102, 3) := by decide +kernel
theorem dX9_crosses_63 : decode cX9_crosses 63 = .ok (.invokevirtual 110, 3) := by decide +kernel
theorem dX9_crosses_66 : decode cX9_crosses 66 = .ok (.pop, 1) := by decide +kernel
theorem dX9_crosses_67 : decode cX9_crosses 67 = .ok (.return_, 1) := by decide +kernel
theorem dX9_isTruly_0 : decode cX9_isTruly 0 = .ok (.aload_n 0, 1) := by decide +kernel
theorem dX9_isTruly_1 : decode cX9_isTruly 1 = .ok (.iload_n 1, 1) := by decide +kernel
theorem dX9_isTruly_2 : decode cX9_isTruly 2 = .ok (.iconst 2, 1) := by decide +kernel
theorem dX9_isTruly_3 : decode cX9_isTruly 3 = .ok (.invokevirtual 102, 3) := by decide +kernel
theorem dX9_isTruly_6 : decode cX9_isTruly 6 = .ok (.iload_n 2, 1) := by decide +kernel
theorem dX9_isTruly_7 : decode cX9_isTruly 7 = .ok (.if_icmp .ne 16, 3) := by decide +kernel
theorem dX9_isTruly_10 : decode cX9_isTruly 10 = .ok (.aload_n 0, 1) := by decide +kernel
theorem dX9_isTruly_11 : decode cX9_isTruly 11 = .ok (.iload_n 1, 1) := by decide +kernel
theorem dX9_isTruly_12 : decode cX9_isTruly 12 = .ok (.iconst 5, 1) := by decide +kernel
theorem dX9_isTruly_13 : decode cX9_isTruly 13 = .ok (.invokevirtual 102, 3) := by decide +kernel
theorem dX9_isTruly_16 : decode cX9_isTruly 16 = .ok (.ifCond .ne 7, 3) := by decide +kernel
theorem dX9_isTruly_19 : decode cX9_isTruly 19 = .ok (.iconst 1, 1) := by decide +kernel
theorem dX9_isTruly_20 : decode cX9_isTruly 20 = .ok (.goto 4, 3) := by decide +kernel
theorem dX9_isTruly_23 : decode cX9_isTruly 23 = .ok (.iconst 0, 1) := by decide +kernel
theorem dX9_isTruly_24 : decode cX9_isTruly 24 = .ok (.ireturn, 1) := by decide +kernel
theorem dX9_arrive_0 : decode cX9_arrive 0 = .ok (.aload_n 0, 1) := by decide +kernel
theorem dX9_arrive_1 : decode cX9_arrive 1 = .ok (.getfield 49, 3) := by decide +kernel
theorem dX9_arrive_4 : decode cX9_arrive 4 = .ok (.iload_n 1, 1) := by decide +kernel
theorem dX9_arrive_5 : decode cX9_arrive 5 = .ok (.baload, 1) := by decide +kernel
theorem dX9_arrive_6 : decode cX9_arrive 6 = .ok (.ifCond .ne 61, 3) := by decide +kernel
theorem dX9_arrive_9 : decode cX9_arrive 9 = .ok (.aload_n 0, 1) := by decide +kernel
theorem dX9_arrive_10 : decode cX9_arrive 10 = .ok (.getfield 49, 3) := by decide +kernel
theorem dX9_arrive_13 : decode cX9_arrive 13 = .ok (.iload_n 1, 1) := by decide +kernel
theorem dX9_arrive_14 : decode cX9_arrive 14 = .ok (.iconst 1, 1) := by decide +kernel
theorem dX9_arrive_15 : decode cX9_arrive 15 = .ok (.bastore, 1) := by decide +kernel
theorem dX9_arrive_16 : decode cX9_arrive 16 = .ok (.aload_n 0, 1) := by decide +kernel
theorem dX9_arrive_17 : decode cX9_arrive 17 = .ok (.getfield 53, 3) := by decide +kernel
theorem dX9_arrive_20 : decode cX9_arrive 20 = .ok (.aload_n 0, 1) := by decide +kernel
theorem dX9_arrive_21 : decode cX9_arrive 21 = .ok (.getfield 226, 3) := by decide +kernel
theorem dX9_arrive_24 : decode cX9_arrive 24 = .ok (.iload_n 1, 1) := by decide +kernel
theorem dX9_arrive_25 : decode cX9_arrive 25 = .ok (.iastore, 1) := by decide +kernel
theorem dX9_arrive_26 : decode cX9_arrive 26 = .ok (.aload_n 0, 1) := by decide +kernel
theorem dX9_arrive_27 : decode cX9_arrive 27 = .ok (.getfield 56, 3) := by decide +kernel
theorem dX9_arrive_30 : decode cX9_arrive 30 = .ok (.aload_n 0, 1) := by decide +kernel
theorem dX9_arrive_31 : decode cX9_arrive 31 = .ok (.getfield 226, 3) := by decide +kernel
theorem dX9_arrive_34 : decode cX9_arrive 34 = .ok (.iload_n 2, 1) := by decide +kernel
theorem dX9_arrive_35 : decode cX9_arrive 35 = .ok (.iastore, 1) := by decide +kernel
theorem dX9_arrive_36 : decode cX9_arrive 36 = .ok (.aload_n 0, 1) := by decide +kernel
theorem dX9_arrive_37 : decode cX9_arrive 37 = .ok (.getfield 59, 3) := by decide +kernel
theorem dX9_arrive_40 : decode cX9_arrive 40 = .ok (.aload_n 0, 1) := by decide +kernel
theorem dX9_arrive_41 : decode cX9_arrive 41 = .ok (.getfield 226, 3) := by decide +kernel
theorem dX9_arrive_44 : decode cX9_arrive 44 = .ok (.iload_n 3, 1) := by decide +kernel
theorem dX9_arrive_45 : decode cX9_arrive 45 = .ok (.iastore, 1) := by decide +kernel
theorem dX9_arrive_46 : decode cX9_arrive 46 = .ok (.aload_n 0, 1) := by decide +kernel
theorem dX9_arrive_47 : decode cX9_arrive 47 = .ok (.getfield 62, 3) := by decide +kernel
theorem dX9_arrive_50 : decode cX9_arrive 50 = .ok (.aload_n 0, 1) := by decide +kernel
theorem dX9_arrive_51 : decode cX9_arrive 51 = .ok (.getfield 226, 3) := by decide +kernel
theorem dX9_arrive_54 : decode cX9_arrive 54 = .ok (.iload 4, 2) := by decide +kernel
theorem dX9_arrive_56 : decode cX9_arrive 56 = .ok (.iastore, 1) := by decide +kernel
theorem dX9_arrive_57 : decode cX9_arrive 57 = .ok (.aload_n 0, 1) := by decide +kernel
theorem dX9_arrive_58 : decode cX9_arrive 58 = .ok (.dup, 1) := by decide +kernel
theorem dX9_arrive_59 : decode cX9_arrive 59 = .ok (.getfield 226, 3) := by decide +kernel
theorem dX9_arrive_62 : decode cX9_arrive 62 = .ok (.iconst 1, 1) := by decide +kernel
theorem dX9_arrive_63 : decode cX9_arrive 63 = .ok (.iadd, 1) := by decide +kernel
theorem dX9_arrive_64 : decode cX9_arrive 64 = .ok (.putfield 226, 3) := by decide +kernel
theorem dX9_arrive_67 : decode cX9_arrive 67 = .ok (.return_, 1) := by decide +kernel
theorem dX9_explore_0 : decode cX9_explore 0 = .ok (.aload_n 0, 1) := by decide +kernel
theorem dX9_explore_1 : decode cX9_explore 1 = .ok (.iload_n 1, 1) := by decide +kernel
theorem dX9_explore_2 : decode cX9_explore 2 = .ok (.iconst 5, 1) := by decide +kernel
theorem dX9_explore_3 : decode cX9_explore 3 = .ok (.invokevirtual 102, 3) := by decide +kernel
theorem dX9_explore_6 : decode cX9_explore 6 = .ok (.istore_n 2, 1) := by decide +kernel
theorem dX9_explore_7 : decode cX9_explore 7 = .ok (.iconst 0, 1) := by decide +kernel
theorem dX9_explore_8 : decode cX9_explore 8 = .ok (.istore_n 3, 1) := by decide +kernel
theorem dX9_explore_9 : decode cX9_explore 9 = .ok (.iload_n 3, 1) := by decide +kernel
theorem dX9_explore_10 : decode cX9_explore 10 = .ok (.aload_n 0, 1) := by decide +kernel
theorem dX9_explore_11 : decode cX9_explore 11 = .ok (.getfield 9, 3) := by decide +kernel
theorem dX9_explore_14 : decode cX9_explore 14 = .ok (.bipush 93, 2) := by decide +kernel
theorem dX9_explore_16 : decode cX9_explore 16 = .ok (.iaload, 1) := by decide +kernel
theorem dX9_explore_17 : decode cX9_explore 17 = .ok (.if_icmp .gt 32, 3) := by decide +kernel
theorem dX9_explore_20 : decode cX9_explore 20 = .ok (.aload_n 0, 1) := by decide +kernel
theorem dX9_explore_21 : decode cX9_explore 21 = .ok (.iload_n 1, 1) := by decide +kernel
theorem dX9_explore_22 : decode cX9_explore 22 = .ok (.iconst 5, 1) := by decide +kernel
theorem dX9_explore_23 : decode cX9_explore 23 = .ok (.iconst 1, 1) := by decide +kernel
theorem dX9_explore_24 : decode cX9_explore 24 = .ok (.iload_n 3, 1) := by decide +kernel
theorem dX9_explore_25 : decode cX9_explore 25 = .ok (.ishl, 1) := by decide +kernel
theorem dX9_explore_26 : decode cX9_explore 26 = .ok (.iconst 1, 1) := by decide +kernel
theorem dX9_explore_27 : decode cX9_explore 27 = .ok (.isub, 1) := by decide +kernel
theorem dX9_explore_28 : decode cX9_explore 28 = .ok (.invokevirtual 110, 3) := by decide +kernel
theorem dX9_explore_31 : decode cX9_explore 31 = .ok (.pop, 1) := by decide +kernel
theorem dX9_explore_32 : decode cX9_explore 32 = .ok (.aload_n 0, 1) := by decide +kernel
theorem dX9_explore_33 : decode cX9_explore 33 = .ok (.getfield 46, 3) := by decide +kernel
theorem dX9_explore_36 : decode cX9_explore 36 = .ok (.iload_n 3, 1) := by decide +kernel
theorem dX9_explore_37 : decode cX9_explore 37 = .ok (.aload_n 0, 1) := by decide +kernel
theorem dX9_explore_38 : decode cX9_explore 38 = .ok (.iload_n 1, 1) := by decide +kernel
theorem dX9_explore_39 : decode cX9_explore 39 = .ok (.invokevirtual 220, 3) := by decide +kernel
theorem dX9_explore_42 : decode cX9_explore 42 = .ok (.iastore, 1) := by decide +kernel
theorem dX9_explore_43 : decode cX9_explore 43 = .ok (.iinc 3 1, 3) := by decide +kernel
theorem dX9_explore_46 : decode cX9_explore 46 = .ok (.goto (-37), 3) := by decide +kernel
theorem dX9_explore_49 : decode cX9_explore 49 = .ok (.aload_n 0, 1) := by decide +kernel
theorem dX9_explore_50 : decode cX9_explore 50 = .ok (.iload_n 1, 1) := by decide +kernel
theorem dX9_explore_51 : decode cX9_explore 51 = .ok (.iconst 5, 1) := by decide +kernel
theorem dX9_explore_52 : decode cX9_explore 52 = .ok (.iload_n 2, 1) := by decide +kernel
theorem dX9_explore_53 : decode cX9_explore 53 = .ok (.invokevirtual 110, 3) := by decide +kernel
theorem dX9_explore_56 : decode cX9_explore 56 = .ok (.pop, 1) := by decide +kernel
theorem dX9_explore_57 : decode cX9_explore 57 = .ok (.iconst 0, 1) := by decide +kernel
theorem dX9_explore_58 : decode cX9_explore 58 = .ok (.istore_n 3, 1) := by decide +kernel
theorem dX9_explore_59 : decode cX9_explore 59 = .ok (.iload_n 3, 1) := by decide +kernel
theorem dX9_explore_60 : decode cX9_explore 60 = .ok (.sipush 1536, 3) := by decide +kernel
theorem dX9_explore_63 : decode cX9_explore 63 = .ok (.if_icmp .ge 16, 3) := by decide +kernel
theorem dX9_explore_66 : decode cX9_explore 66 = .ok (.aload_n 0, 1) := by decide +kernel
theorem dX9_explore_67 : decode cX9_explore 67 = .ok (.getfield 49, 3) := by decide +kernel
theorem dX9_explore_70 : decode cX9_explore 70 = .ok (.iload_n 3, 1) := by decide +kernel
theorem dX9_explore_71 : decode cX9_explore 71 = .ok (.iconst 0, 1) := by decide +kernel
theorem dX9_explore_72 : decode cX9_explore 72 = .ok (.bastore, 1) := by decide +kernel
theorem dX9_explore_73 : decode cX9_explore 73 = .ok (.iinc 3 1, 3) := by decide +kernel
theorem dX9_explore_76 : decode cX9_explore 76 = .ok (.goto (-17), 3) := by decide +kernel
theorem dX9_explore_79 : decode cX9_explore 79 = .ok (.aload_n 0, 1) := by decide +kernel
theorem dX9_explore_80 : decode cX9_explore 80 = .ok (.iconst 0, 1) := by decide +kernel
theorem dX9_explore_81 : decode cX9_explore 81 = .ok (.putfield 226, 3) := by decide +kernel
theorem dX9_explore_84 : decode cX9_explore 84 = .ok (.aload_n 0, 1) := by decide +kernel
theorem dX9_explore_85 : decode cX9_explore 85 = .ok (.sipush 256, 3) := by decide +kernel
theorem dX9_explore_88 : decode cX9_explore 88 = .ok (.aload_n 0, 1) := by decide +kernel
theorem dX9_explore_89 : decode cX9_explore 89 = .ok (.iload_n 1, 1) := by decide +kernel
theorem dX9_explore_90 : decode cX9_explore 90 = .ok (.iconst 2, 1) := by decide +kernel
theorem dX9_explore_91 : decode cX9_explore 91 = .ok (.invokevirtual 102, 3) := by decide +kernel
theorem dX9_explore_94 : decode cX9_explore 94 = .ok (.imul, 1) := by decide +kernel
theorem dX9_explore_95 : decode cX9_explore 95 = .ok (.iload_n 2, 1) := by decide +kernel
theorem dX9_explore_96 : decode cX9_explore 96 = .ok (.iadd, 1) := by decide +kernel
theorem dX9_explore_97 : decode cX9_explore 97 = .ok (.iconst (-1), 1) := by decide +kernel
theorem dX9_explore_98 : decode cX9_explore 98 = .ok (.iconst (-1), 1) := by decide +kernel
theorem dX9_explore_99 : decode cX9_explore 99 = .ok (.iconst 0, 1) := by decide +kernel
theorem dX9_explore_100 : decode cX9_explore 100 = .ok (.invokevirtual 229, 3) := by decide +kernel
theorem dX9_explore_103 : decode cX9_explore 103 = .ok (.iconst 0, 1) := by decide +kernel
theorem dX9_explore_104 : decode cX9_explore 104 = .ok (.istore_n 3, 1) := by decide +kernel
theorem dX9_explore_105 : decode cX9_explore 105 = .ok (.iload_n 3, 1) := by decide +kernel
theorem dX9_explore_106 : decode cX9_explore 106 = .ok (.aload_n 0, 1) := by decide +kernel
theorem dX9_explore_107 : decode cX9_explore 107 = .ok (.getfield 226, 3) := by decide +kernel
theorem dX9_explore_110 : decode cX9_explore 110 = .ok (.if_icmp .ge 166, 3) := by decide +kernel
theorem dX9_explore_113 : decode cX9_explore 113 = .ok (.aload_n 0, 1) := by decide +kernel
theorem dX9_explore_114 : decode cX9_explore 114 = .ok (.getfield 53, 3) := by decide +kernel
theorem dX9_explore_117 : decode cX9_explore 117 = .ok (.iload_n 3, 1) := by decide +kernel
theorem dX9_explore_118 : decode cX9_explore 118 = .ok (.iaload, 1) := by decide +kernel
theorem dX9_explore_119 : decode cX9_explore 119 = .ok (.sipush 256, 3) := by decide +kernel
theorem dX9_explore_122 : decode cX9_explore 122 = .ok (.idiv, 1) := by decide +kernel
theorem dX9_explore_123 : decode cX9_explore 123 = .ok (.istore 4, 2) := by decide +kernel
theorem dX9_explore_125 : decode cX9_explore 125 = .ok (.aload_n 0, 1) := by decide +kernel
theorem dX9_explore_126 : decode cX9_explore 126 = .ok (.getfield 53, 3) := by decide +kernel
theorem dX9_explore_129 : decode cX9_explore 129 = .ok (.iload_n 3, 1) := by decide +kernel
theorem dX9_explore_130 : decode cX9_explore 130 = .ok (.iaload, 1) := by decide +kernel
theorem dX9_explore_131 : decode cX9_explore 131 = .ok (.sipush 256, 3) := by decide +kernel
theorem dX9_explore_134 : decode cX9_explore 134 = .ok (.irem, 1) := by decide +kernel
theorem dX9_explore_135 : decode cX9_explore 135 = .ok (.istore 5, 2) := by decide +kernel
theorem dX9_explore_137 : decode cX9_explore 137 = .ok (.iconst 0, 1) := by decide +kernel
theorem dX9_explore_138 : decode cX9_explore 138 = .ok (.istore 6, 2) := by decide +kernel
theorem dX9_explore_140 : decode cX9_explore 140 = .ok (.iload 6, 2) := by decide +kernel
theorem dX9_explore_142 : decode cX9_explore 142 = .ok (.aload_n 0, 1) := by decide +kernel
theorem dX9_explore_143 : decode cX9_explore 143 = .ok (.getfield 9, 3) := by decide +kernel
theorem dX9_explore_146 : decode cX9_explore 146 = .ok (.bipush 93, 2) := by decide +kernel
theorem dX9_explore_148 : decode cX9_explore 148 = .ok (.iaload, 1) := by decide +kernel
theorem dX9_explore_149 : decode cX9_explore 149 = .ok (.if_icmp .ge 121, 3) := by decide +kernel
theorem dX9_explore_152 : decode cX9_explore 152 = .ok (.aload_n 0, 1) := by decide +kernel
theorem dX9_explore_153 : decode cX9_explore 153 = .ok (.getfield 62, 3) := by decide +kernel
theorem dX9_explore_156 : decode cX9_explore 156 = .ok (.iload_n 3, 1) := by decide +kernel
theorem dX9_explore_157 : decode cX9_explore 157 = .ok (.iaload, 1) := by decide +kernel
theorem dX9_explore_158 : decode cX9_explore 158 = .ok (.bipush 12, 2) := by decide +kernel
theorem dX9_explore_160 : decode cX9_explore 160 = .ok (.if_icmp .ge 110, 3) := by decide +kernel
theorem dX9_explore_163 : decode cX9_explore 163 = .ok (.aload_n 0, 1) := by decide +kernel
theorem dX9_explore_164 : decode cX9_explore 164 = .ok (.iload 6, 2) := by decide +kernel
theorem dX9_explore_166 : decode cX9_explore 166 = .ok (.iconst 0, 1) := by decide +kernel
theorem dX9_explore_167 : decode cX9_explore 167 = .ok (.invokevirtual 217, 3) := by decide +kernel
theorem dX9_explore_170 : decode cX9_explore 170 = .ok (.iload 4, 2) := by decide +kernel
theorem dX9_explore_172 : decode cX9_explore 172 = .ok (.if_icmp .eq 15, 3) := by decide +kernel
theorem dX9_explore_175 : decode cX9_explore 175 = .ok (.aload_n 0, 1) := by decide +kernel
theorem dX9_explore_176 : decode cX9_explore 176 = .ok (.iload 6, 2) := by decide +kernel
theorem dX9_explore_178 : decode cX9_explore 178 = .ok (.iconst 1, 1) := by decide +kernel
theorem dX9_explore_179 : decode cX9_explore 179 = .ok (.invokevirtual 217, 3) := by decide +kernel
theorem dX9_explore_182 : decode cX9_explore 182 = .ok (.iload 4, 2) := by decide +kernel
theorem dX9_explore_184 : decode cX9_explore 184 = .ok (.if_icmp .ne 7, 3) := by decide +kernel
theorem dX9_explore_187 : decode cX9_explore 187 = .ok (.iconst 1, 1) := by decide +kernel
theorem dX9_explore_188 : decode cX9_explore 188 = .ok (.goto 4, 3) := by decide +kernel
theorem dX9_explore_191 : decode cX9_explore 191 = .ok (.iconst 0, 1) := by decide +kernel
theorem dX9_explore_192 : decode cX9_explore 192 = .ok (.istore 7, 2) := by decide +kernel
theorem dX9_explore_194 : decode cX9_explore 194 = .ok (.iload 7, 2) := by decide +kernel
theorem dX9_explore_196 : decode cX9_explore 196 = .ok (.ifCond .eq 68, 3) := by decide +kernel
theorem dX9_explore_199 : decode cX9_explore 199 = .ok (.aload_n 0, 1) := by decide +kernel
theorem dX9_explore_200 : decode cX9_explore 200 = .ok (.getfield 46, 3) := by decide +kernel
theorem dX9_explore_203 : decode cX9_explore 203 = .ok (.iload 5, 2) := by decide +kernel
theorem dX9_explore_205 : decode cX9_explore 205 = .ok (.invokestatic 202, 3) := by decide +kernel
theorem dX9_explore_208 : decode cX9_explore 208 = .ok (.iaload, 1) := by decide +kernel
theorem dX9_explore_209 : decode cX9_explore 209 = .ok (.iload 6, 2) := by decide +kernel
theorem dX9_explore_211 : decode cX9_explore 211 = .ok (.ishr, 1) := by decide +kernel
theorem dX9_explore_212 : decode cX9_explore 212 = .ok (.iconst 1, 1) := by decide +kernel
theorem dX9_explore_213 : decode cX9_explore 213 = .ok (.iand, 1) := by decide +kernel
theorem dX9_explore_214 : decode cX9_explore 214 = .ok (.iconst 1, 1) := by decide +kernel
theorem dX9_explore_215 : decode cX9_explore 215 = .ok (.if_icmp .ne 49, 3) := by decide +kernel
theorem dX9_explore_218 : decode cX9_explore 218 = .ok (.aload_n 0, 1) := by decide +kernel
theorem dX9_explore_219 : decode cX9_explore 219 = .ok (.sipush 256, 3) := by decide +kernel
theorem dX9_explore_222 : decode cX9_explore 222 = .ok (.aload_n 0, 1) := by decide +kernel
theorem dX9_explore_223 : decode cX9_explore 223 = .ok (.iload 6, 2) := by decide +kernel
theorem dX9_explore_225 : decode cX9_explore 225 = .ok (.iconst 0, 1) := by decide +kernel
theorem dX9_explore_226 : decode cX9_explore 226 = .ok (.invokevirtual 217, 3) := by decide +kernel
theorem dX9_explore_229 : decode cX9_explore 229 = .ok (.aload_n 0, 1) := by decide +kernel
theorem dX9_explore_230 : decode cX9_explore 230 = .ok (.iload 6, 2) := by decide +kernel
theorem dX9_explore_232 : decode cX9_explore 232 = .ok (.iconst 1, 1) := by decide +kernel
theorem dX9_explore_233 : decode cX9_explore 233 = .ok (.invokevirtual 217, 3) := by decide +kernel
theorem dX9_explore_236 : decode cX9_explore 236 = .ok (.iadd, 1) := by decide +kernel
theorem dX9_explore_237 : decode cX9_explore 237 = .ok (.iload 4, 2) := by decide +kernel
theorem dX9_explore_239 : decode cX9_explore 239 = .ok (.isub, 1) := by decide +kernel
theorem dX9_explore_240 : decode cX9_explore 240 = .ok (.imul, 1) := by decide +kernel
theorem dX9_explore_241 : decode cX9_explore 241 = .ok (.aload_n 0, 1) := by decide +kernel
theorem dX9_explore_242 : decode cX9_explore 242 = .ok (.iload 5, 2) := by decide +kernel
theorem dX9_explore_244 : decode cX9_explore 244 = .ok (.iload 6, 2) := by decide +kernel
theorem dX9_explore_246 : decode cX9_explore 246 = .ok (.invokevirtual 223, 3) := by decide +kernel
theorem dX9_explore_249 : decode cX9_explore 249 = .ok (.iadd, 1) := by decide +kernel
theorem dX9_explore_250 : decode cX9_explore 250 = .ok (.iload_n 3, 1) := by decide +kernel
theorem dX9_explore_251 : decode cX9_explore 251 = .ok (.iload 6, 2) := by decide +kernel
theorem dX9_explore_253 : decode cX9_explore 253 = .ok (.aload_n 0, 1) := by decide +kernel
theorem dX9_explore_254 : decode cX9_explore 254 = .ok (.getfield 62, 3) := by decide +kernel
theorem dX9_explore_257 : decode cX9_explore 257 = .ok (.iload_n 3, 1) := by decide +kernel
theorem dX9_explore_258 : decode cX9_explore 258 = .ok (.iaload, 1) := by decide +kernel
theorem dX9_explore_259 : decode cX9_explore 259 = .ok (.iconst 1, 1) := by decide +kernel
theorem dX9_explore_260 : decode cX9_explore 260 = .ok (.iadd, 1) := by decide +kernel
theorem dX9_explore_261 : decode cX9_explore 261 = .ok (.invokevirtual 229, 3) := by decide +kernel
theorem dX9_explore_264 : decode cX9_explore 264 = .ok (.iinc 6 1, 3) := by decide +kernel
theorem dX9_explore_267 : decode cX9_explore 267 = .ok (.goto (-127), 3) := by decide +kernel
theorem dX9_explore_270 : decode cX9_explore 270 = .ok (.iinc 3 1, 3) := by decide +kernel
theorem dX9_explore_273 : decode cX9_explore 273 = .ok (.goto (-168), 3) := by decide +kernel
theorem dX9_explore_276 : decode cX9_explore 276 = .ok (.return_, 1) := by decide +kernel
theorem dX9_longTo_0 : decode cX9_longTo 0 = .ok (.aload_n 0, 1) := by decide +kernel
theorem dX9_longTo_1 : decode cX9_longTo 1 = .ok (.iload_n 1, 1) := by decide +kernel
theorem dX9_longTo_2 : decode cX9_longTo 2 = .ok (.invokevirtual 233, 3) := by decide +kernel
theorem dX9_longTo_5 : decode cX9_longTo 5 = .ok (.iconst 0, 1) := by decide +kernel
theorem dX9_longTo_6 : decode cX9_longTo 6 = .ok (.istore_n 3, 1) := by decide +kernel
theorem dX9_longTo_7 : decode cX9_longTo 7 = .ok (.iload_n 3, 1) := by decide +kernel
theorem dX9_longTo_8 : decode cX9_longTo 8 = .ok (.aload_n 0, 1) := by decide +kernel
theorem dX9_longTo_9 : decode cX9_longTo 9 = .ok (.getfield 226, 3) := by decide +kernel
theorem dX9_longTo_12 : decode cX9_longTo 12 = .ok (.if_icmp .ge 77, 3) := by decide +kernel
theorem dX9_longTo_15 : decode cX9_longTo 15 = .ok (.aload_n 0, 1) := by decide +kernel
theorem dX9_longTo_16 : decode cX9_longTo 16 = .ok (.getfield 53, 3) := by decide +kernel
theorem dX9_longTo_19 : decode cX9_longTo 19 = .ok (.iload_n 3, 1) := by decide +kernel
theorem dX9_longTo_20 : decode cX9_longTo 20 = .ok (.iaload, 1) := by decide +kernel
theorem dX9_longTo_21 : decode cX9_longTo 21 = .ok (.sipush 256, 3) := by decide +kernel
theorem dX9_longTo_24 : decode cX9_longTo 24 = .ok (.iload_n 2, 1) := by decide +kernel
theorem dX9_longTo_25 : decode cX9_longTo 25 = .ok (.imul, 1) := by decide +kernel
theorem dX9_longTo_26 : decode cX9_longTo 26 = .ok (.if_icmp .ne 57, 3) := by decide +kernel
theorem dX9_longTo_29 : decode cX9_longTo 29 = .ok (.aload_n 0, 1) := by decide +kernel
theorem dX9_longTo_30 : decode cX9_longTo 30 = .ok (.getfield 62, 3) := by decide +kernel
theorem dX9_longTo_33 : decode cX9_longTo 33 = .ok (.iload_n 3, 1) := by decide +kernel
theorem dX9_longTo_34 : decode cX9_longTo 34 = .ok (.iaload, 1) := by decide +kernel
theorem dX9_longTo_35 : decode cX9_longTo 35 = .ok (.istore 4, 2) := by decide +kernel
theorem dX9_longTo_37 : decode cX9_longTo 37 = .ok (.iload_n 3, 1) := by decide +kernel
theorem dX9_longTo_38 : decode cX9_longTo 38 = .ok (.istore 5, 2) := by decide +kernel
theorem dX9_longTo_40 : decode cX9_longTo 40 = .ok (.iload 4, 2) := by decide +kernel
theorem dX9_longTo_42 : decode cX9_longTo 42 = .ok (.iconst 1, 1) := by decide +kernel
theorem dX9_longTo_43 : decode cX9_longTo 43 = .ok (.isub, 1) := by decide +kernel
theorem dX9_longTo_44 : decode cX9_longTo 44 = .ok (.istore 6, 2) := by decide +kernel
theorem dX9_longTo_46 : decode cX9_longTo 46 = .ok (.iload 6, 2) := by decide +kernel
theorem dX9_longTo_48 : decode cX9_longTo 48 = .ok (.ifCond .lt 32, 3) := by decide +kernel
theorem dX9_longTo_51 : decode cX9_longTo 51 = .ok (.aload_n 0, 1) := by decide +kernel
theorem dX9_longTo_52 : decode cX9_longTo 52 = .ok (.getfield 65, 3) := by decide +kernel
theorem dX9_longTo_55 : decode cX9_longTo 55 = .ok (.iload 6, 2) := by decide +kernel
theorem dX9_longTo_57 : decode cX9_longTo 57 = .ok (.aload_n 0, 1) := by decide +kernel
theorem dX9_longTo_58 : decode cX9_longTo 58 = .ok (.getfield 59, 3) := by decide +kernel
theorem dX9_longTo_61 : decode cX9_longTo 61 = .ok (.iload 5, 2) := by decide +kernel
theorem dX9_longTo_63 : decode cX9_longTo 63 = .ok (.iaload, 1) := by decide +kernel
theorem dX9_longTo_64 : decode cX9_longTo 64 = .ok (.iastore, 1) := by decide +kernel
theorem dX9_longTo_65 : decode cX9_longTo 65 = .ok (.aload_n 0, 1) := by decide +kernel
theorem dX9_longTo_66 : decode cX9_longTo 66 = .ok (.getfield 56, 3) := by decide +kernel
theorem dX9_longTo_69 : decode cX9_longTo 69 = .ok (.iload 5, 2) := by decide +kernel
theorem dX9_longTo_71 : decode cX9_longTo 71 = .ok (.iaload, 1) := by decide +kernel
theorem dX9_longTo_72 : decode cX9_longTo 72 = .ok (.istore 5, 2) := by decide +kernel
theorem dX9_longTo_74 : decode cX9_longTo 74 = .ok (.iinc 6 (-1), 3) := by decide +kernel
theorem dX9_longTo_77 : decode cX9_longTo 77 = .ok (.goto (-31), 3) := by decide +kernel
theorem dX9_longTo_80 : decode cX9_longTo 80 = .ok (.iload 4, 2) := by decide +kernel
theorem dX9_longTo_82 : decode cX9_longTo 82 = .ok (.ireturn, 1) := by decide +kernel
theorem dX9_longTo_83 : decode cX9_longTo 83 = .ok (.iinc 3 1, 3) := by decide +kernel
theorem dX9_longTo_86 : decode cX9_longTo 86 = .ok (.goto (-79), 3) := by decide +kernel
theorem dX9_longTo_89 : decode cX9_longTo 89 = .ok (.bipush (-5), 2) := by decide +kernel
theorem dX9_longTo_91 : decode cX9_longTo 91 = .ok (.ireturn, 1) := by decide +kernel
theorem dX9_reach_0 : decode cX9_reach 0 = .ok (.aload_n 0, 1) := by decide +kernel
theorem dX9_reach_1 : decode cX9_reach 1 = .ok (.iload_n 1, 1) := by decide +kernel
theorem dX9_reach_2 : decode cX9_reach 2 = .ok (.invokevirtual 233, 3) := by decide +kernel
theorem dX9_reach_5 : decode cX9_reach 5 = .ok (.iconst 0, 1) := by decide +kernel
theorem dX9_reach_6 : decode cX9_reach 6 = .ok (.istore_n 2, 1) := by decide +kernel
theorem dX9_reach_7 : decode cX9_reach 7 = .ok (.iconst 0, 1) := by decide +kernel
theorem dX9_reach_8 : decode cX9_reach 8 = .ok (.istore_n 3, 1) := by decide +kernel
theorem dX9_reach_9 : decode cX9_reach 9 = .ok (.iload_n 3, 1) := by decide +kernel
theorem dX9_reach_10 : decode cX9_reach 10 = .ok (.bipush 6, 2) := by decide +kernel
theorem dX9_reach_12 : decode cX9_reach 12 = .ok (.if_icmp .ge 32, 3) := by decide +kernel
theorem dX9_reach_15 : decode cX9_reach 15 = .ok (.iload_n 2, 1) := by decide +kernel
theorem dX9_reach_16 : decode cX9_reach 16 = .ok (.aload_n 0, 1) := by decide +kernel
theorem dX9_reach_17 : decode cX9_reach 17 = .ok (.getfield 49, 3) := by decide +kernel
theorem dX9_reach_20 : decode cX9_reach 20 = .ok (.sipush 256, 3) := by decide +kernel
theorem dX9_reach_23 : decode cX9_reach 23 = .ok (.iload_n 3, 1) := by decide +kernel
theorem dX9_reach_24 : decode cX9_reach 24 = .ok (.imul, 1) := by decide +kernel
theorem dX9_reach_25 : decode cX9_reach 25 = .ok (.baload, 1) := by decide +kernel
theorem dX9_reach_26 : decode cX9_reach 26 = .ok (.ifCond .eq 9, 3) := by decide +kernel
theorem dX9_reach_29 : decode cX9_reach 29 = .ok (.iconst 1, 1) := by decide +kernel
theorem dX9_reach_30 : decode cX9_reach 30 = .ok (.iload_n 3, 1) := by decide +kernel
theorem dX9_reach_31 : decode cX9_reach 31 = .ok (.ishl, 1) := by decide +kernel
theorem dX9_reach_32 : decode cX9_reach 32 = .ok (.goto 4, 3) := by decide +kernel
theorem dX9_reach_35 : decode cX9_reach 35 = .ok (.iconst 0, 1) := by decide +kernel
theorem dX9_reach_36 : decode cX9_reach 36 = .ok (.ior, 1) := by decide +kernel
theorem dX9_reach_37 : decode cX9_reach 37 = .ok (.istore_n 2, 1) := by decide +kernel
theorem dX9_reach_38 : decode cX9_reach 38 = .ok (.iinc 3 1, 3) := by decide +kernel
theorem dX9_reach_41 : decode cX9_reach 41 = .ok (.goto (-32), 3) := by decide +kernel
theorem dX9_reach_44 : decode cX9_reach 44 = .ok (.iload_n 2, 1) := by decide +kernel
theorem dX9_reach_45 : decode cX9_reach 45 = .ok (.ireturn, 1) := by decide +kernel
theorem dX9_hour_0 : decode cX9_hour 0 = .ok (.aload_n 0, 1) := by decide +kernel
theorem dX9_hour_1 : decode cX9_hour 1 = .ok (.iconst 0, 1) := by decide +kernel
theorem dX9_hour_2 : decode cX9_hour 2 = .ok (.iconst 0, 1) := by decide +kernel
theorem dX9_hour_3 : decode cX9_hour 3 = .ok (.invokevirtual 211, 3) := by decide +kernel
theorem dX9_hour_6 : decode cX9_hour 6 = .ok (.aload_n 0, 1) := by decide +kernel
theorem dX9_hour_7 : decode cX9_hour 7 = .ok (.getfield 9, 3) := by decide +kernel
theorem dX9_hour_10 : decode cX9_hour 10 = .ok (.bipush 94, 2) := by decide +kernel
theorem dX9_hour_12 : decode cX9_hour 12 = .ok (.iaload, 1) := by decide +kernel
theorem dX9_hour_13 : decode cX9_hour 13 = .ok (.bipush 10, 2) := by decide +kernel
theorem dX9_hour_15 : decode cX9_hour 15 = .ok (.irem, 1) := by decide +kernel
theorem dX9_hour_16 : decode cX9_hour 16 = .ok (.aload_n 0, 1) := by decide +kernel
theorem dX9_hour_17 : decode cX9_hour 17 = .ok (.getfield 193, 3) := by decide +kernel
theorem dX9_hour_20 : decode cX9_hour 20 = .ok (.if_icmp .ge 7, 3) := by decide +kernel
theorem dX9_hour_23 : decode cX9_hour 23 = .ok (.iconst 1, 1) := by decide +kernel
theorem dX9_hour_24 : decode cX9_hour 24 = .ok (.goto 4, 3) := by decide +kernel
theorem dX9_hour_27 : decode cX9_hour 27 = .ok (.iconst 0, 1) := by decide +kernel
theorem dX9_hour_28 : decode cX9_hour 28 = .ok (.istore_n 1, 1) := by decide +kernel
theorem dX9_hour_29 : decode cX9_hour 29 = .ok (.iconst 0, 1) := by decide +kernel
theorem dX9_hour_30 : decode cX9_hour 30 = .ok (.istore_n 2, 1) := by decide +kernel
theorem dX9_hour_31 : decode cX9_hour 31 = .ok (.iload_n 2, 1) := by decide +kernel
theorem dX9_hour_32 : decode cX9_hour 32 = .ok (.aload_n 0, 1) := by decide +kernel
theorem dX9_hour_33 : decode cX9_hour 33 = .ok (.getfield 9, 3) := by decide +kernel
theorem dX9_hour_36 : decode cX9_hour 36 = .ok (.bipush 92, 2) := by decide +kernel
theorem dX9_hour_38 : decode cX9_hour 38 = .ok (.iaload, 1) := by decide +kernel
theorem dX9_hour_39 : decode cX9_hour 39 = .ok (.if_icmp .ge 54, 3) := by decide +kernel
theorem dX9_hour_42 : decode cX9_hour 42 = .ok (.iload_n 1, 1) := by decide +kernel
theorem dX9_hour_43 : decode cX9_hour 43 = .ok (.ifCond .ne 50, 3) := by decide +kernel
theorem dX9_hour_46 : decode cX9_hour 46 = .ok (.aload_n 0, 1) := by decide +kernel
theorem dX9_hour_47 : decode cX9_hour 47 = .ok (.iload_n 2, 1) := by decide +kernel
theorem dX9_hour_48 : decode cX9_hour 48 = .ok (.iconst 4, 1) := by decide +kernel
theorem dX9_hour_49 : decode cX9_hour 49 = .ok (.invokevirtual 102, 3) := by decide +kernel
theorem dX9_hour_52 : decode cX9_hour 52 = .ok (.istore_n 3, 1) := by decide +kernel
theorem dX9_hour_53 : decode cX9_hour 53 = .ok (.iload_n 3, 1) := by decide +kernel
theorem dX9_hour_54 : decode cX9_hour 54 = .ok (.iconst (-1), 1) := by decide +kernel
theorem dX9_hour_55 : decode cX9_hour 55 = .ok (.if_icmp .eq 32, 3) := by decide +kernel
theorem dX9_hour_58 : decode cX9_hour 58 = .ok (.aload_n 0, 1) := by decide +kernel
theorem dX9_hour_59 : decode cX9_hour 59 = .ok (.iload_n 2, 1) := by decide +kernel
theorem dX9_hour_60 : decode cX9_hour 60 = .ok (.iload_n 3, 1) := by decide +kernel
theorem dX9_hour_61 : decode cX9_hour 61 = .ok (.invokevirtual 236, 3) := by decide +kernel
theorem dX9_hour_64 : decode cX9_hour 64 = .ok (.ifCond .ne 23, 3) := by decide +kernel
theorem dX9_hour_67 : decode cX9_hour 67 = .ok (.aload_n 0, 1) := by decide +kernel
theorem dX9_hour_68 : decode cX9_hour 68 = .ok (.iload_n 2, 1) := by decide +kernel
theorem dX9_hour_69 : decode cX9_hour 69 = .ok (.iload_n 3, 1) := by decide +kernel
theorem dX9_hour_70 : decode cX9_hour 70 = .ok (.invokevirtual 239, 3) := by decide +kernel
theorem dX9_hour_73 : decode cX9_hour 73 = .ok (.ifCond .le 14, 3) := by decide +kernel
theorem dX9_hour_76 : decode cX9_hour 76 = .ok (.aload_n 0, 1) := by decide +kernel
theorem dX9_hour_77 : decode cX9_hour 77 = .ok (.iload_n 2, 1) := by decide +kernel
theorem dX9_hour_78 : decode cX9_hour 78 = .ok (.aload_n 0, 1) := by decide +kernel
theorem dX9_hour_79 : decode cX9_hour 79 = .ok (.getfield 65, 3) := by decide +kernel
theorem dX9_hour_82 : decode cX9_hour 82 = .ok (.iconst 0, 1) := by decide +kernel
theorem dX9_hour_83 : decode cX9_hour 83 = .ok (.iaload, 1) := by decide +kernel
theorem dX9_hour_84 : decode cX9_hour 84 = .ok (.invokevirtual 139, 3) := by decide +kernel
theorem dX9_hour_87 : decode cX9_hour 87 = .ok (.iinc 2 1, 3) := by decide +kernel
theorem dX9_hour_90 : decode cX9_hour 90 = .ok (.goto (-59), 3) := by decide +kernel
theorem dX9_hour_93 : decode cX9_hour 93 = .ok (.aload_n 0, 1) := by decide +kernel
theorem dX9_hour_94 : decode cX9_hour 94 = .ok (.getfield 9, 3) := by decide +kernel
theorem dX9_hour_97 : decode cX9_hour 97 = .ok (.bipush 94, 2) := by decide +kernel
theorem dX9_hour_99 : decode cX9_hour 99 = .ok (.dup2, 1) := by decide +kernel
theorem dX9_hour_100 : decode cX9_hour 100 = .ok (.iaload, 1) := by decide +kernel
theorem dX9_hour_101 : decode cX9_hour 101 = .ok (.iconst 1, 1) := by decide +kernel
theorem dX9_hour_102 : decode cX9_hour 102 = .ok (.iadd, 1) := by decide +kernel
theorem dX9_hour_103 : decode cX9_hour 103 = .ok (.iastore, 1) := by decide +kernel
theorem dX9_hour_104 : decode cX9_hour 104 = .ok (.return_, 1) := by decide +kernel
theorem dX9_hours_0 : decode cX9_hours 0 = .ok (.iconst 0, 1) := by decide +kernel
theorem dX9_hours_1 : decode cX9_hours 1 = .ok (.istore_n 2, 1) := by decide +kernel
theorem dX9_hours_2 : decode cX9_hours 2 = .ok (.iload_n 2, 1) := by decide +kernel
theorem dX9_hours_3 : decode cX9_hours 3 = .ok (.iload_n 1, 1) := by decide +kernel
theorem dX9_hours_4 : decode cX9_hours 4 = .ok (.if_icmp .ge 13, 3) := by decide +kernel
theorem dX9_hours_7 : decode cX9_hours 7 = .ok (.aload_n 0, 1) := by decide +kernel
theorem dX9_hours_8 : decode cX9_hours 8 = .ok (.invokevirtual 242, 3) := by decide +kernel
theorem dX9_hours_11 : decode cX9_hours 11 = .ok (.iinc 2 1, 3) := by decide +kernel
theorem dX9_hours_14 : decode cX9_hours 14 = .ok (.goto (-12), 3) := by decide +kernel
theorem dX9_hours_17 : decode cX9_hours 17 = .ok (.return_, 1) := by decide +kernel
theorem dX9_isDone_0 : decode cX9_isDone 0 = .ok (.aload_n 0, 1) := by decide +kernel
theorem dX9_isDone_1 : decode cX9_isDone 1 = .ok (.iload_n 1, 1) := by decide +kernel
theorem dX9_isDone_2 : decode cX9_isDone 2 = .ok (.iconst 4, 1) := by decide +kernel
theorem dX9_isDone_3 : decode cX9_isDone 3 = .ok (.invokevirtual 102, 3) := by decide +kernel
theorem dX9_isDone_6 : decode cX9_isDone 6 = .ok (.iconst (-1), 1) := by decide +kernel
theorem dX9_isDone_7 : decode cX9_isDone 7 = .ok (.if_icmp .eq 21, 3) := by decide +kernel
theorem dX9_isDone_10 : decode cX9_isDone 10 = .ok (.aload_n 0, 1) := by decide +kernel
theorem dX9_isDone_11 : decode cX9_isDone 11 = .ok (.iload_n 1, 1) := by decide +kernel
theorem dX9_isDone_12 : decode cX9_isDone 12 = .ok (.aload_n 0, 1) := by decide +kernel
theorem dX9_isDone_13 : decode cX9_isDone 13 = .ok (.iload_n 1, 1) := by decide +kernel
theorem dX9_isDone_14 : decode cX9_isDone 14 = .ok (.iconst 4, 1) := by decide +kernel
theorem dX9_isDone_15 : decode cX9_isDone 15 = .ok (.invokevirtual 102, 3) := by decide +kernel
theorem dX9_isDone_18 : decode cX9_isDone 18 = .ok (.invokevirtual 236, 3) := by decide +kernel
theorem dX9_isDone_21 : decode cX9_isDone 21 = .ok (.ifCond .eq 7, 3) := by decide +kernel
theorem dX9_isDone_24 : decode cX9_isDone 24 = .ok (.iconst 1, 1) := by decide +kernel
theorem dX9_isDone_25 : decode cX9_isDone 25 = .ok (.goto 4, 3) := by decide +kernel
theorem dX9_isDone_28 : decode cX9_isDone 28 = .ok (.iconst 0, 1) := by decide +kernel
theorem dX9_isDone_29 : decode cX9_isDone 29 = .ok (.ireturn, 1) := by decide +kernel
theorem dX9_dones_0 : decode cX9_dones 0 = .ok (.iconst 0, 1) := by decide +kernel
theorem dX9_dones_1 : decode cX9_dones 1 = .ok (.istore_n 1, 1) := by decide +kernel
theorem dX9_dones_2 : decode cX9_dones 2 = .ok (.iconst 0, 1) := by decide +kernel
theorem dX9_dones_3 : decode cX9_dones 3 = .ok (.istore_n 2, 1) := by decide +kernel
theorem dX9_dones_4 : decode cX9_dones 4 = .ok (.iload_n 2, 1) := by decide +kernel
theorem dX9_dones_5 : decode cX9_dones 5 = .ok (.aload_n 0, 1) := by decide +kernel
theorem dX9_dones_6 : decode cX9_dones 6 = .ok (.getfield 9, 3) := by decide +kernel
theorem dX9_dones_9 : decode cX9_dones 9 = .ok (.bipush 92, 2) := by decide +kernel
theorem dX9_dones_11 : decode cX9_dones 11 = .ok (.iaload, 1) := by decide +kernel
theorem dX9_dones_12 : decode cX9_dones 12 = .ok (.if_icmp .ge 27, 3) := by decide +kernel
theorem dX9_dones_15 : decode cX9_dones 15 = .ok (.iload_n 1, 1) := by decide +kernel
theorem dX9_dones_16 : decode cX9_dones 16 = .ok (.aload_n 0, 1) := by decide +kernel
theorem dX9_dones_17 : decode cX9_dones 17 = .ok (.iload_n 2, 1) := by decide +kernel
theorem dX9_dones_18 : decode cX9_dones 18 = .ok (.invokevirtual 245, 3) := by decide +kernel
theorem dX9_dones_21 : decode cX9_dones 21 = .ok (.ifCond .eq 9, 3) := by decide +kernel
theorem dX9_dones_24 : decode cX9_dones 24 = .ok (.iconst 1, 1) := by decide +kernel
theorem dX9_dones_25 : decode cX9_dones 25 = .ok (.iload_n 2, 1) := by decide +kernel
theorem dX9_dones_26 : decode cX9_dones 26 = .ok (.ishl, 1) := by decide +kernel
theorem dX9_dones_27 : decode cX9_dones 27 = .ok (.goto 4, 3) := by decide +kernel
theorem dX9_dones_30 : decode cX9_dones 30 = .ok (.iconst 0, 1) := by decide +kernel
theorem dX9_dones_31 : decode cX9_dones 31 = .ok (.ior, 1) := by decide +kernel
theorem dX9_dones_32 : decode cX9_dones 32 = .ok (.istore_n 1, 1) := by decide +kernel
theorem dX9_dones_33 : decode cX9_dones 33 = .ok (.iinc 2 1, 3) := by decide +kernel
theorem dX9_dones_36 : decode cX9_dones 36 = .ok (.goto (-32), 3) := by decide +kernel
theorem dX9_dones_39 : decode cX9_dones 39 = .ok (.iload_n 1, 1) := by decide +kernel
theorem dX9_dones_40 : decode cX9_dones 40 = .ok (.ireturn, 1) := by decide +kernel
theorem dX9_halves_0 : decode cX9_halves 0 = .ok (.iconst 0, 1) := by decide +kernel
theorem dX9_halves_1 : decode cX9_halves 1 = .ok (.istore_n 1, 1) := by decide +kernel
theorem dX9_halves_2 : decode cX9_halves 2 = .ok (.iconst 0, 1) := by decide +kernel
theorem dX9_halves_3 : decode cX9_halves 3 = .ok (.istore_n 2, 1) := by decide +kernel
theorem dX9_halves_4 : decode cX9_halves 4 = .ok (.iload_n 2, 1) := by decide +kernel
theorem dX9_halves_5 : decode cX9_halves 5 = .ok (.aload_n 0, 1) := by decide +kernel
theorem dX9_halves_6 : decode cX9_halves 6 = .ok (.getfield 9, 3) := by decide +kernel
theorem dX9_halves_9 : decode cX9_halves 9 = .ok (.bipush 92, 2) := by decide +kernel
theorem dX9_halves_11 : decode cX9_halves 11 = .ok (.iaload, 1) := by decide +kernel
theorem dX9_halves_12 : decode cX9_halves 12 = .ok (.if_icmp .ge 21, 3) := by decide +kernel
theorem dX9_halves_15 : decode cX9_halves 15 = .ok (.iload_n 1, 1) := by decide +kernel
theorem dX9_halves_16 : decode cX9_halves 16 = .ok (.aload_n 0, 1) := by decide +kernel
theorem dX9_halves_17 : decode cX9_halves 17 = .ok (.iload_n 2, 1) := by decide +kernel
theorem dX9_halves_18 : decode cX9_halves 18 = .ok (.iconst 5, 1) := by decide +kernel
theorem dX9_halves_19 : decode cX9_halves 19 = .ok (.invokevirtual 102, 3) := by decide +kernel
theorem dX9_halves_22 : decode cX9_halves 22 = .ok (.invokestatic 202, 3) := by decide +kernel
theorem dX9_halves_25 : decode cX9_halves 25 = .ok (.iadd, 1) := by decide +kernel
theorem dX9_halves_26 : decode cX9_halves 26 = .ok (.istore_n 1, 1) := by decide +kernel
theorem dX9_halves_27 : decode cX9_halves 27 = .ok (.iinc 2 1, 3) := by decide +kernel
theorem dX9_halves_30 : decode cX9_halves 30 = .ok (.goto (-26), 3) := by decide +kernel
theorem dX9_halves_33 : decode cX9_halves 33 = .ok (.iload_n 1, 1) := by decide +kernel
theorem dX9_halves_34 : decode cX9_halves 34 = .ok (.ireturn, 1) := by decide +kernel
theorem dX9_done_0 : decode cX9_done 0 = .ok (.aload_n 0, 1) := by decide +kernel
theorem dX9_done_1 : decode cX9_done 1 = .ok (.getfield 9, 3) := by decide +kernel
theorem dX9_done_4 : decode cX9_done 4 = .ok (.aload_n 0, 1) := by decide +kernel
theorem dX9_done_5 : decode cX9_done 5 = .ok (.getfield 15, 3) := by decide +kernel
theorem dX9_done_8 : decode cX9_done 8 = .ok (.invokestatic 94, 3) := by decide +kernel
theorem dX9_done_11 : decode cX9_done 11 = .ok (.bipush (-5), 2) := by decide +kernel
theorem dX9_done_13 : decode cX9_done 13 = .ok (.istore_n 2, 1) := by decide +kernel
theorem dX9_done_14 : decode cX9_done 14 = .ok (.iconst 0, 1) := by decide +kernel
theorem dX9_done_15 : decode cX9_done 15 = .ok (.istore_n 3, 1) := by decide +kernel
theorem dX9_done_16 : decode cX9_done 16 = .ok (.iload_n 3, 1) := by decide +kernel
theorem dX9_done_17 : decode cX9_done 17 = .ok (.bipush 20, 2) := by decide +kernel
theorem dX9_done_19 : decode cX9_done 19 = .ok (.if_icmp .gt 34, 3) := by decide +kernel
theorem dX9_done_22 : decode cX9_done 22 = .ok (.iload_n 2, 1) := by decide +kernel
theorem dX9_done_23 : decode cX9_done 23 = .ok (.bipush (-5), 2) := by decide +kernel
theorem dX9_done_25 : decode cX9_done 25 = .ok (.if_icmp .ne 28, 3) := by decide +kernel
theorem dX9_done_28 : decode cX9_done 28 = .ok (.aload_n 0, 1) := by decide +kernel
theorem dX9_done_29 : decode cX9_done 29 = .ok (.iload_n 1, 1) := by decide +kernel
theorem dX9_done_30 : decode cX9_done 30 = .ok (.invokevirtual 245, 3) := by decide +kernel
theorem dX9_done_33 : decode cX9_done 33 = .ok (.ifCond .eq 7, 3) := by decide +kernel
theorem dX9_done_36 : decode cX9_done 36 = .ok (.iload_n 3, 1) := by decide +kernel
theorem dX9_done_37 : decode cX9_done 37 = .ok (.goto 5, 3) := by decide +kernel
theorem dX9_done_40 : decode cX9_done 40 = .ok (.bipush (-5), 2) := by decide +kernel
theorem dX9_done_42 : decode cX9_done 42 = .ok (.istore_n 2, 1) := by decide +kernel
theorem dX9_done_43 : decode cX9_done 43 = .ok (.aload_n 0, 1) := by decide +kernel
theorem dX9_done_44 : decode cX9_done 44 = .ok (.invokevirtual 242, 3) := by decide +kernel
theorem dX9_done_47 : decode cX9_done 47 = .ok (.iinc 3 1, 3) := by decide +kernel
theorem dX9_done_50 : decode cX9_done 50 = .ok (.goto (-34), 3) := by decide +kernel
theorem dX9_done_53 : decode cX9_done 53 = .ok (.aload_n 0, 1) := by decide +kernel
theorem dX9_done_54 : decode cX9_done 54 = .ok (.getfield 15, 3) := by decide +kernel
theorem dX9_done_57 : decode cX9_done 57 = .ok (.aload_n 0, 1) := by decide +kernel
theorem dX9_done_58 : decode cX9_done 58 = .ok (.getfield 9, 3) := by decide +kernel
theorem dX9_done_61 : decode cX9_done 61 = .ok (.invokestatic 94, 3) := by decide +kernel
theorem dX9_done_64 : decode cX9_done 64 = .ok (.iload_n 2, 1) := by decide +kernel
theorem dX9_done_65 : decode cX9_done 65 = .ok (.ireturn, 1) := by decide +kernel
theorem dX9_told_0 : decode cX9_told 0 = .ok (.iconst 0, 1) := by decide +kernel
theorem dX9_told_1 : decode cX9_told 1 = .ok (.istore_n 2, 1) := by decide +kernel
theorem dX9_told_2 : decode cX9_told 2 = .ok (.iload_n 1, 1) := by decide +kernel
theorem dX9_told_3 : decode cX9_told 3 = .ok (.tableswitch 101 0 4 #[33, 41, 52, 57, 62], 33) := by decide +kernel
theorem dX9_told_36 : decode cX9_told 36 = .ok (.aload_n 0, 1) := by decide +kernel
theorem dX9_told_37 : decode cX9_told 37 = .ok (.getfield 9, 3) := by decide +kernel
theorem dX9_told_40 : decode cX9_told 40 = .ok (.bipush 94, 2) := by decide +kernel
theorem dX9_told_42 : decode cX9_told 42 = .ok (.iaload, 1) := by decide +kernel
theorem dX9_told_43 : decode cX9_told 43 = .ok (.ireturn, 1) := by decide +kernel
theorem dX9_told_44 : decode cX9_told 44 = .ok (.aload_n 0, 1) := by decide +kernel
theorem dX9_told_45 : decode cX9_told 45 = .ok (.iconst 0, 1) := by decide +kernel
theorem dX9_told_46 : decode cX9_told 46 = .ok (.iconst 0, 1) := by decide +kernel
theorem dX9_told_47 : decode cX9_told 47 = .ok (.invokevirtual 211, 3) := by decide +kernel
theorem dX9_told_50 : decode cX9_told 50 = .ok (.aload_n 0, 1) := by decide +kernel
theorem dX9_told_51 : decode cX9_told 51 = .ok (.getfield 193, 3) := by decide +kernel
theorem dX9_told_54 : decode cX9_told 54 = .ok (.ireturn, 1) := by decide +kernel
theorem dX9_told_55 : decode cX9_told 55 = .ok (.aload_n 0, 1) := by decide +kernel
theorem dX9_told_56 : decode cX9_told 56 = .ok (.invokevirtual 248, 3) := by decide +kernel
theorem dX9_told_59 : decode cX9_told 59 = .ok (.ireturn, 1) := by decide +kernel
theorem dX9_told_60 : decode cX9_told 60 = .ok (.aload_n 0, 1) := by decide +kernel
theorem dX9_told_61 : decode cX9_told 61 = .ok (.invokevirtual 251, 3) := by decide +kernel
theorem dX9_told_64 : decode cX9_told 64 = .ok (.ireturn, 1) := by decide +kernel
theorem dX9_told_65 : decode cX9_told 65 = .ok (.iconst 0, 1) := by decide +kernel
theorem dX9_told_66 : decode cX9_told 66 = .ok (.istore_n 3, 1) := by decide +kernel
theorem dX9_told_67 : decode cX9_told 67 = .ok (.iload_n 3, 1) := by decide +kernel
theorem dX9_told_68 : decode cX9_told 68 = .ok (.aload_n 0, 1) := by decide +kernel
theorem dX9_told_69 : decode cX9_told 69 = .ok (.getfield 9, 3) := by decide +kernel
theorem dX9_told_72 : decode cX9_told 72 = .ok (.bipush 93, 2) := by decide +kernel
theorem dX9_told_74 : decode cX9_told 74 = .ok (.iaload, 1) := by decide +kernel
theorem dX9_told_75 : decode cX9_told 75 = .ok (.if_icmp .ge 27, 3) := by decide +kernel
theorem dX9_told_78 : decode cX9_told 78 = .ok (.iload_n 2, 1) := by decide +kernel
theorem dX9_told_79 : decode cX9_told 79 = .ok (.aload_n 0, 1) := by decide +kernel
theorem dX9_told_80 : decode cX9_told 80 = .ok (.iload_n 3, 1) := by decide +kernel
theorem dX9_told_81 : decode cX9_told 81 = .ok (.invokevirtual 214, 3) := by decide +kernel
theorem dX9_told_84 : decode cX9_told 84 = .ok (.ifCond .eq 9, 3) := by decide +kernel
theorem dX9_told_87 : decode cX9_told 87 = .ok (.iconst 1, 1) := by decide +kernel
theorem dX9_told_88 : decode cX9_told 88 = .ok (.iload_n 3, 1) := by decide +kernel
theorem dX9_told_89 : decode cX9_told 89 = .ok (.ishl, 1) := by decide +kernel
theorem dX9_told_90 : decode cX9_told 90 = .ok (.goto 4, 3) := by decide +kernel
theorem dX9_told_93 : decode cX9_told 93 = .ok (.iconst 0, 1) := by decide +kernel
theorem dX9_told_94 : decode cX9_told 94 = .ok (.ior, 1) := by decide +kernel
theorem dX9_told_95 : decode cX9_told 95 = .ok (.istore_n 2, 1) := by decide +kernel
theorem dX9_told_96 : decode cX9_told 96 = .ok (.iinc 3 1, 3) := by decide +kernel
theorem dX9_told_99 : decode cX9_told 99 = .ok (.goto (-32), 3) := by decide +kernel
theorem dX9_told_102 : decode cX9_told 102 = .ok (.iload_n 2, 1) := by decide +kernel
theorem dX9_told_103 : decode cX9_told 103 = .ok (.ireturn, 1) := by decide +kernel
theorem dX9_told_104 : decode cX9_told 104 = .ok (.iconst (-1), 1) := by decide +kernel
theorem dX9_told_105 : decode cX9_told 105 = .ok (.ireturn, 1) := by decide +kernel
theorem dX9_pass_0 : decode cX9_pass 0 = .ok (.iload_n 1, 1) := by decide +kernel
theorem dX9_pass_1 : decode cX9_pass 1 = .ok (.iconst 0, 1) := by decide +kernel
theorem dX9_pass_2 : decode cX9_pass 2 = .ok (.bipush 12, 2) := by decide +kernel
theorem dX9_pass_4 : decode cX9_pass 4 = .ok (.invokestatic 98, 3) := by decide +kernel
theorem dX9_pass_7 : decode cX9_pass 7 = .ok (.ifCond .ne 6, 3) := by decide +kernel
theorem dX9_pass_10 : decode cX9_pass 10 = .ok (.bipush (-2), 2) := by decide +kernel
theorem dX9_pass_12 : decode cX9_pass 12 = .ok (.ireturn, 1) := by decide +kernel
theorem dX9_pass_13 : decode cX9_pass 13 = .ok (.aload_n 0, 1) := by decide +kernel
theorem dX9_pass_14 : decode cX9_pass 14 = .ok (.getfield 9, 3) := by decide +kernel
theorem dX9_pass_17 : decode cX9_pass 17 = .ok (.bipush 94, 2) := by decide +kernel
theorem dX9_pass_19 : decode cX9_pass 19 = .ok (.iaload, 1) := by decide +kernel
theorem dX9_pass_20 : decode cX9_pass 20 = .ok (.iload_n 1, 1) := by decide +kernel
theorem dX9_pass_21 : decode cX9_pass 21 = .ok (.iadd, 1) := by decide +kernel
theorem dX9_pass_22 : decode cX9_pass 22 = .ok (.sipush 9999, 3) := by decide +kernel
theorem dX9_pass_25 : decode cX9_pass 25 = .ok (.if_icmp .le 6, 3) := by decide +kernel
theorem dX9_pass_28 : decode cX9_pass 28 = .ok (.bipush (-3), 2) := by decide +kernel
theorem dX9_pass_30 : decode cX9_pass 30 = .ok (.ireturn, 1) := by decide +kernel
theorem dX9_pass_31 : decode cX9_pass 31 = .ok (.aload_n 0, 1) := by decide +kernel
theorem dX9_pass_32 : decode cX9_pass 32 = .ok (.iload_n 1, 1) := by decide +kernel
theorem dX9_pass_33 : decode cX9_pass 33 = .ok (.invokevirtual 254, 3) := by decide +kernel
theorem dX9_pass_36 : decode cX9_pass 36 = .ok (.aload_n 0, 1) := by decide +kernel
theorem dX9_pass_37 : decode cX9_pass 37 = .ok (.getfield 9, 3) := by decide +kernel
theorem dX9_pass_40 : decode cX9_pass 40 = .ok (.bipush 94, 2) := by decide +kernel
theorem dX9_pass_42 : decode cX9_pass 42 = .ok (.iaload, 1) := by decide +kernel
theorem dX9_pass_43 : decode cX9_pass 43 = .ok (.ireturn, 1) := by decide +kernel
theorem dX9_on_0 : decode cX9_on 0 = .ok (.iload_n 2, 1) := by decide +kernel
theorem dX9_on_1 : decode cX9_on 1 = .ok (.ifCond .eq 38, 3) := by decide +kernel
theorem dX9_on_4 : decode cX9_on 4 = .ok (.aload_n 0, 1) := by decide +kernel
theorem dX9_on_5 : decode cX9_on 5 = .ok (.iload_n 2, 1) := by decide +kernel
theorem dX9_on_6 : decode cX9_on 6 = .ok (.bipush 10, 2) := by decide +kernel
theorem dX9_on_8 : decode cX9_on 8 = .ok (.isub, 1) := by decide +kernel
theorem dX9_on_9 : decode cX9_on 9 = .ok (.invokevirtual 114, 3) := by decide +kernel
theorem dX9_on_12 : decode cX9_on 12 = .ok (.ifCond .ne 27, 3) := by decide +kernel
theorem dX9_on_15 : decode cX9_on 15 = .ok (.aload_n 0, 1) := by decide +kernel
theorem dX9_on_16 : decode cX9_on 16 = .ok (.iload_n 2, 1) := by decide +kernel
theorem dX9_on_17 : decode cX9_on 17 = .ok (.bipush 20, 2) := by decide +kernel
theorem dX9_on_19 : decode cX9_on 19 = .ok (.isub, 1) := by decide +kernel
theorem dX9_on_20 : decode cX9_on 20 = .ok (.invokevirtual 114, 3) := by decide +kernel
theorem dX9_on_23 : decode cX9_on 23 = .ok (.ifCond .ne 16, 3) := by decide +kernel
theorem dX9_on_26 : decode cX9_on 26 = .ok (.aload_n 0, 1) := by decide +kernel
theorem dX9_on_27 : decode cX9_on 27 = .ok (.iload_n 2, 1) := by decide +kernel
theorem dX9_on_28 : decode cX9_on 28 = .ok (.bipush 30, 2) := by decide +kernel
theorem dX9_on_30 : decode cX9_on 30 = .ok (.isub, 1) := by decide +kernel
theorem dX9_on_31 : decode cX9_on 31 = .ok (.invokevirtual 114, 3) := by decide +kernel
theorem dX9_on_34 : decode cX9_on 34 = .ok (.ifCond .ne 5, 3) := by decide +kernel
theorem dX9_on_37 : decode cX9_on 37 = .ok (.iconst (-1), 1) := by decide +kernel
theorem dX9_on_38 : decode cX9_on 38 = .ok (.ireturn, 1) := by decide +kernel
theorem dX9_on_39 : decode cX9_on 39 = .ok (.iload_n 1, 1) := by decide +kernel
theorem dX9_on_40 : decode cX9_on 40 = .ok (.iconst 0, 1) := by decide +kernel
theorem dX9_on_41 : decode cX9_on 41 = .ok (.bipush 12, 2) := by decide +kernel
theorem dX9_on_43 : decode cX9_on 43 = .ok (.invokestatic 98, 3) := by decide +kernel
theorem dX9_on_46 : decode cX9_on 46 = .ok (.ifCond .ne 6, 3) := by decide +kernel
theorem dX9_on_49 : decode cX9_on 49 = .ok (.bipush (-2), 2) := by decide +kernel
theorem dX9_on_51 : decode cX9_on 51 = .ok (.ireturn, 1) := by decide +kernel
theorem dX9_on_52 : decode cX9_on 52 = .ok (.aload_n 0, 1) := by decide +kernel
theorem dX9_on_53 : decode cX9_on 53 = .ok (.getfield 9, 3) := by decide +kernel
theorem dX9_on_56 : decode cX9_on 56 = .ok (.aload_n 0, 1) := by decide +kernel
theorem dX9_on_57 : decode cX9_on 57 = .ok (.getfield 15, 3) := by decide +kernel
theorem dX9_on_60 : decode cX9_on 60 = .ok (.invokestatic 94, 3) := by decide +kernel
theorem dX9_on_63 : decode cX9_on 63 = .ok (.aload_n 0, 1) := by decide +kernel
theorem dX9_on_64 : decode cX9_on 64 = .ok (.iload_n 1, 1) := by decide +kernel
theorem dX9_on_65 : decode cX9_on 65 = .ok (.invokevirtual 254, 3) := by decide +kernel
theorem dX9_on_68 : decode cX9_on 68 = .ok (.iload_n 2, 1) := by decide +kernel
theorem dX9_on_69 : decode cX9_on 69 = .ok (.ifCond .ne 10, 3) := by decide +kernel
theorem dX9_on_72 : decode cX9_on 72 = .ok (.aload_n 0, 1) := by decide +kernel
theorem dX9_on_73 : decode cX9_on 73 = .ok (.invokevirtual 248, 3) := by decide +kernel
theorem dX9_on_76 : decode cX9_on 76 = .ok (.goto 48, 3) := by decide +kernel
theorem dX9_on_79 : decode cX9_on 79 = .ok (.iload_n 2, 1) := by decide +kernel
theorem dX9_on_80 : decode cX9_on 80 = .ok (.bipush 20, 2) := by decide +kernel
theorem dX9_on_82 : decode cX9_on 82 = .ok (.if_icmp .ge 15, 3) := by decide +kernel
theorem dX9_on_85 : decode cX9_on 85 = .ok (.aload_n 0, 1) := by decide +kernel
theorem dX9_on_86 : decode cX9_on 86 = .ok (.iload_n 2, 1) := by decide +kernel
theorem dX9_on_87 : decode cX9_on 87 = .ok (.bipush 10, 2) := by decide +kernel
theorem dX9_on_89 : decode cX9_on 89 = .ok (.isub, 1) := by decide +kernel
theorem dX9_on_90 : decode cX9_on 90 = .ok (.iconst 2, 1) := by decide +kernel
theorem dX9_on_91 : decode cX9_on 91 = .ok (.invokevirtual 102, 3) := by decide +kernel
theorem dX9_on_94 : decode cX9_on 94 = .ok (.goto 30, 3) := by decide +kernel
theorem dX9_on_97 : decode cX9_on 97 = .ok (.iload_n 2, 1) := by decide +kernel
theorem dX9_on_98 : decode cX9_on 98 = .ok (.bipush 30, 2) := by decide +kernel
theorem dX9_on_100 : decode cX9_on 100 = .ok (.if_icmp .ge 15, 3) := by decide +kernel
theorem dX9_on_103 : decode cX9_on 103 = .ok (.aload_n 0, 1) := by decide +kernel
theorem dX9_on_104 : decode cX9_on 104 = .ok (.iload_n 2, 1) := by decide +kernel
theorem dX9_on_105 : decode cX9_on 105 = .ok (.bipush 20, 2) := by decide +kernel
theorem dX9_on_107 : decode cX9_on 107 = .ok (.isub, 1) := by decide +kernel
theorem dX9_on_108 : decode cX9_on 108 = .ok (.iconst 3, 1) := by decide +kernel
theorem dX9_on_109 : decode cX9_on 109 = .ok (.invokevirtual 102, 3) := by decide +kernel
theorem dX9_on_112 : decode cX9_on 112 = .ok (.goto 12, 3) := by decide +kernel
theorem dX9_on_115 : decode cX9_on 115 = .ok (.aload_n 0, 1) := by decide +kernel
theorem dX9_on_116 : decode cX9_on 116 = .ok (.iload_n 2, 1) := by decide +kernel
theorem dX9_on_117 : decode cX9_on 117 = .ok (.bipush 30, 2) := by decide +kernel
theorem dX9_on_119 : decode cX9_on 119 = .ok (.isub, 1) := by decide +kernel
theorem dX9_on_120 : decode cX9_on 120 = .ok (.iconst 5, 1) := by decide +kernel
theorem dX9_on_121 : decode cX9_on 121 = .ok (.invokevirtual 102, 3) := by decide +kernel
theorem dX9_on_124 : decode cX9_on 124 = .ok (.istore_n 3, 1) := by decide +kernel
theorem dX9_on_125 : decode cX9_on 125 = .ok (.aload_n 0, 1) := by decide +kernel
theorem dX9_on_126 : decode cX9_on 126 = .ok (.getfield 15, 3) := by decide +kernel
theorem dX9_on_129 : decode cX9_on 129 = .ok (.aload_n 0, 1) := by decide +kernel
theorem dX9_on_130 : decode cX9_on 130 = .ok (.getfield 9, 3) := by decide +kernel
theorem dX9_on_133 : decode cX9_on 133 = .ok (.invokestatic 94, 3) := by decide +kernel
theorem dX9_on_136 : decode cX9_on 136 = .ok (.iload_n 3, 1) := by decide +kernel
theorem dX9_on_137 : decode cX9_on 137 = .ok (.ireturn, 1) := by decide +kernel
theorem dX9_way_0 : decode cX9_way 0 = .ok (.aload_n 0, 1) := by decide +kernel
theorem dX9_way_1 : decode cX9_way 1 = .ok (.iload_n 1, 1) := by decide +kernel
theorem dX9_way_2 : decode cX9_way 2 = .ok (.invokevirtual 114, 3) := by decide +kernel
theorem dX9_way_5 : decode cX9_way 5 = .ok (.ifCond .eq 20, 3) := by decide +kernel
theorem dX9_way_8 : decode cX9_way 8 = .ok (.iload_n 2, 1) := by decide +kernel
theorem dX9_way_9 : decode cX9_way 9 = .ok (.invokestatic 106, 3) := by decide +kernel
theorem dX9_way_12 : decode cX9_way 12 = .ok (.ifCond .eq 13, 3) := by decide +kernel
theorem dX9_way_15 : decode cX9_way 15 = .ok (.iload_n 3, 1) := by decide +kernel
theorem dX9_way_16 : decode cX9_way 16 = .ok (.iconst (-1), 1) := by decide +kernel
theorem dX9_way_17 : decode cX9_way 17 = .ok (.bipush 11, 2) := by decide +kernel
theorem dX9_way_19 : decode cX9_way 19 = .ok (.invokestatic 98, 3) := by decide +kernel
theorem dX9_way_22 : decode cX9_way 22 = .ok (.ifCond .ne 5, 3) := by decide +kernel
theorem dX9_way_25 : decode cX9_way 25 = .ok (.iconst (-1), 1) := by decide +kernel
theorem dX9_way_26 : decode cX9_way 26 = .ok (.ireturn, 1) := by decide +kernel
theorem dX9_way_27 : decode cX9_way 27 = .ok (.aload_n 0, 1) := by decide +kernel
theorem dX9_way_28 : decode cX9_way 28 = .ok (.iload_n 1, 1) := by decide +kernel
theorem dX9_way_29 : decode cX9_way 29 = .ok (.iload_n 2, 1) := by decide +kernel
theorem dX9_way_30 : decode cX9_way 30 = .ok (.invokevirtual 239, 3) := by decide +kernel
theorem dX9_way_33 : decode cX9_way 33 = .ok (.istore 4, 2) := by decide +kernel
theorem dX9_way_35 : decode cX9_way 35 = .ok (.iload_n 3, 1) := by decide +kernel
theorem dX9_way_36 : decode cX9_way 36 = .ok (.iconst (-1), 1) := by decide +kernel
theorem dX9_way_37 : decode cX9_way 37 = .ok (.if_icmp .ne 8, 3) := by decide +kernel
theorem dX9_way_40 : decode cX9_way 40 = .ok (.iload 4, 2) := by decide +kernel
theorem dX9_way_42 : decode cX9_way 42 = .ok (.goto 20, 3) := by decide +kernel
theorem dX9_way_45 : decode cX9_way 45 = .ok (.iload_n 3, 1) := by decide +kernel
theorem dX9_way_46 : decode cX9_way 46 = .ok (.iload 4, 2) := by decide +kernel
theorem dX9_way_48 : decode cX9_way 48 = .ok (.if_icmp .ge 12, 3) := by decide +kernel
theorem dX9_way_51 : decode cX9_way 51 = .ok (.aload_n 0, 1) := by decide +kernel
theorem dX9_way_52 : decode cX9_way 52 = .ok (.getfield 65, 3) := by decide +kernel
theorem dX9_way_55 : decode cX9_way 55 = .ok (.iload_n 3, 1) := by decide +kernel
theorem dX9_way_56 : decode cX9_way 56 = .ok (.iaload, 1) := by decide +kernel
theorem dX9_way_57 : decode cX9_way 57 = .ok (.goto 5, 3) := by decide +kernel
theorem dX9_way_60 : decode cX9_way 60 = .ok (.bipush (-5), 2) := by decide +kernel
theorem dX9_way_62 : decode cX9_way 62 = .ok (.ireturn, 1) := by decide +kernel
theorem dX9_late_0 : decode cX9_late 0 = .ok (.iload_n 0, 1) := by decide +kernel
theorem dX9_late_1 : decode cX9_late 1 = .ok (.bipush (-5), 2) := by decide +kernel
theorem dX9_late_3 : decode cX9_late 3 = .ok (.if_icmp .ne 9, 3) := by decide +kernel
theorem dX9_late_6 : decode cX9_late 6 = .ok (.sipush 1000, 3) := by decide +kernel
theorem dX9_late_9 : decode cX9_late 9 = .ok (.goto 4, 3) := by decide +kernel
theorem dX9_late_12 : decode cX9_late 12 = .ok (.iload_n 0, 1) := by decide +kernel
theorem dX9_late_13 : decode cX9_late 13 = .ok (.ireturn, 1) := by decide +kernel
theorem dX9_sisters_0 : decode cX9_sisters 0 = .ok (.aload_n 0, 1) := by decide +kernel
theorem dX9_sisters_1 : decode cX9_sisters 1 = .ok (.iload_n 1, 1) := by decide +kernel
theorem dX9_sisters_2 : decode cX9_sisters 2 = .ok (.invokevirtual 114, 3) := by decide +kernel
theorem dX9_sisters_5 : decode cX9_sisters 5 = .ok (.ifCond .eq 10, 3) := by decide +kernel
theorem dX9_sisters_8 : decode cX9_sisters 8 = .ok (.iload_n 2, 1) := by decide +kernel
theorem dX9_sisters_9 : decode cX9_sisters 9 = .ok (.invokestatic 106, 3) := by decide +kernel
theorem dX9_sisters_12 : decode cX9_sisters 12 = .ok (.ifCond .ne 5, 3) := by decide +kernel
theorem dX9_sisters_15 : decode cX9_sisters 15 = .ok (.iconst (-1), 1) := by decide +kernel
theorem dX9_sisters_16 : decode cX9_sisters 16 = .ok (.ireturn, 1) := by decide +kernel
theorem dX9_sisters_17 : decode cX9_sisters 17 = .ok (.aload_n 0, 1) := by decide +kernel
theorem dX9_sisters_18 : decode cX9_sisters 18 = .ok (.iload_n 1, 1) := by decide +kernel
theorem dX9_sisters_19 : decode cX9_sisters 19 = .ok (.iload_n 2, 1) := by decide +kernel
theorem dX9_sisters_20 : decode cX9_sisters 20 = .ok (.invokevirtual 239, 3) := by decide +kernel
theorem dX9_sisters_23 : decode cX9_sisters 23 = .ok (.invokestatic 257, 3) := by decide +kernel
theorem dX9_sisters_26 : decode cX9_sisters 26 = .ok (.istore_n 3, 1) := by decide +kernel
theorem dX9_sisters_27 : decode cX9_sisters 27 = .ok (.bipush (-5), 2) := by decide +kernel
theorem dX9_sisters_29 : decode cX9_sisters 29 = .ok (.istore 4, 2) := by decide +kernel
theorem dX9_sisters_31 : decode cX9_sisters 31 = .ok (.iconst 0, 1) := by decide +kernel
theorem dX9_sisters_32 : decode cX9_sisters 32 = .ok (.istore 5, 2) := by decide +kernel
theorem dX9_sisters_34 : decode cX9_sisters 34 = .ok (.iload 5, 2) := by decide +kernel
theorem dX9_sisters_36 : decode cX9_sisters 36 = .ok (.aload_n 0, 1) := by decide +kernel
theorem dX9_sisters_37 : decode cX9_sisters 37 = .ok (.getfield 9, 3) := by decide +kernel
theorem dX9_sisters_40 : decode cX9_sisters 40 = .ok (.bipush 93, 2) := by decide +kernel
theorem dX9_sisters_42 : decode cX9_sisters 42 = .ok (.iaload, 1) := by decide +kernel
theorem dX9_sisters_43 : decode cX9_sisters 43 = .ok (.if_icmp .ge 99, 3) := by decide +kernel
theorem dX9_sisters_46 : decode cX9_sisters 46 = .ok (.iload 5, 2) := by decide +kernel
theorem dX9_sisters_48 : decode cX9_sisters 48 = .ok (.iconst 1, 1) := by decide +kernel
theorem dX9_sisters_49 : decode cX9_sisters 49 = .ok (.iadd, 1) := by decide +kernel
theorem dX9_sisters_50 : decode cX9_sisters 50 = .ok (.istore 6, 2) := by decide +kernel
theorem dX9_sisters_52 : decode cX9_sisters 52 = .ok (.iload 6, 2) := by decide +kernel
theorem dX9_sisters_54 : decode cX9_sisters 54 = .ok (.aload_n 0, 1) := by decide +kernel
theorem dX9_sisters_55 : decode cX9_sisters 55 = .ok (.getfield 9, 3) := by decide +kernel
theorem dX9_sisters_58 : decode cX9_sisters 58 = .ok (.bipush 93, 2) := by decide +kernel
theorem dX9_sisters_60 : decode cX9_sisters 60 = .ok (.iaload, 1) := by decide +kernel
theorem dX9_sisters_61 : decode cX9_sisters 61 = .ok (.if_icmp .ge 75, 3) := by decide +kernel
theorem dX9_sisters_64 : decode cX9_sisters 64 = .ok (.aload_n 0, 1) := by decide +kernel
theorem dX9_sisters_65 : decode cX9_sisters 65 = .ok (.iload 5, 2) := by decide +kernel
theorem dX9_sisters_67 : decode cX9_sisters 67 = .ok (.iload 6, 2) := by decide +kernel
theorem dX9_sisters_69 : decode cX9_sisters 69 = .ok (.invokevirtual 143, 3) := by decide +kernel
theorem dX9_sisters_72 : decode cX9_sisters 72 = .ok (.ifCond .eq 58, 3) := by decide +kernel
theorem dX9_sisters_75 : decode cX9_sisters 75 = .ok (.aload_n 0, 1) := by decide +kernel
theorem dX9_sisters_76 : decode cX9_sisters 76 = .ok (.iload 5, 2) := by decide +kernel
theorem dX9_sisters_78 : decode cX9_sisters 78 = .ok (.iload 6, 2) := by decide +kernel
theorem dX9_sisters_80 : decode cX9_sisters 80 = .ok (.invokevirtual 147, 3) := by decide +kernel
theorem dX9_sisters_83 : decode cX9_sisters 83 = .ok (.aload_n 0, 1) := by decide +kernel
theorem dX9_sisters_84 : decode cX9_sisters 84 = .ok (.iload_n 1, 1) := by decide +kernel
theorem dX9_sisters_85 : decode cX9_sisters 85 = .ok (.iload_n 2, 1) := by decide +kernel
theorem dX9_sisters_86 : decode cX9_sisters 86 = .ok (.invokevirtual 239, 3) := by decide +kernel
theorem dX9_sisters_89 : decode cX9_sisters 89 = .ok (.invokestatic 257, 3) := by decide +kernel
theorem dX9_sisters_92 : decode cX9_sisters 92 = .ok (.istore 7, 2) := by decide +kernel
theorem dX9_sisters_94 : decode cX9_sisters 94 = .ok (.aload_n 0, 1) := by decide +kernel
theorem dX9_sisters_95 : decode cX9_sisters 95 = .ok (.iload 5, 2) := by decide +kernel
theorem dX9_sisters_97 : decode cX9_sisters 97 = .ok (.iload 6, 2) := by decide +kernel
theorem dX9_sisters_99 : decode cX9_sisters 99 = .ok (.invokevirtual 147, 3) := by decide +kernel
theorem dX9_sisters_102 : decode cX9_sisters 102 = .ok (.iload 7, 2) := by decide +kernel
theorem dX9_sisters_104 : decode cX9_sisters 104 = .ok (.iload_n 3, 1) := by decide +kernel
theorem dX9_sisters_105 : decode cX9_sisters 105 = .ok (.if_icmp .ge 14, 3) := by decide +kernel
theorem dX9_sisters_108 : decode cX9_sisters 108 = .ok (.bipush 10, 2) := by decide +kernel
theorem dX9_sisters_110 : decode cX9_sisters 110 = .ok (.iload 5, 2) := by decide +kernel
theorem dX9_sisters_112 : decode cX9_sisters 112 = .ok (.imul, 1) := by decide +kernel
theorem dX9_sisters_113 : decode cX9_sisters 113 = .ok (.iload 6, 2) := by decide +kernel
theorem dX9_sisters_115 : decode cX9_sisters 115 = .ok (.iadd, 1) := by decide +kernel
theorem dX9_sisters_116 : decode cX9_sisters 116 = .ok (.goto 5, 3) := by decide +kernel
theorem dX9_sisters_119 : decode cX9_sisters 119 = .ok (.iload 4, 2) := by decide +kernel
theorem dX9_sisters_121 : decode cX9_sisters 121 = .ok (.istore 4, 2) := by decide +kernel
theorem dX9_sisters_123 : decode cX9_sisters 123 = .ok (.iload 7, 2) := by decide +kernel
theorem dX9_sisters_125 : decode cX9_sisters 125 = .ok (.iload_n 3, 1) := by decide +kernel
theorem dX9_sisters_126 : decode cX9_sisters 126 = .ok (.invokestatic 260, 3) := by decide +kernel
theorem dX9_sisters_129 : decode cX9_sisters 129 = .ok (.istore_n 3, 1) := by decide +kernel
theorem dX9_sisters_130 : decode cX9_sisters 130 = .ok (.iinc 6 1, 3) := by decide +kernel
theorem dX9_sisters_133 : decode cX9_sisters 133 = .ok (.goto (-81), 3) := by decide +kernel
theorem dX9_sisters_136 : decode cX9_sisters 136 = .ok (.iinc 5 1, 3) := by decide +kernel
theorem dX9_sisters_139 : decode cX9_sisters 139 = .ok (.goto (-105), 3) := by decide +kernel
theorem dX9_sisters_142 : decode cX9_sisters 142 = .ok (.iload 4, 2) := by decide +kernel
theorem dX9_sisters_144 : decode cX9_sisters 144 = .ok (.ireturn, 1) := by decide +kernel
theorem dX9_see_0 : decode cX9_see 0 = .ok (.iload_n 1, 1) := by decide +kernel
theorem dX9_see_1 : decode cX9_see 1 = .ok (.iconst (-1), 1) := by decide +kernel
theorem dX9_see_2 : decode cX9_see 2 = .ok (.if_icmp .ne 13, 3) := by decide +kernel
theorem dX9_see_5 : decode cX9_see 5 = .ok (.aload_n 0, 1) := by decide +kernel
theorem dX9_see_6 : decode cX9_see 6 = .ok (.getfield 9, 3) := by decide +kernel
theorem dX9_see_9 : decode cX9_see 9 = .ok (.bipush 96, 2) := by decide +kernel
theorem dX9_see_11 : decode cX9_see 11 = .ok (.iconst 0, 1) := by decide +kernel
theorem dX9_see_12 : decode cX9_see 12 = .ok (.iastore, 1) := by decide +kernel
theorem dX9_see_13 : decode cX9_see 13 = .ok (.iconst 0, 1) := by decide +kernel
theorem dX9_see_14 : decode cX9_see 14 = .ok (.ireturn, 1) := by decide +kernel
theorem dX9_see_15 : decode cX9_see 15 = .ok (.aload_n 0, 1) := by decide +kernel
theorem dX9_see_16 : decode cX9_see 16 = .ok (.iload_n 1, 1) := by decide +kernel
theorem dX9_see_17 : decode cX9_see 17 = .ok (.invokevirtual 114, 3) := by decide +kernel
theorem dX9_see_20 : decode cX9_see 20 = .ok (.ifCond .eq 10, 3) := by decide +kernel
theorem dX9_see_23 : decode cX9_see 23 = .ok (.iload_n 3, 1) := by decide +kernel
theorem dX9_see_24 : decode cX9_see 24 = .ok (.invokestatic 106, 3) := by decide +kernel
theorem dX9_see_27 : decode cX9_see 27 = .ok (.ifCond .ne 5, 3) := by decide +kernel
theorem dX9_see_30 : decode cX9_see 30 = .ok (.iconst (-1), 1) := by decide +kernel
theorem dX9_see_31 : decode cX9_see 31 = .ok (.ireturn, 1) := by decide +kernel
theorem dX9_see_32 : decode cX9_see 32 = .ok (.iload_n 2, 1) := by decide +kernel
theorem dX9_see_33 : decode cX9_see 33 = .ok (.iconst 0, 1) := by decide +kernel
theorem dX9_see_34 : decode cX9_see 34 = .ok (.bipush 8, 2) := by decide +kernel
theorem dX9_see_36 : decode cX9_see 36 = .ok (.invokestatic 98, 3) := by decide +kernel
theorem dX9_see_39 : decode cX9_see 39 = .ok (.ifCond .ne 6, 3) := by decide +kernel
theorem dX9_see_42 : decode cX9_see 42 = .ok (.bipush (-2), 2) := by decide +kernel
theorem dX9_see_44 : decode cX9_see 44 = .ok (.ireturn, 1) := by decide +kernel
theorem dX9_see_45 : decode cX9_see 45 = .ok (.aload_n 0, 1) := by decide +kernel
theorem dX9_see_46 : decode cX9_see 46 = .ok (.getfield 9, 3) := by decide +kernel
theorem dX9_see_49 : decode cX9_see 49 = .ok (.bipush 96, 2) := by decide +kernel
theorem dX9_see_51 : decode cX9_see 51 = .ok (.iaload, 1) := by decide +kernel
theorem dX9_see_52 : decode cX9_see 52 = .ok (.iconst 5, 1) := by decide +kernel
theorem dX9_see_53 : decode cX9_see 53 = .ok (.if_icmp .ne 6, 3) := by decide +kernel
theorem dX9_see_56 : decode cX9_see 56 = .ok (.bipush (-4), 2) := by decide +kernel
theorem dX9_see_58 : decode cX9_see 58 = .ok (.ireturn, 1) := by decide +kernel
theorem dX9_see_59 : decode cX9_see 59 = .ok (.bipush 97, 2) := by decide +kernel
theorem dX9_see_61 : decode cX9_see 61 = .ok (.iconst 3, 1) := by decide +kernel
theorem dX9_see_62 : decode cX9_see 62 = .ok (.aload_n 0, 1) := by decide +kernel
theorem dX9_see_63 : decode cX9_see 63 = .ok (.getfield 9, 3) := by decide +kernel
theorem dX9_see_66 : decode cX9_see 66 = .ok (.bipush 96, 2) := by decide +kernel
theorem dX9_see_68 : decode cX9_see 68 = .ok (.iaload, 1) := by decide +kernel
theorem dX9_see_69 : decode cX9_see 69 = .ok (.imul, 1) := by decide +kernel
theorem dX9_see_70 : decode cX9_see 70 = .ok (.iadd, 1) := by decide +kernel
theorem dX9_see_71 : decode cX9_see 71 = .ok (.istore 4, 2) := by decide +kernel
theorem dX9_see_73 : decode cX9_see 73 = .ok (.aload_n 0, 1) := by decide +kernel
theorem dX9_see_74 : decode cX9_see 74 = .ok (.getfield 9, 3) := by decide +kernel
theorem dX9_see_77 : decode cX9_see 77 = .ok (.iload 4, 2) := by decide +kernel
theorem dX9_see_79 : decode cX9_see 79 = .ok (.iload_n 1, 1) := by decide +kernel
theorem dX9_see_80 : decode cX9_see 80 = .ok (.iastore, 1) := by decide +kernel
theorem dX9_see_81 : decode cX9_see 81 = .ok (.aload_n 0, 1) := by decide +kernel
theorem dX9_see_82 : decode cX9_see 82 = .ok (.getfield 9, 3) := by decide +kernel
theorem dX9_see_85 : decode cX9_see 85 = .ok (.iload 4, 2) := by decide +kernel
theorem dX9_see_87 : decode cX9_see 87 = .ok (.iconst 1, 1) := by decide +kernel
theorem dX9_see_88 : decode cX9_see 88 = .ok (.iadd, 1) := by decide +kernel
theorem dX9_see_89 : decode cX9_see 89 = .ok (.iload_n 2, 1) := by decide +kernel
theorem dX9_see_90 : decode cX9_see 90 = .ok (.iastore, 1) := by decide +kernel
theorem dX9_see_91 : decode cX9_see 91 = .ok (.aload_n 0, 1) := by decide +kernel
theorem dX9_see_92 : decode cX9_see 92 = .ok (.getfield 9, 3) := by decide +kernel
theorem dX9_see_95 : decode cX9_see 95 = .ok (.iload 4, 2) := by decide +kernel
theorem dX9_see_97 : decode cX9_see 97 = .ok (.iconst 2, 1) := by decide +kernel
theorem dX9_see_98 : decode cX9_see 98 = .ok (.iadd, 1) := by decide +kernel
theorem dX9_see_99 : decode cX9_see 99 = .ok (.iload_n 3, 1) := by decide +kernel
theorem dX9_see_100 : decode cX9_see 100 = .ok (.iastore, 1) := by decide +kernel
theorem dX9_see_101 : decode cX9_see 101 = .ok (.aload_n 0, 1) := by decide +kernel
theorem dX9_see_102 : decode cX9_see 102 = .ok (.getfield 9, 3) := by decide +kernel
theorem dX9_see_105 : decode cX9_see 105 = .ok (.bipush 96, 2) := by decide +kernel
theorem dX9_see_107 : decode cX9_see 107 = .ok (.dup2, 1) := by decide +kernel
theorem dX9_see_108 : decode cX9_see 108 = .ok (.iaload, 1) := by decide +kernel
theorem dX9_see_109 : decode cX9_see 109 = .ok (.iconst 1, 1) := by decide +kernel
theorem dX9_see_110 : decode cX9_see 110 = .ok (.iadd, 1) := by decide +kernel
theorem dX9_see_111 : decode cX9_see 111 = .ok (.iastore, 1) := by decide +kernel
theorem dX9_see_112 : decode cX9_see 112 = .ok (.aload_n 0, 1) := by decide +kernel
theorem dX9_see_113 : decode cX9_see 113 = .ok (.getfield 9, 3) := by decide +kernel
theorem dX9_see_116 : decode cX9_see 116 = .ok (.bipush 96, 2) := by decide +kernel
theorem dX9_see_118 : decode cX9_see 118 = .ok (.iaload, 1) := by decide +kernel
theorem dX9_see_119 : decode cX9_see 119 = .ok (.ireturn, 1) := by decide +kernel
theorem dX9_isAllSeen_0 : decode cX9_isAllSeen 0 = .ok (.aload_n 0, 1) := by decide +kernel
theorem dX9_isAllSeen_1 : decode cX9_isAllSeen 1 = .ok (.getfield 9, 3) := by decide +kernel
theorem dX9_isAllSeen_4 : decode cX9_isAllSeen 4 = .ok (.aload_n 0, 1) := by decide +kernel
theorem dX9_isAllSeen_5 : decode cX9_isAllSeen 5 = .ok (.getfield 15, 3) := by decide +kernel
theorem dX9_isAllSeen_8 : decode cX9_isAllSeen 8 = .ok (.invokestatic 94, 3) := by decide +kernel
theorem dX9_isAllSeen_11 : decode cX9_isAllSeen 11 = .ok (.iconst 1, 1) := by decide +kernel
theorem dX9_isAllSeen_12 : decode cX9_isAllSeen 12 = .ok (.istore_n 2, 1) := by decide +kernel
theorem dX9_isAllSeen_13 : decode cX9_isAllSeen 13 = .ok (.iconst 0, 1) := by decide +kernel
theorem dX9_isAllSeen_14 : decode cX9_isAllSeen 14 = .ok (.istore_n 3, 1) := by decide +kernel
theorem dX9_isAllSeen_15 : decode cX9_isAllSeen 15 = .ok (.iload_n 3, 1) := by decide +kernel
theorem dX9_isAllSeen_16 : decode cX9_isAllSeen 16 = .ok (.bipush 8, 2) := by decide +kernel
theorem dX9_isAllSeen_18 : decode cX9_isAllSeen 18 = .ok (.if_icmp .gt 99, 3) := by decide +kernel
theorem dX9_isAllSeen_21 : decode cX9_isAllSeen 21 = .ok (.iload_n 2, 1) := by decide +kernel
theorem dX9_isAllSeen_22 : decode cX9_isAllSeen 22 = .ok (.ifCond .eq 95, 3) := by decide +kernel
theorem dX9_isAllSeen_25 : decode cX9_isAllSeen 25 = .ok (.iconst 0, 1) := by decide +kernel
theorem dX9_isAllSeen_26 : decode cX9_isAllSeen 26 = .ok (.istore 4, 2) := by decide +kernel
theorem dX9_isAllSeen_28 : decode cX9_isAllSeen 28 = .ok (.iload 4, 2) := by decide +kernel
theorem dX9_isAllSeen_30 : decode cX9_isAllSeen 30 = .ok (.aload_n 0, 1) := by decide +kernel
theorem dX9_isAllSeen_31 : decode cX9_isAllSeen 31 = .ok (.getfield 9, 3) := by decide +kernel
theorem dX9_isAllSeen_34 : decode cX9_isAllSeen 34 = .ok (.bipush 96, 2) := by decide +kernel
theorem dX9_isAllSeen_36 : decode cX9_isAllSeen 36 = .ok (.iaload, 1) := by decide +kernel
theorem dX9_isAllSeen_37 : decode cX9_isAllSeen 37 = .ok (.if_icmp .ge 70, 3) := by decide +kernel
theorem dX9_isAllSeen_40 : decode cX9_isAllSeen 40 = .ok (.bipush 97, 2) := by decide +kernel
theorem dX9_isAllSeen_42 : decode cX9_isAllSeen 42 = .ok (.iconst 3, 1) := by decide +kernel
theorem dX9_isAllSeen_43 : decode cX9_isAllSeen 43 = .ok (.iload 4, 2) := by decide +kernel
theorem dX9_isAllSeen_45 : decode cX9_isAllSeen 45 = .ok (.imul, 1) := by decide +kernel
theorem dX9_isAllSeen_46 : decode cX9_isAllSeen 46 = .ok (.iadd, 1) := by decide +kernel
theorem dX9_isAllSeen_47 : decode cX9_isAllSeen 47 = .ok (.istore 5, 2) := by decide +kernel
theorem dX9_isAllSeen_49 : decode cX9_isAllSeen 49 = .ok (.iload_n 2, 1) := by decide +kernel
theorem dX9_isAllSeen_50 : decode cX9_isAllSeen 50 = .ok (.ifCond .eq 49, 3) := by decide +kernel
theorem dX9_isAllSeen_53 : decode cX9_isAllSeen 53 = .ok (.aload_n 0, 1) := by decide +kernel
theorem dX9_isAllSeen_54 : decode cX9_isAllSeen 54 = .ok (.getfield 9, 3) := by decide +kernel
theorem dX9_isAllSeen_57 : decode cX9_isAllSeen 57 = .ok (.iload 5, 2) := by decide +kernel
theorem dX9_isAllSeen_59 : decode cX9_isAllSeen 59 = .ok (.iaload, 1) := by decide +kernel
theorem dX9_isAllSeen_60 : decode cX9_isAllSeen 60 = .ok (.iload_n 1, 1) := by decide +kernel
theorem dX9_isAllSeen_61 : decode cX9_isAllSeen 61 = .ok (.if_icmp .ne 34, 3) := by decide +kernel
theorem dX9_isAllSeen_64 : decode cX9_isAllSeen 64 = .ok (.aload_n 0, 1) := by decide +kernel
theorem dX9_isAllSeen_65 : decode cX9_isAllSeen 65 = .ok (.getfield 9, 3) := by decide +kernel
theorem dX9_isAllSeen_68 : decode cX9_isAllSeen 68 = .ok (.iload 5, 2) := by decide +kernel
theorem dX9_isAllSeen_70 : decode cX9_isAllSeen 70 = .ok (.iconst 1, 1) := by decide +kernel
theorem dX9_isAllSeen_71 : decode cX9_isAllSeen 71 = .ok (.iadd, 1) := by decide +kernel
theorem dX9_isAllSeen_72 : decode cX9_isAllSeen 72 = .ok (.iaload, 1) := by decide +kernel
theorem dX9_isAllSeen_73 : decode cX9_isAllSeen 73 = .ok (.iload_n 3, 1) := by decide +kernel
theorem dX9_isAllSeen_74 : decode cX9_isAllSeen 74 = .ok (.if_icmp .ne 21, 3) := by decide +kernel
theorem dX9_isAllSeen_77 : decode cX9_isAllSeen 77 = .ok (.aload_n 0, 1) := by decide +kernel
theorem dX9_isAllSeen_78 : decode cX9_isAllSeen 78 = .ok (.iload_n 1, 1) := by decide +kernel
theorem dX9_isAllSeen_79 : decode cX9_isAllSeen 79 = .ok (.iconst 2, 1) := by decide +kernel
theorem dX9_isAllSeen_80 : decode cX9_isAllSeen 80 = .ok (.invokevirtual 102, 3) := by decide +kernel
theorem dX9_isAllSeen_83 : decode cX9_isAllSeen 83 = .ok (.aload_n 0, 1) := by decide +kernel
theorem dX9_isAllSeen_84 : decode cX9_isAllSeen 84 = .ok (.getfield 9, 3) := by decide +kernel
theorem dX9_isAllSeen_87 : decode cX9_isAllSeen 87 = .ok (.iload 5, 2) := by decide +kernel
theorem dX9_isAllSeen_89 : decode cX9_isAllSeen 89 = .ok (.iconst 2, 1) := by decide +kernel
theorem dX9_isAllSeen_90 : decode cX9_isAllSeen 90 = .ok (.iadd, 1) := by decide +kernel
theorem dX9_isAllSeen_91 : decode cX9_isAllSeen 91 = .ok (.iaload, 1) := by decide +kernel
theorem dX9_isAllSeen_92 : decode cX9_isAllSeen 92 = .ok (.if_icmp .ne 7, 3) := by decide +kernel
theorem dX9_isAllSeen_95 : decode cX9_isAllSeen 95 = .ok (.iconst 1, 1) := by decide +kernel
theorem dX9_isAllSeen_96 : decode cX9_isAllSeen 96 = .ok (.goto 4, 3) := by decide +kernel
theorem dX9_isAllSeen_99 : decode cX9_isAllSeen 99 = .ok (.iconst 0, 1) := by decide +kernel
theorem dX9_isAllSeen_100 : decode cX9_isAllSeen 100 = .ok (.istore_n 2, 1) := by decide +kernel
theorem dX9_isAllSeen_101 : decode cX9_isAllSeen 101 = .ok (.iinc 4 1, 3) := by decide +kernel
theorem dX9_isAllSeen_104 : decode cX9_isAllSeen 104 = .ok (.goto (-76), 3) := by decide +kernel
theorem dX9_isAllSeen_107 : decode cX9_isAllSeen 107 = .ok (.aload_n 0, 1) := by decide +kernel
theorem dX9_isAllSeen_108 : decode cX9_isAllSeen 108 = .ok (.invokevirtual 242, 3) := by decide +kernel
theorem dX9_isAllSeen_111 : decode cX9_isAllSeen 111 = .ok (.iinc 3 1, 3) := by decide +kernel
theorem dX9_isAllSeen_114 : decode cX9_isAllSeen 114 = .ok (.goto (-99), 3) := by decide +kernel
theorem dX9_isAllSeen_117 : decode cX9_isAllSeen 117 = .ok (.aload_n 0, 1) := by decide +kernel
theorem dX9_isAllSeen_118 : decode cX9_isAllSeen 118 = .ok (.getfield 15, 3) := by decide +kernel
theorem dX9_isAllSeen_121 : decode cX9_isAllSeen 121 = .ok (.aload_n 0, 1) := by decide +kernel
theorem dX9_isAllSeen_122 : decode cX9_isAllSeen 122 = .ok (.getfield 9, 3) := by decide +kernel
theorem dX9_isAllSeen_125 : decode cX9_isAllSeen 125 = .ok (.invokestatic 94, 3) := by decide +kernel
theorem dX9_isAllSeen_128 : decode cX9_isAllSeen 128 = .ok (.iload_n 2, 1) := by decide +kernel
theorem dX9_isAllSeen_129 : decode cX9_isAllSeen 129 = .ok (.ireturn, 1) := by decide +kernel
theorem dX9_fits_0 : decode cX9_fits 0 = .ok (.aload_n 0, 1) := by decide +kernel
theorem dX9_fits_1 : decode cX9_fits 1 = .ok (.iload_n 1, 1) := by decide +kernel
theorem dX9_fits_2 : decode cX9_fits 2 = .ok (.iload_n 2, 1) := by decide +kernel
theorem dX9_fits_3 : decode cX9_fits 3 = .ok (.invokevirtual 102, 3) := by decide +kernel
theorem dX9_fits_6 : decode cX9_fits 6 = .ok (.istore 4, 2) := by decide +kernel
theorem dX9_fits_8 : decode cX9_fits 8 = .ok (.iconst 0, 1) := by decide +kernel
theorem dX9_fits_9 : decode cX9_fits 9 = .ok (.istore 5, 2) := by decide +kernel
theorem dX9_fits_11 : decode cX9_fits 11 = .ok (.iconst 0, 1) := by decide +kernel
theorem dX9_fits_12 : decode cX9_fits 12 = .ok (.istore 6, 2) := by decide +kernel
theorem dX9_fits_14 : decode cX9_fits 14 = .ok (.iload 6, 2) := by decide +kernel
theorem dX9_fits_16 : decode cX9_fits 16 = .ok (.iload_n 3, 1) := by decide +kernel
theorem dX9_fits_17 : decode cX9_fits 17 = .ok (.if_icmp .gt 39, 3) := by decide +kernel
theorem dX9_fits_20 : decode cX9_fits 20 = .ok (.aload_n 0, 1) := by decide +kernel
theorem dX9_fits_21 : decode cX9_fits 21 = .ok (.iload_n 1, 1) := by decide +kernel
theorem dX9_fits_22 : decode cX9_fits 22 = .ok (.iload_n 2, 1) := by decide +kernel
theorem dX9_fits_23 : decode cX9_fits 23 = .ok (.iload 6, 2) := by decide +kernel
theorem dX9_fits_25 : decode cX9_fits 25 = .ok (.invokevirtual 110, 3) := by decide +kernel
theorem dX9_fits_28 : decode cX9_fits 28 = .ok (.pop, 1) := by decide +kernel
theorem dX9_fits_29 : decode cX9_fits 29 = .ok (.iload 5, 2) := by decide +kernel
theorem dX9_fits_31 : decode cX9_fits 31 = .ok (.aload_n 0, 1) := by decide +kernel
theorem dX9_fits_32 : decode cX9_fits 32 = .ok (.iload_n 1, 1) := by decide +kernel
theorem dX9_fits_33 : decode cX9_fits 33 = .ok (.invokevirtual 265, 3) := by decide +kernel
theorem dX9_fits_36 : decode cX9_fits 36 = .ok (.ifCond .eq 10, 3) := by decide +kernel
theorem dX9_fits_39 : decode cX9_fits 39 = .ok (.iconst 1, 1) := by decide +kernel
theorem dX9_fits_40 : decode cX9_fits 40 = .ok (.iload 6, 2) := by decide +kernel
theorem dX9_fits_42 : decode cX9_fits 42 = .ok (.ishl, 1) := by decide +kernel
theorem dX9_fits_43 : decode cX9_fits 43 = .ok (.goto 4, 3) := by decide +kernel
theorem dX9_fits_46 : decode cX9_fits 46 = .ok (.iconst 0, 1) := by decide +kernel
theorem dX9_fits_47 : decode cX9_fits 47 = .ok (.ior, 1) := by decide +kernel
theorem dX9_fits_48 : decode cX9_fits 48 = .ok (.istore 5, 2) := by decide +kernel
theorem dX9_fits_50 : decode cX9_fits 50 = .ok (.iinc 6 1, 3) := by decide +kernel
theorem dX9_fits_53 : decode cX9_fits 53 = .ok (.goto (-39), 3) := by decide +kernel
theorem dX9_fits_56 : decode cX9_fits 56 = .ok (.aload_n 0, 1) := by decide +kernel
theorem dX9_fits_57 : decode cX9_fits 57 = .ok (.iload_n 1, 1) := by decide +kernel
theorem dX9_fits_58 : decode cX9_fits 58 = .ok (.iload_n 2, 1) := by decide +kernel
theorem dX9_fits_59 : decode cX9_fits 59 = .ok (.iload 4, 2) := by decide +kernel
theorem dX9_fits_61 : decode cX9_fits 61 = .ok (.invokevirtual 110, 3) := by decide +kernel
theorem dX9_fits_64 : decode cX9_fits 64 = .ok (.pop, 1) := by decide +kernel
theorem dX9_fits_65 : decode cX9_fits 65 = .ok (.iload 5, 2) := by decide +kernel
theorem dX9_fits_67 : decode cX9_fits 67 = .ok (.ireturn, 1) := by decide +kernel
theorem dX9_from_0 : decode cX9_from 0 = .ok (.aload_n 0, 1) := by decide +kernel
theorem dX9_from_1 : decode cX9_from 1 = .ok (.iload_n 1, 1) := by decide +kernel
theorem dX9_from_2 : decode cX9_from 2 = .ok (.invokevirtual 114, 3) := by decide +kernel
theorem dX9_from_5 : decode cX9_from 5 = .ok (.ifCond .eq 13, 3) := by decide +kernel
theorem dX9_from_8 : decode cX9_from 8 = .ok (.aload_n 0, 1) := by decide +kernel
theorem dX9_from_9 : decode cX9_from 9 = .ok (.iload_n 1, 1) := by decide +kernel
theorem dX9_from_10 : decode cX9_from 10 = .ok (.iconst 2, 1) := by decide +kernel
theorem dX9_from_11 : decode cX9_from 11 = .ok (.iconst 5, 1) := by decide +kernel
theorem dX9_from_12 : decode cX9_from 12 = .ok (.invokevirtual 268, 3) := by decide +kernel
theorem dX9_from_15 : decode cX9_from 15 = .ok (.goto 4, 3) := by decide +kernel
theorem dX9_from_18 : decode cX9_from 18 = .ok (.iconst (-1), 1) := by decide +kernel
theorem dX9_from_19 : decode cX9_from 19 = .ok (.ireturn, 1) := by decide +kernel
theorem dX9_can_0 : decode cX9_can 0 = .ok (.aload_n 0, 1) := by decide +kernel
theorem dX9_can_1 : decode cX9_can 1 = .ok (.iload_n 1, 1) := by decide +kernel
theorem dX9_can_2 : decode cX9_can 2 = .ok (.invokevirtual 114, 3) := by decide +kernel
theorem dX9_can_5 : decode cX9_can 5 = .ok (.ifCond .eq 12, 3) := by decide +kernel
theorem dX9_can_8 : decode cX9_can 8 = .ok (.iload_n 2, 1) := by decide +kernel
theorem dX9_can_9 : decode cX9_can 9 = .ok (.iconst 0, 1) := by decide +kernel
theorem dX9_can_10 : decode cX9_can 10 = .ok (.iconst 1, 1) := by decide +kernel
theorem dX9_can_11 : decode cX9_can 11 = .ok (.invokestatic 98, 3) := by decide +kernel
theorem dX9_can_14 : decode cX9_can 14 = .ok (.ifCond .ne 5, 3) := by decide +kernel
theorem dX9_can_17 : decode cX9_can 17 = .ok (.iconst (-1), 1) := by decide +kernel
theorem dX9_can_18 : decode cX9_can 18 = .ok (.ireturn, 1) := by decide +kernel
theorem dX9_can_19 : decode cX9_can 19 = .ok (.aload_n 0, 1) := by decide +kernel
theorem dX9_can_20 : decode cX9_can 20 = .ok (.iload_n 1, 1) := by decide +kernel
theorem dX9_can_21 : decode cX9_can 21 = .ok (.iconst 1, 1) := by decide +kernel
theorem dX9_can_22 : decode cX9_can 22 = .ok (.bipush 9, 2) := by decide +kernel
theorem dX9_can_24 : decode cX9_can 24 = .ok (.invokevirtual 268, 3) := by decide +kernel
theorem dX9_can_27 : decode cX9_can 27 = .ok (.istore_n 3, 1) := by decide +kernel
theorem dX9_can_28 : decode cX9_can 28 = .ok (.iconst 0, 1) := by decide +kernel
theorem dX9_can_29 : decode cX9_can 29 = .ok (.istore 4, 2) := by decide +kernel
theorem dX9_can_31 : decode cX9_can 31 = .ok (.bipush (-5), 2) := by decide +kernel
theorem dX9_can_33 : decode cX9_can 33 = .ok (.istore 5, 2) := by decide +kernel
theorem dX9_can_35 : decode cX9_can 35 = .ok (.bipush 9, 2) := by decide +kernel
theorem dX9_can_37 : decode cX9_can 37 = .ok (.istore 6, 2) := by decide +kernel
theorem dX9_can_39 : decode cX9_can 39 = .ok (.iload 6, 2) := by decide +kernel
theorem dX9_can_41 : decode cX9_can 41 = .ok (.ifCond .lt 39, 3) := by decide +kernel
theorem dX9_can_44 : decode cX9_can 44 = .ok (.iload 4, 2) := by decide +kernel
theorem dX9_can_46 : decode cX9_can 46 = .ok (.iload_n 3, 1) := by decide +kernel
theorem dX9_can_47 : decode cX9_can 47 = .ok (.iload 6, 2) := by decide +kernel
theorem dX9_can_49 : decode cX9_can 49 = .ok (.ishr, 1) := by decide +kernel
theorem dX9_can_50 : decode cX9_can 50 = .ok (.iconst 1, 1) := by decide +kernel
theorem dX9_can_51 : decode cX9_can 51 = .ok (.iand, 1) := by decide +kernel
theorem dX9_can_52 : decode cX9_can 52 = .ok (.iadd, 1) := by decide +kernel
theorem dX9_can_53 : decode cX9_can 53 = .ok (.istore 4, 2) := by decide +kernel
theorem dX9_can_55 : decode cX9_can 55 = .ok (.iload_n 3, 1) := by decide +kernel
theorem dX9_can_56 : decode cX9_can 56 = .ok (.iload 6, 2) := by decide +kernel
theorem dX9_can_58 : decode cX9_can 58 = .ok (.ishr, 1) := by decide +kernel
theorem dX9_can_59 : decode cX9_can 59 = .ok (.iconst 1, 1) := by decide +kernel
theorem dX9_can_60 : decode cX9_can 60 = .ok (.iand, 1) := by decide +kernel
theorem dX9_can_61 : decode cX9_can 61 = .ok (.iconst 1, 1) := by decide +kernel
theorem dX9_can_62 : decode cX9_can 62 = .ok (.if_icmp .ne 8, 3) := by decide +kernel
theorem dX9_can_65 : decode cX9_can 65 = .ok (.iload 6, 2) := by decide +kernel
theorem dX9_can_67 : decode cX9_can 67 = .ok (.goto 5, 3) := by decide +kernel
theorem dX9_can_70 : decode cX9_can 70 = .ok (.iload 5, 2) := by decide +kernel
theorem dX9_can_72 : decode cX9_can 72 = .ok (.istore 5, 2) := by decide +kernel
theorem dX9_can_74 : decode cX9_can 74 = .ok (.iinc 6 (-1), 3) := by decide +kernel
theorem dX9_can_77 : decode cX9_can 77 = .ok (.goto (-38), 3) := by decide +kernel
theorem dX9_can_80 : decode cX9_can 80 = .ok (.iload_n 2, 1) := by decide +kernel
theorem dX9_can_81 : decode cX9_can 81 = .ok (.ifCond .ne 8, 3) := by decide +kernel
theorem dX9_can_84 : decode cX9_can 84 = .ok (.iload 4, 2) := by decide +kernel
theorem dX9_can_86 : decode cX9_can 86 = .ok (.goto 5, 3) := by decide +kernel
theorem dX9_can_89 : decode cX9_can 89 = .ok (.iload 5, 2) := by decide +kernel
theorem dX9_can_91 : decode cX9_can 91 = .ok (.ireturn, 1) := by decide +kernel
theorem dX9_fraction_0 : decode cX9_fraction 0 = .ok (.lload_n 0, 1) := by decide +kernel
theorem dX9_fraction_1 : decode cX9_fraction 1 = .ok (.lstore 5, 2) := by decide +kernel
theorem dX9_fraction_3 : decode cX9_fraction 3 = .ok (.lload_n 2, 1) := by decide +kernel
theorem dX9_fraction_4 : decode cX9_fraction 4 = .ok (.lstore 7, 2) := by decide +kernel
theorem dX9_fraction_6 : decode cX9_fraction 6 = .ok (.lload 7, 2) := by decide +kernel
theorem dX9_fraction_8 : decode cX9_fraction 8 = .ok (.lconst 0, 1) := by decide +kernel
theorem dX9_fraction_9 : decode cX9_fraction 9 = .ok (.lcmp, 1) := by decide +kernel
theorem dX9_fraction_10 : decode cX9_fraction 10 = .ok (.ifCond .eq 21, 3) := by decide +kernel
theorem dX9_fraction_13 : decode cX9_fraction 13 = .ok (.lload 5, 2) := by decide +kernel
theorem dX9_fraction_15 : decode cX9_fraction 15 = .ok (.lload 7, 2) := by decide +kernel
theorem dX9_fraction_17 : decode cX9_fraction 17 = .ok (.lrem, 1) := by decide +kernel
theorem dX9_fraction_18 : decode cX9_fraction 18 = .ok (.lstore 9, 2) := by decide +kernel
theorem dX9_fraction_20 : decode cX9_fraction 20 = .ok (.lload 7, 2) := by decide +kernel
theorem dX9_fraction_22 : decode cX9_fraction 22 = .ok (.lstore 5, 2) := by decide +kernel
theorem dX9_fraction_24 : decode cX9_fraction 24 = .ok (.lload 9, 2) := by decide +kernel
theorem dX9_fraction_26 : decode cX9_fraction 26 = .ok (.lstore 7, 2) := by decide +kernel
theorem dX9_fraction_28 : decode cX9_fraction 28 = .ok (.goto (-22), 3) := by decide +kernel
theorem dX9_fraction_31 : decode cX9_fraction 31 = .ok (.iload 4, 2) := by decide +kernel
theorem dX9_fraction_33 : decode cX9_fraction 33 = .ok (.ifCond .ne 10, 3) := by decide +kernel
theorem dX9_fraction_36 : decode cX9_fraction 36 = .ok (.lload_n 0, 1) := by decide +kernel
theorem dX9_fraction_37 : decode cX9_fraction 37 = .ok (.lload 5, 2) := by decide +kernel
theorem dX9_fraction_39 : decode cX9_fraction 39 = .ok (.ldiv, 1) := by decide +kernel
theorem dX9_fraction_40 : decode cX9_fraction 40 = .ok (.goto 7, 3) := by decide +kernel
theorem dX9_fraction_43 : decode cX9_fraction 43 = .ok (.lload_n 2, 1) := by decide +kernel
theorem dX9_fraction_44 : decode cX9_fraction 44 = .ok (.lload 5, 2) := by decide +kernel
theorem dX9_fraction_46 : decode cX9_fraction 46 = .ok (.ldiv, 1) := by decide +kernel
theorem dX9_fraction_47 : decode cX9_fraction 47 = .ok (.lreturn, 1) := by decide +kernel
theorem dX9_odds_0 : decode cX9_odds 0 = .ok (.aload_n 0, 1) := by decide +kernel
theorem dX9_odds_1 : decode cX9_odds 1 = .ok (.iload_n 1, 1) := by decide +kernel
theorem dX9_odds_2 : decode cX9_odds 2 = .ok (.invokevirtual 114, 3) := by decide +kernel
theorem dX9_odds_5 : decode cX9_odds 5 = .ok (.ifCond .eq 29, 3) := by decide +kernel
theorem dX9_odds_8 : decode cX9_odds 8 = .ok (.iload_n 2, 1) := by decide +kernel
theorem dX9_odds_9 : decode cX9_odds 9 = .ok (.invokestatic 106, 3) := by decide +kernel
theorem dX9_odds_12 : decode cX9_odds 12 = .ok (.ifCond .eq 22, 3) := by decide +kernel
theorem dX9_odds_15 : decode cX9_odds 15 = .ok (.iload_n 3, 1) := by decide +kernel
theorem dX9_odds_16 : decode cX9_odds 16 = .ok (.iconst 0, 1) := by decide +kernel
theorem dX9_odds_17 : decode cX9_odds 17 = .ok (.iconst 1, 1) := by decide +kernel
theorem dX9_odds_18 : decode cX9_odds 18 = .ok (.invokestatic 98, 3) := by decide +kernel
theorem dX9_odds_21 : decode cX9_odds 21 = .ok (.ifCond .eq 13, 3) := by decide +kernel
theorem dX9_odds_24 : decode cX9_odds 24 = .ok (.aload_n 0, 1) := by decide +kernel
theorem dX9_odds_25 : decode cX9_odds 25 = .ok (.getfield 9, 3) := by decide +kernel
theorem dX9_odds_28 : decode cX9_odds 28 = .ok (.bipush 93, 2) := by decide +kernel
theorem dX9_odds_30 : decode cX9_odds 30 = .ok (.iaload, 1) := by decide +kernel
theorem dX9_odds_31 : decode cX9_odds 31 = .ok (.ifCond .ne 7, 3) := by decide +kernel
theorem dX9_odds_34 : decode cX9_odds 34 = .ok (.ldc2_w 271, 3) := by decide +kernel
theorem dX9_odds_37 : decode cX9_odds 37 = .ok (.lreturn, 1) := by decide +kernel
theorem dX9_odds_38 : decode cX9_odds 38 = .ok (.iconst 0, 1) := by decide +kernel
theorem dX9_odds_39 : decode cX9_odds 39 = .ok (.istore 4, 2) := by decide +kernel
theorem dX9_odds_41 : decode cX9_odds 41 = .ok (.iconst 0, 1) := by decide +kernel
theorem dX9_odds_42 : decode cX9_odds 42 = .ok (.istore 5, 2) := by decide +kernel
theorem dX9_odds_44 : decode cX9_odds 44 = .ok (.iload 5, 2) := by decide +kernel
theorem dX9_odds_46 : decode cX9_odds 46 = .ok (.aload_n 0, 1) := by decide +kernel
theorem dX9_odds_47 : decode cX9_odds 47 = .ok (.getfield 9, 3) := by decide +kernel
theorem dX9_odds_50 : decode cX9_odds 50 = .ok (.bipush 93, 2) := by decide +kernel
theorem dX9_odds_52 : decode cX9_odds 52 = .ok (.iaload, 1) := by decide +kernel
theorem dX9_odds_53 : decode cX9_odds 53 = .ok (.if_icmp .ge 57, 3) := by decide +kernel
theorem dX9_odds_56 : decode cX9_odds 56 = .ok (.aload_n 0, 1) := by decide +kernel
theorem dX9_odds_57 : decode cX9_odds 57 = .ok (.iload 5, 2) := by decide +kernel
theorem dX9_odds_59 : decode cX9_odds 59 = .ok (.iconst 1, 1) := by decide +kernel
theorem dX9_odds_60 : decode cX9_odds 60 = .ok (.invokevirtual 273, 3) := by decide +kernel
theorem dX9_odds_63 : decode cX9_odds 63 = .ok (.istore 6, 2) := by decide +kernel
theorem dX9_odds_65 : decode cX9_odds 65 = .ok (.iload 4, 2) := by decide +kernel
theorem dX9_odds_67 : decode cX9_odds 67 = .ok (.aload_n 0, 1) := by decide +kernel
theorem dX9_odds_68 : decode cX9_odds 68 = .ok (.iload_n 1, 1) := by decide +kernel
theorem dX9_odds_69 : decode cX9_odds 69 = .ok (.iload_n 2, 1) := by decide +kernel
theorem dX9_odds_70 : decode cX9_odds 70 = .ok (.invokevirtual 239, 3) := by decide +kernel
theorem dX9_odds_73 : decode cX9_odds 73 = .ok (.bipush (-5), 2) := by decide +kernel
theorem dX9_odds_75 : decode cX9_odds 75 = .ok (.if_icmp .ne 7, 3) := by decide +kernel
theorem dX9_odds_78 : decode cX9_odds 78 = .ok (.iconst 0, 1) := by decide +kernel
theorem dX9_odds_79 : decode cX9_odds 79 = .ok (.goto 4, 3) := by decide +kernel
theorem dX9_odds_82 : decode cX9_odds 82 = .ok (.iconst 1, 1) := by decide +kernel
theorem dX9_odds_83 : decode cX9_odds 83 = .ok (.iadd, 1) := by decide +kernel
theorem dX9_odds_84 : decode cX9_odds 84 = .ok (.istore 4, 2) := by decide +kernel
theorem dX9_odds_86 : decode cX9_odds 86 = .ok (.aload_n 0, 1) := by decide +kernel
theorem dX9_odds_87 : decode cX9_odds 87 = .ok (.iload 5, 2) := by decide +kernel
theorem dX9_odds_89 : decode cX9_odds 89 = .ok (.iload 6, 2) := by decide +kernel
theorem dX9_odds_91 : decode cX9_odds 91 = .ok (.iconst 1, 1) := by decide +kernel
theorem dX9_odds_92 : decode cX9_odds 92 = .ok (.if_icmp .ne 7, 3) := by decide +kernel
theorem dX9_odds_95 : decode cX9_odds 95 = .ok (.iconst 1, 1) := by decide +kernel
theorem dX9_odds_96 : decode cX9_odds 96 = .ok (.goto 4, 3) := by decide +kernel
theorem dX9_odds_99 : decode cX9_odds 99 = .ok (.iconst 0, 1) := by decide +kernel
theorem dX9_odds_100 : decode cX9_odds 100 = .ok (.invokevirtual 273, 3) := by decide +kernel
theorem dX9_odds_103 : decode cX9_odds 103 = .ok (.pop, 1) := by decide +kernel
theorem dX9_odds_104 : decode cX9_odds 104 = .ok (.iinc 5 1, 3) := by decide +kernel
theorem dX9_odds_107 : decode cX9_odds 107 = .ok (.goto (-63), 3) := by decide +kernel
theorem dX9_odds_110 : decode cX9_odds 110 = .ok (.iload 4, 2) := by decide +kernel
theorem dX9_odds_112 : decode cX9_odds 112 = .ok (.i2l, 1) := by decide +kernel
theorem dX9_odds_113 : decode cX9_odds 113 = .ok (.aload_n 0, 1) := by decide +kernel
theorem dX9_odds_114 : decode cX9_odds 114 = .ok (.getfield 9, 3) := by decide +kernel
theorem dX9_odds_117 : decode cX9_odds 117 = .ok (.bipush 93, 2) := by decide +kernel
theorem dX9_odds_119 : decode cX9_odds 119 = .ok (.iaload, 1) := by decide +kernel
theorem dX9_odds_120 : decode cX9_odds 120 = .ok (.i2l, 1) := by decide +kernel
theorem dX9_odds_121 : decode cX9_odds 121 = .ok (.iload_n 3, 1) := by decide +kernel
theorem dX9_odds_122 : decode cX9_odds 122 = .ok (.invokestatic 277, 3) := by decide +kernel
theorem dX9_odds_125 : decode cX9_odds 125 = .ok (.lreturn, 1) := by decide +kernel
theorem dX9_mean_0 : decode cX9_mean 0 = .ok (.iload_n 1, 1) := by decide +kernel
theorem dX9_mean_1 : decode cX9_mean 1 = .ok (.iconst 0, 1) := by decide +kernel
theorem dX9_mean_2 : decode cX9_mean 2 = .ok (.iconst 1, 1) := by decide +kernel
theorem dX9_mean_3 : decode cX9_mean 3 = .ok (.invokestatic 98, 3) := by decide +kernel
theorem dX9_mean_6 : decode cX9_mean 6 = .ok (.ifCond .eq 33, 3) := by decide +kernel
theorem dX9_mean_9 : decode cX9_mean 9 = .ok (.aload_n 0, 1) := by decide +kernel
theorem dX9_mean_10 : decode cX9_mean 10 = .ok (.getfield 9, 3) := by decide +kernel
theorem dX9_mean_13 : decode cX9_mean 13 = .ok (.bipush 92, 2) := by decide +kernel
theorem dX9_mean_15 : decode cX9_mean 15 = .ok (.iaload, 1) := by decide +kernel
theorem dX9_mean_16 : decode cX9_mean 16 = .ok (.ifCond .le 23, 3) := by decide +kernel
theorem dX9_mean_19 : decode cX9_mean 19 = .ok (.aload_n 0, 1) := by decide +kernel
theorem dX9_mean_20 : decode cX9_mean 20 = .ok (.invokevirtual 251, 3) := by decide +kernel
theorem dX9_mean_23 : decode cX9_mean 23 = .ok (.i2l, 1) := by decide +kernel
theorem dX9_mean_24 : decode cX9_mean 24 = .ok (.aload_n 0, 1) := by decide +kernel
theorem dX9_mean_25 : decode cX9_mean 25 = .ok (.getfield 9, 3) := by decide +kernel
theorem dX9_mean_28 : decode cX9_mean 28 = .ok (.bipush 92, 2) := by decide +kernel
theorem dX9_mean_30 : decode cX9_mean 30 = .ok (.iaload, 1) := by decide +kernel
theorem dX9_mean_31 : decode cX9_mean 31 = .ok (.i2l, 1) := by decide +kernel
theorem dX9_mean_32 : decode cX9_mean 32 = .ok (.iload_n 1, 1) := by decide +kernel
theorem dX9_mean_33 : decode cX9_mean 33 = .ok (.invokestatic 277, 3) := by decide +kernel
theorem dX9_mean_36 : decode cX9_mean 36 = .ok (.goto 6, 3) := by decide +kernel
theorem dX9_mean_39 : decode cX9_mean 39 = .ok (.ldc2_w 271, 3) := by decide +kernel
theorem dX9_mean_42 : decode cX9_mean 42 = .ok (.lreturn, 1) := by decide +kernel
theorem dX9_plan_0 : decode cX9_plan 0 = .ok (.iload_n 1, 1) := by decide +kernel
theorem dX9_plan_1 : decode cX9_plan 1 = .ok (.iconst (-1), 1) := by decide +kernel
theorem dX9_plan_2 : decode cX9_plan 2 = .ok (.if_icmp .ne 13, 3) := by decide +kernel
theorem dX9_plan_5 : decode cX9_plan 5 = .ok (.aload_n 0, 1) := by decide +kernel
theorem dX9_plan_6 : decode cX9_plan 6 = .ok (.getfield 9, 3) := by decide +kernel
theorem dX9_plan_9 : decode cX9_plan 9 = .ok (.bipush 112, 2) := by decide +kernel
theorem dX9_plan_11 : decode cX9_plan 11 = .ok (.iconst 0, 1) := by decide +kernel
theorem dX9_plan_12 : decode cX9_plan 12 = .ok (.iastore, 1) := by decide +kernel
theorem dX9_plan_13 : decode cX9_plan 13 = .ok (.iconst 0, 1) := by decide +kernel
theorem dX9_plan_14 : decode cX9_plan 14 = .ok (.ireturn, 1) := by decide +kernel
theorem dX9_plan_15 : decode cX9_plan 15 = .ok (.iload_n 1, 1) := by decide +kernel
theorem dX9_plan_16 : decode cX9_plan 16 = .ok (.ifCond .eq 34, 3) := by decide +kernel
theorem dX9_plan_19 : decode cX9_plan 19 = .ok (.iload_n 1, 1) := by decide +kernel
theorem dX9_plan_20 : decode cX9_plan 20 = .ok (.iconst 1, 1) := by decide +kernel
theorem dX9_plan_21 : decode cX9_plan 21 = .ok (.if_icmp .eq 8, 3) := by decide +kernel
theorem dX9_plan_24 : decode cX9_plan 24 = .ok (.iload_n 1, 1) := by decide +kernel
theorem dX9_plan_25 : decode cX9_plan 25 = .ok (.iconst 2, 1) := by decide +kernel
theorem dX9_plan_26 : decode cX9_plan 26 = .ok (.if_icmp .ne 11, 3) := by decide +kernel
theorem dX9_plan_29 : decode cX9_plan 29 = .ok (.aload_n 0, 1) := by decide +kernel
theorem dX9_plan_30 : decode cX9_plan 30 = .ok (.iload_n 2, 1) := by decide +kernel
theorem dX9_plan_31 : decode cX9_plan 31 = .ok (.invokevirtual 130, 3) := by decide +kernel
theorem dX9_plan_34 : decode cX9_plan 34 = .ok (.ifCond .ne 16, 3) := by decide +kernel
theorem dX9_plan_37 : decode cX9_plan 37 = .ok (.iload_n 1, 1) := by decide +kernel
theorem dX9_plan_38 : decode cX9_plan 38 = .ok (.iconst 3, 1) := by decide +kernel
theorem dX9_plan_39 : decode cX9_plan 39 = .ok (.if_icmp .ne 15, 3) := by decide +kernel
theorem dX9_plan_42 : decode cX9_plan 42 = .ok (.aload_n 0, 1) := by decide +kernel
theorem dX9_plan_43 : decode cX9_plan 43 = .ok (.iload_n 2, 1) := by decide +kernel
theorem dX9_plan_44 : decode cX9_plan 44 = .ok (.invokevirtual 114, 3) := by decide +kernel
theorem dX9_plan_47 : decode cX9_plan 47 = .ok (.ifCond .eq 7, 3) := by decide +kernel
theorem dX9_plan_50 : decode cX9_plan 50 = .ok (.iconst 1, 1) := by decide +kernel
theorem dX9_plan_51 : decode cX9_plan 51 = .ok (.goto 4, 3) := by decide +kernel
theorem dX9_plan_54 : decode cX9_plan 54 = .ok (.iconst 0, 1) := by decide +kernel
theorem dX9_plan_55 : decode cX9_plan 55 = .ok (.istore_n 3, 1) := by decide +kernel
theorem dX9_plan_56 : decode cX9_plan 56 = .ok (.iload_n 3, 1) := by decide +kernel
theorem dX9_plan_57 : decode cX9_plan 57 = .ok (.ifCond .ne 5, 3) := by decide +kernel
theorem dX9_plan_60 : decode cX9_plan 60 = .ok (.iconst (-1), 1) := by decide +kernel
theorem dX9_plan_61 : decode cX9_plan 61 = .ok (.ireturn, 1) := by decide +kernel
theorem dX9_plan_62 : decode cX9_plan 62 = .ok (.aload_n 0, 1) := by decide +kernel
theorem dX9_plan_63 : decode cX9_plan 63 = .ok (.getfield 9, 3) := by decide +kernel
theorem dX9_plan_66 : decode cX9_plan 66 = .ok (.bipush 112, 2) := by decide +kernel
theorem dX9_plan_68 : decode cX9_plan 68 = .ok (.iaload, 1) := by decide +kernel
theorem dX9_plan_69 : decode cX9_plan 69 = .ok (.bipush 8, 2) := by decide +kernel
theorem dX9_plan_71 : decode cX9_plan 71 = .ok (.if_icmp .ne 6, 3) := by decide +kernel
theorem dX9_plan_74 : decode cX9_plan 74 = .ok (.bipush (-4), 2) := by decide +kernel
theorem dX9_plan_76 : decode cX9_plan 76 = .ok (.ireturn, 1) := by decide +kernel
theorem dX9_plan_77 : decode cX9_plan 77 = .ok (.aload_n 0, 1) := by decide +kernel
theorem dX9_plan_78 : decode cX9_plan 78 = .ok (.getfield 9, 3) := by decide +kernel
theorem dX9_plan_81 : decode cX9_plan 81 = .ok (.bipush 113, 2) := by decide +kernel
theorem dX9_plan_83 : decode cX9_plan 83 = .ok (.iconst 2, 1) := by decide +kernel
theorem dX9_plan_84 : decode cX9_plan 84 = .ok (.aload_n 0, 1) := by decide +kernel
theorem dX9_plan_85 : decode cX9_plan 85 = .ok (.getfield 9, 3) := by decide +kernel
theorem dX9_plan_88 : decode cX9_plan 88 = .ok (.bipush 112, 2) := by decide +kernel
theorem dX9_plan_90 : decode cX9_plan 90 = .ok (.iaload, 1) := by decide +kernel
theorem dX9_plan_91 : decode cX9_plan 91 = .ok (.imul, 1) := by decide +kernel
theorem dX9_plan_92 : decode cX9_plan 92 = .ok (.iadd, 1) := by decide +kernel
theorem dX9_plan_93 : decode cX9_plan 93 = .ok (.iload_n 1, 1) := by decide +kernel
theorem dX9_plan_94 : decode cX9_plan 94 = .ok (.iastore, 1) := by decide +kernel
theorem dX9_plan_95 : decode cX9_plan 95 = .ok (.aload_n 0, 1) := by decide +kernel
theorem dX9_plan_96 : decode cX9_plan 96 = .ok (.getfield 9, 3) := by decide +kernel
theorem dX9_plan_99 : decode cX9_plan 99 = .ok (.bipush 114, 2) := by decide +kernel
theorem dX9_plan_101 : decode cX9_plan 101 = .ok (.iconst 2, 1) := by decide +kernel
theorem dX9_plan_102 : decode cX9_plan 102 = .ok (.aload_n 0, 1) := by decide +kernel
theorem dX9_plan_103 : decode cX9_plan 103 = .ok (.getfield 9, 3) := by decide +kernel
theorem dX9_plan_106 : decode cX9_plan 106 = .ok (.bipush 112, 2) := by decide +kernel
theorem dX9_plan_108 : decode cX9_plan 108 = .ok (.iaload, 1) := by decide +kernel
theorem dX9_plan_109 : decode cX9_plan 109 = .ok (.imul, 1) := by decide +kernel
theorem dX9_plan_110 : decode cX9_plan 110 = .ok (.iadd, 1) := by decide +kernel
theorem dX9_plan_111 : decode cX9_plan 111 = .ok (.iload_n 2, 1) := by decide +kernel
theorem dX9_plan_112 : decode cX9_plan 112 = .ok (.iastore, 1) := by decide +kernel
theorem dX9_plan_113 : decode cX9_plan 113 = .ok (.aload_n 0, 1) := by decide +kernel
theorem dX9_plan_114 : decode cX9_plan 114 = .ok (.getfield 9, 3) := by decide +kernel
theorem dX9_plan_117 : decode cX9_plan 117 = .ok (.bipush 112, 2) := by decide +kernel
theorem dX9_plan_119 : decode cX9_plan 119 = .ok (.dup2, 1) := by decide +kernel
theorem dX9_plan_120 : decode cX9_plan 120 = .ok (.iaload, 1) := by decide +kernel
theorem dX9_plan_121 : decode cX9_plan 121 = .ok (.iconst 1, 1) := by decide +kernel
theorem dX9_plan_122 : decode cX9_plan 122 = .ok (.iadd, 1) := by decide +kernel
theorem dX9_plan_123 : decode cX9_plan 123 = .ok (.iastore, 1) := by decide +kernel
theorem dX9_plan_124 : decode cX9_plan 124 = .ok (.aload_n 0, 1) := by decide +kernel
theorem dX9_plan_125 : decode cX9_plan 125 = .ok (.getfield 9, 3) := by decide +kernel
theorem dX9_plan_128 : decode cX9_plan 128 = .ok (.bipush 112, 2) := by decide +kernel
theorem dX9_plan_130 : decode cX9_plan 130 = .ok (.iaload, 1) := by decide +kernel
theorem dX9_plan_131 : decode cX9_plan 131 = .ok (.ireturn, 1) := by decide +kernel
theorem dX9_ends_0 : decode cX9_ends 0 = .ok (.iload_n 1, 1) := by decide +kernel
theorem dX9_ends_1 : decode cX9_ends 1 = .ok (.iconst 0, 1) := by decide +kernel
theorem dX9_ends_2 : decode cX9_ends 2 = .ok (.iconst 1, 1) := by decide +kernel
theorem dX9_ends_3 : decode cX9_ends 3 = .ok (.invokestatic 98, 3) := by decide +kernel
theorem dX9_ends_6 : decode cX9_ends 6 = .ok (.ifCond .ne 5, 3) := by decide +kernel
theorem dX9_ends_9 : decode cX9_ends 9 = .ok (.iconst (-1), 1) := by decide +kernel
theorem dX9_ends_10 : decode cX9_ends 10 = .ok (.ireturn, 1) := by decide +kernel
theorem dX9_ends_11 : decode cX9_ends 11 = .ok (.aload_n 0, 1) := by decide +kernel
theorem dX9_ends_12 : decode cX9_ends 12 = .ok (.getfield 9, 3) := by decide +kernel
theorem dX9_ends_15 : decode cX9_ends 15 = .ok (.aload_n 0, 1) := by decide +kernel
theorem dX9_ends_16 : decode cX9_ends 16 = .ok (.getfield 15, 3) := by decide +kernel
theorem dX9_ends_19 : decode cX9_ends 19 = .ok (.invokestatic 94, 3) := by decide +kernel
theorem dX9_ends_22 : decode cX9_ends 22 = .ok (.iconst 0, 1) := by decide +kernel
theorem dX9_ends_23 : decode cX9_ends 23 = .ok (.istore_n 2, 1) := by decide +kernel
theorem dX9_ends_24 : decode cX9_ends 24 = .ok (.iload_n 2, 1) := by decide +kernel
theorem dX9_ends_25 : decode cX9_ends 25 = .ok (.aload_n 0, 1) := by decide +kernel
theorem dX9_ends_26 : decode cX9_ends 26 = .ok (.getfield 9, 3) := by decide +kernel
theorem dX9_ends_29 : decode cX9_ends 29 = .ok (.bipush 112, 2) := by decide +kernel
theorem dX9_ends_31 : decode cX9_ends 31 = .ok (.iaload, 1) := by decide +kernel
theorem dX9_ends_32 : decode cX9_ends 32 = .ok (.if_icmp .ge 76, 3) := by decide +kernel
theorem dX9_ends_35 : decode cX9_ends 35 = .ok (.aload_n 0, 1) := by decide +kernel
theorem dX9_ends_36 : decode cX9_ends 36 = .ok (.getfield 9, 3) := by decide +kernel
theorem dX9_ends_39 : decode cX9_ends 39 = .ok (.bipush 113, 2) := by decide +kernel
theorem dX9_ends_41 : decode cX9_ends 41 = .ok (.iconst 2, 1) := by decide +kernel
theorem dX9_ends_42 : decode cX9_ends 42 = .ok (.iload_n 2, 1) := by decide +kernel
theorem dX9_ends_43 : decode cX9_ends 43 = .ok (.imul, 1) := by decide +kernel
theorem dX9_ends_44 : decode cX9_ends 44 = .ok (.iadd, 1) := by decide +kernel
theorem dX9_ends_45 : decode cX9_ends 45 = .ok (.iaload, 1) := by decide +kernel
theorem dX9_ends_46 : decode cX9_ends 46 = .ok (.istore_n 3, 1) := by decide +kernel
theorem dX9_ends_47 : decode cX9_ends 47 = .ok (.aload_n 0, 1) := by decide +kernel
theorem dX9_ends_48 : decode cX9_ends 48 = .ok (.getfield 9, 3) := by decide +kernel
theorem dX9_ends_51 : decode cX9_ends 51 = .ok (.bipush 114, 2) := by decide +kernel
theorem dX9_ends_53 : decode cX9_ends 53 = .ok (.iconst 2, 1) := by decide +kernel
theorem dX9_ends_54 : decode cX9_ends 54 = .ok (.iload_n 2, 1) := by decide +kernel
theorem dX9_ends_55 : decode cX9_ends 55 = .ok (.imul, 1) := by decide +kernel
theorem dX9_ends_56 : decode cX9_ends 56 = .ok (.iadd, 1) := by decide +kernel
theorem dX9_ends_57 : decode cX9_ends 57 = .ok (.iaload, 1) := by decide +kernel
theorem dX9_ends_58 : decode cX9_ends 58 = .ok (.istore 4, 2) := by decide +kernel
theorem dX9_ends_60 : decode cX9_ends 60 = .ok (.iload_n 3, 1) := by decide +kernel
theorem dX9_ends_61 : decode cX9_ends 61 = .ok (.ifCond .ne 10, 3) := by decide +kernel
theorem dX9_ends_64 : decode cX9_ends 64 = .ok (.aload_n 0, 1) := by decide +kernel
theorem dX9_ends_65 : decode cX9_ends 65 = .ok (.invokevirtual 242, 3) := by decide +kernel
theorem dX9_ends_68 : decode cX9_ends 68 = .ok (.goto 34, 3) := by decide +kernel
theorem dX9_ends_71 : decode cX9_ends 71 = .ok (.iload_n 3, 1) := by decide +kernel
theorem dX9_ends_72 : decode cX9_ends 72 = .ok (.iconst 3, 1) := by decide +kernel
theorem dX9_ends_73 : decode cX9_ends 73 = .ok (.if_icmp .ne 15, 3) := by decide +kernel
theorem dX9_ends_76 : decode cX9_ends 76 = .ok (.aload_n 0, 1) := by decide +kernel
theorem dX9_ends_77 : decode cX9_ends 77 = .ok (.iload 4, 2) := by decide +kernel
theorem dX9_ends_79 : decode cX9_ends 79 = .ok (.iconst 4, 1) := by decide +kernel
theorem dX9_ends_80 : decode cX9_ends 80 = .ok (.iconst (-1), 1) := by decide +kernel
theorem dX9_ends_81 : decode cX9_ends 81 = .ok (.invokevirtual 110, 3) := by decide +kernel
theorem dX9_ends_84 : decode cX9_ends 84 = .ok (.pop, 1) := by decide +kernel
theorem dX9_ends_85 : decode cX9_ends 85 = .ok (.goto 17, 3) := by decide +kernel
theorem dX9_ends_88 : decode cX9_ends 88 = .ok (.aload_n 0, 1) := by decide +kernel
theorem dX9_ends_89 : decode cX9_ends 89 = .ok (.getfield 9, 3) := by decide +kernel
theorem dX9_ends_92 : decode cX9_ends 92 = .ok (.iconst 4, 1) := by decide +kernel
theorem dX9_ends_93 : decode cX9_ends 93 = .ok (.iload 4, 2) := by decide +kernel
theorem dX9_ends_95 : decode cX9_ends 95 = .ok (.imul, 1) := by decide +kernel
theorem dX9_ends_96 : decode cX9_ends 96 = .ok (.iconst 3, 1) := by decide +kernel
theorem dX9_ends_97 : decode cX9_ends 97 = .ok (.iadd, 1) := by decide +kernel
theorem dX9_ends_98 : decode cX9_ends 98 = .ok (.iconst 2, 1) := by decide +kernel
theorem dX9_ends_99 : decode cX9_ends 99 = .ok (.iload_n 3, 1) := by decide +kernel
theorem dX9_ends_100 : decode cX9_ends 100 = .ok (.isub, 1) := by decide +kernel
theorem dX9_ends_101 : decode cX9_ends 101 = .ok (.iastore, 1) := by decide +kernel
theorem dX9_ends_102 : decode cX9_ends 102 = .ok (.iinc 2 1, 3) := by decide +kernel
theorem dX9_ends_105 : decode cX9_ends 105 = .ok (.goto (-81), 3) := by decide +kernel
theorem dX9_ends_108 : decode cX9_ends 108 = .ok (.iload_n 1, 1) := by decide +kernel
theorem dX9_ends_109 : decode cX9_ends 109 = .ok (.ifCond .ne 10, 3) := by decide +kernel
theorem dX9_ends_112 : decode cX9_ends 112 = .ok (.aload_n 0, 1) := by decide +kernel
theorem dX9_ends_113 : decode cX9_ends 113 = .ok (.invokevirtual 248, 3) := by decide +kernel
theorem dX9_ends_116 : decode cX9_ends 116 = .ok (.goto 7, 3) := by decide +kernel
theorem dX9_ends_119 : decode cX9_ends 119 = .ok (.aload_n 0, 1) := by decide +kernel
theorem dX9_ends_120 : decode cX9_ends 120 = .ok (.invokevirtual 251, 3) := by decide +kernel
theorem dX9_ends_123 : decode cX9_ends 123 = .ok (.istore_n 2, 1) := by decide +kernel
theorem dX9_ends_124 : decode cX9_ends 124 = .ok (.aload_n 0, 1) := by decide +kernel
theorem dX9_ends_125 : decode cX9_ends 125 = .ok (.getfield 15, 3) := by decide +kernel
theorem dX9_ends_128 : decode cX9_ends 128 = .ok (.aload_n 0, 1) := by decide +kernel
theorem dX9_ends_129 : decode cX9_ends 129 = .ok (.getfield 9, 3) := by decide +kernel
theorem dX9_ends_132 : decode cX9_ends 132 = .ok (.invokestatic 94, 3) := by decide +kernel
theorem dX9_ends_135 : decode cX9_ends 135 = .ok (.iload_n 2, 1) := by decide +kernel
theorem dX9_ends_136 : decode cX9_ends 136 = .ok (.ireturn, 1) := by decide +kernel
theorem dX9_book_0 : decode cX9_book 0 = .ok (.iload_n 1, 1) := by decide +kernel
theorem dX9_book_1 : decode cX9_book 1 = .ok (.iconst (-1), 1) := by decide +kernel
theorem dX9_book_2 : decode cX9_book 2 = .ok (.if_icmp .ne 14, 3) := by decide +kernel
theorem dX9_book_5 : decode cX9_book 5 = .ok (.aload_n 0, 1) := by decide +kernel
theorem dX9_book_6 : decode cX9_book 6 = .ok (.getfield 9, 3) := by decide +kernel
theorem dX9_book_9 : decode cX9_book 9 = .ok (.sipush 129, 3) := by decide +kernel
theorem dX9_book_12 : decode cX9_book 12 = .ok (.iconst 0, 1) := by decide +kernel
theorem dX9_book_13 : decode cX9_book 13 = .ok (.iastore, 1) := by decide +kernel
theorem dX9_book_14 : decode cX9_book 14 = .ok (.iconst 0, 1) := by decide +kernel
theorem dX9_book_15 : decode cX9_book 15 = .ok (.ireturn, 1) := by decide +kernel
theorem dX9_book_16 : decode cX9_book 16 = .ok (.aload_n 0, 1) := by decide +kernel
theorem dX9_book_17 : decode cX9_book 17 = .ok (.iload_n 1, 1) := by decide +kernel
theorem dX9_book_18 : decode cX9_book 18 = .ok (.invokevirtual 114, 3) := by decide +kernel
theorem dX9_book_21 : decode cX9_book 21 = .ok (.ifCond .eq 10, 3) := by decide +kernel
theorem dX9_book_24 : decode cX9_book 24 = .ok (.iload_n 2, 1) := by decide +kernel
theorem dX9_book_25 : decode cX9_book 25 = .ok (.invokestatic 106, 3) := by decide +kernel
theorem dX9_book_28 : decode cX9_book 28 = .ok (.ifCond .ne 5, 3) := by decide +kernel
theorem dX9_book_31 : decode cX9_book 31 = .ok (.iconst (-1), 1) := by decide +kernel
theorem dX9_book_32 : decode cX9_book 32 = .ok (.ireturn, 1) := by decide +kernel
theorem dX9_book_33 : decode cX9_book 33 = .ok (.aload_n 0, 1) := by decide +kernel
theorem dX9_book_34 : decode cX9_book 34 = .ok (.getfield 9, 3) := by decide +kernel
theorem dX9_book_37 : decode cX9_book 37 = .ok (.sipush 129, 3) := by decide +kernel
theorem dX9_book_40 : decode cX9_book 40 = .ok (.iaload, 1) := by decide +kernel
theorem dX9_book_41 : decode cX9_book 41 = .ok (.bipush 8, 2) := by decide +kernel
theorem dX9_book_43 : decode cX9_book 43 = .ok (.if_icmp .ne 6, 3) := by decide +kernel
theorem dX9_book_46 : decode cX9_book 46 = .ok (.bipush (-4), 2) := by decide +kernel
theorem dX9_book_48 : decode cX9_book 48 = .ok (.ireturn, 1) := by decide +kernel
theorem dX9_book_49 : decode cX9_book 49 = .ok (.aload_n 0, 1) := by decide +kernel
theorem dX9_book_50 : decode cX9_book 50 = .ok (.getfield 9, 3) := by decide +kernel
theorem dX9_book_53 : decode cX9_book 53 = .ok (.sipush 130, 3) := by decide +kernel
theorem dX9_book_56 : decode cX9_book 56 = .ok (.iconst 2, 1) := by decide +kernel
theorem dX9_book_57 : decode cX9_book 57 = .ok (.aload_n 0, 1) := by decide +kernel
theorem dX9_book_58 : decode cX9_book 58 = .ok (.getfield 9, 3) := by decide +kernel
theorem dX9_book_61 : decode cX9_book 61 = .ok (.sipush 129, 3) := by decide +kernel
theorem dX9_book_64 : decode cX9_book 64 = .ok (.iaload, 1) := by decide +kernel
theorem dX9_book_65 : decode cX9_book 65 = .ok (.imul, 1) := by decide +kernel
theorem dX9_book_66 : decode cX9_book 66 = .ok (.iadd, 1) := by decide +kernel
theorem dX9_book_67 : decode cX9_book 67 = .ok (.iload_n 1, 1) := by decide +kernel
theorem dX9_book_68 : decode cX9_book 68 = .ok (.iastore, 1) := by decide +kernel
theorem dX9_book_69 : decode cX9_book 69 = .ok (.aload_n 0, 1) := by decide +kernel
theorem dX9_book_70 : decode cX9_book 70 = .ok (.getfield 9, 3) := by decide +kernel
theorem dX9_book_73 : decode cX9_book 73 = .ok (.sipush 131, 3) := by decide +kernel
theorem dX9_book_76 : decode cX9_book 76 = .ok (.iconst 2, 1) := by decide +kernel
theorem dX9_book_77 : decode cX9_book 77 = .ok (.aload_n 0, 1) := by decide +kernel
theorem dX9_book_78 : decode cX9_book 78 = .ok (.getfield 9, 3) := by decide +kernel
theorem dX9_book_81 : decode cX9_book 81 = .ok (.sipush 129, 3) := by decide +kernel
theorem dX9_book_84 : decode cX9_book 84 = .ok (.iaload, 1) := by decide +kernel
theorem dX9_book_85 : decode cX9_book 85 = .ok (.imul, 1) := by decide +kernel
theorem dX9_book_86 : decode cX9_book 86 = .ok (.iadd, 1) := by decide +kernel
theorem dX9_book_87 : decode cX9_book 87 = .ok (.iload_n 2, 1) := by decide +kernel
theorem dX9_book_88 : decode cX9_book 88 = .ok (.iastore, 1) := by decide +kernel
theorem dX9_book_89 : decode cX9_book 89 = .ok (.aload_n 0, 1) := by decide +kernel
theorem dX9_book_90 : decode cX9_book 90 = .ok (.getfield 9, 3) := by decide +kernel
theorem dX9_book_93 : decode cX9_book 93 = .ok (.sipush 129, 3) := by decide +kernel
theorem dX9_book_96 : decode cX9_book 96 = .ok (.dup2, 1) := by decide +kernel
theorem dX9_book_97 : decode cX9_book 97 = .ok (.iaload, 1) := by decide +kernel
theorem dX9_book_98 : decode cX9_book 98 = .ok (.iconst 1, 1) := by decide +kernel
theorem dX9_book_99 : decode cX9_book 99 = .ok (.iadd, 1) := by decide +kernel
theorem dX9_book_100 : decode cX9_book 100 = .ok (.iastore, 1) := by decide +kernel
theorem dX9_book_101 : decode cX9_book 101 = .ok (.aload_n 0, 1) := by decide +kernel
theorem dX9_book_102 : decode cX9_book 102 = .ok (.getfield 9, 3) := by decide +kernel
theorem dX9_book_105 : decode cX9_book 105 = .ok (.sipush 129, 3) := by decide +kernel
theorem dX9_book_108 : decode cX9_book 108 = .ok (.iaload, 1) := by decide +kernel
theorem dX9_book_109 : decode cX9_book 109 = .ok (.ireturn, 1) := by decide +kernel
theorem dX9_looked_0 : decode cX9_looked 0 = .ok (.iconst 0, 1) := by decide +kernel
theorem dX9_looked_1 : decode cX9_looked 1 = .ok (.istore_n 1, 1) := by decide +kernel
theorem dX9_looked_2 : decode cX9_looked 2 = .ok (.iload_n 1, 1) := by decide +kernel
theorem dX9_looked_3 : decode cX9_looked 3 = .ok (.aload_n 0, 1) := by decide +kernel
theorem dX9_looked_4 : decode cX9_looked 4 = .ok (.getfield 9, 3) := by decide +kernel
theorem dX9_looked_7 : decode cX9_looked 7 = .ok (.sipush 129, 3) := by decide +kernel
theorem dX9_looked_10 : decode cX9_looked 10 = .ok (.iaload, 1) := by decide +kernel
theorem dX9_looked_11 : decode cX9_looked 11 = .ok (.if_icmp .ge 43, 3) := by decide +kernel
theorem dX9_looked_14 : decode cX9_looked 14 = .ok (.aload_n 0, 1) := by decide +kernel
theorem dX9_looked_15 : decode cX9_looked 15 = .ok (.aload_n 0, 1) := by decide +kernel
theorem dX9_looked_16 : decode cX9_looked 16 = .ok (.getfield 9, 3) := by decide +kernel
theorem dX9_looked_19 : decode cX9_looked 19 = .ok (.sipush 130, 3) := by decide +kernel
theorem dX9_looked_22 : decode cX9_looked 22 = .ok (.iconst 2, 1) := by decide +kernel
theorem dX9_looked_23 : decode cX9_looked 23 = .ok (.iload_n 1, 1) := by decide +kernel
theorem dX9_looked_24 : decode cX9_looked 24 = .ok (.imul, 1) := by decide +kernel
theorem dX9_looked_25 : decode cX9_looked 25 = .ok (.iadd, 1) := by decide +kernel
theorem dX9_looked_26 : decode cX9_looked 26 = .ok (.iaload, 1) := by decide +kernel
theorem dX9_looked_27 : decode cX9_looked 27 = .ok (.iconst 3, 1) := by decide +kernel
theorem dX9_looked_28 : decode cX9_looked 28 = .ok (.invokevirtual 102, 3) := by decide +kernel
theorem dX9_looked_31 : decode cX9_looked 31 = .ok (.aload_n 0, 1) := by decide +kernel
theorem dX9_looked_32 : decode cX9_looked 32 = .ok (.getfield 9, 3) := by decide +kernel
theorem dX9_looked_35 : decode cX9_looked 35 = .ok (.sipush 131, 3) := by decide +kernel
theorem dX9_looked_38 : decode cX9_looked 38 = .ok (.iconst 2, 1) := by decide +kernel
theorem dX9_looked_39 : decode cX9_looked 39 = .ok (.iload_n 1, 1) := by decide +kernel
theorem dX9_looked_40 : decode cX9_looked 40 = .ok (.imul, 1) := by decide +kernel
theorem dX9_looked_41 : decode cX9_looked 41 = .ok (.iadd, 1) := by decide +kernel
theorem dX9_looked_42 : decode cX9_looked 42 = .ok (.iaload, 1) := by decide +kernel
theorem dX9_looked_43 : decode cX9_looked 43 = .ok (.if_icmp .eq 5, 3) := by decide +kernel
theorem dX9_looked_46 : decode cX9_looked 46 = .ok (.iload_n 1, 1) := by decide +kernel
theorem dX9_looked_47 : decode cX9_looked 47 = .ok (.ireturn, 1) := by decide +kernel
theorem dX9_looked_48 : decode cX9_looked 48 = .ok (.iinc 1 1, 3) := by decide +kernel
theorem dX9_looked_51 : decode cX9_looked 51 = .ok (.goto (-49), 3) := by decide +kernel
theorem dX9_looked_54 : decode cX9_looked 54 = .ok (.bipush (-5), 2) := by decide +kernel
theorem dX9_looked_56 : decode cX9_looked 56 = .ok (.ireturn, 1) := by decide +kernel
theorem dX9_body_0 : decode cX9_body 0 = .ok (.aload_n 0, 1) := by decide +kernel
theorem dX9_body_1 : decode cX9_body 1 = .ok (.getfield 281, 3) := by decide +kernel
theorem dX9_body_4 : decode cX9_body 4 = .ok (.bipush 20, 2) := by decide +kernel
theorem dX9_body_6 : decode cX9_body 6 = .ok (.if_icmp .ge 13, 3) := by decide +kernel
theorem dX9_body_9 : decode cX9_body 9 = .ok (.aload_n 0, 1) := by decide +kernel
theorem dX9_body_10 : decode cX9_body 10 = .ok (.getfield 74, 3) := by decide +kernel
theorem dX9_body_13 : decode cX9_body 13 = .ok (.aload_n 0, 1) := by decide +kernel
theorem dX9_body_14 : decode cX9_body 14 = .ok (.getfield 281, 3) := by decide +kernel
theorem dX9_body_17 : decode cX9_body 17 = .ok (.iload_n 1, 1) := by decide +kernel
theorem dX9_body_18 : decode cX9_body 18 = .ok (.iastore, 1) := by decide +kernel
theorem dX9_body_19 : decode cX9_body 19 = .ok (.aload_n 0, 1) := by decide +kernel
theorem dX9_body_20 : decode cX9_body 20 = .ok (.dup, 1) := by decide +kernel
theorem dX9_body_21 : decode cX9_body 21 = .ok (.getfield 281, 3) := by decide +kernel
theorem dX9_body_24 : decode cX9_body 24 = .ok (.iconst 1, 1) := by decide +kernel
theorem dX9_body_25 : decode cX9_body 25 = .ok (.iadd, 1) := by decide +kernel
theorem dX9_body_26 : decode cX9_body 26 = .ok (.putfield 281, 3) := by decide +kernel
theorem dX9_body_29 : decode cX9_body 29 = .ok (.iload_n 1, 1) := by decide +kernel
theorem dX9_body_30 : decode cX9_body 30 = .ok (.ireturn, 1) := by decide +kernel
theorem dX9_all_0 : decode cX9_all 0 = .ok (.aload_n 0, 1) := by decide +kernel
theorem dX9_all_1 : decode cX9_all 1 = .ok (.aload_n 0, 1) := by decide +kernel
theorem dX9_all_2 : decode cX9_all 2 = .ok (.iload_n 1, 1) := by decide +kernel
theorem dX9_all_3 : decode cX9_all 3 = .ok (.iconst 0, 1) := by decide +kernel
theorem dX9_all_4 : decode cX9_all 4 = .ok (.invokevirtual 102, 3) := by decide +kernel
theorem dX9_all_7 : decode cX9_all 7 = .ok (.iload_n 1, 1) := by decide +kernel
theorem dX9_all_8 : decode cX9_all 8 = .ok (.iload_n 2, 1) := by decide +kernel
theorem dX9_all_9 : decode cX9_all 9 = .ok (.iload_n 3, 1) := by decide +kernel
theorem dX9_all_10 : decode cX9_all 10 = .ok (.invokevirtual 284, 3) := by decide +kernel
theorem dX9_all_13 : decode cX9_all 13 = .ok (.ireturn, 1) := by decide +kernel
theorem dX9_byKind_0 : decode cX9_byKind 0 = .ok (.iload_n 1, 1) := by decide +kernel
theorem dX9_byKind_1 : decode cX9_byKind 1 = .ok (.istore 5, 2) := by decide +kernel
theorem dX9_byKind_3 : decode cX9_byKind 3 = .ok (.aload_n 0, 1) := by decide +kernel
theorem dX9_byKind_4 : decode cX9_byKind 4 = .ok (.getfield 71, 3) := by decide +kernel
theorem dX9_byKind_7 : decode cX9_byKind 7 = .ok (.iconst 3, 1) := by decide +kernel
theorem dX9_byKind_8 : decode cX9_byKind 8 = .ok (.iload 5, 2) := by decide +kernel
theorem dX9_byKind_10 : decode cX9_byKind 10 = .ok (.imul, 1) := by decide +kernel
theorem dX9_byKind_11 : decode cX9_byKind 11 = .ok (.iload_n 3, 1) := by decide +kernel
theorem dX9_byKind_12 : decode cX9_byKind 12 = .ok (.iadd, 1) := by decide +kernel
theorem dX9_byKind_13 : decode cX9_byKind 13 = .ok (.iaload, 1) := by decide +kernel
theorem dX9_byKind_14 : decode cX9_byKind 14 = .ok (.ifCond .ne 15, 3) := by decide +kernel
theorem dX9_byKind_17 : decode cX9_byKind 17 = .ok (.aload_n 0, 1) := by decide +kernel
theorem dX9_byKind_18 : decode cX9_byKind 18 = .ok (.getfield 68, 3) := by decide +kernel
theorem dX9_byKind_21 : decode cX9_byKind 21 = .ok (.iload 5, 2) := by decide +kernel
theorem dX9_byKind_23 : decode cX9_byKind 23 = .ok (.iaload, 1) := by decide +kernel
theorem dX9_byKind_24 : decode cX9_byKind 24 = .ok (.istore 5, 2) := by decide +kernel
theorem dX9_byKind_26 : decode cX9_byKind 26 = .ok (.goto (-23), 3) := by decide +kernel
theorem dX9_byKind_29 : decode cX9_byKind 29 = .ok (.aload_n 0, 1) := by decide +kernel
theorem dX9_byKind_30 : decode cX9_byKind 30 = .ok (.getfield 68, 3) := by decide +kernel
theorem dX9_byKind_33 : decode cX9_byKind 33 = .ok (.iload 5, 2) := by decide +kernel
theorem dX9_byKind_35 : decode cX9_byKind 35 = .ok (.iaload, 1) := by decide +kernel
theorem dX9_byKind_36 : decode cX9_byKind 36 = .ok (.istore 6, 2) := by decide +kernel
theorem dX9_byKind_38 : decode cX9_byKind 38 = .ok (.aload_n 0, 1) := by decide +kernel
theorem dX9_byKind_39 : decode cX9_byKind 39 = .ok (.aload_n 0, 1) := by decide +kernel
theorem dX9_byKind_40 : decode cX9_byKind 40 = .ok (.getfield 71, 3) := by decide +kernel
theorem dX9_byKind_43 : decode cX9_byKind 43 = .ok (.iconst 3, 1) := by decide +kernel
theorem dX9_byKind_44 : decode cX9_byKind 44 = .ok (.iload 5, 2) := by decide +kernel
theorem dX9_byKind_46 : decode cX9_byKind 46 = .ok (.imul, 1) := by decide +kernel
theorem dX9_byKind_47 : decode cX9_byKind 47 = .ok (.iload_n 3, 1) := by decide +kernel
theorem dX9_byKind_48 : decode cX9_byKind 48 = .ok (.iadd, 1) := by decide +kernel
theorem dX9_byKind_49 : decode cX9_byKind 49 = .ok (.iaload, 1) := by decide +kernel
theorem dX9_byKind_50 : decode cX9_byKind 50 = .ok (.invokevirtual 288, 3) := by decide +kernel
theorem dX9_byKind_53 : decode cX9_byKind 53 = .ok (.lookupswitch 228 #[(10, 91), (11, 96), (12, 112), (20, 123), (30, 137), (40, 150), (50, 169), (51, 181), (60, 194), (70, 207)], 91) := by decide +kernel
theorem dX9_byKind_144 : decode cX9_byKind 144 = .ok (.iload 4, 2) := by decide +kernel
theorem dX9_byKind_146 : decode cX9_byKind 146 = .ok (.iload_n 2, 1) := by decide +kernel
theorem dX9_byKind_147 : decode cX9_byKind 147 = .ok (.iadd, 1) := by decide +kernel
theorem dX9_byKind_148 : decode cX9_byKind 148 = .ok (.ireturn, 1) := by decide +kernel
theorem dX9_byKind_149 : decode cX9_byKind 149 = .ok (.aload_n 0, 1) := by decide +kernel
theorem dX9_byKind_150 : decode cX9_byKind 150 = .ok (.iload_n 2, 1) := by decide +kernel
theorem dX9_byKind_151 : decode cX9_byKind 151 = .ok (.iconst 0, 1) := by decide +kernel
theorem dX9_byKind_152 : decode cX9_byKind 152 = .ok (.iload 4, 2) := by decide +kernel
theorem dX9_byKind_154 : decode cX9_byKind 154 = .ok (.invokevirtual 291, 3) := by decide +kernel
theorem dX9_byKind_157 : decode cX9_byKind 157 = .ok (.aload_n 0, 1) := by decide +kernel
theorem dX9_byKind_158 : decode cX9_byKind 158 = .ok (.iload_n 2, 1) := by decide +kernel
theorem dX9_byKind_159 : decode cX9_byKind 159 = .ok (.iconst 1, 1) := by decide +kernel
theorem dX9_byKind_160 : decode cX9_byKind 160 = .ok (.invokevirtual 102, 3) := by decide +kernel
theorem dX9_byKind_163 : decode cX9_byKind 163 = .ok (.isub, 1) := by decide +kernel
theorem dX9_byKind_164 : decode cX9_byKind 164 = .ok (.ireturn, 1) := by decide +kernel
theorem dX9_byKind_165 : decode cX9_byKind 165 = .ok (.aload_n 0, 1) := by decide +kernel
theorem dX9_byKind_166 : decode cX9_byKind 166 = .ok (.iload_n 2, 1) := by decide +kernel
theorem dX9_byKind_167 : decode cX9_byKind 167 = .ok (.iconst 1, 1) := by decide +kernel
theorem dX9_byKind_168 : decode cX9_byKind 168 = .ok (.iload 4, 2) := by decide +kernel
theorem dX9_byKind_170 : decode cX9_byKind 170 = .ok (.invokevirtual 291, 3) := by decide +kernel
theorem dX9_byKind_173 : decode cX9_byKind 173 = .ok (.iconst 2, 1) := by decide +kernel
theorem dX9_byKind_174 : decode cX9_byKind 174 = .ok (.imul, 1) := by decide +kernel
theorem dX9_byKind_175 : decode cX9_byKind 175 = .ok (.ireturn, 1) := by decide +kernel
theorem dX9_byKind_176 : decode cX9_byKind 176 = .ok (.aload_n 0, 1) := by decide +kernel
theorem dX9_byKind_177 : decode cX9_byKind 177 = .ok (.iload 6, 2) := by decide +kernel
theorem dX9_byKind_179 : decode cX9_byKind 179 = .ok (.iload_n 2, 1) := by decide +kernel
theorem dX9_byKind_180 : decode cX9_byKind 180 = .ok (.iconst 1, 1) := by decide +kernel
theorem dX9_byKind_181 : decode cX9_byKind 181 = .ok (.iload 4, 2) := by decide +kernel
theorem dX9_byKind_183 : decode cX9_byKind 183 = .ok (.invokevirtual 284, 3) := by decide +kernel
theorem dX9_byKind_186 : decode cX9_byKind 186 = .ok (.bipush 6, 2) := by decide +kernel
theorem dX9_byKind_188 : decode cX9_byKind 188 = .ok (.ixor, 1) := by decide +kernel
theorem dX9_byKind_189 : decode cX9_byKind 189 = .ok (.ireturn, 1) := by decide +kernel
theorem dX9_byKind_190 : decode cX9_byKind 190 = .ok (.aload_n 0, 1) := by decide +kernel
theorem dX9_byKind_191 : decode cX9_byKind 191 = .ok (.iload 6, 2) := by decide +kernel
theorem dX9_byKind_193 : decode cX9_byKind 193 = .ok (.iload_n 2, 1) := by decide +kernel
theorem dX9_byKind_194 : decode cX9_byKind 194 = .ok (.iconst 0, 1) := by decide +kernel
theorem dX9_byKind_195 : decode cX9_byKind 195 = .ok (.iload 4, 2) := by decide +kernel
theorem dX9_byKind_197 : decode cX9_byKind 197 = .ok (.iconst 3, 1) := by decide +kernel
theorem dX9_byKind_198 : decode cX9_byKind 198 = .ok (.imul, 1) := by decide +kernel
theorem dX9_byKind_199 : decode cX9_byKind 199 = .ok (.invokevirtual 284, 3) := by decide +kernel
theorem dX9_byKind_202 : decode cX9_byKind 202 = .ok (.ireturn, 1) := by decide +kernel
theorem dX9_byKind_203 : decode cX9_byKind 203 = .ok (.aload_n 0, 1) := by decide +kernel
theorem dX9_byKind_204 : decode cX9_byKind 204 = .ok (.iload 6, 2) := by decide +kernel
theorem dX9_byKind_206 : decode cX9_byKind 206 = .ok (.iload_n 2, 1) := by decide +kernel
theorem dX9_byKind_207 : decode cX9_byKind 207 = .ok (.iconst 2, 1) := by decide +kernel
theorem dX9_byKind_208 : decode cX9_byKind 208 = .ok (.iload 4, 2) := by decide +kernel
theorem dX9_byKind_210 : decode cX9_byKind 210 = .ok (.invokevirtual 284, 3) := by decide +kernel
theorem dX9_byKind_213 : decode cX9_byKind 213 = .ok (.aload_n 0, 1) := by decide +kernel
theorem dX9_byKind_214 : decode cX9_byKind 214 = .ok (.iload_n 2, 1) := by decide +kernel
theorem dX9_byKind_215 : decode cX9_byKind 215 = .ok (.iconst 1, 1) := by decide +kernel
theorem dX9_byKind_216 : decode cX9_byKind 216 = .ok (.iconst 1, 1) := by decide +kernel
theorem dX9_byKind_217 : decode cX9_byKind 217 = .ok (.invokevirtual 291, 3) := by decide +kernel
theorem dX9_byKind_220 : decode cX9_byKind 220 = .ok (.iadd, 1) := by decide +kernel
theorem dX9_byKind_221 : decode cX9_byKind 221 = .ok (.ireturn, 1) := by decide +kernel
theorem dX9_byKind_222 : decode cX9_byKind 222 = .ok (.aload_n 0, 1) := by decide +kernel
theorem dX9_byKind_223 : decode cX9_byKind 223 = .ok (.iload 6, 2) := by decide +kernel
theorem dX9_byKind_225 : decode cX9_byKind 225 = .ok (.iload_n 2, 1) := by decide +kernel
theorem dX9_byKind_226 : decode cX9_byKind 226 = .ok (.iconst 0, 1) := by decide +kernel
theorem dX9_byKind_227 : decode cX9_byKind 227 = .ok (.iload 4, 2) := by decide +kernel
theorem dX9_byKind_229 : decode cX9_byKind 229 = .ok (.invokevirtual 284, 3) := by decide +kernel
theorem dX9_byKind_232 : decode cX9_byKind 232 = .ok (.ineg, 1) := by decide +kernel
theorem dX9_byKind_233 : decode cX9_byKind 233 = .ok (.ireturn, 1) := by decide +kernel
theorem dX9_byKind_234 : decode cX9_byKind 234 = .ok (.aload_n 0, 1) := by decide +kernel
theorem dX9_byKind_235 : decode cX9_byKind 235 = .ok (.iload 6, 2) := by decide +kernel
theorem dX9_byKind_237 : decode cX9_byKind 237 = .ok (.iload_n 2, 1) := by decide +kernel
theorem dX9_byKind_238 : decode cX9_byKind 238 = .ok (.iconst 1, 1) := by decide +kernel
theorem dX9_byKind_239 : decode cX9_byKind 239 = .ok (.iload 4, 2) := by decide +kernel
theorem dX9_byKind_241 : decode cX9_byKind 241 = .ok (.iconst 1, 1) := by decide +kernel
theorem dX9_byKind_242 : decode cX9_byKind 242 = .ok (.iadd, 1) := by decide +kernel
theorem dX9_byKind_243 : decode cX9_byKind 243 = .ok (.invokevirtual 284, 3) := by decide +kernel
theorem dX9_byKind_246 : decode cX9_byKind 246 = .ok (.ireturn, 1) := by decide +kernel
theorem dX9_byKind_247 : decode cX9_byKind 247 = .ok (.aload_n 0, 1) := by decide +kernel
theorem dX9_byKind_248 : decode cX9_byKind 248 = .ok (.iload 6, 2) := by decide +kernel
theorem dX9_byKind_250 : decode cX9_byKind 250 = .ok (.iload_n 2, 1) := by decide +kernel
theorem dX9_byKind_251 : decode cX9_byKind 251 = .ok (.iconst 2, 1) := by decide +kernel
theorem dX9_byKind_252 : decode cX9_byKind 252 = .ok (.iload 4, 2) := by decide +kernel
theorem dX9_byKind_254 : decode cX9_byKind 254 = .ok (.iload_n 2, 1) := by decide +kernel
theorem dX9_byKind_255 : decode cX9_byKind 255 = .ok (.isub, 1) := by decide +kernel
theorem dX9_byKind_256 : decode cX9_byKind 256 = .ok (.invokevirtual 284, 3) := by decide +kernel
theorem dX9_byKind_259 : decode cX9_byKind 259 = .ok (.ireturn, 1) := by decide +kernel
theorem dX9_byKind_260 : decode cX9_byKind 260 = .ok (.aload_n 0, 1) := by decide +kernel
theorem dX9_byKind_261 : decode cX9_byKind 261 = .ok (.iload 6, 2) := by decide +kernel
theorem dX9_byKind_263 : decode cX9_byKind 263 = .ok (.iload_n 2, 1) := by decide +kernel
theorem dX9_byKind_264 : decode cX9_byKind 264 = .ok (.iconst 1, 1) := by decide +kernel
theorem dX9_byKind_265 : decode cX9_byKind 265 = .ok (.iload 4, 2) := by decide +kernel
theorem dX9_byKind_267 : decode cX9_byKind 267 = .ok (.invokevirtual 284, 3) := by decide +kernel
theorem dX9_byKind_270 : decode cX9_byKind 270 = .ok (.aload_n 0, 1) := by decide +kernel
theorem dX9_byKind_271 : decode cX9_byKind 271 = .ok (.iload 6, 2) := by decide +kernel
theorem dX9_byKind_273 : decode cX9_byKind 273 = .ok (.iload_n 2, 1) := by decide +kernel
theorem dX9_byKind_274 : decode cX9_byKind 274 = .ok (.iconst 0, 1) := by decide +kernel
theorem dX9_byKind_275 : decode cX9_byKind 275 = .ok (.iconst 2, 1) := by decide +kernel
theorem dX9_byKind_276 : decode cX9_byKind 276 = .ok (.invokevirtual 284, 3) := by decide +kernel
theorem dX9_byKind_279 : decode cX9_byKind 279 = .ok (.iadd, 1) := by decide +kernel
theorem dX9_byKind_280 : decode cX9_byKind 280 = .ok (.ireturn, 1) := by decide +kernel
theorem dX9_byKind_281 : decode cX9_byKind 281 = .ok (.aload_n 0, 1) := by decide +kernel
theorem dX9_byKind_282 : decode cX9_byKind 282 = .ok (.iload 6, 2) := by decide +kernel
theorem dX9_byKind_284 : decode cX9_byKind 284 = .ok (.iload_n 2, 1) := by decide +kernel
theorem dX9_byKind_285 : decode cX9_byKind 285 = .ok (.iconst 0, 1) := by decide +kernel
theorem dX9_byKind_286 : decode cX9_byKind 286 = .ok (.iload 4, 2) := by decide +kernel
theorem dX9_byKind_288 : decode cX9_byKind 288 = .ok (.invokevirtual 284, 3) := by decide +kernel
theorem dX9_byKind_291 : decode cX9_byKind 291 = .ok (.aload_n 0, 1) := by decide +kernel
theorem dX9_byKind_292 : decode cX9_byKind 292 = .ok (.iload_n 2, 1) := by decide +kernel
theorem dX9_byKind_293 : decode cX9_byKind 293 = .ok (.iconst 1, 1) := by decide +kernel
theorem dX9_byKind_294 : decode cX9_byKind 294 = .ok (.invokevirtual 102, 3) := by decide +kernel
theorem dX9_byKind_297 : decode cX9_byKind 297 = .ok (.ixor, 1) := by decide +kernel
theorem dX9_byKind_298 : decode cX9_byKind 298 = .ok (.ireturn, 1) := by decide +kernel
theorem dX9_act_0 : decode cX9_act 0 = .ok (.aload_n 0, 1) := by decide +kernel
theorem dX9_act_1 : decode cX9_act 1 = .ok (.iconst 0, 1) := by decide +kernel
theorem dX9_act_2 : decode cX9_act 2 = .ok (.putfield 281, 3) := by decide +kernel
theorem dX9_act_5 : decode cX9_act 5 = .ok (.aload_n 0, 1) := by decide +kernel
theorem dX9_act_6 : decode cX9_act 6 = .ok (.iload_n 1, 1) := by decide +kernel
theorem dX9_act_7 : decode cX9_act 7 = .ok (.invokevirtual 114, 3) := by decide +kernel
theorem dX9_act_10 : decode cX9_act 10 = .ok (.ifCond .eq 22, 3) := by decide +kernel
theorem dX9_act_13 : decode cX9_act 13 = .ok (.iload_n 2, 1) := by decide +kernel
theorem dX9_act_14 : decode cX9_act 14 = .ok (.iconst 0, 1) := by decide +kernel
theorem dX9_act_15 : decode cX9_act 15 = .ok (.iconst 2, 1) := by decide +kernel
theorem dX9_act_16 : decode cX9_act 16 = .ok (.invokestatic 98, 3) := by decide +kernel
theorem dX9_act_19 : decode cX9_act 19 = .ok (.ifCond .eq 13, 3) := by decide +kernel
theorem dX9_act_22 : decode cX9_act 22 = .ok (.aload_n 0, 1) := by decide +kernel
theorem dX9_act_23 : decode cX9_act 23 = .ok (.iload_n 1, 1) := by decide +kernel
theorem dX9_act_24 : decode cX9_act 24 = .ok (.iload_n 2, 1) := by decide +kernel
theorem dX9_act_25 : decode cX9_act 25 = .ok (.iload_n 3, 1) := by decide +kernel
theorem dX9_act_26 : decode cX9_act 26 = .ok (.invokevirtual 291, 3) := by decide +kernel
theorem dX9_act_29 : decode cX9_act 29 = .ok (.goto 4, 3) := by decide +kernel
theorem dX9_act_32 : decode cX9_act 32 = .ok (.iconst 0, 1) := by decide +kernel
theorem dX9_act_33 : decode cX9_act 33 = .ok (.ireturn, 1) := by decide +kernel
theorem dX9_trace_0 : decode cX9_trace 0 = .ok (.iload_n 1, 1) := by decide +kernel
theorem dX9_trace_1 : decode cX9_trace 1 = .ok (.iconst 0, 1) := by decide +kernel
theorem dX9_trace_2 : decode cX9_trace 2 = .ok (.bipush 20, 2) := by decide +kernel
theorem dX9_trace_4 : decode cX9_trace 4 = .ok (.aload_n 0, 1) := by decide +kernel
theorem dX9_trace_5 : decode cX9_trace 5 = .ok (.getfield 281, 3) := by decide +kernel
theorem dX9_trace_8 : decode cX9_trace 8 = .ok (.invokestatic 260, 3) := by decide +kernel
theorem dX9_trace_11 : decode cX9_trace 11 = .ok (.iconst 1, 1) := by decide +kernel
theorem dX9_trace_12 : decode cX9_trace 12 = .ok (.isub, 1) := by decide +kernel
theorem dX9_trace_13 : decode cX9_trace 13 = .ok (.invokestatic 98, 3) := by decide +kernel
theorem dX9_trace_16 : decode cX9_trace 16 = .ok (.ifCond .eq 12, 3) := by decide +kernel
theorem dX9_trace_19 : decode cX9_trace 19 = .ok (.aload_n 0, 1) := by decide +kernel
theorem dX9_trace_20 : decode cX9_trace 20 = .ok (.getfield 74, 3) := by decide +kernel
theorem dX9_trace_23 : decode cX9_trace 23 = .ok (.iload_n 1, 1) := by decide +kernel
theorem dX9_trace_24 : decode cX9_trace 24 = .ok (.iaload, 1) := by decide +kernel
theorem dX9_trace_25 : decode cX9_trace 25 = .ok (.goto 4, 3) := by decide +kernel
theorem dX9_trace_28 : decode cX9_trace 28 = .ok (.iconst (-1), 1) := by decide +kernel
theorem dX9_trace_29 : decode cX9_trace 29 = .ok (.ireturn, 1) := by decide +kernel
theorem dX9_taken_0 : decode cX9_taken 0 = .ok (.iload_n 2, 1) := by decide +kernel
theorem dX9_taken_1 : decode cX9_taken 1 = .ok (.iconst 0, 1) := by decide +kernel
theorem dX9_taken_2 : decode cX9_taken 2 = .ok (.bipush 6, 2) := by decide +kernel
theorem dX9_taken_4 : decode cX9_taken 4 = .ok (.invokestatic 98, 3) := by decide +kernel
theorem dX9_taken_7 : decode cX9_taken 7 = .ok (.ifCond .ne 6, 3) := by decide +kernel
theorem dX9_taken_10 : decode cX9_taken 10 = .ok (.bipush (-2), 2) := by decide +kernel
theorem dX9_taken_12 : decode cX9_taken 12 = .ok (.ireturn, 1) := by decide +kernel
theorem dX9_taken_13 : decode cX9_taken 13 = .ok (.aload_n 0, 1) := by decide +kernel
theorem dX9_taken_14 : decode cX9_taken 14 = .ok (.iload_n 1, 1) := by decide +kernel
theorem dX9_taken_15 : decode cX9_taken 15 = .ok (.invokevirtual 114, 3) := by decide +kernel
theorem dX9_taken_18 : decode cX9_taken 18 = .ok (.ifCond .ne 6, 3) := by decide +kernel
theorem dX9_taken_21 : decode cX9_taken 21 = .ok (.bipush (-11), 2) := by decide +kernel
theorem dX9_taken_23 : decode cX9_taken 23 = .ok (.ireturn, 1) := by decide +kernel
theorem dX9_taken_24 : decode cX9_taken 24 = .ok (.aload_n 0, 1) := by decide +kernel
theorem dX9_taken_25 : decode cX9_taken 25 = .ok (.iload_n 1, 1) := by decide +kernel
theorem dX9_taken_26 : decode cX9_taken 26 = .ok (.iconst 0, 1) := by decide +kernel
theorem dX9_taken_27 : decode cX9_taken 27 = .ok (.invokevirtual 102, 3) := by decide +kernel
theorem dX9_taken_30 : decode cX9_taken 30 = .ok (.istore_n 3, 1) := by decide +kernel
theorem dX9_taken_31 : decode cX9_taken 31 = .ok (.iload_n 3, 1) := by decide +kernel
theorem dX9_taken_32 : decode cX9_taken 32 = .ok (.iconst (-1), 1) := by decide +kernel
theorem dX9_taken_33 : decode cX9_taken 33 = .ok (.if_icmp .eq 18, 3) := by decide +kernel
theorem dX9_taken_36 : decode cX9_taken 36 = .ok (.iload_n 3, 1) := by decide +kernel
theorem dX9_taken_37 : decode cX9_taken 37 = .ok (.iload_n 2, 1) := by decide +kernel
theorem dX9_taken_38 : decode cX9_taken 38 = .ok (.if_icmp .eq 13, 3) := by decide +kernel
theorem dX9_taken_41 : decode cX9_taken 41 = .ok (.aload_n 0, 1) := by decide +kernel
theorem dX9_taken_42 : decode cX9_taken 42 = .ok (.getfield 68, 3) := by decide +kernel
theorem dX9_taken_45 : decode cX9_taken 45 = .ok (.iload_n 3, 1) := by decide +kernel
theorem dX9_taken_46 : decode cX9_taken 46 = .ok (.iaload, 1) := by decide +kernel
theorem dX9_taken_47 : decode cX9_taken 47 = .ok (.istore_n 3, 1) := by decide +kernel
theorem dX9_taken_48 : decode cX9_taken 48 = .ok (.goto (-17), 3) := by decide +kernel
theorem dX9_taken_51 : decode cX9_taken 51 = .ok (.iload_n 3, 1) := by decide +kernel
theorem dX9_taken_52 : decode cX9_taken 52 = .ok (.iload_n 2, 1) := by decide +kernel
theorem dX9_taken_53 : decode cX9_taken 53 = .ok (.if_icmp .ne 12, 3) := by decide +kernel
theorem dX9_taken_56 : decode cX9_taken 56 = .ok (.aload_n 0, 1) := by decide +kernel
theorem dX9_taken_57 : decode cX9_taken 57 = .ok (.iload_n 1, 1) := by decide +kernel
theorem dX9_taken_58 : decode cX9_taken 58 = .ok (.iconst 0, 1) := by decide +kernel
theorem dX9_taken_59 : decode cX9_taken 59 = .ok (.invokevirtual 102, 3) := by decide +kernel
theorem dX9_taken_62 : decode cX9_taken 62 = .ok (.goto 5, 3) := by decide +kernel
theorem dX9_taken_65 : decode cX9_taken 65 = .ok (.bipush (-12), 2) := by decide +kernel
theorem dX9_taken_67 : decode cX9_taken 67 = .ok (.ireturn, 1) := by decide +kernel
theorem dX9_count_0 : decode cX9_count 0 = .ok (.iload_n 1, 1) := by decide +kernel
theorem dX9_count_1 : decode cX9_count 1 = .ok (.tableswitch 103 0 7 #[47, 55, 63, 68, 76, 84, 93, 98], 47) := by decide +kernel
theorem dX9_count_48 : decode cX9_count 48 = .ok (.aload_n 0, 1) := by decide +kernel
theorem dX9_count_49 : decode cX9_count 49 = .ok (.getfield 9, 3) := by decide +kernel
theorem dX9_count_52 : decode cX9_count 52 = .ok (.bipush 92, 2) := by decide +kernel
theorem dX9_count_54 : decode cX9_count 54 = .ok (.iaload, 1) := by decide +kernel
theorem dX9_count_55 : decode cX9_count 55 = .ok (.ireturn, 1) := by decide +kernel
theorem dX9_count_56 : decode cX9_count 56 = .ok (.aload_n 0, 1) := by decide +kernel
theorem dX9_count_57 : decode cX9_count 57 = .ok (.getfield 9, 3) := by decide +kernel
theorem dX9_count_60 : decode cX9_count 60 = .ok (.bipush 93, 2) := by decide +kernel
theorem dX9_count_62 : decode cX9_count 62 = .ok (.iaload, 1) := by decide +kernel
theorem dX9_count_63 : decode cX9_count 63 = .ok (.ireturn, 1) := by decide +kernel
theorem dX9_count_64 : decode cX9_count 64 = .ok (.aload_n 0, 1) := by decide +kernel
theorem dX9_count_65 : decode cX9_count 65 = .ok (.getfield 208, 3) := by decide +kernel
theorem dX9_count_68 : decode cX9_count 68 = .ok (.ireturn, 1) := by decide +kernel
theorem dX9_count_69 : decode cX9_count 69 = .ok (.aload_n 0, 1) := by decide +kernel
theorem dX9_count_70 : decode cX9_count 70 = .ok (.getfield 9, 3) := by decide +kernel
theorem dX9_count_73 : decode cX9_count 73 = .ok (.bipush 96, 2) := by decide +kernel
theorem dX9_count_75 : decode cX9_count 75 = .ok (.iaload, 1) := by decide +kernel
theorem dX9_count_76 : decode cX9_count 76 = .ok (.ireturn, 1) := by decide +kernel
theorem dX9_count_77 : decode cX9_count 77 = .ok (.aload_n 0, 1) := by decide +kernel
theorem dX9_count_78 : decode cX9_count 78 = .ok (.getfield 9, 3) := by decide +kernel
theorem dX9_count_81 : decode cX9_count 81 = .ok (.bipush 112, 2) := by decide +kernel
theorem dX9_count_83 : decode cX9_count 83 = .ok (.iaload, 1) := by decide +kernel
theorem dX9_count_84 : decode cX9_count 84 = .ok (.ireturn, 1) := by decide +kernel
theorem dX9_count_85 : decode cX9_count 85 = .ok (.aload_n 0, 1) := by decide +kernel
theorem dX9_count_86 : decode cX9_count 86 = .ok (.getfield 9, 3) := by decide +kernel
theorem dX9_count_89 : decode cX9_count 89 = .ok (.sipush 129, 3) := by decide +kernel
theorem dX9_count_92 : decode cX9_count 92 = .ok (.iaload, 1) := by decide +kernel
theorem dX9_count_93 : decode cX9_count 93 = .ok (.ireturn, 1) := by decide +kernel
theorem dX9_count_94 : decode cX9_count 94 = .ok (.aload_n 0, 1) := by decide +kernel
theorem dX9_count_95 : decode cX9_count 95 = .ok (.getfield 150, 3) := by decide +kernel
theorem dX9_count_98 : decode cX9_count 98 = .ok (.ireturn, 1) := by decide +kernel
theorem dX9_count_99 : decode cX9_count 99 = .ok (.aload_n 0, 1) := by decide +kernel
theorem dX9_count_100 : decode cX9_count 100 = .ok (.getfield 281, 3) := by decide +kernel
theorem dX9_count_103 : decode cX9_count 103 = .ok (.ireturn, 1) := by decide +kernel
theorem dX9_count_104 : decode cX9_count 104 = .ok (.bipush (-2), 2) := by decide +kernel
theorem dX9_count_106 : decode cX9_count 106 = .ok (.ireturn, 1) := by decide +kernel
theorem dX9_isTape_0 : decode cX9_isTape 0 = .ok (.iload_n 0, 1) := by decide +kernel
theorem dX9_isTape_1 : decode cX9_isTape 1 = .ok (.iconst 0, 1) := by decide +kernel
theorem dX9_isTape_2 : decode cX9_isTape 2 = .ok (.iconst 5, 1) := by decide +kernel
theorem dX9_isTape_3 : decode cX9_isTape 3 = .ok (.invokestatic 98, 3) := by decide +kernel
theorem dX9_isTape_6 : decode cX9_isTape 6 = .ok (.ireturn, 1) := by decide +kernel
theorem dX9_tape_0 : decode cX9_tape 0 = .ok (.iload_n 1, 1) := by decide +kernel
theorem dX9_tape_1 : decode cX9_tape 1 = .ok (.invokestatic 294, 3) := by decide +kernel
theorem dX9_tape_4 : decode cX9_tape 4 = .ok (.ifCond .ne 5, 3) := by decide +kernel
theorem dX9_tape_7 : decode cX9_tape 7 = .ok (.iconst (-1), 1) := by decide +kernel
theorem dX9_tape_8 : decode cX9_tape 8 = .ok (.ireturn, 1) := by decide +kernel
theorem dX9_tape_9 : decode cX9_tape 9 = .ok (.iload_n 2, 1) := by decide +kernel
theorem dX9_tape_10 : decode cX9_tape 10 = .ok (.iconst (-1), 1) := by decide +kernel
theorem dX9_tape_11 : decode cX9_tape 11 = .ok (.iconst 4, 1) := by decide +kernel
theorem dX9_tape_12 : decode cX9_tape 12 = .ok (.invokestatic 98, 3) := by decide +kernel
theorem dX9_tape_15 : decode cX9_tape 15 = .ok (.ifCond .eq 13, 3) := by decide +kernel
theorem dX9_tape_18 : decode cX9_tape 18 = .ok (.iload_n 2, 1) := by decide +kernel
theorem dX9_tape_19 : decode cX9_tape 19 = .ok (.ifCond .lt 12, 3) := by decide +kernel
theorem dX9_tape_22 : decode cX9_tape 22 = .ok (.iload_n 3, 1) := by decide +kernel
theorem dX9_tape_23 : decode cX9_tape 23 = .ok (.bipush 60, 2) := by decide +kernel
theorem dX9_tape_25 : decode cX9_tape 25 = .ok (.if_icmp .le 6, 3) := by decide +kernel
theorem dX9_tape_28 : decode cX9_tape 28 = .ok (.bipush (-2), 2) := by decide +kernel
theorem dX9_tape_30 : decode cX9_tape 30 = .ok (.ireturn, 1) := by decide +kernel
theorem dX9_tape_31 : decode cX9_tape 31 = .ok (.iload_n 2, 1) := by decide +kernel
theorem dX9_tape_32 : decode cX9_tape 32 = .ok (.ifCond .lt 10, 3) := by decide +kernel
theorem dX9_tape_35 : decode cX9_tape 35 = .ok (.iload_n 3, 1) := by decide +kernel
theorem dX9_tape_36 : decode cX9_tape 36 = .ok (.ifCond .ge 6, 3) := by decide +kernel
theorem dX9_tape_39 : decode cX9_tape 39 = .ok (.bipush (-14), 2) := by decide +kernel
theorem dX9_tape_41 : decode cX9_tape 41 = .ok (.ireturn, 1) := by decide +kernel
theorem dX9_tape_42 : decode cX9_tape 42 = .ok (.aload_n 0, 1) := by decide +kernel
theorem dX9_tape_43 : decode cX9_tape 43 = .ok (.getfield 77, 3) := by decide +kernel
theorem dX9_tape_46 : decode cX9_tape 46 = .ok (.iload_n 1, 1) := by decide +kernel
theorem dX9_tape_47 : decode cX9_tape 47 = .ok (.iload_n 2, 1) := by decide +kernel
theorem dX9_tape_48 : decode cX9_tape 48 = .ok (.iastore, 1) := by decide +kernel
theorem dX9_tape_49 : decode cX9_tape 49 = .ok (.aload_n 0, 1) := by decide +kernel
theorem dX9_tape_50 : decode cX9_tape 50 = .ok (.getfield 80, 3) := by decide +kernel
theorem dX9_tape_53 : decode cX9_tape 53 = .ok (.iload_n 1, 1) := by decide +kernel
theorem dX9_tape_54 : decode cX9_tape 54 = .ok (.iload_n 2, 1) := by decide +kernel
theorem dX9_tape_55 : decode cX9_tape 55 = .ok (.ifCond .ge 7, 3) := by decide +kernel
theorem dX9_tape_58 : decode cX9_tape 58 = .ok (.iconst 0, 1) := by decide +kernel
theorem dX9_tape_59 : decode cX9_tape 59 = .ok (.goto 4, 3) := by decide +kernel
theorem dX9_tape_62 : decode cX9_tape 62 = .ok (.iload_n 3, 1) := by decide +kernel
theorem dX9_tape_63 : decode cX9_tape 63 = .ok (.iastore, 1) := by decide +kernel
theorem dX9_tape_64 : decode cX9_tape 64 = .ok (.iconst 0, 1) := by decide +kernel
theorem dX9_tape_65 : decode cX9_tape 65 = .ok (.istore 4, 2) := by decide +kernel
theorem dX9_tape_67 : decode cX9_tape 67 = .ok (.iload 4, 2) := by decide +kernel
theorem dX9_tape_69 : decode cX9_tape 69 = .ok (.bipush 60, 2) := by decide +kernel
theorem dX9_tape_71 : decode cX9_tape 71 = .ok (.if_icmp .ge 22, 3) := by decide +kernel
theorem dX9_tape_74 : decode cX9_tape 74 = .ok (.aload_n 0, 1) := by decide +kernel
theorem dX9_tape_75 : decode cX9_tape 75 = .ok (.getfield 83, 3) := by decide +kernel
theorem dX9_tape_78 : decode cX9_tape 78 = .ok (.bipush 60, 2) := by decide +kernel
theorem dX9_tape_80 : decode cX9_tape 80 = .ok (.iload_n 1, 1) := by decide +kernel
theorem dX9_tape_81 : decode cX9_tape 81 = .ok (.imul, 1) := by decide +kernel
theorem dX9_tape_82 : decode cX9_tape 82 = .ok (.iload 4, 2) := by decide +kernel
theorem dX9_tape_84 : decode cX9_tape 84 = .ok (.iadd, 1) := by decide +kernel
theorem dX9_tape_85 : decode cX9_tape 85 = .ok (.lconst 0, 1) := by decide +kernel
theorem dX9_tape_86 : decode cX9_tape 86 = .ok (.lastore, 1) := by decide +kernel
theorem dX9_tape_87 : decode cX9_tape 87 = .ok (.iinc 4 1, 3) := by decide +kernel
theorem dX9_tape_90 : decode cX9_tape 90 = .ok (.goto (-23), 3) := by decide +kernel
theorem dX9_tape_93 : decode cX9_tape 93 = .ok (.iconst 1, 1) := by decide +kernel
theorem dX9_tape_94 : decode cX9_tape 94 = .ok (.ireturn, 1) := by decide +kernel
theorem dX9_item_0 : decode cX9_item 0 = .ok (.iload_n 1, 1) := by decide +kernel
theorem dX9_item_1 : decode cX9_item 1 = .ok (.invokestatic 294, 3) := by decide +kernel
theorem dX9_item_4 : decode cX9_item 4 = .ok (.ifCond .ne 5, 3) := by decide +kernel
theorem dX9_item_7 : decode cX9_item 7 = .ok (.iconst (-1), 1) := by decide +kernel
theorem dX9_item_8 : decode cX9_item 8 = .ok (.ireturn, 1) := by decide +kernel
theorem dX9_item_9 : decode cX9_item 9 = .ok (.aload_n 0, 1) := by decide +kernel
theorem dX9_item_10 : decode cX9_item 10 = .ok (.getfield 77, 3) := by decide +kernel
theorem dX9_item_13 : decode cX9_item 13 = .ok (.iload_n 1, 1) := by decide +kernel
theorem dX9_item_14 : decode cX9_item 14 = .ok (.iaload, 1) := by decide +kernel
theorem dX9_item_15 : decode cX9_item 15 = .ok (.ifCond .ge 6, 3) := by decide +kernel
theorem dX9_item_18 : decode cX9_item 18 = .ok (.bipush (-11), 2) := by decide +kernel
theorem dX9_item_20 : decode cX9_item 20 = .ok (.ireturn, 1) := by decide +kernel
theorem dX9_item_21 : decode cX9_item 21 = .ok (.iload_n 2, 1) := by decide +kernel
theorem dX9_item_22 : decode cX9_item 22 = .ok (.iconst 0, 1) := by decide +kernel
theorem dX9_item_23 : decode cX9_item 23 = .ok (.aload_n 0, 1) := by decide +kernel
theorem dX9_item_24 : decode cX9_item 24 = .ok (.getfield 80, 3) := by decide +kernel
theorem dX9_item_27 : decode cX9_item 27 = .ok (.iload_n 1, 1) := by decide +kernel
theorem dX9_item_28 : decode cX9_item 28 = .ok (.iaload, 1) := by decide +kernel
theorem dX9_item_29 : decode cX9_item 29 = .ok (.iconst 1, 1) := by decide +kernel
theorem dX9_item_30 : decode cX9_item 30 = .ok (.isub, 1) := by decide +kernel
theorem dX9_item_31 : decode cX9_item 31 = .ok (.invokestatic 98, 3) := by decide +kernel
theorem dX9_item_34 : decode cX9_item 34 = .ok (.ifCond .ne 6, 3) := by decide +kernel
theorem dX9_item_37 : decode cX9_item 37 = .ok (.bipush (-13), 2) := by decide +kernel
theorem dX9_item_39 : decode cX9_item 39 = .ok (.ireturn, 1) := by decide +kernel
theorem dX9_item_40 : decode cX9_item 40 = .ok (.aload_n 0, 1) := by decide +kernel
theorem dX9_item_41 : decode cX9_item 41 = .ok (.getfield 77, 3) := by decide +kernel
theorem dX9_item_44 : decode cX9_item 44 = .ok (.iload_n 1, 1) := by decide +kernel
theorem dX9_item_45 : decode cX9_item 45 = .ok (.iaload, 1) := by decide +kernel
theorem dX9_item_46 : decode cX9_item 46 = .ok (.istore 5, 2) := by decide +kernel
theorem dX9_item_48 : decode cX9_item 48 = .ok (.aload_n 0, 1) := by decide +kernel
theorem dX9_item_49 : decode cX9_item 49 = .ok (.getfield 83, 3) := by decide +kernel
theorem dX9_item_52 : decode cX9_item 52 = .ok (.bipush 60, 2) := by decide +kernel
theorem dX9_item_54 : decode cX9_item 54 = .ok (.iload_n 1, 1) := by decide +kernel
theorem dX9_item_55 : decode cX9_item 55 = .ok (.imul, 1) := by decide +kernel
theorem dX9_item_56 : decode cX9_item 56 = .ok (.iload_n 2, 1) := by decide +kernel
theorem dX9_item_57 : decode cX9_item 57 = .ok (.iadd, 1) := by decide +kernel
theorem dX9_item_58 : decode cX9_item 58 = .ok (.iload 5, 2) := by decide +kernel
theorem dX9_item_60 : decode cX9_item 60 = .ok (.ifCond .ne 10, 3) := by decide +kernel
theorem dX9_item_63 : decode cX9_item 63 = .ok (.lload_n 3, 1) := by decide +kernel
theorem dX9_item_64 : decode cX9_item 64 = .ok (.l2i, 1) := by decide +kernel
theorem dX9_item_65 : decode cX9_item 65 = .ok (.i2b, 1) := by decide +kernel
theorem dX9_item_66 : decode cX9_item 66 = .ok (.i2l, 1) := by decide +kernel
theorem dX9_item_67 : decode cX9_item 67 = .ok (.goto 49, 3) := by decide +kernel
theorem dX9_item_70 : decode cX9_item 70 = .ok (.iload 5, 2) := by decide +kernel
theorem dX9_item_72 : decode cX9_item 72 = .ok (.iconst 1, 1) := by decide +kernel
theorem dX9_item_73 : decode cX9_item 73 = .ok (.if_icmp .ne 10, 3) := by decide +kernel
theorem dX9_item_76 : decode cX9_item 76 = .ok (.lload_n 3, 1) := by decide +kernel
theorem dX9_item_77 : decode cX9_item 77 = .ok (.l2i, 1) := by decide +kernel
theorem dX9_item_78 : decode cX9_item 78 = .ok (.i2s, 1) := by decide +kernel
theorem dX9_item_79 : decode cX9_item 79 = .ok (.i2l, 1) := by decide +kernel
theorem dX9_item_80 : decode cX9_item 80 = .ok (.goto 36, 3) := by decide +kernel
theorem dX9_item_83 : decode cX9_item 83 = .ok (.iload 5, 2) := by decide +kernel
theorem dX9_item_85 : decode cX9_item 85 = .ok (.iconst 2, 1) := by decide +kernel
theorem dX9_item_86 : decode cX9_item 86 = .ok (.if_icmp .ne 9, 3) := by decide +kernel
theorem dX9_item_89 : decode cX9_item 89 = .ok (.lload_n 3, 1) := by decide +kernel
theorem dX9_item_90 : decode cX9_item 90 = .ok (.l2i, 1) := by decide +kernel
theorem dX9_item_91 : decode cX9_item 91 = .ok (.i2l, 1) := by decide +kernel
theorem dX9_item_92 : decode cX9_item 92 = .ok (.goto 24, 3) := by decide +kernel
theorem dX9_item_95 : decode cX9_item 95 = .ok (.iload 5, 2) := by decide +kernel
theorem dX9_item_97 : decode cX9_item 97 = .ok (.iconst 3, 1) := by decide +kernel
theorem dX9_item_98 : decode cX9_item 98 = .ok (.if_icmp .ne 7, 3) := by decide +kernel
theorem dX9_item_101 : decode cX9_item 101 = .ok (.lload_n 3, 1) := by decide +kernel
theorem dX9_item_102 : decode cX9_item 102 = .ok (.goto 14, 3) := by decide +kernel
theorem dX9_item_105 : decode cX9_item 105 = .ok (.lload_n 3, 1) := by decide +kernel
theorem dX9_item_106 : decode cX9_item 106 = .ok (.lconst 0, 1) := by decide +kernel
theorem dX9_item_107 : decode cX9_item 107 = .ok (.lcmp, 1) := by decide +kernel
theorem dX9_item_108 : decode cX9_item 108 = .ok (.ifCond .eq 7, 3) := by decide +kernel
theorem dX9_item_111 : decode cX9_item 111 = .ok (.lconst 1, 1) := by decide +kernel
theorem dX9_item_112 : decode cX9_item 112 = .ok (.goto 4, 3) := by decide +kernel
theorem dX9_item_115 : decode cX9_item 115 = .ok (.lconst 0, 1) := by decide +kernel
theorem dX9_item_116 : decode cX9_item 116 = .ok (.lastore, 1) := by decide +kernel
theorem dX9_item_117 : decode cX9_item 117 = .ok (.iconst 1, 1) := by decide +kernel
theorem dX9_item_118 : decode cX9_item 118 = .ok (.ireturn, 1) := by decide +kernel
theorem dX9_read_0 : decode cX9_read 0 = .ok (.iload_n 1, 1) := by decide +kernel
theorem dX9_read_1 : decode cX9_read 1 = .ok (.invokestatic 294, 3) := by decide +kernel
theorem dX9_read_4 : decode cX9_read 4 = .ok (.ifCond .eq 33, 3) := by decide +kernel
theorem dX9_read_7 : decode cX9_read 7 = .ok (.iload_n 2, 1) := by decide +kernel
theorem dX9_read_8 : decode cX9_read 8 = .ok (.iconst 0, 1) := by decide +kernel
theorem dX9_read_9 : decode cX9_read 9 = .ok (.aload_n 0, 1) := by decide +kernel
theorem dX9_read_10 : decode cX9_read 10 = .ok (.getfield 80, 3) := by decide +kernel
theorem dX9_read_13 : decode cX9_read 13 = .ok (.iload_n 1, 1) := by decide +kernel
theorem dX9_read_14 : decode cX9_read 14 = .ok (.iaload, 1) := by decide +kernel
theorem dX9_read_15 : decode cX9_read 15 = .ok (.iconst 1, 1) := by decide +kernel
theorem dX9_read_16 : decode cX9_read 16 = .ok (.isub, 1) := by decide +kernel
theorem dX9_read_17 : decode cX9_read 17 = .ok (.invokestatic 98, 3) := by decide +kernel
theorem dX9_read_20 : decode cX9_read 20 = .ok (.ifCond .eq 17, 3) := by decide +kernel
theorem dX9_read_23 : decode cX9_read 23 = .ok (.aload_n 0, 1) := by decide +kernel
theorem dX9_read_24 : decode cX9_read 24 = .ok (.getfield 83, 3) := by decide +kernel
theorem dX9_read_27 : decode cX9_read 27 = .ok (.bipush 60, 2) := by decide +kernel
theorem dX9_read_29 : decode cX9_read 29 = .ok (.iload_n 1, 1) := by decide +kernel
theorem dX9_read_30 : decode cX9_read 30 = .ok (.imul, 1) := by decide +kernel
theorem dX9_read_31 : decode cX9_read 31 = .ok (.iload_n 2, 1) := by decide +kernel
theorem dX9_read_32 : decode cX9_read 32 = .ok (.iadd, 1) := by decide +kernel
theorem dX9_read_33 : decode cX9_read 33 = .ok (.laload, 1) := by decide +kernel
theorem dX9_read_34 : decode cX9_read 34 = .ok (.goto 6, 3) := by decide +kernel
theorem dX9_read_37 : decode cX9_read 37 = .ok (.ldc2_w 271, 3) := by decide +kernel
theorem dX9_read_40 : decode cX9_read 40 = .ok (.lreturn, 1) := by decide +kernel
theorem dX9_shift_0 : decode cX9_shift 0 = .ok (.iload_n 1, 1) := by decide +kernel
theorem dX9_shift_1 : decode cX9_shift 1 = .ok (.invokestatic 294, 3) := by decide +kernel
theorem dX9_shift_4 : decode cX9_shift 4 = .ok (.ifCond .eq 10, 3) := by decide +kernel
theorem dX9_shift_7 : decode cX9_shift 7 = .ok (.iload_n 3, 1) := by decide +kernel
theorem dX9_shift_8 : decode cX9_shift 8 = .ok (.invokestatic 294, 3) := by decide +kernel
theorem dX9_shift_11 : decode cX9_shift 11 = .ok (.ifCond .ne 5, 3) := by decide +kernel
theorem dX9_shift_14 : decode cX9_shift 14 = .ok (.iconst (-1), 1) := by decide +kernel
theorem dX9_shift_15 : decode cX9_shift 15 = .ok (.ireturn, 1) := by decide +kernel
theorem dX9_shift_16 : decode cX9_shift 16 = .ok (.aload_n 0, 1) := by decide +kernel
theorem dX9_shift_17 : decode cX9_shift 17 = .ok (.getfield 77, 3) := by decide +kernel
theorem dX9_shift_20 : decode cX9_shift 20 = .ok (.iload_n 1, 1) := by decide +kernel
theorem dX9_shift_21 : decode cX9_shift 21 = .ok (.iaload, 1) := by decide +kernel
theorem dX9_shift_22 : decode cX9_shift 22 = .ok (.ifCond .lt 12, 3) := by decide +kernel
theorem dX9_shift_25 : decode cX9_shift 25 = .ok (.aload_n 0, 1) := by decide +kernel
theorem dX9_shift_26 : decode cX9_shift 26 = .ok (.getfield 77, 3) := by decide +kernel
theorem dX9_shift_29 : decode cX9_shift 29 = .ok (.iload_n 3, 1) := by decide +kernel
theorem dX9_shift_30 : decode cX9_shift 30 = .ok (.iaload, 1) := by decide +kernel
theorem dX9_shift_31 : decode cX9_shift 31 = .ok (.ifCond .ge 6, 3) := by decide +kernel
theorem dX9_shift_34 : decode cX9_shift 34 = .ok (.bipush (-11), 2) := by decide +kernel
theorem dX9_shift_36 : decode cX9_shift 36 = .ok (.ireturn, 1) := by decide +kernel
theorem dX9_shift_37 : decode cX9_shift 37 = .ok (.aload_n 0, 1) := by decide +kernel
theorem dX9_shift_38 : decode cX9_shift 38 = .ok (.getfield 77, 3) := by decide +kernel
theorem dX9_shift_41 : decode cX9_shift 41 = .ok (.iload_n 1, 1) := by decide +kernel
theorem dX9_shift_42 : decode cX9_shift 42 = .ok (.iaload, 1) := by decide +kernel
theorem dX9_shift_43 : decode cX9_shift 43 = .ok (.aload_n 0, 1) := by decide +kernel
theorem dX9_shift_44 : decode cX9_shift 44 = .ok (.getfield 77, 3) := by decide +kernel
theorem dX9_shift_47 : decode cX9_shift 47 = .ok (.iload_n 3, 1) := by decide +kernel
theorem dX9_shift_48 : decode cX9_shift 48 = .ok (.iaload, 1) := by decide +kernel
theorem dX9_shift_49 : decode cX9_shift 49 = .ok (.if_icmp .eq 6, 3) := by decide +kernel
theorem dX9_shift_52 : decode cX9_shift 52 = .ok (.bipush (-12), 2) := by decide +kernel
theorem dX9_shift_54 : decode cX9_shift 54 = .ok (.ireturn, 1) := by decide +kernel
theorem dX9_shift_55 : decode cX9_shift 55 = .ok (.iload 5, 2) := by decide +kernel
theorem dX9_shift_57 : decode cX9_shift 57 = .ok (.ifCond .lt 39, 3) := by decide +kernel
theorem dX9_shift_60 : decode cX9_shift 60 = .ok (.iload_n 2, 1) := by decide +kernel
theorem dX9_shift_61 : decode cX9_shift 61 = .ok (.ifCond .lt 35, 3) := by decide +kernel
theorem dX9_shift_64 : decode cX9_shift 64 = .ok (.iload 4, 2) := by decide +kernel
theorem dX9_shift_66 : decode cX9_shift 66 = .ok (.ifCond .lt 30, 3) := by decide +kernel
theorem dX9_shift_69 : decode cX9_shift 69 = .ok (.iload 5, 2) := by decide +kernel
theorem dX9_shift_71 : decode cX9_shift 71 = .ok (.aload_n 0, 1) := by decide +kernel
theorem dX9_shift_72 : decode cX9_shift 72 = .ok (.getfield 80, 3) := by decide +kernel
theorem dX9_shift_75 : decode cX9_shift 75 = .ok (.iload_n 1, 1) := by decide +kernel
theorem dX9_shift_76 : decode cX9_shift 76 = .ok (.iaload, 1) := by decide +kernel
theorem dX9_shift_77 : decode cX9_shift 77 = .ok (.iload_n 2, 1) := by decide +kernel
theorem dX9_shift_78 : decode cX9_shift 78 = .ok (.isub, 1) := by decide +kernel
theorem dX9_shift_79 : decode cX9_shift 79 = .ok (.if_icmp .gt 17, 3) := by decide +kernel
theorem dX9_shift_82 : decode cX9_shift 82 = .ok (.iload 5, 2) := by decide +kernel
theorem dX9_shift_84 : decode cX9_shift 84 = .ok (.aload_n 0, 1) := by decide +kernel
theorem dX9_shift_85 : decode cX9_shift 85 = .ok (.getfield 80, 3) := by decide +kernel
theorem dX9_shift_88 : decode cX9_shift 88 = .ok (.iload_n 3, 1) := by decide +kernel
theorem dX9_shift_89 : decode cX9_shift 89 = .ok (.iaload, 1) := by decide +kernel
theorem dX9_shift_90 : decode cX9_shift 90 = .ok (.iload 4, 2) := by decide +kernel
theorem dX9_shift_92 : decode cX9_shift 92 = .ok (.isub, 1) := by decide +kernel
theorem dX9_shift_93 : decode cX9_shift 93 = .ok (.if_icmp .le 6, 3) := by decide +kernel
theorem dX9_shift_96 : decode cX9_shift 96 = .ok (.bipush (-13), 2) := by decide +kernel
theorem dX9_shift_98 : decode cX9_shift 98 = .ok (.ireturn, 1) := by decide +kernel
theorem dX9_shift_99 : decode cX9_shift 99 = .ok (.iconst 0, 1) := by decide +kernel
theorem dX9_shift_100 : decode cX9_shift 100 = .ok (.istore 6, 2) := by decide +kernel
theorem dX9_shift_102 : decode cX9_shift 102 = .ok (.iload 6, 2) := by decide +kernel
theorem dX9_shift_104 : decode cX9_shift 104 = .ok (.iload 5, 2) := by decide +kernel
theorem dX9_shift_106 : decode cX9_shift 106 = .ok (.if_icmp .ge 30, 3) := by decide +kernel
theorem dX9_shift_109 : decode cX9_shift 109 = .ok (.aload_n 0, 1) := by decide +kernel
theorem dX9_shift_110 : decode cX9_shift 110 = .ok (.getfield 87, 3) := by decide +kernel
theorem dX9_shift_113 : decode cX9_shift 113 = .ok (.iload 6, 2) := by decide +kernel
theorem dX9_shift_115 : decode cX9_shift 115 = .ok (.aload_n 0, 1) := by decide +kernel
theorem dX9_shift_116 : decode cX9_shift 116 = .ok (.getfield 83, 3) := by decide +kernel
theorem dX9_shift_119 : decode cX9_shift 119 = .ok (.bipush 60, 2) := by decide +kernel
theorem dX9_shift_121 : decode cX9_shift 121 = .ok (.iload_n 1, 1) := by decide +kernel
theorem dX9_shift_122 : decode cX9_shift 122 = .ok (.imul, 1) := by decide +kernel
theorem dX9_shift_123 : decode cX9_shift 123 = .ok (.iload_n 2, 1) := by decide +kernel
theorem dX9_shift_124 : decode cX9_shift 124 = .ok (.iadd, 1) := by decide +kernel
theorem dX9_shift_125 : decode cX9_shift 125 = .ok (.iload 6, 2) := by decide +kernel
theorem dX9_shift_127 : decode cX9_shift 127 = .ok (.iadd, 1) := by decide +kernel
theorem dX9_shift_128 : decode cX9_shift 128 = .ok (.laload, 1) := by decide +kernel
theorem dX9_shift_129 : decode cX9_shift 129 = .ok (.lastore, 1) := by decide +kernel
theorem dX9_shift_130 : decode cX9_shift 130 = .ok (.iinc 6 1, 3) := by decide +kernel
theorem dX9_shift_133 : decode cX9_shift 133 = .ok (.goto (-31), 3) := by decide +kernel
theorem dX9_shift_136 : decode cX9_shift 136 = .ok (.iconst 0, 1) := by decide +kernel
theorem dX9_shift_137 : decode cX9_shift 137 = .ok (.istore 6, 2) := by decide +kernel
theorem dX9_shift_139 : decode cX9_shift 139 = .ok (.iload 6, 2) := by decide +kernel
theorem dX9_shift_141 : decode cX9_shift 141 = .ok (.iload 5, 2) := by decide +kernel
theorem dX9_shift_143 : decode cX9_shift 143 = .ok (.if_icmp .ge 31, 3) := by decide +kernel
theorem dX9_shift_146 : decode cX9_shift 146 = .ok (.aload_n 0, 1) := by decide +kernel
theorem dX9_shift_147 : decode cX9_shift 147 = .ok (.getfield 83, 3) := by decide +kernel
theorem dX9_shift_150 : decode cX9_shift 150 = .ok (.bipush 60, 2) := by decide +kernel
theorem dX9_shift_152 : decode cX9_shift 152 = .ok (.iload_n 3, 1) := by decide +kernel
theorem dX9_shift_153 : decode cX9_shift 153 = .ok (.imul, 1) := by decide +kernel
theorem dX9_shift_154 : decode cX9_shift 154 = .ok (.iload 4, 2) := by decide +kernel
theorem dX9_shift_156 : decode cX9_shift 156 = .ok (.iadd, 1) := by decide +kernel
theorem dX9_shift_157 : decode cX9_shift 157 = .ok (.iload 6, 2) := by decide +kernel
theorem dX9_shift_159 : decode cX9_shift 159 = .ok (.iadd, 1) := by decide +kernel
theorem dX9_shift_160 : decode cX9_shift 160 = .ok (.aload_n 0, 1) := by decide +kernel
theorem dX9_shift_161 : decode cX9_shift 161 = .ok (.getfield 87, 3) := by decide +kernel
theorem dX9_shift_164 : decode cX9_shift 164 = .ok (.iload 6, 2) := by decide +kernel
theorem dX9_shift_166 : decode cX9_shift 166 = .ok (.laload, 1) := by decide +kernel
theorem dX9_shift_167 : decode cX9_shift 167 = .ok (.lastore, 1) := by decide +kernel
theorem dX9_shift_168 : decode cX9_shift 168 = .ok (.iinc 6 1, 3) := by decide +kernel
theorem dX9_shift_171 : decode cX9_shift 171 = .ok (.goto (-32), 3) := by decide +kernel
theorem dX9_shift_174 : decode cX9_shift 174 = .ok (.iload 5, 2) := by decide +kernel
theorem dX9_shift_176 : decode cX9_shift 176 = .ok (.ireturn, 1) := by decide +kernel
theorem dX9_judge_0 : decode cX9_judge 0 = .ok (.iload_n 1, 1) := by decide +kernel
theorem dX9_judge_1 : decode cX9_judge 1 = .ok (.invokestatic 294, 3) := by decide +kernel
theorem dX9_judge_4 : decode cX9_judge 4 = .ok (.ifCond .ne 5, 3) := by decide +kernel
theorem dX9_judge_7 : decode cX9_judge 7 = .ok (.iconst (-1), 1) := by decide +kernel
theorem dX9_judge_8 : decode cX9_judge 8 = .ok (.ireturn, 1) := by decide +kernel
theorem dX9_judge_9 : decode cX9_judge 9 = .ok (.aload_n 0, 1) := by decide +kernel
theorem dX9_judge_10 : decode cX9_judge 10 = .ok (.getfield 77, 3) := by decide +kernel
theorem dX9_judge_13 : decode cX9_judge 13 = .ok (.iload_n 1, 1) := by decide +kernel
theorem dX9_judge_14 : decode cX9_judge 14 = .ok (.iaload, 1) := by decide +kernel
theorem dX9_judge_15 : decode cX9_judge 15 = .ok (.iconst (-1), 1) := by decide +kernel
theorem dX9_judge_16 : decode cX9_judge 16 = .ok (.if_icmp .eq 16, 3) := by decide +kernel
theorem dX9_judge_19 : decode cX9_judge 19 = .ok (.aload_n 0, 1) := by decide +kernel
theorem dX9_judge_20 : decode cX9_judge 20 = .ok (.getfield 77, 3) := by decide +kernel
theorem dX9_judge_23 : decode cX9_judge 23 = .ok (.iload_n 1, 1) := by decide +kernel
theorem dX9_judge_24 : decode cX9_judge 24 = .ok (.iaload, 1) := by decide +kernel
theorem dX9_judge_25 : decode cX9_judge 25 = .ok (.iconst 1, 1) := by decide +kernel
theorem dX9_judge_26 : decode cX9_judge 26 = .ok (.if_icmp .eq 6, 3) := by decide +kernel
theorem dX9_judge_29 : decode cX9_judge 29 = .ok (.bipush (-12), 2) := by decide +kernel
theorem dX9_judge_31 : decode cX9_judge 31 = .ok (.ireturn, 1) := by decide +kernel
theorem dX9_judge_32 : decode cX9_judge 32 = .ok (.iconst 0, 1) := by decide +kernel
theorem dX9_judge_33 : decode cX9_judge 33 = .ok (.istore_n 3, 1) := by decide +kernel
theorem dX9_judge_34 : decode cX9_judge 34 = .ok (.iload_n 3, 1) := by decide +kernel
theorem dX9_judge_35 : decode cX9_judge 35 = .ok (.aload_n 0, 1) := by decide +kernel
theorem dX9_judge_36 : decode cX9_judge 36 = .ok (.getfield 9, 3) := by decide +kernel
theorem dX9_judge_39 : decode cX9_judge 39 = .ok (.bipush 92, 2) := by decide +kernel
theorem dX9_judge_41 : decode cX9_judge 41 = .ok (.iaload, 1) := by decide +kernel
theorem dX9_judge_42 : decode cX9_judge 42 = .ok (.if_icmp .ge 64, 3) := by decide +kernel
theorem dX9_judge_45 : decode cX9_judge 45 = .ok (.iload_n 2, 1) := by decide +kernel
theorem dX9_judge_46 : decode cX9_judge 46 = .ok (.i2l, 1) := by decide +kernel
theorem dX9_judge_47 : decode cX9_judge 47 = .ok (.iload_n 3, 1) := by decide +kernel
theorem dX9_judge_48 : decode cX9_judge 48 = .ok (.i2l, 1) := by decide +kernel
theorem dX9_judge_49 : decode cX9_judge 49 = .ok (.ladd, 1) := by decide +kernel
theorem dX9_judge_50 : decode cX9_judge 50 = .ok (.lstore 4, 2) := by decide +kernel
theorem dX9_judge_52 : decode cX9_judge 52 = .ok (.iload_n 2, 1) := by decide +kernel
theorem dX9_judge_53 : decode cX9_judge 53 = .ok (.ifCond .lt 16, 3) := by decide +kernel
theorem dX9_judge_56 : decode cX9_judge 56 = .ok (.lload 4, 2) := by decide +kernel
theorem dX9_judge_58 : decode cX9_judge 58 = .ok (.aload_n 0, 1) := by decide +kernel
theorem dX9_judge_59 : decode cX9_judge 59 = .ok (.getfield 80, 3) := by decide +kernel
theorem dX9_judge_62 : decode cX9_judge 62 = .ok (.iload_n 1, 1) := by decide +kernel
theorem dX9_judge_63 : decode cX9_judge 63 = .ok (.iaload, 1) := by decide +kernel
theorem dX9_judge_64 : decode cX9_judge 64 = .ok (.i2l, 1) := by decide +kernel
theorem dX9_judge_65 : decode cX9_judge 65 = .ok (.lcmp, 1) := by decide +kernel
theorem dX9_judge_66 : decode cX9_judge 66 = .ok (.ifCond .lt 8, 3) := by decide +kernel
theorem dX9_judge_69 : decode cX9_judge 69 = .ok (.bipush 100, 2) := by decide +kernel
theorem dX9_judge_71 : decode cX9_judge 71 = .ok (.iload_n 3, 1) := by decide +kernel
theorem dX9_judge_72 : decode cX9_judge 72 = .ok (.iadd, 1) := by decide +kernel
theorem dX9_judge_73 : decode cX9_judge 73 = .ok (.ireturn, 1) := by decide +kernel
theorem dX9_judge_74 : decode cX9_judge 74 = .ok (.aload_n 0, 1) := by decide +kernel
theorem dX9_judge_75 : decode cX9_judge 75 = .ok (.getfield 83, 3) := by decide +kernel
theorem dX9_judge_78 : decode cX9_judge 78 = .ok (.bipush 60, 2) := by decide +kernel
theorem dX9_judge_80 : decode cX9_judge 80 = .ok (.iload_n 1, 1) := by decide +kernel
theorem dX9_judge_81 : decode cX9_judge 81 = .ok (.imul, 1) := by decide +kernel
theorem dX9_judge_82 : decode cX9_judge 82 = .ok (.lload 4, 2) := by decide +kernel
theorem dX9_judge_84 : decode cX9_judge 84 = .ok (.l2i, 1) := by decide +kernel
theorem dX9_judge_85 : decode cX9_judge 85 = .ok (.iadd, 1) := by decide +kernel
theorem dX9_judge_86 : decode cX9_judge 86 = .ok (.laload, 1) := by decide +kernel
theorem dX9_judge_87 : decode cX9_judge 87 = .ok (.aload_n 0, 1) := by decide +kernel
theorem dX9_judge_88 : decode cX9_judge 88 = .ok (.iload_n 3, 1) := by decide +kernel
theorem dX9_judge_89 : decode cX9_judge 89 = .ok (.iconst 5, 1) := by decide +kernel
theorem dX9_judge_90 : decode cX9_judge 90 = .ok (.invokevirtual 102, 3) := by decide +kernel
theorem dX9_judge_93 : decode cX9_judge 93 = .ok (.i2l, 1) := by decide +kernel
theorem dX9_judge_94 : decode cX9_judge 94 = .ok (.lcmp, 1) := by decide +kernel
theorem dX9_judge_95 : decode cX9_judge 95 = .ok (.ifCond .eq 5, 3) := by decide +kernel
theorem dX9_judge_98 : decode cX9_judge 98 = .ok (.iload_n 3, 1) := by decide +kernel
theorem dX9_judge_99 : decode cX9_judge 99 = .ok (.ireturn, 1) := by decide +kernel
theorem dX9_judge_100 : decode cX9_judge 100 = .ok (.iinc 3 1, 3) := by decide +kernel
theorem dX9_judge_103 : decode cX9_judge 103 = .ok (.goto (-69), 3) := by decide +kernel
theorem dX9_judge_106 : decode cX9_judge 106 = .ok (.bipush (-5), 2) := by decide +kernel
theorem dX9_judge_108 : decode cX9_judge 108 = .ok (.ireturn, 1) := by decide +kernel
