theorem d_law_0 : decode code 0 = .ok (.new 7, 3) := by decide +kernel
theorem d_law_3 : decode code 3 = .ok (.dup, 1) := by decide +kernel
theorem d_law_4 : decode code 4 = .ok (.invokespecial 9, 3) := by decide +kernel
theorem d_law_7 : decode code 7 = .ok (.astore_n 1, 1) := by decide +kernel
theorem d_law_8 : decode code 8 = .ok (.new 10, 3) := by decide +kernel
theorem d_law_11 : decode code 11 = .ok (.dup, 1) := by decide +kernel
theorem d_law_12 : decode code 12 = .ok (.invokespecial 12, 3) := by decide +kernel
theorem d_law_15 : decode code 15 = .ok (.astore_n 2, 1) := by decide +kernel
theorem d_law_16 : decode code 16 = .ok (.iconst 0, 1) := by decide +kernel
theorem d_law_17 : decode code 17 = .ok (.istore_n 3, 1) := by decide +kernel
theorem d_law_18 : decode code 18 = .ok (.iload_n 3, 1) := by decide +kernel
theorem d_law_19 : decode code 19 = .ok (.aload_n 0, 1) := by decide +kernel
theorem d_law_20 : decode code 20 = .ok (.arraylength, 1) := by decide +kernel
theorem d_law_21 : decode code 21 = .ok (.bipush (7), 2) := by decide +kernel
theorem d_law_23 : decode code 23 = .ok (.isub, 1) := by decide +kernel
theorem d_law_24 : decode code 24 = .ok (.if_icmp .gt 1750, 3) := by decide +kernel
theorem d_law_27 : decode code 27 = .ok (.aload_n 0, 1) := by decide +kernel
theorem d_law_28 : decode code 28 = .ok (.iload_n 3, 1) := by decide +kernel
theorem d_law_29 : decode code 29 = .ok (.iaload, 1) := by decide +kernel
theorem d_law_30 : decode code 30 = .ok (.bipush (63), 2) := by decide +kernel
theorem d_law_32 : decode code 32 = .ok (.iand, 1) := by decide +kernel
theorem d_law_33 : decode code 33 = .ok (.tableswitch 1735 (0) (34) #[155, 178, 253, 266, 289, 332, 365, 408, 441, 484, 527, 570, 593, 656, 689, 732, 765, 828, 881, 944, 1007, 1060, 1113, 1176, 1229, 1272, 1335, 1398, 1474, 1487, 1500, 1543, 1586, 1649, 1702], 155) := by decide +kernel
theorem d_law_188 : decode code 188 = .ok (.aload_n 1, 1) := by decide +kernel
theorem d_law_189 : decode code 189 = .ok (.aload_n 0, 1) := by decide +kernel
theorem d_law_190 : decode code 190 = .ok (.iload_n 3, 1) := by decide +kernel
theorem d_law_191 : decode code 191 = .ok (.iconst 1, 1) := by decide +kernel
theorem d_law_192 : decode code 192 = .ok (.iadd, 1) := by decide +kernel
theorem d_law_193 : decode code 193 = .ok (.iaload, 1) := by decide +kernel
theorem d_law_194 : decode code 194 = .ok (.invokevirtual 13, 3) := by decide +kernel
theorem d_law_197 : decode code 197 = .ok (.aload_n 2, 1) := by decide +kernel
theorem d_law_198 : decode code 198 = .ok (.aload_n 0, 1) := by decide +kernel
theorem d_law_199 : decode code 199 = .ok (.iload_n 3, 1) := by decide +kernel
theorem d_law_200 : decode code 200 = .ok (.iconst 1, 1) := by decide +kernel
theorem d_law_201 : decode code 201 = .ok (.iadd, 1) := by decide +kernel
theorem d_law_202 : decode code 202 = .ok (.iaload, 1) := by decide +kernel
theorem d_law_203 : decode code 203 = .ok (.invokevirtual 17, 3) := by decide +kernel
theorem d_law_206 : decode code 206 = .ok (.if_icmp .eq 1562, 3) := by decide +kernel
theorem d_law_209 : decode code 209 = .ok (.iconst 0, 1) := by decide +kernel
theorem d_law_210 : decode code 210 = .ok (.ireturn, 1) := by decide +kernel
theorem d_law_211 : decode code 211 = .ok (.aload_n 1, 1) := by decide +kernel
theorem d_law_212 : decode code 212 = .ok (.aload_n 0, 1) := by decide +kernel
theorem d_law_213 : decode code 213 = .ok (.iload_n 3, 1) := by decide +kernel
theorem d_law_214 : decode code 214 = .ok (.iconst 1, 1) := by decide +kernel
theorem d_law_215 : decode code 215 = .ok (.iadd, 1) := by decide +kernel
theorem d_law_216 : decode code 216 = .ok (.iaload, 1) := by decide +kernel
theorem d_law_217 : decode code 217 = .ok (.aload_n 0, 1) := by decide +kernel
theorem d_law_218 : decode code 218 = .ok (.iload_n 3, 1) := by decide +kernel
theorem d_law_219 : decode code 219 = .ok (.iconst 2, 1) := by decide +kernel
theorem d_law_220 : decode code 220 = .ok (.iadd, 1) := by decide +kernel
theorem d_law_221 : decode code 221 = .ok (.iaload, 1) := by decide +kernel
theorem d_law_222 : decode code 222 = .ok (.aload_n 0, 1) := by decide +kernel
theorem d_law_223 : decode code 223 = .ok (.iload_n 3, 1) := by decide +kernel
theorem d_law_224 : decode code 224 = .ok (.iconst 3, 1) := by decide +kernel
theorem d_law_225 : decode code 225 = .ok (.iadd, 1) := by decide +kernel
theorem d_law_226 : decode code 226 = .ok (.iaload, 1) := by decide +kernel
theorem d_law_227 : decode code 227 = .ok (.aload_n 0, 1) := by decide +kernel
theorem d_law_228 : decode code 228 = .ok (.iload_n 3, 1) := by decide +kernel
theorem d_law_229 : decode code 229 = .ok (.iconst 4, 1) := by decide +kernel
theorem d_law_230 : decode code 230 = .ok (.iadd, 1) := by decide +kernel
theorem d_law_231 : decode code 231 = .ok (.iaload, 1) := by decide +kernel
theorem d_law_232 : decode code 232 = .ok (.aload_n 0, 1) := by decide +kernel
theorem d_law_233 : decode code 233 = .ok (.iload_n 3, 1) := by decide +kernel
theorem d_law_234 : decode code 234 = .ok (.iconst 5, 1) := by decide +kernel
theorem d_law_235 : decode code 235 = .ok (.iadd, 1) := by decide +kernel
theorem d_law_236 : decode code 236 = .ok (.iaload, 1) := by decide +kernel
theorem d_law_237 : decode code 237 = .ok (.aload_n 0, 1) := by decide +kernel
theorem d_law_238 : decode code 238 = .ok (.iload_n 3, 1) := by decide +kernel
theorem d_law_239 : decode code 239 = .ok (.bipush (6), 2) := by decide +kernel
theorem d_law_241 : decode code 241 = .ok (.iadd, 1) := by decide +kernel
theorem d_law_242 : decode code 242 = .ok (.iaload, 1) := by decide +kernel
theorem d_law_243 : decode code 243 = .ok (.invokevirtual 18, 3) := by decide +kernel
theorem d_law_246 : decode code 246 = .ok (.aload_n 2, 1) := by decide +kernel
theorem d_law_247 : decode code 247 = .ok (.aload_n 0, 1) := by decide +kernel
theorem d_law_248 : decode code 248 = .ok (.iload_n 3, 1) := by decide +kernel
theorem d_law_249 : decode code 249 = .ok (.iconst 1, 1) := by decide +kernel
theorem d_law_250 : decode code 250 = .ok (.iadd, 1) := by decide +kernel
theorem d_law_251 : decode code 251 = .ok (.iaload, 1) := by decide +kernel
theorem d_law_252 : decode code 252 = .ok (.aload_n 0, 1) := by decide +kernel
theorem d_law_253 : decode code 253 = .ok (.iload_n 3, 1) := by decide +kernel
theorem d_law_254 : decode code 254 = .ok (.iconst 2, 1) := by decide +kernel
theorem d_law_255 : decode code 255 = .ok (.iadd, 1) := by decide +kernel
theorem d_law_256 : decode code 256 = .ok (.iaload, 1) := by decide +kernel
theorem d_law_257 : decode code 257 = .ok (.aload_n 0, 1) := by decide +kernel
theorem d_law_258 : decode code 258 = .ok (.iload_n 3, 1) := by decide +kernel
theorem d_law_259 : decode code 259 = .ok (.iconst 3, 1) := by decide +kernel
theorem d_law_260 : decode code 260 = .ok (.iadd, 1) := by decide +kernel
theorem d_law_261 : decode code 261 = .ok (.iaload, 1) := by decide +kernel
theorem d_law_262 : decode code 262 = .ok (.aload_n 0, 1) := by decide +kernel
theorem d_law_263 : decode code 263 = .ok (.iload_n 3, 1) := by decide +kernel
theorem d_law_264 : decode code 264 = .ok (.iconst 4, 1) := by decide +kernel
theorem d_law_265 : decode code 265 = .ok (.iadd, 1) := by decide +kernel
theorem d_law_266 : decode code 266 = .ok (.iaload, 1) := by decide +kernel
theorem d_law_267 : decode code 267 = .ok (.aload_n 0, 1) := by decide +kernel
theorem d_law_268 : decode code 268 = .ok (.iload_n 3, 1) := by decide +kernel
theorem d_law_269 : decode code 269 = .ok (.iconst 5, 1) := by decide +kernel
theorem d_law_270 : decode code 270 = .ok (.iadd, 1) := by decide +kernel
theorem d_law_271 : decode code 271 = .ok (.iaload, 1) := by decide +kernel
theorem d_law_272 : decode code 272 = .ok (.aload_n 0, 1) := by decide +kernel
theorem d_law_273 : decode code 273 = .ok (.iload_n 3, 1) := by decide +kernel
theorem d_law_274 : decode code 274 = .ok (.bipush (6), 2) := by decide +kernel
theorem d_law_276 : decode code 276 = .ok (.iadd, 1) := by decide +kernel
theorem d_law_277 : decode code 277 = .ok (.iaload, 1) := by decide +kernel
theorem d_law_278 : decode code 278 = .ok (.invokevirtual 22, 3) := by decide +kernel
theorem d_law_281 : decode code 281 = .ok (.if_icmp .eq 1487, 3) := by decide +kernel
theorem d_law_284 : decode code 284 = .ok (.iconst 0, 1) := by decide +kernel
theorem d_law_285 : decode code 285 = .ok (.ireturn, 1) := by decide +kernel
theorem d_law_286 : decode code 286 = .ok (.aload_n 1, 1) := by decide +kernel
theorem d_law_287 : decode code 287 = .ok (.invokevirtual 23, 3) := by decide +kernel
theorem d_law_290 : decode code 290 = .ok (.aload_n 2, 1) := by decide +kernel
theorem d_law_291 : decode code 291 = .ok (.invokevirtual 27, 3) := by decide +kernel
theorem d_law_294 : decode code 294 = .ok (.if_icmp .eq 1474, 3) := by decide +kernel
theorem d_law_297 : decode code 297 = .ok (.iconst 0, 1) := by decide +kernel
theorem d_law_298 : decode code 298 = .ok (.ireturn, 1) := by decide +kernel
theorem d_law_299 : decode code 299 = .ok (.aload_n 1, 1) := by decide +kernel
theorem d_law_300 : decode code 300 = .ok (.aload_n 0, 1) := by decide +kernel
theorem d_law_301 : decode code 301 = .ok (.iload_n 3, 1) := by decide +kernel
theorem d_law_302 : decode code 302 = .ok (.iconst 1, 1) := by decide +kernel
theorem d_law_303 : decode code 303 = .ok (.iadd, 1) := by decide +kernel
theorem d_law_304 : decode code 304 = .ok (.iaload, 1) := by decide +kernel
theorem d_law_305 : decode code 305 = .ok (.invokevirtual 28, 3) := by decide +kernel
theorem d_law_308 : decode code 308 = .ok (.aload_n 2, 1) := by decide +kernel
theorem d_law_309 : decode code 309 = .ok (.aload_n 0, 1) := by decide +kernel
theorem d_law_310 : decode code 310 = .ok (.iload_n 3, 1) := by decide +kernel
theorem d_law_311 : decode code 311 = .ok (.iconst 1, 1) := by decide +kernel
theorem d_law_312 : decode code 312 = .ok (.iadd, 1) := by decide +kernel
theorem d_law_313 : decode code 313 = .ok (.iaload, 1) := by decide +kernel
theorem d_law_314 : decode code 314 = .ok (.invokevirtual 31, 3) := by decide +kernel
theorem d_law_317 : decode code 317 = .ok (.if_icmp .eq 1451, 3) := by decide +kernel
theorem d_law_320 : decode code 320 = .ok (.iconst 0, 1) := by decide +kernel
theorem d_law_321 : decode code 321 = .ok (.ireturn, 1) := by decide +kernel
theorem d_law_322 : decode code 322 = .ok (.aload_n 1, 1) := by decide +kernel
theorem d_law_323 : decode code 323 = .ok (.aload_n 0, 1) := by decide +kernel
theorem d_law_324 : decode code 324 = .ok (.iload_n 3, 1) := by decide +kernel
theorem d_law_325 : decode code 325 = .ok (.iconst 1, 1) := by decide +kernel
theorem d_law_326 : decode code 326 = .ok (.iadd, 1) := by decide +kernel
theorem d_law_327 : decode code 327 = .ok (.iaload, 1) := by decide +kernel
theorem d_law_328 : decode code 328 = .ok (.aload_n 0, 1) := by decide +kernel
theorem d_law_329 : decode code 329 = .ok (.iload_n 3, 1) := by decide +kernel
theorem d_law_330 : decode code 330 = .ok (.iconst 2, 1) := by decide +kernel
theorem d_law_331 : decode code 331 = .ok (.iadd, 1) := by decide +kernel
theorem d_law_332 : decode code 332 = .ok (.iaload, 1) := by decide +kernel
theorem d_law_333 : decode code 333 = .ok (.aload_n 0, 1) := by decide +kernel
theorem d_law_334 : decode code 334 = .ok (.iload_n 3, 1) := by decide +kernel
theorem d_law_335 : decode code 335 = .ok (.iconst 3, 1) := by decide +kernel
theorem d_law_336 : decode code 336 = .ok (.iadd, 1) := by decide +kernel
theorem d_law_337 : decode code 337 = .ok (.iaload, 1) := by decide +kernel
theorem d_law_338 : decode code 338 = .ok (.invokevirtual 32, 3) := by decide +kernel
theorem d_law_341 : decode code 341 = .ok (.aload_n 2, 1) := by decide +kernel
theorem d_law_342 : decode code 342 = .ok (.aload_n 0, 1) := by decide +kernel
theorem d_law_343 : decode code 343 = .ok (.iload_n 3, 1) := by decide +kernel
theorem d_law_344 : decode code 344 = .ok (.iconst 1, 1) := by decide +kernel
theorem d_law_345 : decode code 345 = .ok (.iadd, 1) := by decide +kernel
theorem d_law_346 : decode code 346 = .ok (.iaload, 1) := by decide +kernel
theorem d_law_347 : decode code 347 = .ok (.aload_n 0, 1) := by decide +kernel
theorem d_law_348 : decode code 348 = .ok (.iload_n 3, 1) := by decide +kernel
theorem d_law_349 : decode code 349 = .ok (.iconst 2, 1) := by decide +kernel
theorem d_law_350 : decode code 350 = .ok (.iadd, 1) := by decide +kernel
theorem d_law_351 : decode code 351 = .ok (.iaload, 1) := by decide +kernel
theorem d_law_352 : decode code 352 = .ok (.aload_n 0, 1) := by decide +kernel
theorem d_law_353 : decode code 353 = .ok (.iload_n 3, 1) := by decide +kernel
theorem d_law_354 : decode code 354 = .ok (.iconst 3, 1) := by decide +kernel
theorem d_law_355 : decode code 355 = .ok (.iadd, 1) := by decide +kernel
theorem d_law_356 : decode code 356 = .ok (.iaload, 1) := by decide +kernel
theorem d_law_357 : decode code 357 = .ok (.invokevirtual 36, 3) := by decide +kernel
theorem d_law_360 : decode code 360 = .ok (.if_icmp .eq 1408, 3) := by decide +kernel
theorem d_law_363 : decode code 363 = .ok (.iconst 0, 1) := by decide +kernel
theorem d_law_364 : decode code 364 = .ok (.ireturn, 1) := by decide +kernel
theorem d_law_365 : decode code 365 = .ok (.aload_n 1, 1) := by decide +kernel
theorem d_law_366 : decode code 366 = .ok (.aload_n 0, 1) := by decide +kernel
theorem d_law_367 : decode code 367 = .ok (.iload_n 3, 1) := by decide +kernel
theorem d_law_368 : decode code 368 = .ok (.iconst 1, 1) := by decide +kernel
theorem d_law_369 : decode code 369 = .ok (.iadd, 1) := by decide +kernel
theorem d_law_370 : decode code 370 = .ok (.iaload, 1) := by decide +kernel
theorem d_law_371 : decode code 371 = .ok (.aload_n 0, 1) := by decide +kernel
theorem d_law_372 : decode code 372 = .ok (.iload_n 3, 1) := by decide +kernel
theorem d_law_373 : decode code 373 = .ok (.iconst 2, 1) := by decide +kernel
theorem d_law_374 : decode code 374 = .ok (.iadd, 1) := by decide +kernel
theorem d_law_375 : decode code 375 = .ok (.iaload, 1) := by decide +kernel
theorem d_law_376 : decode code 376 = .ok (.invokevirtual 37, 3) := by decide +kernel
theorem d_law_379 : decode code 379 = .ok (.aload_n 2, 1) := by decide +kernel
theorem d_law_380 : decode code 380 = .ok (.aload_n 0, 1) := by decide +kernel
theorem d_law_381 : decode code 381 = .ok (.iload_n 3, 1) := by decide +kernel
theorem d_law_382 : decode code 382 = .ok (.iconst 1, 1) := by decide +kernel
theorem d_law_383 : decode code 383 = .ok (.iadd, 1) := by decide +kernel
theorem d_law_384 : decode code 384 = .ok (.iaload, 1) := by decide +kernel
theorem d_law_385 : decode code 385 = .ok (.aload_n 0, 1) := by decide +kernel
theorem d_law_386 : decode code 386 = .ok (.iload_n 3, 1) := by decide +kernel
theorem d_law_387 : decode code 387 = .ok (.iconst 2, 1) := by decide +kernel
theorem d_law_388 : decode code 388 = .ok (.iadd, 1) := by decide +kernel
theorem d_law_389 : decode code 389 = .ok (.iaload, 1) := by decide +kernel
theorem d_law_390 : decode code 390 = .ok (.invokevirtual 41, 3) := by decide +kernel
theorem d_law_393 : decode code 393 = .ok (.if_icmp .eq 1375, 3) := by decide +kernel
theorem d_law_396 : decode code 396 = .ok (.iconst 0, 1) := by decide +kernel
theorem d_law_397 : decode code 397 = .ok (.ireturn, 1) := by decide +kernel
theorem d_law_398 : decode code 398 = .ok (.aload_n 1, 1) := by decide +kernel
theorem d_law_399 : decode code 399 = .ok (.aload_n 0, 1) := by decide +kernel
theorem d_law_400 : decode code 400 = .ok (.iload_n 3, 1) := by decide +kernel
theorem d_law_401 : decode code 401 = .ok (.iconst 1, 1) := by decide +kernel
theorem d_law_402 : decode code 402 = .ok (.iadd, 1) := by decide +kernel
theorem d_law_403 : decode code 403 = .ok (.iaload, 1) := by decide +kernel
theorem d_law_404 : decode code 404 = .ok (.aload_n 0, 1) := by decide +kernel
theorem d_law_405 : decode code 405 = .ok (.iload_n 3, 1) := by decide +kernel
theorem d_law_406 : decode code 406 = .ok (.iconst 2, 1) := by decide +kernel
theorem d_law_407 : decode code 407 = .ok (.iadd, 1) := by decide +kernel
theorem d_law_408 : decode code 408 = .ok (.iaload, 1) := by decide +kernel
theorem d_law_409 : decode code 409 = .ok (.aload_n 0, 1) := by decide +kernel
theorem d_law_410 : decode code 410 = .ok (.iload_n 3, 1) := by decide +kernel
theorem d_law_411 : decode code 411 = .ok (.iconst 3, 1) := by decide +kernel
theorem d_law_412 : decode code 412 = .ok (.iadd, 1) := by decide +kernel
theorem d_law_413 : decode code 413 = .ok (.iaload, 1) := by decide +kernel
theorem d_law_414 : decode code 414 = .ok (.invokevirtual 42, 3) := by decide +kernel
theorem d_law_417 : decode code 417 = .ok (.aload_n 2, 1) := by decide +kernel
theorem d_law_418 : decode code 418 = .ok (.aload_n 0, 1) := by decide +kernel
theorem d_law_419 : decode code 419 = .ok (.iload_n 3, 1) := by decide +kernel
theorem d_law_420 : decode code 420 = .ok (.iconst 1, 1) := by decide +kernel
theorem d_law_421 : decode code 421 = .ok (.iadd, 1) := by decide +kernel
theorem d_law_422 : decode code 422 = .ok (.iaload, 1) := by decide +kernel
theorem d_law_423 : decode code 423 = .ok (.aload_n 0, 1) := by decide +kernel
theorem d_law_424 : decode code 424 = .ok (.iload_n 3, 1) := by decide +kernel
theorem d_law_425 : decode code 425 = .ok (.iconst 2, 1) := by decide +kernel
theorem d_law_426 : decode code 426 = .ok (.iadd, 1) := by decide +kernel
theorem d_law_427 : decode code 427 = .ok (.iaload, 1) := by decide +kernel
theorem d_law_428 : decode code 428 = .ok (.aload_n 0, 1) := by decide +kernel
theorem d_law_429 : decode code 429 = .ok (.iload_n 3, 1) := by decide +kernel
theorem d_law_430 : decode code 430 = .ok (.iconst 3, 1) := by decide +kernel
theorem d_law_431 : decode code 431 = .ok (.iadd, 1) := by decide +kernel
theorem d_law_432 : decode code 432 = .ok (.iaload, 1) := by decide +kernel
theorem d_law_433 : decode code 433 = .ok (.invokevirtual 45, 3) := by decide +kernel
theorem d_law_436 : decode code 436 = .ok (.if_icmp .eq 1332, 3) := by decide +kernel
theorem d_law_439 : decode code 439 = .ok (.iconst 0, 1) := by decide +kernel
theorem d_law_440 : decode code 440 = .ok (.ireturn, 1) := by decide +kernel
theorem d_law_441 : decode code 441 = .ok (.aload_n 1, 1) := by decide +kernel
theorem d_law_442 : decode code 442 = .ok (.aload_n 0, 1) := by decide +kernel
theorem d_law_443 : decode code 443 = .ok (.iload_n 3, 1) := by decide +kernel
theorem d_law_444 : decode code 444 = .ok (.iconst 1, 1) := by decide +kernel
theorem d_law_445 : decode code 445 = .ok (.iadd, 1) := by decide +kernel
theorem d_law_446 : decode code 446 = .ok (.iaload, 1) := by decide +kernel
theorem d_law_447 : decode code 447 = .ok (.aload_n 0, 1) := by decide +kernel
theorem d_law_448 : decode code 448 = .ok (.iload_n 3, 1) := by decide +kernel
theorem d_law_449 : decode code 449 = .ok (.iconst 2, 1) := by decide +kernel
theorem d_law_450 : decode code 450 = .ok (.iadd, 1) := by decide +kernel
theorem d_law_451 : decode code 451 = .ok (.iaload, 1) := by decide +kernel
theorem d_law_452 : decode code 452 = .ok (.invokevirtual 46, 3) := by decide +kernel
theorem d_law_455 : decode code 455 = .ok (.aload_n 2, 1) := by decide +kernel
theorem d_law_456 : decode code 456 = .ok (.aload_n 0, 1) := by decide +kernel
theorem d_law_457 : decode code 457 = .ok (.iload_n 3, 1) := by decide +kernel
theorem d_law_458 : decode code 458 = .ok (.iconst 1, 1) := by decide +kernel
theorem d_law_459 : decode code 459 = .ok (.iadd, 1) := by decide +kernel
theorem d_law_460 : decode code 460 = .ok (.iaload, 1) := by decide +kernel
theorem d_law_461 : decode code 461 = .ok (.aload_n 0, 1) := by decide +kernel
theorem d_law_462 : decode code 462 = .ok (.iload_n 3, 1) := by decide +kernel
theorem d_law_463 : decode code 463 = .ok (.iconst 2, 1) := by decide +kernel
theorem d_law_464 : decode code 464 = .ok (.iadd, 1) := by decide +kernel
theorem d_law_465 : decode code 465 = .ok (.iaload, 1) := by decide +kernel
theorem d_law_466 : decode code 466 = .ok (.invokevirtual 49, 3) := by decide +kernel
theorem d_law_469 : decode code 469 = .ok (.if_icmp .eq 1299, 3) := by decide +kernel
theorem d_law_472 : decode code 472 = .ok (.iconst 0, 1) := by decide +kernel
theorem d_law_473 : decode code 473 = .ok (.ireturn, 1) := by decide +kernel
theorem d_law_474 : decode code 474 = .ok (.aload_n 1, 1) := by decide +kernel
theorem d_law_475 : decode code 475 = .ok (.aload_n 0, 1) := by decide +kernel
theorem d_law_476 : decode code 476 = .ok (.iload_n 3, 1) := by decide +kernel
theorem d_law_477 : decode code 477 = .ok (.iconst 1, 1) := by decide +kernel
theorem d_law_478 : decode code 478 = .ok (.iadd, 1) := by decide +kernel
theorem d_law_479 : decode code 479 = .ok (.iaload, 1) := by decide +kernel
theorem d_law_480 : decode code 480 = .ok (.aload_n 0, 1) := by decide +kernel
theorem d_law_481 : decode code 481 = .ok (.iload_n 3, 1) := by decide +kernel
theorem d_law_482 : decode code 482 = .ok (.iconst 2, 1) := by decide +kernel
theorem d_law_483 : decode code 483 = .ok (.iadd, 1) := by decide +kernel
theorem d_law_484 : decode code 484 = .ok (.iaload, 1) := by decide +kernel
theorem d_law_485 : decode code 485 = .ok (.aload_n 0, 1) := by decide +kernel
theorem d_law_486 : decode code 486 = .ok (.iload_n 3, 1) := by decide +kernel
theorem d_law_487 : decode code 487 = .ok (.iconst 3, 1) := by decide +kernel
theorem d_law_488 : decode code 488 = .ok (.iadd, 1) := by decide +kernel
theorem d_law_489 : decode code 489 = .ok (.iaload, 1) := by decide +kernel
theorem d_law_490 : decode code 490 = .ok (.invokevirtual 50, 3) := by decide +kernel
theorem d_law_493 : decode code 493 = .ok (.aload_n 2, 1) := by decide +kernel
theorem d_law_494 : decode code 494 = .ok (.aload_n 0, 1) := by decide +kernel
theorem d_law_495 : decode code 495 = .ok (.iload_n 3, 1) := by decide +kernel
theorem d_law_496 : decode code 496 = .ok (.iconst 1, 1) := by decide +kernel
theorem d_law_497 : decode code 497 = .ok (.iadd, 1) := by decide +kernel
theorem d_law_498 : decode code 498 = .ok (.iaload, 1) := by decide +kernel
theorem d_law_499 : decode code 499 = .ok (.aload_n 0, 1) := by decide +kernel
theorem d_law_500 : decode code 500 = .ok (.iload_n 3, 1) := by decide +kernel
theorem d_law_501 : decode code 501 = .ok (.iconst 2, 1) := by decide +kernel
theorem d_law_502 : decode code 502 = .ok (.iadd, 1) := by decide +kernel
theorem d_law_503 : decode code 503 = .ok (.iaload, 1) := by decide +kernel
theorem d_law_504 : decode code 504 = .ok (.aload_n 0, 1) := by decide +kernel
theorem d_law_505 : decode code 505 = .ok (.iload_n 3, 1) := by decide +kernel
theorem d_law_506 : decode code 506 = .ok (.iconst 3, 1) := by decide +kernel
theorem d_law_507 : decode code 507 = .ok (.iadd, 1) := by decide +kernel
theorem d_law_508 : decode code 508 = .ok (.iaload, 1) := by decide +kernel
theorem d_law_509 : decode code 509 = .ok (.invokevirtual 53, 3) := by decide +kernel
theorem d_law_512 : decode code 512 = .ok (.if_icmp .eq 1256, 3) := by decide +kernel
theorem d_law_515 : decode code 515 = .ok (.iconst 0, 1) := by decide +kernel
theorem d_law_516 : decode code 516 = .ok (.ireturn, 1) := by decide +kernel
theorem d_law_517 : decode code 517 = .ok (.aload_n 1, 1) := by decide +kernel
theorem d_law_518 : decode code 518 = .ok (.aload_n 0, 1) := by decide +kernel
theorem d_law_519 : decode code 519 = .ok (.iload_n 3, 1) := by decide +kernel
theorem d_law_520 : decode code 520 = .ok (.iconst 1, 1) := by decide +kernel
theorem d_law_521 : decode code 521 = .ok (.iadd, 1) := by decide +kernel
theorem d_law_522 : decode code 522 = .ok (.iaload, 1) := by decide +kernel
theorem d_law_523 : decode code 523 = .ok (.aload_n 0, 1) := by decide +kernel
theorem d_law_524 : decode code 524 = .ok (.iload_n 3, 1) := by decide +kernel
theorem d_law_525 : decode code 525 = .ok (.iconst 2, 1) := by decide +kernel
theorem d_law_526 : decode code 526 = .ok (.iadd, 1) := by decide +kernel
theorem d_law_527 : decode code 527 = .ok (.iaload, 1) := by decide +kernel
theorem d_law_528 : decode code 528 = .ok (.aload_n 0, 1) := by decide +kernel
theorem d_law_529 : decode code 529 = .ok (.iload_n 3, 1) := by decide +kernel
theorem d_law_530 : decode code 530 = .ok (.iconst 3, 1) := by decide +kernel
theorem d_law_531 : decode code 531 = .ok (.iadd, 1) := by decide +kernel
theorem d_law_532 : decode code 532 = .ok (.iaload, 1) := by decide +kernel
theorem d_law_533 : decode code 533 = .ok (.invokevirtual 54, 3) := by decide +kernel
theorem d_law_536 : decode code 536 = .ok (.aload_n 2, 1) := by decide +kernel
theorem d_law_537 : decode code 537 = .ok (.aload_n 0, 1) := by decide +kernel
theorem d_law_538 : decode code 538 = .ok (.iload_n 3, 1) := by decide +kernel
theorem d_law_539 : decode code 539 = .ok (.iconst 1, 1) := by decide +kernel
theorem d_law_540 : decode code 540 = .ok (.iadd, 1) := by decide +kernel
theorem d_law_541 : decode code 541 = .ok (.iaload, 1) := by decide +kernel
theorem d_law_542 : decode code 542 = .ok (.aload_n 0, 1) := by decide +kernel
theorem d_law_543 : decode code 543 = .ok (.iload_n 3, 1) := by decide +kernel
theorem d_law_544 : decode code 544 = .ok (.iconst 2, 1) := by decide +kernel
theorem d_law_545 : decode code 545 = .ok (.iadd, 1) := by decide +kernel
theorem d_law_546 : decode code 546 = .ok (.iaload, 1) := by decide +kernel
theorem d_law_547 : decode code 547 = .ok (.aload_n 0, 1) := by decide +kernel
theorem d_law_548 : decode code 548 = .ok (.iload_n 3, 1) := by decide +kernel
theorem d_law_549 : decode code 549 = .ok (.iconst 3, 1) := by decide +kernel
theorem d_law_550 : decode code 550 = .ok (.iadd, 1) := by decide +kernel
theorem d_law_551 : decode code 551 = .ok (.iaload, 1) := by decide +kernel
theorem d_law_552 : decode code 552 = .ok (.invokevirtual 57, 3) := by decide +kernel
theorem d_law_555 : decode code 555 = .ok (.if_icmp .eq 1213, 3) := by decide +kernel
theorem d_law_558 : decode code 558 = .ok (.iconst 0, 1) := by decide +kernel
theorem d_law_559 : decode code 559 = .ok (.ireturn, 1) := by decide +kernel
theorem d_law_560 : decode code 560 = .ok (.aload_n 1, 1) := by decide +kernel
theorem d_law_561 : decode code 561 = .ok (.aload_n 0, 1) := by decide +kernel
theorem d_law_562 : decode code 562 = .ok (.iload_n 3, 1) := by decide +kernel
theorem d_law_563 : decode code 563 = .ok (.iconst 1, 1) := by decide +kernel
theorem d_law_564 : decode code 564 = .ok (.iadd, 1) := by decide +kernel
theorem d_law_565 : decode code 565 = .ok (.iaload, 1) := by decide +kernel
theorem d_law_566 : decode code 566 = .ok (.aload_n 0, 1) := by decide +kernel
theorem d_law_567 : decode code 567 = .ok (.iload_n 3, 1) := by decide +kernel
theorem d_law_568 : decode code 568 = .ok (.iconst 2, 1) := by decide +kernel
theorem d_law_569 : decode code 569 = .ok (.iadd, 1) := by decide +kernel
theorem d_law_570 : decode code 570 = .ok (.iaload, 1) := by decide +kernel
theorem d_law_571 : decode code 571 = .ok (.aload_n 0, 1) := by decide +kernel
theorem d_law_572 : decode code 572 = .ok (.iload_n 3, 1) := by decide +kernel
theorem d_law_573 : decode code 573 = .ok (.iconst 3, 1) := by decide +kernel
theorem d_law_574 : decode code 574 = .ok (.iadd, 1) := by decide +kernel
theorem d_law_575 : decode code 575 = .ok (.iaload, 1) := by decide +kernel
theorem d_law_576 : decode code 576 = .ok (.invokevirtual 58, 3) := by decide +kernel
theorem d_law_579 : decode code 579 = .ok (.aload_n 2, 1) := by decide +kernel
theorem d_law_580 : decode code 580 = .ok (.aload_n 0, 1) := by decide +kernel
theorem d_law_581 : decode code 581 = .ok (.iload_n 3, 1) := by decide +kernel
theorem d_law_582 : decode code 582 = .ok (.iconst 1, 1) := by decide +kernel
theorem d_law_583 : decode code 583 = .ok (.iadd, 1) := by decide +kernel
theorem d_law_584 : decode code 584 = .ok (.iaload, 1) := by decide +kernel
theorem d_law_585 : decode code 585 = .ok (.aload_n 0, 1) := by decide +kernel
theorem d_law_586 : decode code 586 = .ok (.iload_n 3, 1) := by decide +kernel
theorem d_law_587 : decode code 587 = .ok (.iconst 2, 1) := by decide +kernel
theorem d_law_588 : decode code 588 = .ok (.iadd, 1) := by decide +kernel
theorem d_law_589 : decode code 589 = .ok (.iaload, 1) := by decide +kernel
theorem d_law_590 : decode code 590 = .ok (.aload_n 0, 1) := by decide +kernel
theorem d_law_591 : decode code 591 = .ok (.iload_n 3, 1) := by decide +kernel
theorem d_law_592 : decode code 592 = .ok (.iconst 3, 1) := by decide +kernel
theorem d_law_593 : decode code 593 = .ok (.iadd, 1) := by decide +kernel
theorem d_law_594 : decode code 594 = .ok (.iaload, 1) := by decide +kernel
theorem d_law_595 : decode code 595 = .ok (.invokevirtual 61, 3) := by decide +kernel
theorem d_law_598 : decode code 598 = .ok (.if_icmp .eq 1170, 3) := by decide +kernel
theorem d_law_601 : decode code 601 = .ok (.iconst 0, 1) := by decide +kernel
theorem d_law_602 : decode code 602 = .ok (.ireturn, 1) := by decide +kernel
theorem d_law_603 : decode code 603 = .ok (.aload_n 1, 1) := by decide +kernel
theorem d_law_604 : decode code 604 = .ok (.aload_n 0, 1) := by decide +kernel
theorem d_law_605 : decode code 605 = .ok (.iload_n 3, 1) := by decide +kernel
theorem d_law_606 : decode code 606 = .ok (.iconst 1, 1) := by decide +kernel
theorem d_law_607 : decode code 607 = .ok (.iadd, 1) := by decide +kernel
theorem d_law_608 : decode code 608 = .ok (.iaload, 1) := by decide +kernel
theorem d_law_609 : decode code 609 = .ok (.invokevirtual 62, 3) := by decide +kernel
theorem d_law_612 : decode code 612 = .ok (.aload_n 2, 1) := by decide +kernel
theorem d_law_613 : decode code 613 = .ok (.aload_n 0, 1) := by decide +kernel
theorem d_law_614 : decode code 614 = .ok (.iload_n 3, 1) := by decide +kernel
theorem d_law_615 : decode code 615 = .ok (.iconst 1, 1) := by decide +kernel
theorem d_law_616 : decode code 616 = .ok (.iadd, 1) := by decide +kernel
theorem d_law_617 : decode code 617 = .ok (.iaload, 1) := by decide +kernel
theorem d_law_618 : decode code 618 = .ok (.invokevirtual 65, 3) := by decide +kernel
theorem d_law_621 : decode code 621 = .ok (.if_icmp .eq 1147, 3) := by decide +kernel
theorem d_law_624 : decode code 624 = .ok (.iconst 0, 1) := by decide +kernel
theorem d_law_625 : decode code 625 = .ok (.ireturn, 1) := by decide +kernel
theorem d_law_626 : decode code 626 = .ok (.aload_n 1, 1) := by decide +kernel
theorem d_law_627 : decode code 627 = .ok (.aload_n 0, 1) := by decide +kernel
theorem d_law_628 : decode code 628 = .ok (.iload_n 3, 1) := by decide +kernel
theorem d_law_629 : decode code 629 = .ok (.iconst 1, 1) := by decide +kernel
theorem d_law_630 : decode code 630 = .ok (.iadd, 1) := by decide +kernel
theorem d_law_631 : decode code 631 = .ok (.iaload, 1) := by decide +kernel
theorem d_law_632 : decode code 632 = .ok (.aload_n 0, 1) := by decide +kernel
theorem d_law_633 : decode code 633 = .ok (.iload_n 3, 1) := by decide +kernel
theorem d_law_634 : decode code 634 = .ok (.iconst 2, 1) := by decide +kernel
theorem d_law_635 : decode code 635 = .ok (.iadd, 1) := by decide +kernel
theorem d_law_636 : decode code 636 = .ok (.iaload, 1) := by decide +kernel
theorem d_law_637 : decode code 637 = .ok (.aload_n 0, 1) := by decide +kernel
theorem d_law_638 : decode code 638 = .ok (.iload_n 3, 1) := by decide +kernel
theorem d_law_639 : decode code 639 = .ok (.iconst 3, 1) := by decide +kernel
theorem d_law_640 : decode code 640 = .ok (.iadd, 1) := by decide +kernel
theorem d_law_641 : decode code 641 = .ok (.iaload, 1) := by decide +kernel
theorem d_law_642 : decode code 642 = .ok (.aload_n 0, 1) := by decide +kernel
theorem d_law_643 : decode code 643 = .ok (.iload_n 3, 1) := by decide +kernel
theorem d_law_644 : decode code 644 = .ok (.iconst 4, 1) := by decide +kernel
theorem d_law_645 : decode code 645 = .ok (.iadd, 1) := by decide +kernel
theorem d_law_646 : decode code 646 = .ok (.iaload, 1) := by decide +kernel
theorem d_law_647 : decode code 647 = .ok (.aload_n 0, 1) := by decide +kernel
theorem d_law_648 : decode code 648 = .ok (.iload_n 3, 1) := by decide +kernel
theorem d_law_649 : decode code 649 = .ok (.iconst 5, 1) := by decide +kernel
theorem d_law_650 : decode code 650 = .ok (.iadd, 1) := by decide +kernel
theorem d_law_651 : decode code 651 = .ok (.iaload, 1) := by decide +kernel
theorem d_law_652 : decode code 652 = .ok (.invokevirtual 66, 3) := by decide +kernel
theorem d_law_655 : decode code 655 = .ok (.aload_n 2, 1) := by decide +kernel
theorem d_law_656 : decode code 656 = .ok (.aload_n 0, 1) := by decide +kernel
theorem d_law_657 : decode code 657 = .ok (.iload_n 3, 1) := by decide +kernel
theorem d_law_658 : decode code 658 = .ok (.iconst 1, 1) := by decide +kernel
theorem d_law_659 : decode code 659 = .ok (.iadd, 1) := by decide +kernel
theorem d_law_660 : decode code 660 = .ok (.iaload, 1) := by decide +kernel
theorem d_law_661 : decode code 661 = .ok (.aload_n 0, 1) := by decide +kernel
theorem d_law_662 : decode code 662 = .ok (.iload_n 3, 1) := by decide +kernel
theorem d_law_663 : decode code 663 = .ok (.iconst 2, 1) := by decide +kernel
theorem d_law_664 : decode code 664 = .ok (.iadd, 1) := by decide +kernel
theorem d_law_665 : decode code 665 = .ok (.iaload, 1) := by decide +kernel
theorem d_law_666 : decode code 666 = .ok (.aload_n 0, 1) := by decide +kernel
theorem d_law_667 : decode code 667 = .ok (.iload_n 3, 1) := by decide +kernel
theorem d_law_668 : decode code 668 = .ok (.iconst 3, 1) := by decide +kernel
theorem d_law_669 : decode code 669 = .ok (.iadd, 1) := by decide +kernel
theorem d_law_670 : decode code 670 = .ok (.iaload, 1) := by decide +kernel
theorem d_law_671 : decode code 671 = .ok (.aload_n 0, 1) := by decide +kernel
theorem d_law_672 : decode code 672 = .ok (.iload_n 3, 1) := by decide +kernel
theorem d_law_673 : decode code 673 = .ok (.iconst 4, 1) := by decide +kernel
theorem d_law_674 : decode code 674 = .ok (.iadd, 1) := by decide +kernel
theorem d_law_675 : decode code 675 = .ok (.iaload, 1) := by decide +kernel
theorem d_law_676 : decode code 676 = .ok (.aload_n 0, 1) := by decide +kernel
theorem d_law_677 : decode code 677 = .ok (.iload_n 3, 1) := by decide +kernel
theorem d_law_678 : decode code 678 = .ok (.iconst 5, 1) := by decide +kernel
theorem d_law_679 : decode code 679 = .ok (.iadd, 1) := by decide +kernel
theorem d_law_680 : decode code 680 = .ok (.iaload, 1) := by decide +kernel
theorem d_law_681 : decode code 681 = .ok (.invokevirtual 70, 3) := by decide +kernel
theorem d_law_684 : decode code 684 = .ok (.if_icmp .eq 1084, 3) := by decide +kernel
theorem d_law_687 : decode code 687 = .ok (.iconst 0, 1) := by decide +kernel
theorem d_law_688 : decode code 688 = .ok (.ireturn, 1) := by decide +kernel
theorem d_law_689 : decode code 689 = .ok (.aload_n 1, 1) := by decide +kernel
theorem d_law_690 : decode code 690 = .ok (.aload_n 0, 1) := by decide +kernel
theorem d_law_691 : decode code 691 = .ok (.iload_n 3, 1) := by decide +kernel
theorem d_law_692 : decode code 692 = .ok (.iconst 1, 1) := by decide +kernel
theorem d_law_693 : decode code 693 = .ok (.iadd, 1) := by decide +kernel
theorem d_law_694 : decode code 694 = .ok (.iaload, 1) := by decide +kernel
theorem d_law_695 : decode code 695 = .ok (.aload_n 0, 1) := by decide +kernel
theorem d_law_696 : decode code 696 = .ok (.iload_n 3, 1) := by decide +kernel
theorem d_law_697 : decode code 697 = .ok (.iconst 2, 1) := by decide +kernel
theorem d_law_698 : decode code 698 = .ok (.iadd, 1) := by decide +kernel
theorem d_law_699 : decode code 699 = .ok (.iaload, 1) := by decide +kernel
theorem d_law_700 : decode code 700 = .ok (.invokevirtual 71, 3) := by decide +kernel
theorem d_law_703 : decode code 703 = .ok (.aload_n 2, 1) := by decide +kernel
theorem d_law_704 : decode code 704 = .ok (.aload_n 0, 1) := by decide +kernel
theorem d_law_705 : decode code 705 = .ok (.iload_n 3, 1) := by decide +kernel
theorem d_law_706 : decode code 706 = .ok (.iconst 1, 1) := by decide +kernel
theorem d_law_707 : decode code 707 = .ok (.iadd, 1) := by decide +kernel
theorem d_law_708 : decode code 708 = .ok (.iaload, 1) := by decide +kernel
theorem d_law_709 : decode code 709 = .ok (.aload_n 0, 1) := by decide +kernel
theorem d_law_710 : decode code 710 = .ok (.iload_n 3, 1) := by decide +kernel
theorem d_law_711 : decode code 711 = .ok (.iconst 2, 1) := by decide +kernel
theorem d_law_712 : decode code 712 = .ok (.iadd, 1) := by decide +kernel
theorem d_law_713 : decode code 713 = .ok (.iaload, 1) := by decide +kernel
theorem d_law_714 : decode code 714 = .ok (.invokevirtual 74, 3) := by decide +kernel
theorem d_law_717 : decode code 717 = .ok (.if_icmp .eq 1051, 3) := by decide +kernel
theorem d_law_720 : decode code 720 = .ok (.iconst 0, 1) := by decide +kernel
theorem d_law_721 : decode code 721 = .ok (.ireturn, 1) := by decide +kernel
theorem d_law_722 : decode code 722 = .ok (.aload_n 1, 1) := by decide +kernel
theorem d_law_723 : decode code 723 = .ok (.aload_n 0, 1) := by decide +kernel
theorem d_law_724 : decode code 724 = .ok (.iload_n 3, 1) := by decide +kernel
theorem d_law_725 : decode code 725 = .ok (.iconst 1, 1) := by decide +kernel
theorem d_law_726 : decode code 726 = .ok (.iadd, 1) := by decide +kernel
theorem d_law_727 : decode code 727 = .ok (.iaload, 1) := by decide +kernel
theorem d_law_728 : decode code 728 = .ok (.aload_n 0, 1) := by decide +kernel
theorem d_law_729 : decode code 729 = .ok (.iload_n 3, 1) := by decide +kernel
theorem d_law_730 : decode code 730 = .ok (.iconst 2, 1) := by decide +kernel
theorem d_law_731 : decode code 731 = .ok (.iadd, 1) := by decide +kernel
theorem d_law_732 : decode code 732 = .ok (.iaload, 1) := by decide +kernel
theorem d_law_733 : decode code 733 = .ok (.aload_n 0, 1) := by decide +kernel
theorem d_law_734 : decode code 734 = .ok (.iload_n 3, 1) := by decide +kernel
theorem d_law_735 : decode code 735 = .ok (.iconst 3, 1) := by decide +kernel
theorem d_law_736 : decode code 736 = .ok (.iadd, 1) := by decide +kernel
theorem d_law_737 : decode code 737 = .ok (.iaload, 1) := by decide +kernel
theorem d_law_738 : decode code 738 = .ok (.invokevirtual 75, 3) := by decide +kernel
theorem d_law_741 : decode code 741 = .ok (.aload_n 2, 1) := by decide +kernel
theorem d_law_742 : decode code 742 = .ok (.aload_n 0, 1) := by decide +kernel
theorem d_law_743 : decode code 743 = .ok (.iload_n 3, 1) := by decide +kernel
theorem d_law_744 : decode code 744 = .ok (.iconst 1, 1) := by decide +kernel
theorem d_law_745 : decode code 745 = .ok (.iadd, 1) := by decide +kernel
theorem d_law_746 : decode code 746 = .ok (.iaload, 1) := by decide +kernel
theorem d_law_747 : decode code 747 = .ok (.aload_n 0, 1) := by decide +kernel
theorem d_law_748 : decode code 748 = .ok (.iload_n 3, 1) := by decide +kernel
theorem d_law_749 : decode code 749 = .ok (.iconst 2, 1) := by decide +kernel
theorem d_law_750 : decode code 750 = .ok (.iadd, 1) := by decide +kernel
theorem d_law_751 : decode code 751 = .ok (.iaload, 1) := by decide +kernel
theorem d_law_752 : decode code 752 = .ok (.aload_n 0, 1) := by decide +kernel
theorem d_law_753 : decode code 753 = .ok (.iload_n 3, 1) := by decide +kernel
theorem d_law_754 : decode code 754 = .ok (.iconst 3, 1) := by decide +kernel
theorem d_law_755 : decode code 755 = .ok (.iadd, 1) := by decide +kernel
theorem d_law_756 : decode code 756 = .ok (.iaload, 1) := by decide +kernel
theorem d_law_757 : decode code 757 = .ok (.invokevirtual 78, 3) := by decide +kernel
theorem d_law_760 : decode code 760 = .ok (.if_icmp .eq 1008, 3) := by decide +kernel
theorem d_law_763 : decode code 763 = .ok (.iconst 0, 1) := by decide +kernel
theorem d_law_764 : decode code 764 = .ok (.ireturn, 1) := by decide +kernel
theorem d_law_765 : decode code 765 = .ok (.aload_n 1, 1) := by decide +kernel
theorem d_law_766 : decode code 766 = .ok (.aload_n 0, 1) := by decide +kernel
theorem d_law_767 : decode code 767 = .ok (.iload_n 3, 1) := by decide +kernel
theorem d_law_768 : decode code 768 = .ok (.iconst 1, 1) := by decide +kernel
theorem d_law_769 : decode code 769 = .ok (.iadd, 1) := by decide +kernel
theorem d_law_770 : decode code 770 = .ok (.iaload, 1) := by decide +kernel
theorem d_law_771 : decode code 771 = .ok (.aload_n 0, 1) := by decide +kernel
theorem d_law_772 : decode code 772 = .ok (.iload_n 3, 1) := by decide +kernel
theorem d_law_773 : decode code 773 = .ok (.iconst 2, 1) := by decide +kernel
theorem d_law_774 : decode code 774 = .ok (.iadd, 1) := by decide +kernel
theorem d_law_775 : decode code 775 = .ok (.iaload, 1) := by decide +kernel
theorem d_law_776 : decode code 776 = .ok (.invokevirtual 79, 3) := by decide +kernel
theorem d_law_779 : decode code 779 = .ok (.aload_n 2, 1) := by decide +kernel
theorem d_law_780 : decode code 780 = .ok (.aload_n 0, 1) := by decide +kernel
theorem d_law_781 : decode code 781 = .ok (.iload_n 3, 1) := by decide +kernel
theorem d_law_782 : decode code 782 = .ok (.iconst 1, 1) := by decide +kernel
theorem d_law_783 : decode code 783 = .ok (.iadd, 1) := by decide +kernel
theorem d_law_784 : decode code 784 = .ok (.iaload, 1) := by decide +kernel
theorem d_law_785 : decode code 785 = .ok (.aload_n 0, 1) := by decide +kernel
theorem d_law_786 : decode code 786 = .ok (.iload_n 3, 1) := by decide +kernel
theorem d_law_787 : decode code 787 = .ok (.iconst 2, 1) := by decide +kernel
theorem d_law_788 : decode code 788 = .ok (.iadd, 1) := by decide +kernel
theorem d_law_789 : decode code 789 = .ok (.iaload, 1) := by decide +kernel
theorem d_law_790 : decode code 790 = .ok (.invokevirtual 82, 3) := by decide +kernel
theorem d_law_793 : decode code 793 = .ok (.if_icmp .eq 975, 3) := by decide +kernel
theorem d_law_796 : decode code 796 = .ok (.iconst 0, 1) := by decide +kernel
theorem d_law_797 : decode code 797 = .ok (.ireturn, 1) := by decide +kernel
theorem d_law_798 : decode code 798 = .ok (.aload_n 1, 1) := by decide +kernel
theorem d_law_799 : decode code 799 = .ok (.aload_n 0, 1) := by decide +kernel
theorem d_law_800 : decode code 800 = .ok (.iload_n 3, 1) := by decide +kernel
theorem d_law_801 : decode code 801 = .ok (.iconst 1, 1) := by decide +kernel
theorem d_law_802 : decode code 802 = .ok (.iadd, 1) := by decide +kernel
theorem d_law_803 : decode code 803 = .ok (.iaload, 1) := by decide +kernel
theorem d_law_804 : decode code 804 = .ok (.aload_n 0, 1) := by decide +kernel
theorem d_law_805 : decode code 805 = .ok (.iload_n 3, 1) := by decide +kernel
theorem d_law_806 : decode code 806 = .ok (.iconst 2, 1) := by decide +kernel
theorem d_law_807 : decode code 807 = .ok (.iadd, 1) := by decide +kernel
theorem d_law_808 : decode code 808 = .ok (.iaload, 1) := by decide +kernel
theorem d_law_809 : decode code 809 = .ok (.aload_n 0, 1) := by decide +kernel
theorem d_law_810 : decode code 810 = .ok (.iload_n 3, 1) := by decide +kernel
theorem d_law_811 : decode code 811 = .ok (.iconst 3, 1) := by decide +kernel
theorem d_law_812 : decode code 812 = .ok (.iadd, 1) := by decide +kernel
theorem d_law_813 : decode code 813 = .ok (.iaload, 1) := by decide +kernel
theorem d_law_814 : decode code 814 = .ok (.aload_n 0, 1) := by decide +kernel
theorem d_law_815 : decode code 815 = .ok (.iload_n 3, 1) := by decide +kernel
theorem d_law_816 : decode code 816 = .ok (.iconst 4, 1) := by decide +kernel
theorem d_law_817 : decode code 817 = .ok (.iadd, 1) := by decide +kernel
theorem d_law_818 : decode code 818 = .ok (.iaload, 1) := by decide +kernel
theorem d_law_819 : decode code 819 = .ok (.aload_n 0, 1) := by decide +kernel
theorem d_law_820 : decode code 820 = .ok (.iload_n 3, 1) := by decide +kernel
theorem d_law_821 : decode code 821 = .ok (.iconst 5, 1) := by decide +kernel
theorem d_law_822 : decode code 822 = .ok (.iadd, 1) := by decide +kernel
theorem d_law_823 : decode code 823 = .ok (.iaload, 1) := by decide +kernel
theorem d_law_824 : decode code 824 = .ok (.invokevirtual 83, 3) := by decide +kernel
theorem d_law_827 : decode code 827 = .ok (.aload_n 2, 1) := by decide +kernel
theorem d_law_828 : decode code 828 = .ok (.aload_n 0, 1) := by decide +kernel
theorem d_law_829 : decode code 829 = .ok (.iload_n 3, 1) := by decide +kernel
theorem d_law_830 : decode code 830 = .ok (.iconst 1, 1) := by decide +kernel
theorem d_law_831 : decode code 831 = .ok (.iadd, 1) := by decide +kernel
theorem d_law_832 : decode code 832 = .ok (.iaload, 1) := by decide +kernel
theorem d_law_833 : decode code 833 = .ok (.aload_n 0, 1) := by decide +kernel
theorem d_law_834 : decode code 834 = .ok (.iload_n 3, 1) := by decide +kernel
theorem d_law_835 : decode code 835 = .ok (.iconst 2, 1) := by decide +kernel
theorem d_law_836 : decode code 836 = .ok (.iadd, 1) := by decide +kernel
theorem d_law_837 : decode code 837 = .ok (.iaload, 1) := by decide +kernel
theorem d_law_838 : decode code 838 = .ok (.aload_n 0, 1) := by decide +kernel
theorem d_law_839 : decode code 839 = .ok (.iload_n 3, 1) := by decide +kernel
theorem d_law_840 : decode code 840 = .ok (.iconst 3, 1) := by decide +kernel
theorem d_law_841 : decode code 841 = .ok (.iadd, 1) := by decide +kernel
theorem d_law_842 : decode code 842 = .ok (.iaload, 1) := by decide +kernel
theorem d_law_843 : decode code 843 = .ok (.aload_n 0, 1) := by decide +kernel
theorem d_law_844 : decode code 844 = .ok (.iload_n 3, 1) := by decide +kernel
theorem d_law_845 : decode code 845 = .ok (.iconst 4, 1) := by decide +kernel
theorem d_law_846 : decode code 846 = .ok (.iadd, 1) := by decide +kernel
theorem d_law_847 : decode code 847 = .ok (.iaload, 1) := by decide +kernel
theorem d_law_848 : decode code 848 = .ok (.aload_n 0, 1) := by decide +kernel
theorem d_law_849 : decode code 849 = .ok (.iload_n 3, 1) := by decide +kernel
theorem d_law_850 : decode code 850 = .ok (.iconst 5, 1) := by decide +kernel
theorem d_law_851 : decode code 851 = .ok (.iadd, 1) := by decide +kernel
theorem d_law_852 : decode code 852 = .ok (.iaload, 1) := by decide +kernel
theorem d_law_853 : decode code 853 = .ok (.invokevirtual 86, 3) := by decide +kernel
theorem d_law_856 : decode code 856 = .ok (.if_icmp .eq 912, 3) := by decide +kernel
theorem d_law_859 : decode code 859 = .ok (.iconst 0, 1) := by decide +kernel
theorem d_law_860 : decode code 860 = .ok (.ireturn, 1) := by decide +kernel
theorem d_law_861 : decode code 861 = .ok (.aload_n 1, 1) := by decide +kernel
theorem d_law_862 : decode code 862 = .ok (.aload_n 0, 1) := by decide +kernel
theorem d_law_863 : decode code 863 = .ok (.iload_n 3, 1) := by decide +kernel
theorem d_law_864 : decode code 864 = .ok (.iconst 1, 1) := by decide +kernel
theorem d_law_865 : decode code 865 = .ok (.iadd, 1) := by decide +kernel
theorem d_law_866 : decode code 866 = .ok (.iaload, 1) := by decide +kernel
theorem d_law_867 : decode code 867 = .ok (.aload_n 0, 1) := by decide +kernel
theorem d_law_868 : decode code 868 = .ok (.iload_n 3, 1) := by decide +kernel
theorem d_law_869 : decode code 869 = .ok (.iconst 2, 1) := by decide +kernel
theorem d_law_870 : decode code 870 = .ok (.iadd, 1) := by decide +kernel
theorem d_law_871 : decode code 871 = .ok (.iaload, 1) := by decide +kernel
theorem d_law_872 : decode code 872 = .ok (.aload_n 0, 1) := by decide +kernel
theorem d_law_873 : decode code 873 = .ok (.iload_n 3, 1) := by decide +kernel
theorem d_law_874 : decode code 874 = .ok (.iconst 3, 1) := by decide +kernel
theorem d_law_875 : decode code 875 = .ok (.iadd, 1) := by decide +kernel
theorem d_law_876 : decode code 876 = .ok (.iaload, 1) := by decide +kernel
theorem d_law_877 : decode code 877 = .ok (.aload_n 0, 1) := by decide +kernel
theorem d_law_878 : decode code 878 = .ok (.iload_n 3, 1) := by decide +kernel
theorem d_law_879 : decode code 879 = .ok (.iconst 4, 1) := by decide +kernel
theorem d_law_880 : decode code 880 = .ok (.iadd, 1) := by decide +kernel
theorem d_law_881 : decode code 881 = .ok (.iaload, 1) := by decide +kernel
theorem d_law_882 : decode code 882 = .ok (.invokevirtual 87, 3) := by decide +kernel
theorem d_law_885 : decode code 885 = .ok (.aload_n 2, 1) := by decide +kernel
theorem d_law_886 : decode code 886 = .ok (.aload_n 0, 1) := by decide +kernel
theorem d_law_887 : decode code 887 = .ok (.iload_n 3, 1) := by decide +kernel
theorem d_law_888 : decode code 888 = .ok (.iconst 1, 1) := by decide +kernel
theorem d_law_889 : decode code 889 = .ok (.iadd, 1) := by decide +kernel
theorem d_law_890 : decode code 890 = .ok (.iaload, 1) := by decide +kernel
theorem d_law_891 : decode code 891 = .ok (.aload_n 0, 1) := by decide +kernel
theorem d_law_892 : decode code 892 = .ok (.iload_n 3, 1) := by decide +kernel
theorem d_law_893 : decode code 893 = .ok (.iconst 2, 1) := by decide +kernel
theorem d_law_894 : decode code 894 = .ok (.iadd, 1) := by decide +kernel
theorem d_law_895 : decode code 895 = .ok (.iaload, 1) := by decide +kernel
theorem d_law_896 : decode code 896 = .ok (.aload_n 0, 1) := by decide +kernel
theorem d_law_897 : decode code 897 = .ok (.iload_n 3, 1) := by decide +kernel
theorem d_law_898 : decode code 898 = .ok (.iconst 3, 1) := by decide +kernel
theorem d_law_899 : decode code 899 = .ok (.iadd, 1) := by decide +kernel
theorem d_law_900 : decode code 900 = .ok (.iaload, 1) := by decide +kernel
theorem d_law_901 : decode code 901 = .ok (.aload_n 0, 1) := by decide +kernel
theorem d_law_902 : decode code 902 = .ok (.iload_n 3, 1) := by decide +kernel
theorem d_law_903 : decode code 903 = .ok (.iconst 4, 1) := by decide +kernel
theorem d_law_904 : decode code 904 = .ok (.iadd, 1) := by decide +kernel
theorem d_law_905 : decode code 905 = .ok (.iaload, 1) := by decide +kernel
theorem d_law_906 : decode code 906 = .ok (.invokevirtual 91, 3) := by decide +kernel
theorem d_law_909 : decode code 909 = .ok (.if_icmp .eq 859, 3) := by decide +kernel
theorem d_law_912 : decode code 912 = .ok (.iconst 0, 1) := by decide +kernel
theorem d_law_913 : decode code 913 = .ok (.ireturn, 1) := by decide +kernel
theorem d_law_914 : decode code 914 = .ok (.aload_n 1, 1) := by decide +kernel
theorem d_law_915 : decode code 915 = .ok (.aload_n 0, 1) := by decide +kernel
theorem d_law_916 : decode code 916 = .ok (.iload_n 3, 1) := by decide +kernel
theorem d_law_917 : decode code 917 = .ok (.iconst 1, 1) := by decide +kernel
theorem d_law_918 : decode code 918 = .ok (.iadd, 1) := by decide +kernel
theorem d_law_919 : decode code 919 = .ok (.iaload, 1) := by decide +kernel
theorem d_law_920 : decode code 920 = .ok (.aload_n 0, 1) := by decide +kernel
theorem d_law_921 : decode code 921 = .ok (.iload_n 3, 1) := by decide +kernel
theorem d_law_922 : decode code 922 = .ok (.iconst 2, 1) := by decide +kernel
theorem d_law_923 : decode code 923 = .ok (.iadd, 1) := by decide +kernel
theorem d_law_924 : decode code 924 = .ok (.iaload, 1) := by decide +kernel
theorem d_law_925 : decode code 925 = .ok (.aload_n 0, 1) := by decide +kernel
theorem d_law_926 : decode code 926 = .ok (.iload_n 3, 1) := by decide +kernel
theorem d_law_927 : decode code 927 = .ok (.iconst 3, 1) := by decide +kernel
theorem d_law_928 : decode code 928 = .ok (.iadd, 1) := by decide +kernel
theorem d_law_929 : decode code 929 = .ok (.iaload, 1) := by decide +kernel
theorem d_law_930 : decode code 930 = .ok (.aload_n 0, 1) := by decide +kernel
theorem d_law_931 : decode code 931 = .ok (.iload_n 3, 1) := by decide +kernel
theorem d_law_932 : decode code 932 = .ok (.iconst 4, 1) := by decide +kernel
theorem d_law_933 : decode code 933 = .ok (.iadd, 1) := by decide +kernel
theorem d_law_934 : decode code 934 = .ok (.iaload, 1) := by decide +kernel
theorem d_law_935 : decode code 935 = .ok (.aload_n 0, 1) := by decide +kernel
theorem d_law_936 : decode code 936 = .ok (.iload_n 3, 1) := by decide +kernel
theorem d_law_937 : decode code 937 = .ok (.iconst 5, 1) := by decide +kernel
theorem d_law_938 : decode code 938 = .ok (.iadd, 1) := by decide +kernel
theorem d_law_939 : decode code 939 = .ok (.iaload, 1) := by decide +kernel
theorem d_law_940 : decode code 940 = .ok (.invokevirtual 92, 3) := by decide +kernel
theorem d_law_943 : decode code 943 = .ok (.aload_n 2, 1) := by decide +kernel
theorem d_law_944 : decode code 944 = .ok (.aload_n 0, 1) := by decide +kernel
theorem d_law_945 : decode code 945 = .ok (.iload_n 3, 1) := by decide +kernel
theorem d_law_946 : decode code 946 = .ok (.iconst 1, 1) := by decide +kernel
theorem d_law_947 : decode code 947 = .ok (.iadd, 1) := by decide +kernel
theorem d_law_948 : decode code 948 = .ok (.iaload, 1) := by decide +kernel
theorem d_law_949 : decode code 949 = .ok (.aload_n 0, 1) := by decide +kernel
theorem d_law_950 : decode code 950 = .ok (.iload_n 3, 1) := by decide +kernel
theorem d_law_951 : decode code 951 = .ok (.iconst 2, 1) := by decide +kernel
theorem d_law_952 : decode code 952 = .ok (.iadd, 1) := by decide +kernel
theorem d_law_953 : decode code 953 = .ok (.iaload, 1) := by decide +kernel
theorem d_law_954 : decode code 954 = .ok (.aload_n 0, 1) := by decide +kernel
theorem d_law_955 : decode code 955 = .ok (.iload_n 3, 1) := by decide +kernel
theorem d_law_956 : decode code 956 = .ok (.iconst 3, 1) := by decide +kernel
theorem d_law_957 : decode code 957 = .ok (.iadd, 1) := by decide +kernel
theorem d_law_958 : decode code 958 = .ok (.iaload, 1) := by decide +kernel
theorem d_law_959 : decode code 959 = .ok (.aload_n 0, 1) := by decide +kernel
theorem d_law_960 : decode code 960 = .ok (.iload_n 3, 1) := by decide +kernel
theorem d_law_961 : decode code 961 = .ok (.iconst 4, 1) := by decide +kernel
theorem d_law_962 : decode code 962 = .ok (.iadd, 1) := by decide +kernel
theorem d_law_963 : decode code 963 = .ok (.iaload, 1) := by decide +kernel
theorem d_law_964 : decode code 964 = .ok (.aload_n 0, 1) := by decide +kernel
theorem d_law_965 : decode code 965 = .ok (.iload_n 3, 1) := by decide +kernel
theorem d_law_966 : decode code 966 = .ok (.iconst 5, 1) := by decide +kernel
theorem d_law_967 : decode code 967 = .ok (.iadd, 1) := by decide +kernel
theorem d_law_968 : decode code 968 = .ok (.iaload, 1) := by decide +kernel
theorem d_law_969 : decode code 969 = .ok (.invokevirtual 95, 3) := by decide +kernel
theorem d_law_972 : decode code 972 = .ok (.if_icmp .eq 796, 3) := by decide +kernel
theorem d_law_975 : decode code 975 = .ok (.iconst 0, 1) := by decide +kernel
theorem d_law_976 : decode code 976 = .ok (.ireturn, 1) := by decide +kernel
theorem d_law_977 : decode code 977 = .ok (.aload_n 1, 1) := by decide +kernel
theorem d_law_978 : decode code 978 = .ok (.aload_n 0, 1) := by decide +kernel
theorem d_law_979 : decode code 979 = .ok (.iload_n 3, 1) := by decide +kernel
theorem d_law_980 : decode code 980 = .ok (.iconst 1, 1) := by decide +kernel
theorem d_law_981 : decode code 981 = .ok (.iadd, 1) := by decide +kernel
theorem d_law_982 : decode code 982 = .ok (.iaload, 1) := by decide +kernel
theorem d_law_983 : decode code 983 = .ok (.aload_n 0, 1) := by decide +kernel
theorem d_law_984 : decode code 984 = .ok (.iload_n 3, 1) := by decide +kernel
theorem d_law_985 : decode code 985 = .ok (.iconst 2, 1) := by decide +kernel
theorem d_law_986 : decode code 986 = .ok (.iadd, 1) := by decide +kernel
theorem d_law_987 : decode code 987 = .ok (.iaload, 1) := by decide +kernel
theorem d_law_988 : decode code 988 = .ok (.aload_n 0, 1) := by decide +kernel
theorem d_law_989 : decode code 989 = .ok (.iload_n 3, 1) := by decide +kernel
theorem d_law_990 : decode code 990 = .ok (.iconst 3, 1) := by decide +kernel
theorem d_law_991 : decode code 991 = .ok (.iadd, 1) := by decide +kernel
theorem d_law_992 : decode code 992 = .ok (.iaload, 1) := by decide +kernel
theorem d_law_993 : decode code 993 = .ok (.aload_n 0, 1) := by decide +kernel
theorem d_law_994 : decode code 994 = .ok (.iload_n 3, 1) := by decide +kernel
theorem d_law_995 : decode code 995 = .ok (.iconst 4, 1) := by decide +kernel
theorem d_law_996 : decode code 996 = .ok (.iadd, 1) := by decide +kernel
theorem d_law_997 : decode code 997 = .ok (.iaload, 1) := by decide +kernel
theorem d_law_998 : decode code 998 = .ok (.aload_n 0, 1) := by decide +kernel
theorem d_law_999 : decode code 999 = .ok (.iload_n 3, 1) := by decide +kernel
theorem d_law_1000 : decode code 1000 = .ok (.iconst 5, 1) := by decide +kernel
theorem d_law_1001 : decode code 1001 = .ok (.iadd, 1) := by decide +kernel
theorem d_law_1002 : decode code 1002 = .ok (.iaload, 1) := by decide +kernel
theorem d_law_1003 : decode code 1003 = .ok (.invokevirtual 96, 3) := by decide +kernel
theorem d_law_1006 : decode code 1006 = .ok (.aload_n 2, 1) := by decide +kernel
theorem d_law_1007 : decode code 1007 = .ok (.aload_n 0, 1) := by decide +kernel
theorem d_law_1008 : decode code 1008 = .ok (.iload_n 3, 1) := by decide +kernel
theorem d_law_1009 : decode code 1009 = .ok (.iconst 1, 1) := by decide +kernel
theorem d_law_1010 : decode code 1010 = .ok (.iadd, 1) := by decide +kernel
theorem d_law_1011 : decode code 1011 = .ok (.iaload, 1) := by decide +kernel
theorem d_law_1012 : decode code 1012 = .ok (.aload_n 0, 1) := by decide +kernel
theorem d_law_1013 : decode code 1013 = .ok (.iload_n 3, 1) := by decide +kernel
theorem d_law_1014 : decode code 1014 = .ok (.iconst 2, 1) := by decide +kernel
theorem d_law_1015 : decode code 1015 = .ok (.iadd, 1) := by decide +kernel
theorem d_law_1016 : decode code 1016 = .ok (.iaload, 1) := by decide +kernel
theorem d_law_1017 : decode code 1017 = .ok (.aload_n 0, 1) := by decide +kernel
theorem d_law_1018 : decode code 1018 = .ok (.iload_n 3, 1) := by decide +kernel
theorem d_law_1019 : decode code 1019 = .ok (.iconst 3, 1) := by decide +kernel
theorem d_law_1020 : decode code 1020 = .ok (.iadd, 1) := by decide +kernel
theorem d_law_1021 : decode code 1021 = .ok (.iaload, 1) := by decide +kernel
theorem d_law_1022 : decode code 1022 = .ok (.aload_n 0, 1) := by decide +kernel
theorem d_law_1023 : decode code 1023 = .ok (.iload_n 3, 1) := by decide +kernel
theorem d_law_1024 : decode code 1024 = .ok (.iconst 4, 1) := by decide +kernel
theorem d_law_1025 : decode code 1025 = .ok (.iadd, 1) := by decide +kernel
theorem d_law_1026 : decode code 1026 = .ok (.iaload, 1) := by decide +kernel
theorem d_law_1027 : decode code 1027 = .ok (.aload_n 0, 1) := by decide +kernel
theorem d_law_1028 : decode code 1028 = .ok (.iload_n 3, 1) := by decide +kernel
theorem d_law_1029 : decode code 1029 = .ok (.iconst 5, 1) := by decide +kernel
theorem d_law_1030 : decode code 1030 = .ok (.iadd, 1) := by decide +kernel
theorem d_law_1031 : decode code 1031 = .ok (.iaload, 1) := by decide +kernel
theorem d_law_1032 : decode code 1032 = .ok (.invokevirtual 99, 3) := by decide +kernel
theorem d_law_1035 : decode code 1035 = .ok (.if_icmp .eq 733, 3) := by decide +kernel
theorem d_law_1038 : decode code 1038 = .ok (.iconst 0, 1) := by decide +kernel
theorem d_law_1039 : decode code 1039 = .ok (.ireturn, 1) := by decide +kernel
theorem d_law_1040 : decode code 1040 = .ok (.aload_n 1, 1) := by decide +kernel
theorem d_law_1041 : decode code 1041 = .ok (.aload_n 0, 1) := by decide +kernel
theorem d_law_1042 : decode code 1042 = .ok (.iload_n 3, 1) := by decide +kernel
theorem d_law_1043 : decode code 1043 = .ok (.iconst 1, 1) := by decide +kernel
theorem d_law_1044 : decode code 1044 = .ok (.iadd, 1) := by decide +kernel
theorem d_law_1045 : decode code 1045 = .ok (.iaload, 1) := by decide +kernel
theorem d_law_1046 : decode code 1046 = .ok (.aload_n 0, 1) := by decide +kernel
theorem d_law_1047 : decode code 1047 = .ok (.iload_n 3, 1) := by decide +kernel
theorem d_law_1048 : decode code 1048 = .ok (.iconst 2, 1) := by decide +kernel
theorem d_law_1049 : decode code 1049 = .ok (.iadd, 1) := by decide +kernel
theorem d_law_1050 : decode code 1050 = .ok (.iaload, 1) := by decide +kernel
theorem d_law_1051 : decode code 1051 = .ok (.aload_n 0, 1) := by decide +kernel
theorem d_law_1052 : decode code 1052 = .ok (.iload_n 3, 1) := by decide +kernel
theorem d_law_1053 : decode code 1053 = .ok (.iconst 3, 1) := by decide +kernel
theorem d_law_1054 : decode code 1054 = .ok (.iadd, 1) := by decide +kernel
theorem d_law_1055 : decode code 1055 = .ok (.iaload, 1) := by decide +kernel
theorem d_law_1056 : decode code 1056 = .ok (.aload_n 0, 1) := by decide +kernel
theorem d_law_1057 : decode code 1057 = .ok (.iload_n 3, 1) := by decide +kernel
theorem d_law_1058 : decode code 1058 = .ok (.iconst 4, 1) := by decide +kernel
theorem d_law_1059 : decode code 1059 = .ok (.iadd, 1) := by decide +kernel
theorem d_law_1060 : decode code 1060 = .ok (.iaload, 1) := by decide +kernel
theorem d_law_1061 : decode code 1061 = .ok (.invokevirtual 100, 3) := by decide +kernel
theorem d_law_1064 : decode code 1064 = .ok (.aload_n 2, 1) := by decide +kernel
theorem d_law_1065 : decode code 1065 = .ok (.aload_n 0, 1) := by decide +kernel
theorem d_law_1066 : decode code 1066 = .ok (.iload_n 3, 1) := by decide +kernel
theorem d_law_1067 : decode code 1067 = .ok (.iconst 1, 1) := by decide +kernel
theorem d_law_1068 : decode code 1068 = .ok (.iadd, 1) := by decide +kernel
theorem d_law_1069 : decode code 1069 = .ok (.iaload, 1) := by decide +kernel
theorem d_law_1070 : decode code 1070 = .ok (.aload_n 0, 1) := by decide +kernel
theorem d_law_1071 : decode code 1071 = .ok (.iload_n 3, 1) := by decide +kernel
theorem d_law_1072 : decode code 1072 = .ok (.iconst 2, 1) := by decide +kernel
theorem d_law_1073 : decode code 1073 = .ok (.iadd, 1) := by decide +kernel
theorem d_law_1074 : decode code 1074 = .ok (.iaload, 1) := by decide +kernel
theorem d_law_1075 : decode code 1075 = .ok (.aload_n 0, 1) := by decide +kernel
theorem d_law_1076 : decode code 1076 = .ok (.iload_n 3, 1) := by decide +kernel
theorem d_law_1077 : decode code 1077 = .ok (.iconst 3, 1) := by decide +kernel
theorem d_law_1078 : decode code 1078 = .ok (.iadd, 1) := by decide +kernel
theorem d_law_1079 : decode code 1079 = .ok (.iaload, 1) := by decide +kernel
theorem d_law_1080 : decode code 1080 = .ok (.aload_n 0, 1) := by decide +kernel
theorem d_law_1081 : decode code 1081 = .ok (.iload_n 3, 1) := by decide +kernel
theorem d_law_1082 : decode code 1082 = .ok (.iconst 4, 1) := by decide +kernel
theorem d_law_1083 : decode code 1083 = .ok (.iadd, 1) := by decide +kernel
theorem d_law_1084 : decode code 1084 = .ok (.iaload, 1) := by decide +kernel
theorem d_law_1085 : decode code 1085 = .ok (.invokevirtual 103, 3) := by decide +kernel
theorem d_law_1088 : decode code 1088 = .ok (.if_icmp .eq 680, 3) := by decide +kernel
theorem d_law_1091 : decode code 1091 = .ok (.iconst 0, 1) := by decide +kernel
theorem d_law_1092 : decode code 1092 = .ok (.ireturn, 1) := by decide +kernel
theorem d_law_1093 : decode code 1093 = .ok (.aload_n 1, 1) := by decide +kernel
theorem d_law_1094 : decode code 1094 = .ok (.aload_n 0, 1) := by decide +kernel
theorem d_law_1095 : decode code 1095 = .ok (.iload_n 3, 1) := by decide +kernel
theorem d_law_1096 : decode code 1096 = .ok (.iconst 1, 1) := by decide +kernel
theorem d_law_1097 : decode code 1097 = .ok (.iadd, 1) := by decide +kernel
theorem d_law_1098 : decode code 1098 = .ok (.iaload, 1) := by decide +kernel
theorem d_law_1099 : decode code 1099 = .ok (.aload_n 0, 1) := by decide +kernel
theorem d_law_1100 : decode code 1100 = .ok (.iload_n 3, 1) := by decide +kernel
theorem d_law_1101 : decode code 1101 = .ok (.iconst 2, 1) := by decide +kernel
theorem d_law_1102 : decode code 1102 = .ok (.iadd, 1) := by decide +kernel
theorem d_law_1103 : decode code 1103 = .ok (.iaload, 1) := by decide +kernel
theorem d_law_1104 : decode code 1104 = .ok (.aload_n 0, 1) := by decide +kernel
theorem d_law_1105 : decode code 1105 = .ok (.iload_n 3, 1) := by decide +kernel
theorem d_law_1106 : decode code 1106 = .ok (.iconst 3, 1) := by decide +kernel
theorem d_law_1107 : decode code 1107 = .ok (.iadd, 1) := by decide +kernel
theorem d_law_1108 : decode code 1108 = .ok (.iaload, 1) := by decide +kernel
theorem d_law_1109 : decode code 1109 = .ok (.aload_n 0, 1) := by decide +kernel
theorem d_law_1110 : decode code 1110 = .ok (.iload_n 3, 1) := by decide +kernel
theorem d_law_1111 : decode code 1111 = .ok (.iconst 4, 1) := by decide +kernel
theorem d_law_1112 : decode code 1112 = .ok (.iadd, 1) := by decide +kernel
theorem d_law_1113 : decode code 1113 = .ok (.iaload, 1) := by decide +kernel
theorem d_law_1114 : decode code 1114 = .ok (.invokevirtual 104, 3) := by decide +kernel
theorem d_law_1117 : decode code 1117 = .ok (.aload_n 2, 1) := by decide +kernel
theorem d_law_1118 : decode code 1118 = .ok (.aload_n 0, 1) := by decide +kernel
theorem d_law_1119 : decode code 1119 = .ok (.iload_n 3, 1) := by decide +kernel
theorem d_law_1120 : decode code 1120 = .ok (.iconst 1, 1) := by decide +kernel
theorem d_law_1121 : decode code 1121 = .ok (.iadd, 1) := by decide +kernel
theorem d_law_1122 : decode code 1122 = .ok (.iaload, 1) := by decide +kernel
theorem d_law_1123 : decode code 1123 = .ok (.aload_n 0, 1) := by decide +kernel
theorem d_law_1124 : decode code 1124 = .ok (.iload_n 3, 1) := by decide +kernel
theorem d_law_1125 : decode code 1125 = .ok (.iconst 2, 1) := by decide +kernel
theorem d_law_1126 : decode code 1126 = .ok (.iadd, 1) := by decide +kernel
theorem d_law_1127 : decode code 1127 = .ok (.iaload, 1) := by decide +kernel
theorem d_law_1128 : decode code 1128 = .ok (.aload_n 0, 1) := by decide +kernel
theorem d_law_1129 : decode code 1129 = .ok (.iload_n 3, 1) := by decide +kernel
theorem d_law_1130 : decode code 1130 = .ok (.iconst 3, 1) := by decide +kernel
theorem d_law_1131 : decode code 1131 = .ok (.iadd, 1) := by decide +kernel
theorem d_law_1132 : decode code 1132 = .ok (.iaload, 1) := by decide +kernel
theorem d_law_1133 : decode code 1133 = .ok (.aload_n 0, 1) := by decide +kernel
theorem d_law_1134 : decode code 1134 = .ok (.iload_n 3, 1) := by decide +kernel
theorem d_law_1135 : decode code 1135 = .ok (.iconst 4, 1) := by decide +kernel
theorem d_law_1136 : decode code 1136 = .ok (.iadd, 1) := by decide +kernel
theorem d_law_1137 : decode code 1137 = .ok (.iaload, 1) := by decide +kernel
theorem d_law_1138 : decode code 1138 = .ok (.invokevirtual 107, 3) := by decide +kernel
theorem d_law_1141 : decode code 1141 = .ok (.if_icmp .eq 627, 3) := by decide +kernel
theorem d_law_1144 : decode code 1144 = .ok (.iconst 0, 1) := by decide +kernel
theorem d_law_1145 : decode code 1145 = .ok (.ireturn, 1) := by decide +kernel
theorem d_law_1146 : decode code 1146 = .ok (.aload_n 1, 1) := by decide +kernel
theorem d_law_1147 : decode code 1147 = .ok (.aload_n 0, 1) := by decide +kernel
theorem d_law_1148 : decode code 1148 = .ok (.iload_n 3, 1) := by decide +kernel
theorem d_law_1149 : decode code 1149 = .ok (.iconst 1, 1) := by decide +kernel
theorem d_law_1150 : decode code 1150 = .ok (.iadd, 1) := by decide +kernel
theorem d_law_1151 : decode code 1151 = .ok (.iaload, 1) := by decide +kernel
theorem d_law_1152 : decode code 1152 = .ok (.aload_n 0, 1) := by decide +kernel
theorem d_law_1153 : decode code 1153 = .ok (.iload_n 3, 1) := by decide +kernel
theorem d_law_1154 : decode code 1154 = .ok (.iconst 2, 1) := by decide +kernel
theorem d_law_1155 : decode code 1155 = .ok (.iadd, 1) := by decide +kernel
theorem d_law_1156 : decode code 1156 = .ok (.iaload, 1) := by decide +kernel
theorem d_law_1157 : decode code 1157 = .ok (.aload_n 0, 1) := by decide +kernel
theorem d_law_1158 : decode code 1158 = .ok (.iload_n 3, 1) := by decide +kernel
theorem d_law_1159 : decode code 1159 = .ok (.iconst 3, 1) := by decide +kernel
theorem d_law_1160 : decode code 1160 = .ok (.iadd, 1) := by decide +kernel
theorem d_law_1161 : decode code 1161 = .ok (.iaload, 1) := by decide +kernel
theorem d_law_1162 : decode code 1162 = .ok (.aload_n 0, 1) := by decide +kernel
theorem d_law_1163 : decode code 1163 = .ok (.iload_n 3, 1) := by decide +kernel
theorem d_law_1164 : decode code 1164 = .ok (.iconst 4, 1) := by decide +kernel
theorem d_law_1165 : decode code 1165 = .ok (.iadd, 1) := by decide +kernel
theorem d_law_1166 : decode code 1166 = .ok (.iaload, 1) := by decide +kernel
theorem d_law_1167 : decode code 1167 = .ok (.aload_n 0, 1) := by decide +kernel
theorem d_law_1168 : decode code 1168 = .ok (.iload_n 3, 1) := by decide +kernel
theorem d_law_1169 : decode code 1169 = .ok (.iconst 5, 1) := by decide +kernel
theorem d_law_1170 : decode code 1170 = .ok (.iadd, 1) := by decide +kernel
theorem d_law_1171 : decode code 1171 = .ok (.iaload, 1) := by decide +kernel
theorem d_law_1172 : decode code 1172 = .ok (.invokevirtual 108, 3) := by decide +kernel
theorem d_law_1175 : decode code 1175 = .ok (.aload_n 2, 1) := by decide +kernel
theorem d_law_1176 : decode code 1176 = .ok (.aload_n 0, 1) := by decide +kernel
theorem d_law_1177 : decode code 1177 = .ok (.iload_n 3, 1) := by decide +kernel
theorem d_law_1178 : decode code 1178 = .ok (.iconst 1, 1) := by decide +kernel
theorem d_law_1179 : decode code 1179 = .ok (.iadd, 1) := by decide +kernel
theorem d_law_1180 : decode code 1180 = .ok (.iaload, 1) := by decide +kernel
theorem d_law_1181 : decode code 1181 = .ok (.aload_n 0, 1) := by decide +kernel
theorem d_law_1182 : decode code 1182 = .ok (.iload_n 3, 1) := by decide +kernel
theorem d_law_1183 : decode code 1183 = .ok (.iconst 2, 1) := by decide +kernel
theorem d_law_1184 : decode code 1184 = .ok (.iadd, 1) := by decide +kernel
theorem d_law_1185 : decode code 1185 = .ok (.iaload, 1) := by decide +kernel
theorem d_law_1186 : decode code 1186 = .ok (.aload_n 0, 1) := by decide +kernel
theorem d_law_1187 : decode code 1187 = .ok (.iload_n 3, 1) := by decide +kernel
theorem d_law_1188 : decode code 1188 = .ok (.iconst 3, 1) := by decide +kernel
theorem d_law_1189 : decode code 1189 = .ok (.iadd, 1) := by decide +kernel
theorem d_law_1190 : decode code 1190 = .ok (.iaload, 1) := by decide +kernel
theorem d_law_1191 : decode code 1191 = .ok (.aload_n 0, 1) := by decide +kernel
theorem d_law_1192 : decode code 1192 = .ok (.iload_n 3, 1) := by decide +kernel
theorem d_law_1193 : decode code 1193 = .ok (.iconst 4, 1) := by decide +kernel
theorem d_law_1194 : decode code 1194 = .ok (.iadd, 1) := by decide +kernel
theorem d_law_1195 : decode code 1195 = .ok (.iaload, 1) := by decide +kernel
theorem d_law_1196 : decode code 1196 = .ok (.aload_n 0, 1) := by decide +kernel
theorem d_law_1197 : decode code 1197 = .ok (.iload_n 3, 1) := by decide +kernel
theorem d_law_1198 : decode code 1198 = .ok (.iconst 5, 1) := by decide +kernel
theorem d_law_1199 : decode code 1199 = .ok (.iadd, 1) := by decide +kernel
theorem d_law_1200 : decode code 1200 = .ok (.iaload, 1) := by decide +kernel
theorem d_law_1201 : decode code 1201 = .ok (.invokevirtual 111, 3) := by decide +kernel
theorem d_law_1204 : decode code 1204 = .ok (.if_icmp .eq 564, 3) := by decide +kernel
theorem d_law_1207 : decode code 1207 = .ok (.iconst 0, 1) := by decide +kernel
theorem d_law_1208 : decode code 1208 = .ok (.ireturn, 1) := by decide +kernel
theorem d_law_1209 : decode code 1209 = .ok (.aload_n 1, 1) := by decide +kernel
theorem d_law_1210 : decode code 1210 = .ok (.aload_n 0, 1) := by decide +kernel
theorem d_law_1211 : decode code 1211 = .ok (.iload_n 3, 1) := by decide +kernel
theorem d_law_1212 : decode code 1212 = .ok (.iconst 1, 1) := by decide +kernel
theorem d_law_1213 : decode code 1213 = .ok (.iadd, 1) := by decide +kernel
theorem d_law_1214 : decode code 1214 = .ok (.iaload, 1) := by decide +kernel
theorem d_law_1215 : decode code 1215 = .ok (.aload_n 0, 1) := by decide +kernel
theorem d_law_1216 : decode code 1216 = .ok (.iload_n 3, 1) := by decide +kernel
theorem d_law_1217 : decode code 1217 = .ok (.iconst 2, 1) := by decide +kernel
theorem d_law_1218 : decode code 1218 = .ok (.iadd, 1) := by decide +kernel
theorem d_law_1219 : decode code 1219 = .ok (.iaload, 1) := by decide +kernel
theorem d_law_1220 : decode code 1220 = .ok (.aload_n 0, 1) := by decide +kernel
theorem d_law_1221 : decode code 1221 = .ok (.iload_n 3, 1) := by decide +kernel
theorem d_law_1222 : decode code 1222 = .ok (.iconst 3, 1) := by decide +kernel
theorem d_law_1223 : decode code 1223 = .ok (.iadd, 1) := by decide +kernel
theorem d_law_1224 : decode code 1224 = .ok (.iaload, 1) := by decide +kernel
theorem d_law_1225 : decode code 1225 = .ok (.aload_n 0, 1) := by decide +kernel
theorem d_law_1226 : decode code 1226 = .ok (.iload_n 3, 1) := by decide +kernel
theorem d_law_1227 : decode code 1227 = .ok (.iconst 4, 1) := by decide +kernel
theorem d_law_1228 : decode code 1228 = .ok (.iadd, 1) := by decide +kernel
theorem d_law_1229 : decode code 1229 = .ok (.iaload, 1) := by decide +kernel
theorem d_law_1230 : decode code 1230 = .ok (.invokevirtual 112, 3) := by decide +kernel
theorem d_law_1233 : decode code 1233 = .ok (.aload_n 2, 1) := by decide +kernel
theorem d_law_1234 : decode code 1234 = .ok (.aload_n 0, 1) := by decide +kernel
theorem d_law_1235 : decode code 1235 = .ok (.iload_n 3, 1) := by decide +kernel
theorem d_law_1236 : decode code 1236 = .ok (.iconst 1, 1) := by decide +kernel
theorem d_law_1237 : decode code 1237 = .ok (.iadd, 1) := by decide +kernel
theorem d_law_1238 : decode code 1238 = .ok (.iaload, 1) := by decide +kernel
theorem d_law_1239 : decode code 1239 = .ok (.aload_n 0, 1) := by decide +kernel
theorem d_law_1240 : decode code 1240 = .ok (.iload_n 3, 1) := by decide +kernel
theorem d_law_1241 : decode code 1241 = .ok (.iconst 2, 1) := by decide +kernel
theorem d_law_1242 : decode code 1242 = .ok (.iadd, 1) := by decide +kernel
theorem d_law_1243 : decode code 1243 = .ok (.iaload, 1) := by decide +kernel
theorem d_law_1244 : decode code 1244 = .ok (.aload_n 0, 1) := by decide +kernel
theorem d_law_1245 : decode code 1245 = .ok (.iload_n 3, 1) := by decide +kernel
theorem d_law_1246 : decode code 1246 = .ok (.iconst 3, 1) := by decide +kernel
theorem d_law_1247 : decode code 1247 = .ok (.iadd, 1) := by decide +kernel
theorem d_law_1248 : decode code 1248 = .ok (.iaload, 1) := by decide +kernel
theorem d_law_1249 : decode code 1249 = .ok (.aload_n 0, 1) := by decide +kernel
theorem d_law_1250 : decode code 1250 = .ok (.iload_n 3, 1) := by decide +kernel
theorem d_law_1251 : decode code 1251 = .ok (.iconst 4, 1) := by decide +kernel
theorem d_law_1252 : decode code 1252 = .ok (.iadd, 1) := by decide +kernel
theorem d_law_1253 : decode code 1253 = .ok (.iaload, 1) := by decide +kernel
theorem d_law_1254 : decode code 1254 = .ok (.invokevirtual 115, 3) := by decide +kernel
theorem d_law_1257 : decode code 1257 = .ok (.if_icmp .eq 511, 3) := by decide +kernel
theorem d_law_1260 : decode code 1260 = .ok (.iconst 0, 1) := by decide +kernel
theorem d_law_1261 : decode code 1261 = .ok (.ireturn, 1) := by decide +kernel
theorem d_law_1262 : decode code 1262 = .ok (.aload_n 1, 1) := by decide +kernel
theorem d_law_1263 : decode code 1263 = .ok (.aload_n 0, 1) := by decide +kernel
theorem d_law_1264 : decode code 1264 = .ok (.iload_n 3, 1) := by decide +kernel
theorem d_law_1265 : decode code 1265 = .ok (.iconst 1, 1) := by decide +kernel
theorem d_law_1266 : decode code 1266 = .ok (.iadd, 1) := by decide +kernel
theorem d_law_1267 : decode code 1267 = .ok (.iaload, 1) := by decide +kernel
theorem d_law_1268 : decode code 1268 = .ok (.aload_n 0, 1) := by decide +kernel
theorem d_law_1269 : decode code 1269 = .ok (.iload_n 3, 1) := by decide +kernel
theorem d_law_1270 : decode code 1270 = .ok (.iconst 2, 1) := by decide +kernel
theorem d_law_1271 : decode code 1271 = .ok (.iadd, 1) := by decide +kernel
theorem d_law_1272 : decode code 1272 = .ok (.iaload, 1) := by decide +kernel
theorem d_law_1273 : decode code 1273 = .ok (.aload_n 0, 1) := by decide +kernel
theorem d_law_1274 : decode code 1274 = .ok (.iload_n 3, 1) := by decide +kernel
theorem d_law_1275 : decode code 1275 = .ok (.iconst 3, 1) := by decide +kernel
theorem d_law_1276 : decode code 1276 = .ok (.iadd, 1) := by decide +kernel
theorem d_law_1277 : decode code 1277 = .ok (.iaload, 1) := by decide +kernel
theorem d_law_1278 : decode code 1278 = .ok (.invokevirtual 116, 3) := by decide +kernel
theorem d_law_1281 : decode code 1281 = .ok (.aload_n 2, 1) := by decide +kernel
theorem d_law_1282 : decode code 1282 = .ok (.aload_n 0, 1) := by decide +kernel
theorem d_law_1283 : decode code 1283 = .ok (.iload_n 3, 1) := by decide +kernel
theorem d_law_1284 : decode code 1284 = .ok (.iconst 1, 1) := by decide +kernel
theorem d_law_1285 : decode code 1285 = .ok (.iadd, 1) := by decide +kernel
theorem d_law_1286 : decode code 1286 = .ok (.iaload, 1) := by decide +kernel
theorem d_law_1287 : decode code 1287 = .ok (.aload_n 0, 1) := by decide +kernel
theorem d_law_1288 : decode code 1288 = .ok (.iload_n 3, 1) := by decide +kernel
theorem d_law_1289 : decode code 1289 = .ok (.iconst 2, 1) := by decide +kernel
theorem d_law_1290 : decode code 1290 = .ok (.iadd, 1) := by decide +kernel
theorem d_law_1291 : decode code 1291 = .ok (.iaload, 1) := by decide +kernel
theorem d_law_1292 : decode code 1292 = .ok (.aload_n 0, 1) := by decide +kernel
theorem d_law_1293 : decode code 1293 = .ok (.iload_n 3, 1) := by decide +kernel
theorem d_law_1294 : decode code 1294 = .ok (.iconst 3, 1) := by decide +kernel
theorem d_law_1295 : decode code 1295 = .ok (.iadd, 1) := by decide +kernel
theorem d_law_1296 : decode code 1296 = .ok (.iaload, 1) := by decide +kernel
theorem d_law_1297 : decode code 1297 = .ok (.invokevirtual 119, 3) := by decide +kernel
theorem d_law_1300 : decode code 1300 = .ok (.if_icmp .eq 468, 3) := by decide +kernel
theorem d_law_1303 : decode code 1303 = .ok (.iconst 0, 1) := by decide +kernel
theorem d_law_1304 : decode code 1304 = .ok (.ireturn, 1) := by decide +kernel
theorem d_law_1305 : decode code 1305 = .ok (.aload_n 1, 1) := by decide +kernel
theorem d_law_1306 : decode code 1306 = .ok (.aload_n 0, 1) := by decide +kernel
theorem d_law_1307 : decode code 1307 = .ok (.iload_n 3, 1) := by decide +kernel
theorem d_law_1308 : decode code 1308 = .ok (.iconst 1, 1) := by decide +kernel
theorem d_law_1309 : decode code 1309 = .ok (.iadd, 1) := by decide +kernel
theorem d_law_1310 : decode code 1310 = .ok (.iaload, 1) := by decide +kernel
theorem d_law_1311 : decode code 1311 = .ok (.aload_n 0, 1) := by decide +kernel
theorem d_law_1312 : decode code 1312 = .ok (.iload_n 3, 1) := by decide +kernel
theorem d_law_1313 : decode code 1313 = .ok (.iconst 2, 1) := by decide +kernel
theorem d_law_1314 : decode code 1314 = .ok (.iadd, 1) := by decide +kernel
theorem d_law_1315 : decode code 1315 = .ok (.iaload, 1) := by decide +kernel
theorem d_law_1316 : decode code 1316 = .ok (.aload_n 0, 1) := by decide +kernel
theorem d_law_1317 : decode code 1317 = .ok (.iload_n 3, 1) := by decide +kernel
theorem d_law_1318 : decode code 1318 = .ok (.iconst 3, 1) := by decide +kernel
theorem d_law_1319 : decode code 1319 = .ok (.iadd, 1) := by decide +kernel
theorem d_law_1320 : decode code 1320 = .ok (.iaload, 1) := by decide +kernel
theorem d_law_1321 : decode code 1321 = .ok (.aload_n 0, 1) := by decide +kernel
theorem d_law_1322 : decode code 1322 = .ok (.iload_n 3, 1) := by decide +kernel
theorem d_law_1323 : decode code 1323 = .ok (.iconst 4, 1) := by decide +kernel
theorem d_law_1324 : decode code 1324 = .ok (.iadd, 1) := by decide +kernel
theorem d_law_1325 : decode code 1325 = .ok (.iaload, 1) := by decide +kernel
theorem d_law_1326 : decode code 1326 = .ok (.aload_n 0, 1) := by decide +kernel
theorem d_law_1327 : decode code 1327 = .ok (.iload_n 3, 1) := by decide +kernel
theorem d_law_1328 : decode code 1328 = .ok (.iconst 5, 1) := by decide +kernel
theorem d_law_1329 : decode code 1329 = .ok (.iadd, 1) := by decide +kernel
theorem d_law_1330 : decode code 1330 = .ok (.iaload, 1) := by decide +kernel
theorem d_law_1331 : decode code 1331 = .ok (.invokevirtual 120, 3) := by decide +kernel
theorem d_law_1334 : decode code 1334 = .ok (.aload_n 2, 1) := by decide +kernel
theorem d_law_1335 : decode code 1335 = .ok (.aload_n 0, 1) := by decide +kernel
theorem d_law_1336 : decode code 1336 = .ok (.iload_n 3, 1) := by decide +kernel
theorem d_law_1337 : decode code 1337 = .ok (.iconst 1, 1) := by decide +kernel
theorem d_law_1338 : decode code 1338 = .ok (.iadd, 1) := by decide +kernel
theorem d_law_1339 : decode code 1339 = .ok (.iaload, 1) := by decide +kernel
theorem d_law_1340 : decode code 1340 = .ok (.aload_n 0, 1) := by decide +kernel
theorem d_law_1341 : decode code 1341 = .ok (.iload_n 3, 1) := by decide +kernel
theorem d_law_1342 : decode code 1342 = .ok (.iconst 2, 1) := by decide +kernel
theorem d_law_1343 : decode code 1343 = .ok (.iadd, 1) := by decide +kernel
theorem d_law_1344 : decode code 1344 = .ok (.iaload, 1) := by decide +kernel
theorem d_law_1345 : decode code 1345 = .ok (.aload_n 0, 1) := by decide +kernel
theorem d_law_1346 : decode code 1346 = .ok (.iload_n 3, 1) := by decide +kernel
theorem d_law_1347 : decode code 1347 = .ok (.iconst 3, 1) := by decide +kernel
theorem d_law_1348 : decode code 1348 = .ok (.iadd, 1) := by decide +kernel
theorem d_law_1349 : decode code 1349 = .ok (.iaload, 1) := by decide +kernel
theorem d_law_1350 : decode code 1350 = .ok (.aload_n 0, 1) := by decide +kernel
theorem d_law_1351 : decode code 1351 = .ok (.iload_n 3, 1) := by decide +kernel
theorem d_law_1352 : decode code 1352 = .ok (.iconst 4, 1) := by decide +kernel
theorem d_law_1353 : decode code 1353 = .ok (.iadd, 1) := by decide +kernel
theorem d_law_1354 : decode code 1354 = .ok (.iaload, 1) := by decide +kernel
theorem d_law_1355 : decode code 1355 = .ok (.aload_n 0, 1) := by decide +kernel
theorem d_law_1356 : decode code 1356 = .ok (.iload_n 3, 1) := by decide +kernel
theorem d_law_1357 : decode code 1357 = .ok (.iconst 5, 1) := by decide +kernel
theorem d_law_1358 : decode code 1358 = .ok (.iadd, 1) := by decide +kernel
theorem d_law_1359 : decode code 1359 = .ok (.iaload, 1) := by decide +kernel
theorem d_law_1360 : decode code 1360 = .ok (.invokevirtual 123, 3) := by decide +kernel
theorem d_law_1363 : decode code 1363 = .ok (.if_icmp .eq 405, 3) := by decide +kernel
theorem d_law_1366 : decode code 1366 = .ok (.iconst 0, 1) := by decide +kernel
theorem d_law_1367 : decode code 1367 = .ok (.ireturn, 1) := by decide +kernel
theorem d_law_1368 : decode code 1368 = .ok (.aload_n 1, 1) := by decide +kernel
theorem d_law_1369 : decode code 1369 = .ok (.aload_n 0, 1) := by decide +kernel
theorem d_law_1370 : decode code 1370 = .ok (.iload_n 3, 1) := by decide +kernel
theorem d_law_1371 : decode code 1371 = .ok (.iconst 1, 1) := by decide +kernel
theorem d_law_1372 : decode code 1372 = .ok (.iadd, 1) := by decide +kernel
theorem d_law_1373 : decode code 1373 = .ok (.iaload, 1) := by decide +kernel
theorem d_law_1374 : decode code 1374 = .ok (.aload_n 0, 1) := by decide +kernel
theorem d_law_1375 : decode code 1375 = .ok (.iload_n 3, 1) := by decide +kernel
theorem d_law_1376 : decode code 1376 = .ok (.iconst 2, 1) := by decide +kernel
theorem d_law_1377 : decode code 1377 = .ok (.iadd, 1) := by decide +kernel
theorem d_law_1378 : decode code 1378 = .ok (.iaload, 1) := by decide +kernel
theorem d_law_1379 : decode code 1379 = .ok (.aload_n 0, 1) := by decide +kernel
theorem d_law_1380 : decode code 1380 = .ok (.iload_n 3, 1) := by decide +kernel
theorem d_law_1381 : decode code 1381 = .ok (.iconst 3, 1) := by decide +kernel
theorem d_law_1382 : decode code 1382 = .ok (.iadd, 1) := by decide +kernel
theorem d_law_1383 : decode code 1383 = .ok (.iaload, 1) := by decide +kernel
theorem d_law_1384 : decode code 1384 = .ok (.aload_n 0, 1) := by decide +kernel
theorem d_law_1385 : decode code 1385 = .ok (.iload_n 3, 1) := by decide +kernel
theorem d_law_1386 : decode code 1386 = .ok (.iconst 4, 1) := by decide +kernel
theorem d_law_1387 : decode code 1387 = .ok (.iadd, 1) := by decide +kernel
theorem d_law_1388 : decode code 1388 = .ok (.iaload, 1) := by decide +kernel
theorem d_law_1389 : decode code 1389 = .ok (.aload_n 0, 1) := by decide +kernel
theorem d_law_1390 : decode code 1390 = .ok (.iload_n 3, 1) := by decide +kernel
theorem d_law_1391 : decode code 1391 = .ok (.iconst 5, 1) := by decide +kernel
theorem d_law_1392 : decode code 1392 = .ok (.iadd, 1) := by decide +kernel
theorem d_law_1393 : decode code 1393 = .ok (.iaload, 1) := by decide +kernel
theorem d_law_1394 : decode code 1394 = .ok (.invokevirtual 124, 3) := by decide +kernel
theorem d_law_1397 : decode code 1397 = .ok (.aload_n 2, 1) := by decide +kernel
theorem d_law_1398 : decode code 1398 = .ok (.aload_n 0, 1) := by decide +kernel
theorem d_law_1399 : decode code 1399 = .ok (.iload_n 3, 1) := by decide +kernel
theorem d_law_1400 : decode code 1400 = .ok (.iconst 1, 1) := by decide +kernel
theorem d_law_1401 : decode code 1401 = .ok (.iadd, 1) := by decide +kernel
theorem d_law_1402 : decode code 1402 = .ok (.iaload, 1) := by decide +kernel
theorem d_law_1403 : decode code 1403 = .ok (.aload_n 0, 1) := by decide +kernel
theorem d_law_1404 : decode code 1404 = .ok (.iload_n 3, 1) := by decide +kernel
theorem d_law_1405 : decode code 1405 = .ok (.iconst 2, 1) := by decide +kernel
theorem d_law_1406 : decode code 1406 = .ok (.iadd, 1) := by decide +kernel
theorem d_law_1407 : decode code 1407 = .ok (.iaload, 1) := by decide +kernel
theorem d_law_1408 : decode code 1408 = .ok (.aload_n 0, 1) := by decide +kernel
theorem d_law_1409 : decode code 1409 = .ok (.iload_n 3, 1) := by decide +kernel
theorem d_law_1410 : decode code 1410 = .ok (.iconst 3, 1) := by decide +kernel
theorem d_law_1411 : decode code 1411 = .ok (.iadd, 1) := by decide +kernel
theorem d_law_1412 : decode code 1412 = .ok (.iaload, 1) := by decide +kernel
theorem d_law_1413 : decode code 1413 = .ok (.aload_n 0, 1) := by decide +kernel
theorem d_law_1414 : decode code 1414 = .ok (.iload_n 3, 1) := by decide +kernel
theorem d_law_1415 : decode code 1415 = .ok (.iconst 4, 1) := by decide +kernel
theorem d_law_1416 : decode code 1416 = .ok (.iadd, 1) := by decide +kernel
theorem d_law_1417 : decode code 1417 = .ok (.iaload, 1) := by decide +kernel
theorem d_law_1418 : decode code 1418 = .ok (.aload_n 0, 1) := by decide +kernel
theorem d_law_1419 : decode code 1419 = .ok (.iload_n 3, 1) := by decide +kernel
theorem d_law_1420 : decode code 1420 = .ok (.iconst 5, 1) := by decide +kernel
theorem d_law_1421 : decode code 1421 = .ok (.iadd, 1) := by decide +kernel
theorem d_law_1422 : decode code 1422 = .ok (.iaload, 1) := by decide +kernel
theorem d_law_1423 : decode code 1423 = .ok (.invokevirtual 127, 3) := by decide +kernel
theorem d_law_1426 : decode code 1426 = .ok (.if_icmp .eq 342, 3) := by decide +kernel
theorem d_law_1429 : decode code 1429 = .ok (.iconst 0, 1) := by decide +kernel
theorem d_law_1430 : decode code 1430 = .ok (.ireturn, 1) := by decide +kernel
theorem d_law_1431 : decode code 1431 = .ok (.aload_n 1, 1) := by decide +kernel
theorem d_law_1432 : decode code 1432 = .ok (.aload_n 0, 1) := by decide +kernel
theorem d_law_1433 : decode code 1433 = .ok (.iload_n 3, 1) := by decide +kernel
theorem d_law_1434 : decode code 1434 = .ok (.iconst 1, 1) := by decide +kernel
theorem d_law_1435 : decode code 1435 = .ok (.iadd, 1) := by decide +kernel
theorem d_law_1436 : decode code 1436 = .ok (.iaload, 1) := by decide +kernel
theorem d_law_1437 : decode code 1437 = .ok (.aload_n 0, 1) := by decide +kernel
theorem d_law_1438 : decode code 1438 = .ok (.iload_n 3, 1) := by decide +kernel
theorem d_law_1439 : decode code 1439 = .ok (.iconst 2, 1) := by decide +kernel
theorem d_law_1440 : decode code 1440 = .ok (.iadd, 1) := by decide +kernel
theorem d_law_1441 : decode code 1441 = .ok (.iaload, 1) := by decide +kernel
theorem d_law_1442 : decode code 1442 = .ok (.aload_n 0, 1) := by decide +kernel
theorem d_law_1443 : decode code 1443 = .ok (.iload_n 3, 1) := by decide +kernel
theorem d_law_1444 : decode code 1444 = .ok (.iconst 3, 1) := by decide +kernel
theorem d_law_1445 : decode code 1445 = .ok (.iadd, 1) := by decide +kernel
theorem d_law_1446 : decode code 1446 = .ok (.iaload, 1) := by decide +kernel
theorem d_law_1447 : decode code 1447 = .ok (.aload_n 0, 1) := by decide +kernel
theorem d_law_1448 : decode code 1448 = .ok (.iload_n 3, 1) := by decide +kernel
theorem d_law_1449 : decode code 1449 = .ok (.iconst 4, 1) := by decide +kernel
theorem d_law_1450 : decode code 1450 = .ok (.iadd, 1) := by decide +kernel
theorem d_law_1451 : decode code 1451 = .ok (.iaload, 1) := by decide +kernel
theorem d_law_1452 : decode code 1452 = .ok (.aload_n 0, 1) := by decide +kernel
theorem d_law_1453 : decode code 1453 = .ok (.iload_n 3, 1) := by decide +kernel
theorem d_law_1454 : decode code 1454 = .ok (.iconst 5, 1) := by decide +kernel
theorem d_law_1455 : decode code 1455 = .ok (.iadd, 1) := by decide +kernel
theorem d_law_1456 : decode code 1456 = .ok (.iaload, 1) := by decide +kernel
theorem d_law_1457 : decode code 1457 = .ok (.aload_n 0, 1) := by decide +kernel
theorem d_law_1458 : decode code 1458 = .ok (.iload_n 3, 1) := by decide +kernel
theorem d_law_1459 : decode code 1459 = .ok (.bipush (6), 2) := by decide +kernel
theorem d_law_1461 : decode code 1461 = .ok (.iadd, 1) := by decide +kernel
theorem d_law_1462 : decode code 1462 = .ok (.iaload, 1) := by decide +kernel
theorem d_law_1463 : decode code 1463 = .ok (.invokevirtual 128, 3) := by decide +kernel
theorem d_law_1466 : decode code 1466 = .ok (.aload_n 2, 1) := by decide +kernel
theorem d_law_1467 : decode code 1467 = .ok (.aload_n 0, 1) := by decide +kernel
theorem d_law_1468 : decode code 1468 = .ok (.iload_n 3, 1) := by decide +kernel
theorem d_law_1469 : decode code 1469 = .ok (.iconst 1, 1) := by decide +kernel
theorem d_law_1470 : decode code 1470 = .ok (.iadd, 1) := by decide +kernel
theorem d_law_1471 : decode code 1471 = .ok (.iaload, 1) := by decide +kernel
theorem d_law_1472 : decode code 1472 = .ok (.aload_n 0, 1) := by decide +kernel
theorem d_law_1473 : decode code 1473 = .ok (.iload_n 3, 1) := by decide +kernel
theorem d_law_1474 : decode code 1474 = .ok (.iconst 2, 1) := by decide +kernel
theorem d_law_1475 : decode code 1475 = .ok (.iadd, 1) := by decide +kernel
theorem d_law_1476 : decode code 1476 = .ok (.iaload, 1) := by decide +kernel
theorem d_law_1477 : decode code 1477 = .ok (.aload_n 0, 1) := by decide +kernel
theorem d_law_1478 : decode code 1478 = .ok (.iload_n 3, 1) := by decide +kernel
theorem d_law_1479 : decode code 1479 = .ok (.iconst 3, 1) := by decide +kernel
theorem d_law_1480 : decode code 1480 = .ok (.iadd, 1) := by decide +kernel
theorem d_law_1481 : decode code 1481 = .ok (.iaload, 1) := by decide +kernel
theorem d_law_1482 : decode code 1482 = .ok (.aload_n 0, 1) := by decide +kernel
theorem d_law_1483 : decode code 1483 = .ok (.iload_n 3, 1) := by decide +kernel
theorem d_law_1484 : decode code 1484 = .ok (.iconst 4, 1) := by decide +kernel
theorem d_law_1485 : decode code 1485 = .ok (.iadd, 1) := by decide +kernel
theorem d_law_1486 : decode code 1486 = .ok (.iaload, 1) := by decide +kernel
theorem d_law_1487 : decode code 1487 = .ok (.aload_n 0, 1) := by decide +kernel
theorem d_law_1488 : decode code 1488 = .ok (.iload_n 3, 1) := by decide +kernel
theorem d_law_1489 : decode code 1489 = .ok (.iconst 5, 1) := by decide +kernel
theorem d_law_1490 : decode code 1490 = .ok (.iadd, 1) := by decide +kernel
theorem d_law_1491 : decode code 1491 = .ok (.iaload, 1) := by decide +kernel
theorem d_law_1492 : decode code 1492 = .ok (.aload_n 0, 1) := by decide +kernel
theorem d_law_1493 : decode code 1493 = .ok (.iload_n 3, 1) := by decide +kernel
theorem d_law_1494 : decode code 1494 = .ok (.bipush (6), 2) := by decide +kernel
theorem d_law_1496 : decode code 1496 = .ok (.iadd, 1) := by decide +kernel
theorem d_law_1497 : decode code 1497 = .ok (.iaload, 1) := by decide +kernel
theorem d_law_1498 : decode code 1498 = .ok (.invokevirtual 132, 3) := by decide +kernel
theorem d_law_1501 : decode code 1501 = .ok (.lcmp, 1) := by decide +kernel
theorem d_law_1502 : decode code 1502 = .ok (.ifCond .eq 266, 3) := by decide +kernel
theorem d_law_1505 : decode code 1505 = .ok (.iconst 0, 1) := by decide +kernel
theorem d_law_1506 : decode code 1506 = .ok (.ireturn, 1) := by decide +kernel
theorem d_law_1507 : decode code 1507 = .ok (.aload_n 1, 1) := by decide +kernel
theorem d_law_1508 : decode code 1508 = .ok (.invokevirtual 133, 3) := by decide +kernel
theorem d_law_1511 : decode code 1511 = .ok (.aload_n 2, 1) := by decide +kernel
theorem d_law_1512 : decode code 1512 = .ok (.invokevirtual 136, 3) := by decide +kernel
theorem d_law_1515 : decode code 1515 = .ok (.if_icmp .eq 253, 3) := by decide +kernel
theorem d_law_1518 : decode code 1518 = .ok (.iconst 0, 1) := by decide +kernel
theorem d_law_1519 : decode code 1519 = .ok (.ireturn, 1) := by decide +kernel
theorem d_law_1520 : decode code 1520 = .ok (.aload_n 1, 1) := by decide +kernel
theorem d_law_1521 : decode code 1521 = .ok (.invokevirtual 137, 3) := by decide +kernel
theorem d_law_1524 : decode code 1524 = .ok (.aload_n 2, 1) := by decide +kernel
theorem d_law_1525 : decode code 1525 = .ok (.invokevirtual 140, 3) := by decide +kernel
theorem d_law_1528 : decode code 1528 = .ok (.if_icmp .eq 240, 3) := by decide +kernel
theorem d_law_1531 : decode code 1531 = .ok (.iconst 0, 1) := by decide +kernel
theorem d_law_1532 : decode code 1532 = .ok (.ireturn, 1) := by decide +kernel
theorem d_law_1533 : decode code 1533 = .ok (.aload_n 1, 1) := by decide +kernel
theorem d_law_1534 : decode code 1534 = .ok (.aload_n 0, 1) := by decide +kernel
theorem d_law_1535 : decode code 1535 = .ok (.iload_n 3, 1) := by decide +kernel
theorem d_law_1536 : decode code 1536 = .ok (.iconst 1, 1) := by decide +kernel
theorem d_law_1537 : decode code 1537 = .ok (.iadd, 1) := by decide +kernel
theorem d_law_1538 : decode code 1538 = .ok (.iaload, 1) := by decide +kernel
theorem d_law_1539 : decode code 1539 = .ok (.aload_n 0, 1) := by decide +kernel
theorem d_law_1540 : decode code 1540 = .ok (.iload_n 3, 1) := by decide +kernel
theorem d_law_1541 : decode code 1541 = .ok (.iconst 2, 1) := by decide +kernel
theorem d_law_1542 : decode code 1542 = .ok (.iadd, 1) := by decide +kernel
theorem d_law_1543 : decode code 1543 = .ok (.iaload, 1) := by decide +kernel
theorem d_law_1544 : decode code 1544 = .ok (.aload_n 0, 1) := by decide +kernel
theorem d_law_1545 : decode code 1545 = .ok (.iload_n 3, 1) := by decide +kernel
theorem d_law_1546 : decode code 1546 = .ok (.iconst 3, 1) := by decide +kernel
theorem d_law_1547 : decode code 1547 = .ok (.iadd, 1) := by decide +kernel
theorem d_law_1548 : decode code 1548 = .ok (.iaload, 1) := by decide +kernel
theorem d_law_1549 : decode code 1549 = .ok (.invokevirtual 141, 3) := by decide +kernel
theorem d_law_1552 : decode code 1552 = .ok (.aload_n 2, 1) := by decide +kernel
theorem d_law_1553 : decode code 1553 = .ok (.aload_n 0, 1) := by decide +kernel
theorem d_law_1554 : decode code 1554 = .ok (.iload_n 3, 1) := by decide +kernel
theorem d_law_1555 : decode code 1555 = .ok (.iconst 1, 1) := by decide +kernel
theorem d_law_1556 : decode code 1556 = .ok (.iadd, 1) := by decide +kernel
theorem d_law_1557 : decode code 1557 = .ok (.iaload, 1) := by decide +kernel
theorem d_law_1558 : decode code 1558 = .ok (.aload_n 0, 1) := by decide +kernel
theorem d_law_1559 : decode code 1559 = .ok (.iload_n 3, 1) := by decide +kernel
theorem d_law_1560 : decode code 1560 = .ok (.iconst 2, 1) := by decide +kernel
theorem d_law_1561 : decode code 1561 = .ok (.iadd, 1) := by decide +kernel
theorem d_law_1562 : decode code 1562 = .ok (.iaload, 1) := by decide +kernel
theorem d_law_1563 : decode code 1563 = .ok (.aload_n 0, 1) := by decide +kernel
theorem d_law_1564 : decode code 1564 = .ok (.iload_n 3, 1) := by decide +kernel
theorem d_law_1565 : decode code 1565 = .ok (.iconst 3, 1) := by decide +kernel
theorem d_law_1566 : decode code 1566 = .ok (.iadd, 1) := by decide +kernel
theorem d_law_1567 : decode code 1567 = .ok (.iaload, 1) := by decide +kernel
theorem d_law_1568 : decode code 1568 = .ok (.invokevirtual 144, 3) := by decide +kernel
theorem d_law_1571 : decode code 1571 = .ok (.if_icmp .eq 197, 3) := by decide +kernel
theorem d_law_1574 : decode code 1574 = .ok (.iconst 0, 1) := by decide +kernel
theorem d_law_1575 : decode code 1575 = .ok (.ireturn, 1) := by decide +kernel
theorem d_law_1576 : decode code 1576 = .ok (.aload_n 1, 1) := by decide +kernel
theorem d_law_1577 : decode code 1577 = .ok (.aload_n 0, 1) := by decide +kernel
theorem d_law_1578 : decode code 1578 = .ok (.iload_n 3, 1) := by decide +kernel
theorem d_law_1579 : decode code 1579 = .ok (.iconst 1, 1) := by decide +kernel
theorem d_law_1580 : decode code 1580 = .ok (.iadd, 1) := by decide +kernel
theorem d_law_1581 : decode code 1581 = .ok (.iaload, 1) := by decide +kernel
theorem d_law_1582 : decode code 1582 = .ok (.aload_n 0, 1) := by decide +kernel
theorem d_law_1583 : decode code 1583 = .ok (.iload_n 3, 1) := by decide +kernel
theorem d_law_1584 : decode code 1584 = .ok (.iconst 2, 1) := by decide +kernel
theorem d_law_1585 : decode code 1585 = .ok (.iadd, 1) := by decide +kernel
theorem d_law_1586 : decode code 1586 = .ok (.iaload, 1) := by decide +kernel
theorem d_law_1587 : decode code 1587 = .ok (.aload_n 0, 1) := by decide +kernel
theorem d_law_1588 : decode code 1588 = .ok (.iload_n 3, 1) := by decide +kernel
theorem d_law_1589 : decode code 1589 = .ok (.iconst 3, 1) := by decide +kernel
theorem d_law_1590 : decode code 1590 = .ok (.iadd, 1) := by decide +kernel
theorem d_law_1591 : decode code 1591 = .ok (.iaload, 1) := by decide +kernel
theorem d_law_1592 : decode code 1592 = .ok (.invokevirtual 145, 3) := by decide +kernel
theorem d_law_1595 : decode code 1595 = .ok (.aload_n 2, 1) := by decide +kernel
theorem d_law_1596 : decode code 1596 = .ok (.aload_n 0, 1) := by decide +kernel
theorem d_law_1597 : decode code 1597 = .ok (.iload_n 3, 1) := by decide +kernel
theorem d_law_1598 : decode code 1598 = .ok (.iconst 1, 1) := by decide +kernel
theorem d_law_1599 : decode code 1599 = .ok (.iadd, 1) := by decide +kernel
theorem d_law_1600 : decode code 1600 = .ok (.iaload, 1) := by decide +kernel
theorem d_law_1601 : decode code 1601 = .ok (.aload_n 0, 1) := by decide +kernel
theorem d_law_1602 : decode code 1602 = .ok (.iload_n 3, 1) := by decide +kernel
theorem d_law_1603 : decode code 1603 = .ok (.iconst 2, 1) := by decide +kernel
theorem d_law_1604 : decode code 1604 = .ok (.iadd, 1) := by decide +kernel
theorem d_law_1605 : decode code 1605 = .ok (.iaload, 1) := by decide +kernel
theorem d_law_1606 : decode code 1606 = .ok (.aload_n 0, 1) := by decide +kernel
theorem d_law_1607 : decode code 1607 = .ok (.iload_n 3, 1) := by decide +kernel
theorem d_law_1608 : decode code 1608 = .ok (.iconst 3, 1) := by decide +kernel
theorem d_law_1609 : decode code 1609 = .ok (.iadd, 1) := by decide +kernel
theorem d_law_1610 : decode code 1610 = .ok (.iaload, 1) := by decide +kernel
theorem d_law_1611 : decode code 1611 = .ok (.invokevirtual 148, 3) := by decide +kernel
theorem d_law_1614 : decode code 1614 = .ok (.if_icmp .eq 154, 3) := by decide +kernel
theorem d_law_1617 : decode code 1617 = .ok (.iconst 0, 1) := by decide +kernel
theorem d_law_1618 : decode code 1618 = .ok (.ireturn, 1) := by decide +kernel
theorem d_law_1619 : decode code 1619 = .ok (.aload_n 1, 1) := by decide +kernel
theorem d_law_1620 : decode code 1620 = .ok (.aload_n 0, 1) := by decide +kernel
theorem d_law_1621 : decode code 1621 = .ok (.iload_n 3, 1) := by decide +kernel
theorem d_law_1622 : decode code 1622 = .ok (.iconst 1, 1) := by decide +kernel
theorem d_law_1623 : decode code 1623 = .ok (.iadd, 1) := by decide +kernel
theorem d_law_1624 : decode code 1624 = .ok (.iaload, 1) := by decide +kernel
theorem d_law_1625 : decode code 1625 = .ok (.aload_n 0, 1) := by decide +kernel
theorem d_law_1626 : decode code 1626 = .ok (.iload_n 3, 1) := by decide +kernel
theorem d_law_1627 : decode code 1627 = .ok (.iconst 2, 1) := by decide +kernel
theorem d_law_1628 : decode code 1628 = .ok (.iadd, 1) := by decide +kernel
theorem d_law_1629 : decode code 1629 = .ok (.iaload, 1) := by decide +kernel
theorem d_law_1630 : decode code 1630 = .ok (.aload_n 0, 1) := by decide +kernel
theorem d_law_1631 : decode code 1631 = .ok (.iload_n 3, 1) := by decide +kernel
theorem d_law_1632 : decode code 1632 = .ok (.iconst 3, 1) := by decide +kernel
theorem d_law_1633 : decode code 1633 = .ok (.iadd, 1) := by decide +kernel
theorem d_law_1634 : decode code 1634 = .ok (.iaload, 1) := by decide +kernel
theorem d_law_1635 : decode code 1635 = .ok (.aload_n 0, 1) := by decide +kernel
theorem d_law_1636 : decode code 1636 = .ok (.iload_n 3, 1) := by decide +kernel
theorem d_law_1637 : decode code 1637 = .ok (.iconst 4, 1) := by decide +kernel
theorem d_law_1638 : decode code 1638 = .ok (.iadd, 1) := by decide +kernel
theorem d_law_1639 : decode code 1639 = .ok (.iaload, 1) := by decide +kernel
theorem d_law_1640 : decode code 1640 = .ok (.aload_n 0, 1) := by decide +kernel
theorem d_law_1641 : decode code 1641 = .ok (.iload_n 3, 1) := by decide +kernel
theorem d_law_1642 : decode code 1642 = .ok (.iconst 5, 1) := by decide +kernel
theorem d_law_1643 : decode code 1643 = .ok (.iadd, 1) := by decide +kernel
theorem d_law_1644 : decode code 1644 = .ok (.iaload, 1) := by decide +kernel
theorem d_law_1645 : decode code 1645 = .ok (.invokevirtual 149, 3) := by decide +kernel
theorem d_law_1648 : decode code 1648 = .ok (.aload_n 2, 1) := by decide +kernel
theorem d_law_1649 : decode code 1649 = .ok (.aload_n 0, 1) := by decide +kernel
theorem d_law_1650 : decode code 1650 = .ok (.iload_n 3, 1) := by decide +kernel
theorem d_law_1651 : decode code 1651 = .ok (.iconst 1, 1) := by decide +kernel
theorem d_law_1652 : decode code 1652 = .ok (.iadd, 1) := by decide +kernel
theorem d_law_1653 : decode code 1653 = .ok (.iaload, 1) := by decide +kernel
theorem d_law_1654 : decode code 1654 = .ok (.aload_n 0, 1) := by decide +kernel
theorem d_law_1655 : decode code 1655 = .ok (.iload_n 3, 1) := by decide +kernel
theorem d_law_1656 : decode code 1656 = .ok (.iconst 2, 1) := by decide +kernel
theorem d_law_1657 : decode code 1657 = .ok (.iadd, 1) := by decide +kernel
theorem d_law_1658 : decode code 1658 = .ok (.iaload, 1) := by decide +kernel
theorem d_law_1659 : decode code 1659 = .ok (.aload_n 0, 1) := by decide +kernel
theorem d_law_1660 : decode code 1660 = .ok (.iload_n 3, 1) := by decide +kernel
theorem d_law_1661 : decode code 1661 = .ok (.iconst 3, 1) := by decide +kernel
theorem d_law_1662 : decode code 1662 = .ok (.iadd, 1) := by decide +kernel
theorem d_law_1663 : decode code 1663 = .ok (.iaload, 1) := by decide +kernel
theorem d_law_1664 : decode code 1664 = .ok (.aload_n 0, 1) := by decide +kernel
theorem d_law_1665 : decode code 1665 = .ok (.iload_n 3, 1) := by decide +kernel
theorem d_law_1666 : decode code 1666 = .ok (.iconst 4, 1) := by decide +kernel
theorem d_law_1667 : decode code 1667 = .ok (.iadd, 1) := by decide +kernel
theorem d_law_1668 : decode code 1668 = .ok (.iaload, 1) := by decide +kernel
theorem d_law_1669 : decode code 1669 = .ok (.aload_n 0, 1) := by decide +kernel
theorem d_law_1670 : decode code 1670 = .ok (.iload_n 3, 1) := by decide +kernel
theorem d_law_1671 : decode code 1671 = .ok (.iconst 5, 1) := by decide +kernel
theorem d_law_1672 : decode code 1672 = .ok (.iadd, 1) := by decide +kernel
theorem d_law_1673 : decode code 1673 = .ok (.iaload, 1) := by decide +kernel
theorem d_law_1674 : decode code 1674 = .ok (.invokevirtual 152, 3) := by decide +kernel
theorem d_law_1677 : decode code 1677 = .ok (.if_icmp .eq 91, 3) := by decide +kernel
theorem d_law_1680 : decode code 1680 = .ok (.iconst 0, 1) := by decide +kernel
theorem d_law_1681 : decode code 1681 = .ok (.ireturn, 1) := by decide +kernel
theorem d_law_1682 : decode code 1682 = .ok (.aload_n 1, 1) := by decide +kernel
theorem d_law_1683 : decode code 1683 = .ok (.aload_n 0, 1) := by decide +kernel
theorem d_law_1684 : decode code 1684 = .ok (.iload_n 3, 1) := by decide +kernel
theorem d_law_1685 : decode code 1685 = .ok (.iconst 1, 1) := by decide +kernel
theorem d_law_1686 : decode code 1686 = .ok (.iadd, 1) := by decide +kernel
theorem d_law_1687 : decode code 1687 = .ok (.iaload, 1) := by decide +kernel
theorem d_law_1688 : decode code 1688 = .ok (.aload_n 0, 1) := by decide +kernel
theorem d_law_1689 : decode code 1689 = .ok (.iload_n 3, 1) := by decide +kernel
theorem d_law_1690 : decode code 1690 = .ok (.iconst 2, 1) := by decide +kernel
theorem d_law_1691 : decode code 1691 = .ok (.iadd, 1) := by decide +kernel
theorem d_law_1692 : decode code 1692 = .ok (.iaload, 1) := by decide +kernel
theorem d_law_1693 : decode code 1693 = .ok (.aload_n 0, 1) := by decide +kernel
theorem d_law_1694 : decode code 1694 = .ok (.iload_n 3, 1) := by decide +kernel
theorem d_law_1695 : decode code 1695 = .ok (.iconst 3, 1) := by decide +kernel
theorem d_law_1696 : decode code 1696 = .ok (.iadd, 1) := by decide +kernel
theorem d_law_1697 : decode code 1697 = .ok (.iaload, 1) := by decide +kernel
theorem d_law_1698 : decode code 1698 = .ok (.aload_n 0, 1) := by decide +kernel
theorem d_law_1699 : decode code 1699 = .ok (.iload_n 3, 1) := by decide +kernel
theorem d_law_1700 : decode code 1700 = .ok (.iconst 4, 1) := by decide +kernel
theorem d_law_1701 : decode code 1701 = .ok (.iadd, 1) := by decide +kernel
theorem d_law_1702 : decode code 1702 = .ok (.iaload, 1) := by decide +kernel
theorem d_law_1703 : decode code 1703 = .ok (.invokevirtual 153, 3) := by decide +kernel
theorem d_law_1706 : decode code 1706 = .ok (.aload_n 2, 1) := by decide +kernel
theorem d_law_1707 : decode code 1707 = .ok (.aload_n 0, 1) := by decide +kernel
theorem d_law_1708 : decode code 1708 = .ok (.iload_n 3, 1) := by decide +kernel
theorem d_law_1709 : decode code 1709 = .ok (.iconst 1, 1) := by decide +kernel
theorem d_law_1710 : decode code 1710 = .ok (.iadd, 1) := by decide +kernel
theorem d_law_1711 : decode code 1711 = .ok (.iaload, 1) := by decide +kernel
theorem d_law_1712 : decode code 1712 = .ok (.aload_n 0, 1) := by decide +kernel
theorem d_law_1713 : decode code 1713 = .ok (.iload_n 3, 1) := by decide +kernel
theorem d_law_1714 : decode code 1714 = .ok (.iconst 2, 1) := by decide +kernel
theorem d_law_1715 : decode code 1715 = .ok (.iadd, 1) := by decide +kernel
theorem d_law_1716 : decode code 1716 = .ok (.iaload, 1) := by decide +kernel
theorem d_law_1717 : decode code 1717 = .ok (.aload_n 0, 1) := by decide +kernel
theorem d_law_1718 : decode code 1718 = .ok (.iload_n 3, 1) := by decide +kernel
theorem d_law_1719 : decode code 1719 = .ok (.iconst 3, 1) := by decide +kernel
theorem d_law_1720 : decode code 1720 = .ok (.iadd, 1) := by decide +kernel
theorem d_law_1721 : decode code 1721 = .ok (.iaload, 1) := by decide +kernel
theorem d_law_1722 : decode code 1722 = .ok (.aload_n 0, 1) := by decide +kernel
theorem d_law_1723 : decode code 1723 = .ok (.iload_n 3, 1) := by decide +kernel
theorem d_law_1724 : decode code 1724 = .ok (.iconst 4, 1) := by decide +kernel
theorem d_law_1725 : decode code 1725 = .ok (.iadd, 1) := by decide +kernel
theorem d_law_1726 : decode code 1726 = .ok (.iaload, 1) := by decide +kernel
theorem d_law_1727 : decode code 1727 = .ok (.invokevirtual 156, 3) := by decide +kernel
theorem d_law_1730 : decode code 1730 = .ok (.if_icmp .eq 38, 3) := by decide +kernel
theorem d_law_1733 : decode code 1733 = .ok (.iconst 0, 1) := by decide +kernel
theorem d_law_1734 : decode code 1734 = .ok (.ireturn, 1) := by decide +kernel
theorem d_law_1735 : decode code 1735 = .ok (.aload_n 1, 1) := by decide +kernel
theorem d_law_1736 : decode code 1736 = .ok (.aload_n 0, 1) := by decide +kernel
theorem d_law_1737 : decode code 1737 = .ok (.iload_n 3, 1) := by decide +kernel
theorem d_law_1738 : decode code 1738 = .ok (.iconst 1, 1) := by decide +kernel
theorem d_law_1739 : decode code 1739 = .ok (.iadd, 1) := by decide +kernel
theorem d_law_1740 : decode code 1740 = .ok (.iaload, 1) := by decide +kernel
theorem d_law_1741 : decode code 1741 = .ok (.aload_n 0, 1) := by decide +kernel
theorem d_law_1742 : decode code 1742 = .ok (.iload_n 3, 1) := by decide +kernel
theorem d_law_1743 : decode code 1743 = .ok (.iconst 2, 1) := by decide +kernel
theorem d_law_1744 : decode code 1744 = .ok (.iadd, 1) := by decide +kernel
theorem d_law_1745 : decode code 1745 = .ok (.iaload, 1) := by decide +kernel
theorem d_law_1746 : decode code 1746 = .ok (.invokevirtual 157, 3) := by decide +kernel
theorem d_law_1749 : decode code 1749 = .ok (.aload_n 2, 1) := by decide +kernel
theorem d_law_1750 : decode code 1750 = .ok (.aload_n 0, 1) := by decide +kernel
theorem d_law_1751 : decode code 1751 = .ok (.iload_n 3, 1) := by decide +kernel
theorem d_law_1752 : decode code 1752 = .ok (.iconst 1, 1) := by decide +kernel
theorem d_law_1753 : decode code 1753 = .ok (.iadd, 1) := by decide +kernel
theorem d_law_1754 : decode code 1754 = .ok (.iaload, 1) := by decide +kernel
theorem d_law_1755 : decode code 1755 = .ok (.aload_n 0, 1) := by decide +kernel
theorem d_law_1756 : decode code 1756 = .ok (.iload_n 3, 1) := by decide +kernel
theorem d_law_1757 : decode code 1757 = .ok (.iconst 2, 1) := by decide +kernel
theorem d_law_1758 : decode code 1758 = .ok (.iadd, 1) := by decide +kernel
theorem d_law_1759 : decode code 1759 = .ok (.iaload, 1) := by decide +kernel
theorem d_law_1760 : decode code 1760 = .ok (.invokevirtual 160, 3) := by decide +kernel
theorem d_law_1763 : decode code 1763 = .ok (.if_icmp .eq 5, 3) := by decide +kernel
theorem d_law_1766 : decode code 1766 = .ok (.iconst 0, 1) := by decide +kernel
theorem d_law_1767 : decode code 1767 = .ok (.ireturn, 1) := by decide +kernel
theorem d_law_1768 : decode code 1768 = .ok (.iinc 3 (7), 3) := by decide +kernel
theorem d_law_1771 : decode code 1771 = .ok (.goto (-1753), 3) := by decide +kernel
theorem d_law_1774 : decode code 1774 = .ok (.iconst 1, 1) := by decide +kernel
theorem d_law_1775 : decode code 1775 = .ok (.ireturn, 1) := by decide +kernel
