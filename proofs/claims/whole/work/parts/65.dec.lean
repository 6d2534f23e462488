theorem dL_0 : decode code 0 = .ok (.new 7, 3) := by decide +kernel
theorem dL_3 : decode code 3 = .ok (.dup, 1) := by decide +kernel
theorem dL_4 : decode code 4 = .ok (.invokespecial 9, 3) := by decide +kernel
theorem dL_7 : decode code 7 = .ok (.astore_n 1, 1) := by decide +kernel
theorem dL_8 : decode code 8 = .ok (.new 10, 3) := by decide +kernel
theorem dL_11 : decode code 11 = .ok (.dup, 1) := by decide +kernel
theorem dL_12 : decode code 12 = .ok (.invokespecial 12, 3) := by decide +kernel
theorem dL_15 : decode code 15 = .ok (.astore_n 2, 1) := by decide +kernel
theorem dL_16 : decode code 16 = .ok (.iconst 0, 1) := by decide +kernel
theorem dL_17 : decode code 17 = .ok (.istore_n 3, 1) := by decide +kernel
theorem dL_18 : decode code 18 = .ok (.iload_n 3, 1) := by decide +kernel
theorem dL_19 : decode code 19 = .ok (.aload_n 0, 1) := by decide +kernel
theorem dL_20 : decode code 20 = .ok (.arraylength, 1) := by decide +kernel
theorem dL_21 : decode code 21 = .ok (.bipush 6, 2) := by decide +kernel
theorem dL_23 : decode code 23 = .ok (.isub, 1) := by decide +kernel
theorem dL_24 : decode code 24 = .ok (.if_icmp .gt 1229, 3) := by decide +kernel
theorem dL_27 : decode code 27 = .ok (.aload_n 0, 1) := by decide +kernel
theorem dL_28 : decode code 28 = .ok (.iload_n 3, 1) := by decide +kernel
theorem dL_29 : decode code 29 = .ok (.iaload, 1) := by decide +kernel
theorem dL_30 : decode code 30 = .ok (.bipush 63, 2) := by decide +kernel
theorem dL_32 : decode code 32 = .ok (.iand, 1) := by decide +kernel
theorem dL_33 : decode code 33 = .ok (.tableswitch 1214 0 33 #[151, 194, 237, 300, 323, 346, 359, 372, 385, 408, 451, 484, 517, 550, 583, 616, 649, 672, 715, 748, 791, 844, 897, 920, 943, 977, 1020, 1043, 1066, 1089, 1122, 1155, 1178, 1201], 151) := by decide +kernel
theorem dL_184 : decode code 184 = .ok (.aload_n 1, 1) := by decide +kernel
theorem dL_185 : decode code 185 = .ok (.aload_n 0, 1) := by decide +kernel
theorem dL_186 : decode code 186 = .ok (.iload_n 3, 1) := by decide +kernel
theorem dL_187 : decode code 187 = .ok (.iconst 1, 1) := by decide +kernel
theorem dL_188 : decode code 188 = .ok (.iadd, 1) := by decide +kernel
theorem dL_189 : decode code 189 = .ok (.iaload, 1) := by decide +kernel
theorem dL_190 : decode code 190 = .ok (.aload_n 0, 1) := by decide +kernel
theorem dL_191 : decode code 191 = .ok (.iload_n 3, 1) := by decide +kernel
theorem dL_192 : decode code 192 = .ok (.iconst 2, 1) := by decide +kernel
theorem dL_193 : decode code 193 = .ok (.iadd, 1) := by decide +kernel
theorem dL_194 : decode code 194 = .ok (.iaload, 1) := by decide +kernel
theorem dL_195 : decode code 195 = .ok (.aload_n 0, 1) := by decide +kernel
theorem dL_196 : decode code 196 = .ok (.iload_n 3, 1) := by decide +kernel
theorem dL_197 : decode code 197 = .ok (.iconst 3, 1) := by decide +kernel
theorem dL_198 : decode code 198 = .ok (.iadd, 1) := by decide +kernel
theorem dL_199 : decode code 199 = .ok (.iaload, 1) := by decide +kernel
theorem dL_200 : decode code 200 = .ok (.invokevirtual 13, 3) := by decide +kernel
theorem dL_203 : decode code 203 = .ok (.aload_n 2, 1) := by decide +kernel
theorem dL_204 : decode code 204 = .ok (.aload_n 0, 1) := by decide +kernel
theorem dL_205 : decode code 205 = .ok (.iload_n 3, 1) := by decide +kernel
theorem dL_206 : decode code 206 = .ok (.iconst 1, 1) := by decide +kernel
theorem dL_207 : decode code 207 = .ok (.iadd, 1) := by decide +kernel
theorem dL_208 : decode code 208 = .ok (.iaload, 1) := by decide +kernel
theorem dL_209 : decode code 209 = .ok (.aload_n 0, 1) := by decide +kernel
theorem dL_210 : decode code 210 = .ok (.iload_n 3, 1) := by decide +kernel
theorem dL_211 : decode code 211 = .ok (.iconst 2, 1) := by decide +kernel
theorem dL_212 : decode code 212 = .ok (.iadd, 1) := by decide +kernel
theorem dL_213 : decode code 213 = .ok (.iaload, 1) := by decide +kernel
theorem dL_214 : decode code 214 = .ok (.aload_n 0, 1) := by decide +kernel
theorem dL_215 : decode code 215 = .ok (.iload_n 3, 1) := by decide +kernel
theorem dL_216 : decode code 216 = .ok (.iconst 3, 1) := by decide +kernel
theorem dL_217 : decode code 217 = .ok (.iadd, 1) := by decide +kernel
theorem dL_218 : decode code 218 = .ok (.iaload, 1) := by decide +kernel
theorem dL_219 : decode code 219 = .ok (.invokevirtual 17, 3) := by decide +kernel
theorem dL_222 : decode code 222 = .ok (.if_icmp .eq 1025, 3) := by decide +kernel
theorem dL_225 : decode code 225 = .ok (.iconst 0, 1) := by decide +kernel
theorem dL_226 : decode code 226 = .ok (.ireturn, 1) := by decide +kernel
theorem dL_227 : decode code 227 = .ok (.aload_n 1, 1) := by decide +kernel
theorem dL_228 : decode code 228 = .ok (.aload_n 0, 1) := by decide +kernel
theorem dL_229 : decode code 229 = .ok (.iload_n 3, 1) := by decide +kernel
theorem dL_230 : decode code 230 = .ok (.iconst 1, 1) := by decide +kernel
theorem dL_231 : decode code 231 = .ok (.iadd, 1) := by decide +kernel
theorem dL_232 : decode code 232 = .ok (.iaload, 1) := by decide +kernel
theorem dL_233 : decode code 233 = .ok (.aload_n 0, 1) := by decide +kernel
theorem dL_234 : decode code 234 = .ok (.iload_n 3, 1) := by decide +kernel
theorem dL_235 : decode code 235 = .ok (.iconst 2, 1) := by decide +kernel
theorem dL_236 : decode code 236 = .ok (.iadd, 1) := by decide +kernel
theorem dL_237 : decode code 237 = .ok (.iaload, 1) := by decide +kernel
theorem dL_238 : decode code 238 = .ok (.aload_n 0, 1) := by decide +kernel
theorem dL_239 : decode code 239 = .ok (.iload_n 3, 1) := by decide +kernel
theorem dL_240 : decode code 240 = .ok (.iconst 3, 1) := by decide +kernel
theorem dL_241 : decode code 241 = .ok (.iadd, 1) := by decide +kernel
theorem dL_242 : decode code 242 = .ok (.iaload, 1) := by decide +kernel
theorem dL_243 : decode code 243 = .ok (.invokevirtual 18, 3) := by decide +kernel
theorem dL_246 : decode code 246 = .ok (.aload_n 2, 1) := by decide +kernel
theorem dL_247 : decode code 247 = .ok (.aload_n 0, 1) := by decide +kernel
theorem dL_248 : decode code 248 = .ok (.iload_n 3, 1) := by decide +kernel
theorem dL_249 : decode code 249 = .ok (.iconst 1, 1) := by decide +kernel
theorem dL_250 : decode code 250 = .ok (.iadd, 1) := by decide +kernel
theorem dL_251 : decode code 251 = .ok (.iaload, 1) := by decide +kernel
theorem dL_252 : decode code 252 = .ok (.aload_n 0, 1) := by decide +kernel
theorem dL_253 : decode code 253 = .ok (.iload_n 3, 1) := by decide +kernel
theorem dL_254 : decode code 254 = .ok (.iconst 2, 1) := by decide +kernel
theorem dL_255 : decode code 255 = .ok (.iadd, 1) := by decide +kernel
theorem dL_256 : decode code 256 = .ok (.iaload, 1) := by decide +kernel
theorem dL_257 : decode code 257 = .ok (.aload_n 0, 1) := by decide +kernel
theorem dL_258 : decode code 258 = .ok (.iload_n 3, 1) := by decide +kernel
theorem dL_259 : decode code 259 = .ok (.iconst 3, 1) := by decide +kernel
theorem dL_260 : decode code 260 = .ok (.iadd, 1) := by decide +kernel
theorem dL_261 : decode code 261 = .ok (.iaload, 1) := by decide +kernel
theorem dL_262 : decode code 262 = .ok (.invokevirtual 21, 3) := by decide +kernel
theorem dL_265 : decode code 265 = .ok (.if_icmp .eq 982, 3) := by decide +kernel
theorem dL_268 : decode code 268 = .ok (.iconst 0, 1) := by decide +kernel
theorem dL_269 : decode code 269 = .ok (.ireturn, 1) := by decide +kernel
theorem dL_270 : decode code 270 = .ok (.aload_n 1, 1) := by decide +kernel
theorem dL_271 : decode code 271 = .ok (.aload_n 0, 1) := by decide +kernel
theorem dL_272 : decode code 272 = .ok (.iload_n 3, 1) := by decide +kernel
theorem dL_273 : decode code 273 = .ok (.iconst 1, 1) := by decide +kernel
theorem dL_274 : decode code 274 = .ok (.iadd, 1) := by decide +kernel
theorem dL_275 : decode code 275 = .ok (.iaload, 1) := by decide +kernel
theorem dL_276 : decode code 276 = .ok (.aload_n 0, 1) := by decide +kernel
theorem dL_277 : decode code 277 = .ok (.iload_n 3, 1) := by decide +kernel
theorem dL_278 : decode code 278 = .ok (.iconst 2, 1) := by decide +kernel
theorem dL_279 : decode code 279 = .ok (.iadd, 1) := by decide +kernel
theorem dL_280 : decode code 280 = .ok (.iaload, 1) := by decide +kernel
theorem dL_281 : decode code 281 = .ok (.aload_n 0, 1) := by decide +kernel
theorem dL_282 : decode code 282 = .ok (.iload_n 3, 1) := by decide +kernel
theorem dL_283 : decode code 283 = .ok (.iconst 3, 1) := by decide +kernel
theorem dL_284 : decode code 284 = .ok (.iadd, 1) := by decide +kernel
theorem dL_285 : decode code 285 = .ok (.iaload, 1) := by decide +kernel
theorem dL_286 : decode code 286 = .ok (.aload_n 0, 1) := by decide +kernel
theorem dL_287 : decode code 287 = .ok (.iload_n 3, 1) := by decide +kernel
theorem dL_288 : decode code 288 = .ok (.iconst 4, 1) := by decide +kernel
theorem dL_289 : decode code 289 = .ok (.iadd, 1) := by decide +kernel
theorem dL_290 : decode code 290 = .ok (.iaload, 1) := by decide +kernel
theorem dL_291 : decode code 291 = .ok (.aload_n 0, 1) := by decide +kernel
theorem dL_292 : decode code 292 = .ok (.iload_n 3, 1) := by decide +kernel
theorem dL_293 : decode code 293 = .ok (.iconst 5, 1) := by decide +kernel
theorem dL_294 : decode code 294 = .ok (.iadd, 1) := by decide +kernel
theorem dL_295 : decode code 295 = .ok (.iaload, 1) := by decide +kernel
theorem dL_296 : decode code 296 = .ok (.invokevirtual 22, 3) := by decide +kernel
theorem dL_299 : decode code 299 = .ok (.aload_n 2, 1) := by decide +kernel
theorem dL_300 : decode code 300 = .ok (.aload_n 0, 1) := by decide +kernel
theorem dL_301 : decode code 301 = .ok (.iload_n 3, 1) := by decide +kernel
theorem dL_302 : decode code 302 = .ok (.iconst 1, 1) := by decide +kernel
theorem dL_303 : decode code 303 = .ok (.iadd, 1) := by decide +kernel
theorem dL_304 : decode code 304 = .ok (.iaload, 1) := by decide +kernel
theorem dL_305 : decode code 305 = .ok (.aload_n 0, 1) := by decide +kernel
theorem dL_306 : decode code 306 = .ok (.iload_n 3, 1) := by decide +kernel
theorem dL_307 : decode code 307 = .ok (.iconst 2, 1) := by decide +kernel
theorem dL_308 : decode code 308 = .ok (.iadd, 1) := by decide +kernel
theorem dL_309 : decode code 309 = .ok (.iaload, 1) := by decide +kernel
theorem dL_310 : decode code 310 = .ok (.aload_n 0, 1) := by decide +kernel
theorem dL_311 : decode code 311 = .ok (.iload_n 3, 1) := by decide +kernel
theorem dL_312 : decode code 312 = .ok (.iconst 3, 1) := by decide +kernel
theorem dL_313 : decode code 313 = .ok (.iadd, 1) := by decide +kernel
theorem dL_314 : decode code 314 = .ok (.iaload, 1) := by decide +kernel
theorem dL_315 : decode code 315 = .ok (.aload_n 0, 1) := by decide +kernel
theorem dL_316 : decode code 316 = .ok (.iload_n 3, 1) := by decide +kernel
theorem dL_317 : decode code 317 = .ok (.iconst 4, 1) := by decide +kernel
theorem dL_318 : decode code 318 = .ok (.iadd, 1) := by decide +kernel
theorem dL_319 : decode code 319 = .ok (.iaload, 1) := by decide +kernel
theorem dL_320 : decode code 320 = .ok (.aload_n 0, 1) := by decide +kernel
theorem dL_321 : decode code 321 = .ok (.iload_n 3, 1) := by decide +kernel
theorem dL_322 : decode code 322 = .ok (.iconst 5, 1) := by decide +kernel
theorem dL_323 : decode code 323 = .ok (.iadd, 1) := by decide +kernel
theorem dL_324 : decode code 324 = .ok (.iaload, 1) := by decide +kernel
theorem dL_325 : decode code 325 = .ok (.invokevirtual 26, 3) := by decide +kernel
theorem dL_328 : decode code 328 = .ok (.if_icmp .eq 919, 3) := by decide +kernel
theorem dL_331 : decode code 331 = .ok (.iconst 0, 1) := by decide +kernel
theorem dL_332 : decode code 332 = .ok (.ireturn, 1) := by decide +kernel
theorem dL_333 : decode code 333 = .ok (.aload_n 1, 1) := by decide +kernel
theorem dL_334 : decode code 334 = .ok (.aload_n 0, 1) := by decide +kernel
theorem dL_335 : decode code 335 = .ok (.iload_n 3, 1) := by decide +kernel
theorem dL_336 : decode code 336 = .ok (.iconst 1, 1) := by decide +kernel
theorem dL_337 : decode code 337 = .ok (.iadd, 1) := by decide +kernel
theorem dL_338 : decode code 338 = .ok (.iaload, 1) := by decide +kernel
theorem dL_339 : decode code 339 = .ok (.invokevirtual 27, 3) := by decide +kernel
theorem dL_342 : decode code 342 = .ok (.aload_n 2, 1) := by decide +kernel
theorem dL_343 : decode code 343 = .ok (.aload_n 0, 1) := by decide +kernel
theorem dL_344 : decode code 344 = .ok (.iload_n 3, 1) := by decide +kernel
theorem dL_345 : decode code 345 = .ok (.iconst 1, 1) := by decide +kernel
theorem dL_346 : decode code 346 = .ok (.iadd, 1) := by decide +kernel
theorem dL_347 : decode code 347 = .ok (.iaload, 1) := by decide +kernel
theorem dL_348 : decode code 348 = .ok (.invokevirtual 31, 3) := by decide +kernel
theorem dL_351 : decode code 351 = .ok (.if_icmp .eq 896, 3) := by decide +kernel
theorem dL_354 : decode code 354 = .ok (.iconst 0, 1) := by decide +kernel
theorem dL_355 : decode code 355 = .ok (.ireturn, 1) := by decide +kernel
theorem dL_356 : decode code 356 = .ok (.aload_n 1, 1) := by decide +kernel
theorem dL_357 : decode code 357 = .ok (.aload_n 0, 1) := by decide +kernel
theorem dL_358 : decode code 358 = .ok (.iload_n 3, 1) := by decide +kernel
theorem dL_359 : decode code 359 = .ok (.iconst 1, 1) := by decide +kernel
theorem dL_360 : decode code 360 = .ok (.iadd, 1) := by decide +kernel
theorem dL_361 : decode code 361 = .ok (.iaload, 1) := by decide +kernel
theorem dL_362 : decode code 362 = .ok (.invokevirtual 32, 3) := by decide +kernel
theorem dL_365 : decode code 365 = .ok (.aload_n 2, 1) := by decide +kernel
theorem dL_366 : decode code 366 = .ok (.aload_n 0, 1) := by decide +kernel
theorem dL_367 : decode code 367 = .ok (.iload_n 3, 1) := by decide +kernel
theorem dL_368 : decode code 368 = .ok (.iconst 1, 1) := by decide +kernel
theorem dL_369 : decode code 369 = .ok (.iadd, 1) := by decide +kernel
theorem dL_370 : decode code 370 = .ok (.iaload, 1) := by decide +kernel
theorem dL_371 : decode code 371 = .ok (.invokevirtual 35, 3) := by decide +kernel
theorem dL_374 : decode code 374 = .ok (.if_icmp .eq 873, 3) := by decide +kernel
theorem dL_377 : decode code 377 = .ok (.iconst 0, 1) := by decide +kernel
theorem dL_378 : decode code 378 = .ok (.ireturn, 1) := by decide +kernel
theorem dL_379 : decode code 379 = .ok (.aload_n 1, 1) := by decide +kernel
theorem dL_380 : decode code 380 = .ok (.invokevirtual 36, 3) := by decide +kernel
theorem dL_383 : decode code 383 = .ok (.aload_n 2, 1) := by decide +kernel
theorem dL_384 : decode code 384 = .ok (.invokevirtual 40, 3) := by decide +kernel
theorem dL_387 : decode code 387 = .ok (.if_icmp .eq 860, 3) := by decide +kernel
theorem dL_390 : decode code 390 = .ok (.iconst 0, 1) := by decide +kernel
theorem dL_391 : decode code 391 = .ok (.ireturn, 1) := by decide +kernel
theorem dL_392 : decode code 392 = .ok (.aload_n 1, 1) := by decide +kernel
theorem dL_393 : decode code 393 = .ok (.invokevirtual 41, 3) := by decide +kernel
theorem dL_396 : decode code 396 = .ok (.aload_n 2, 1) := by decide +kernel
theorem dL_397 : decode code 397 = .ok (.invokevirtual 44, 3) := by decide +kernel
theorem dL_400 : decode code 400 = .ok (.if_icmp .eq 847, 3) := by decide +kernel
theorem dL_403 : decode code 403 = .ok (.iconst 0, 1) := by decide +kernel
theorem dL_404 : decode code 404 = .ok (.ireturn, 1) := by decide +kernel
theorem dL_405 : decode code 405 = .ok (.aload_n 1, 1) := by decide +kernel
theorem dL_406 : decode code 406 = .ok (.invokevirtual 45, 3) := by decide +kernel
theorem dL_409 : decode code 409 = .ok (.aload_n 2, 1) := by decide +kernel
theorem dL_410 : decode code 410 = .ok (.invokevirtual 48, 3) := by decide +kernel
theorem dL_413 : decode code 413 = .ok (.if_icmp .eq 834, 3) := by decide +kernel
theorem dL_416 : decode code 416 = .ok (.iconst 0, 1) := by decide +kernel
theorem dL_417 : decode code 417 = .ok (.ireturn, 1) := by decide +kernel
theorem dL_418 : decode code 418 = .ok (.aload_n 1, 1) := by decide +kernel
theorem dL_419 : decode code 419 = .ok (.aload_n 0, 1) := by decide +kernel
theorem dL_420 : decode code 420 = .ok (.iload_n 3, 1) := by decide +kernel
theorem dL_421 : decode code 421 = .ok (.iconst 1, 1) := by decide +kernel
theorem dL_422 : decode code 422 = .ok (.iadd, 1) := by decide +kernel
theorem dL_423 : decode code 423 = .ok (.iaload, 1) := by decide +kernel
theorem dL_424 : decode code 424 = .ok (.invokevirtual 49, 3) := by decide +kernel
theorem dL_427 : decode code 427 = .ok (.aload_n 2, 1) := by decide +kernel
theorem dL_428 : decode code 428 = .ok (.aload_n 0, 1) := by decide +kernel
theorem dL_429 : decode code 429 = .ok (.iload_n 3, 1) := by decide +kernel
theorem dL_430 : decode code 430 = .ok (.iconst 1, 1) := by decide +kernel
theorem dL_431 : decode code 431 = .ok (.iadd, 1) := by decide +kernel
theorem dL_432 : decode code 432 = .ok (.iaload, 1) := by decide +kernel
theorem dL_433 : decode code 433 = .ok (.invokevirtual 52, 3) := by decide +kernel
theorem dL_436 : decode code 436 = .ok (.if_icmp .eq 811, 3) := by decide +kernel
theorem dL_439 : decode code 439 = .ok (.iconst 0, 1) := by decide +kernel
theorem dL_440 : decode code 440 = .ok (.ireturn, 1) := by decide +kernel
theorem dL_441 : decode code 441 = .ok (.aload_n 1, 1) := by decide +kernel
theorem dL_442 : decode code 442 = .ok (.aload_n 0, 1) := by decide +kernel
theorem dL_443 : decode code 443 = .ok (.iload_n 3, 1) := by decide +kernel
theorem dL_444 : decode code 444 = .ok (.iconst 1, 1) := by decide +kernel
theorem dL_445 : decode code 445 = .ok (.iadd, 1) := by decide +kernel
theorem dL_446 : decode code 446 = .ok (.iaload, 1) := by decide +kernel
theorem dL_447 : decode code 447 = .ok (.aload_n 0, 1) := by decide +kernel
theorem dL_448 : decode code 448 = .ok (.iload_n 3, 1) := by decide +kernel
theorem dL_449 : decode code 449 = .ok (.iconst 2, 1) := by decide +kernel
theorem dL_450 : decode code 450 = .ok (.iadd, 1) := by decide +kernel
theorem dL_451 : decode code 451 = .ok (.iaload, 1) := by decide +kernel
theorem dL_452 : decode code 452 = .ok (.aload_n 0, 1) := by decide +kernel
theorem dL_453 : decode code 453 = .ok (.iload_n 3, 1) := by decide +kernel
theorem dL_454 : decode code 454 = .ok (.iconst 3, 1) := by decide +kernel
theorem dL_455 : decode code 455 = .ok (.iadd, 1) := by decide +kernel
theorem dL_456 : decode code 456 = .ok (.iaload, 1) := by decide +kernel
theorem dL_457 : decode code 457 = .ok (.invokevirtual 53, 3) := by decide +kernel
theorem dL_460 : decode code 460 = .ok (.aload_n 2, 1) := by decide +kernel
theorem dL_461 : decode code 461 = .ok (.aload_n 0, 1) := by decide +kernel
theorem dL_462 : decode code 462 = .ok (.iload_n 3, 1) := by decide +kernel
theorem dL_463 : decode code 463 = .ok (.iconst 1, 1) := by decide +kernel
theorem dL_464 : decode code 464 = .ok (.iadd, 1) := by decide +kernel
theorem dL_465 : decode code 465 = .ok (.iaload, 1) := by decide +kernel
theorem dL_466 : decode code 466 = .ok (.aload_n 0, 1) := by decide +kernel
theorem dL_467 : decode code 467 = .ok (.iload_n 3, 1) := by decide +kernel
theorem dL_468 : decode code 468 = .ok (.iconst 2, 1) := by decide +kernel
theorem dL_469 : decode code 469 = .ok (.iadd, 1) := by decide +kernel
theorem dL_470 : decode code 470 = .ok (.iaload, 1) := by decide +kernel
theorem dL_471 : decode code 471 = .ok (.aload_n 0, 1) := by decide +kernel
theorem dL_472 : decode code 472 = .ok (.iload_n 3, 1) := by decide +kernel
theorem dL_473 : decode code 473 = .ok (.iconst 3, 1) := by decide +kernel
theorem dL_474 : decode code 474 = .ok (.iadd, 1) := by decide +kernel
theorem dL_475 : decode code 475 = .ok (.iaload, 1) := by decide +kernel
theorem dL_476 : decode code 476 = .ok (.invokevirtual 56, 3) := by decide +kernel
theorem dL_479 : decode code 479 = .ok (.if_icmp .eq 768, 3) := by decide +kernel
theorem dL_482 : decode code 482 = .ok (.iconst 0, 1) := by decide +kernel
theorem dL_483 : decode code 483 = .ok (.ireturn, 1) := by decide +kernel
theorem dL_484 : decode code 484 = .ok (.aload_n 1, 1) := by decide +kernel
theorem dL_485 : decode code 485 = .ok (.aload_n 0, 1) := by decide +kernel
theorem dL_486 : decode code 486 = .ok (.iload_n 3, 1) := by decide +kernel
theorem dL_487 : decode code 487 = .ok (.iconst 1, 1) := by decide +kernel
theorem dL_488 : decode code 488 = .ok (.iadd, 1) := by decide +kernel
theorem dL_489 : decode code 489 = .ok (.iaload, 1) := by decide +kernel
theorem dL_490 : decode code 490 = .ok (.aload_n 0, 1) := by decide +kernel
theorem dL_491 : decode code 491 = .ok (.iload_n 3, 1) := by decide +kernel
theorem dL_492 : decode code 492 = .ok (.iconst 2, 1) := by decide +kernel
theorem dL_493 : decode code 493 = .ok (.iadd, 1) := by decide +kernel
theorem dL_494 : decode code 494 = .ok (.iaload, 1) := by decide +kernel
theorem dL_495 : decode code 495 = .ok (.invokevirtual 57, 3) := by decide +kernel
theorem dL_498 : decode code 498 = .ok (.aload_n 2, 1) := by decide +kernel
theorem dL_499 : decode code 499 = .ok (.aload_n 0, 1) := by decide +kernel
theorem dL_500 : decode code 500 = .ok (.iload_n 3, 1) := by decide +kernel
theorem dL_501 : decode code 501 = .ok (.iconst 1, 1) := by decide +kernel
theorem dL_502 : decode code 502 = .ok (.iadd, 1) := by decide +kernel
theorem dL_503 : decode code 503 = .ok (.iaload, 1) := by decide +kernel
theorem dL_504 : decode code 504 = .ok (.aload_n 0, 1) := by decide +kernel
theorem dL_505 : decode code 505 = .ok (.iload_n 3, 1) := by decide +kernel
theorem dL_506 : decode code 506 = .ok (.iconst 2, 1) := by decide +kernel
theorem dL_507 : decode code 507 = .ok (.iadd, 1) := by decide +kernel
theorem dL_508 : decode code 508 = .ok (.iaload, 1) := by decide +kernel
theorem dL_509 : decode code 509 = .ok (.invokevirtual 61, 3) := by decide +kernel
theorem dL_512 : decode code 512 = .ok (.if_icmp .eq 735, 3) := by decide +kernel
theorem dL_515 : decode code 515 = .ok (.iconst 0, 1) := by decide +kernel
theorem dL_516 : decode code 516 = .ok (.ireturn, 1) := by decide +kernel
theorem dL_517 : decode code 517 = .ok (.aload_n 1, 1) := by decide +kernel
theorem dL_518 : decode code 518 = .ok (.aload_n 0, 1) := by decide +kernel
theorem dL_519 : decode code 519 = .ok (.iload_n 3, 1) := by decide +kernel
theorem dL_520 : decode code 520 = .ok (.iconst 1, 1) := by decide +kernel
theorem dL_521 : decode code 521 = .ok (.iadd, 1) := by decide +kernel
theorem dL_522 : decode code 522 = .ok (.iaload, 1) := by decide +kernel
theorem dL_523 : decode code 523 = .ok (.aload_n 0, 1) := by decide +kernel
theorem dL_524 : decode code 524 = .ok (.iload_n 3, 1) := by decide +kernel
theorem dL_525 : decode code 525 = .ok (.iconst 2, 1) := by decide +kernel
theorem dL_526 : decode code 526 = .ok (.iadd, 1) := by decide +kernel
theorem dL_527 : decode code 527 = .ok (.iaload, 1) := by decide +kernel
theorem dL_528 : decode code 528 = .ok (.invokevirtual 62, 3) := by decide +kernel
theorem dL_531 : decode code 531 = .ok (.aload_n 2, 1) := by decide +kernel
theorem dL_532 : decode code 532 = .ok (.aload_n 0, 1) := by decide +kernel
theorem dL_533 : decode code 533 = .ok (.iload_n 3, 1) := by decide +kernel
theorem dL_534 : decode code 534 = .ok (.iconst 1, 1) := by decide +kernel
theorem dL_535 : decode code 535 = .ok (.iadd, 1) := by decide +kernel
theorem dL_536 : decode code 536 = .ok (.iaload, 1) := by decide +kernel
theorem dL_537 : decode code 537 = .ok (.aload_n 0, 1) := by decide +kernel
theorem dL_538 : decode code 538 = .ok (.iload_n 3, 1) := by decide +kernel
theorem dL_539 : decode code 539 = .ok (.iconst 2, 1) := by decide +kernel
theorem dL_540 : decode code 540 = .ok (.iadd, 1) := by decide +kernel
theorem dL_541 : decode code 541 = .ok (.iaload, 1) := by decide +kernel
theorem dL_542 : decode code 542 = .ok (.invokevirtual 65, 3) := by decide +kernel
theorem dL_545 : decode code 545 = .ok (.if_icmp .eq 702, 3) := by decide +kernel
theorem dL_548 : decode code 548 = .ok (.iconst 0, 1) := by decide +kernel
theorem dL_549 : decode code 549 = .ok (.ireturn, 1) := by decide +kernel
theorem dL_550 : decode code 550 = .ok (.aload_n 1, 1) := by decide +kernel
theorem dL_551 : decode code 551 = .ok (.aload_n 0, 1) := by decide +kernel
theorem dL_552 : decode code 552 = .ok (.iload_n 3, 1) := by decide +kernel
theorem dL_553 : decode code 553 = .ok (.iconst 1, 1) := by decide +kernel
theorem dL_554 : decode code 554 = .ok (.iadd, 1) := by decide +kernel
theorem dL_555 : decode code 555 = .ok (.iaload, 1) := by decide +kernel
theorem dL_556 : decode code 556 = .ok (.aload_n 0, 1) := by decide +kernel
theorem dL_557 : decode code 557 = .ok (.iload_n 3, 1) := by decide +kernel
theorem dL_558 : decode code 558 = .ok (.iconst 2, 1) := by decide +kernel
theorem dL_559 : decode code 559 = .ok (.iadd, 1) := by decide +kernel
theorem dL_560 : decode code 560 = .ok (.iaload, 1) := by decide +kernel
theorem dL_561 : decode code 561 = .ok (.invokevirtual 66, 3) := by decide +kernel
theorem dL_564 : decode code 564 = .ok (.aload_n 2, 1) := by decide +kernel
theorem dL_565 : decode code 565 = .ok (.aload_n 0, 1) := by decide +kernel
theorem dL_566 : decode code 566 = .ok (.iload_n 3, 1) := by decide +kernel
theorem dL_567 : decode code 567 = .ok (.iconst 1, 1) := by decide +kernel
theorem dL_568 : decode code 568 = .ok (.iadd, 1) := by decide +kernel
theorem dL_569 : decode code 569 = .ok (.iaload, 1) := by decide +kernel
theorem dL_570 : decode code 570 = .ok (.aload_n 0, 1) := by decide +kernel
theorem dL_571 : decode code 571 = .ok (.iload_n 3, 1) := by decide +kernel
theorem dL_572 : decode code 572 = .ok (.iconst 2, 1) := by decide +kernel
theorem dL_573 : decode code 573 = .ok (.iadd, 1) := by decide +kernel
theorem dL_574 : decode code 574 = .ok (.iaload, 1) := by decide +kernel
theorem dL_575 : decode code 575 = .ok (.invokevirtual 69, 3) := by decide +kernel
theorem dL_578 : decode code 578 = .ok (.if_icmp .eq 669, 3) := by decide +kernel
theorem dL_581 : decode code 581 = .ok (.iconst 0, 1) := by decide +kernel
theorem dL_582 : decode code 582 = .ok (.ireturn, 1) := by decide +kernel
theorem dL_583 : decode code 583 = .ok (.aload_n 1, 1) := by decide +kernel
theorem dL_584 : decode code 584 = .ok (.aload_n 0, 1) := by decide +kernel
theorem dL_585 : decode code 585 = .ok (.iload_n 3, 1) := by decide +kernel
theorem dL_586 : decode code 586 = .ok (.iconst 1, 1) := by decide +kernel
theorem dL_587 : decode code 587 = .ok (.iadd, 1) := by decide +kernel
theorem dL_588 : decode code 588 = .ok (.iaload, 1) := by decide +kernel
theorem dL_589 : decode code 589 = .ok (.aload_n 0, 1) := by decide +kernel
theorem dL_590 : decode code 590 = .ok (.iload_n 3, 1) := by decide +kernel
theorem dL_591 : decode code 591 = .ok (.iconst 2, 1) := by decide +kernel
theorem dL_592 : decode code 592 = .ok (.iadd, 1) := by decide +kernel
theorem dL_593 : decode code 593 = .ok (.iaload, 1) := by decide +kernel
theorem dL_594 : decode code 594 = .ok (.invokevirtual 70, 3) := by decide +kernel
theorem dL_597 : decode code 597 = .ok (.aload_n 2, 1) := by decide +kernel
theorem dL_598 : decode code 598 = .ok (.aload_n 0, 1) := by decide +kernel
theorem dL_599 : decode code 599 = .ok (.iload_n 3, 1) := by decide +kernel
theorem dL_600 : decode code 600 = .ok (.iconst 1, 1) := by decide +kernel
theorem dL_601 : decode code 601 = .ok (.iadd, 1) := by decide +kernel
theorem dL_602 : decode code 602 = .ok (.iaload, 1) := by decide +kernel
theorem dL_603 : decode code 603 = .ok (.aload_n 0, 1) := by decide +kernel
theorem dL_604 : decode code 604 = .ok (.iload_n 3, 1) := by decide +kernel
theorem dL_605 : decode code 605 = .ok (.iconst 2, 1) := by decide +kernel
theorem dL_606 : decode code 606 = .ok (.iadd, 1) := by decide +kernel
theorem dL_607 : decode code 607 = .ok (.iaload, 1) := by decide +kernel
theorem dL_608 : decode code 608 = .ok (.invokevirtual 73, 3) := by decide +kernel
theorem dL_611 : decode code 611 = .ok (.if_icmp .eq 636, 3) := by decide +kernel
theorem dL_614 : decode code 614 = .ok (.iconst 0, 1) := by decide +kernel
theorem dL_615 : decode code 615 = .ok (.ireturn, 1) := by decide +kernel
theorem dL_616 : decode code 616 = .ok (.aload_n 1, 1) := by decide +kernel
theorem dL_617 : decode code 617 = .ok (.aload_n 0, 1) := by decide +kernel
theorem dL_618 : decode code 618 = .ok (.iload_n 3, 1) := by decide +kernel
theorem dL_619 : decode code 619 = .ok (.iconst 1, 1) := by decide +kernel
theorem dL_620 : decode code 620 = .ok (.iadd, 1) := by decide +kernel
theorem dL_621 : decode code 621 = .ok (.iaload, 1) := by decide +kernel
theorem dL_622 : decode code 622 = .ok (.aload_n 0, 1) := by decide +kernel
theorem dL_623 : decode code 623 = .ok (.iload_n 3, 1) := by decide +kernel
theorem dL_624 : decode code 624 = .ok (.iconst 2, 1) := by decide +kernel
theorem dL_625 : decode code 625 = .ok (.iadd, 1) := by decide +kernel
theorem dL_626 : decode code 626 = .ok (.iaload, 1) := by decide +kernel
theorem dL_627 : decode code 627 = .ok (.invokevirtual 74, 3) := by decide +kernel
theorem dL_630 : decode code 630 = .ok (.aload_n 2, 1) := by decide +kernel
theorem dL_631 : decode code 631 = .ok (.aload_n 0, 1) := by decide +kernel
theorem dL_632 : decode code 632 = .ok (.iload_n 3, 1) := by decide +kernel
theorem dL_633 : decode code 633 = .ok (.iconst 1, 1) := by decide +kernel
theorem dL_634 : decode code 634 = .ok (.iadd, 1) := by decide +kernel
theorem dL_635 : decode code 635 = .ok (.iaload, 1) := by decide +kernel
theorem dL_636 : decode code 636 = .ok (.aload_n 0, 1) := by decide +kernel
theorem dL_637 : decode code 637 = .ok (.iload_n 3, 1) := by decide +kernel
theorem dL_638 : decode code 638 = .ok (.iconst 2, 1) := by decide +kernel
theorem dL_639 : decode code 639 = .ok (.iadd, 1) := by decide +kernel
theorem dL_640 : decode code 640 = .ok (.iaload, 1) := by decide +kernel
theorem dL_641 : decode code 641 = .ok (.invokevirtual 77, 3) := by decide +kernel
theorem dL_644 : decode code 644 = .ok (.if_icmp .eq 603, 3) := by decide +kernel
theorem dL_647 : decode code 647 = .ok (.iconst 0, 1) := by decide +kernel
theorem dL_648 : decode code 648 = .ok (.ireturn, 1) := by decide +kernel
theorem dL_649 : decode code 649 = .ok (.aload_n 1, 1) := by decide +kernel
theorem dL_650 : decode code 650 = .ok (.aload_n 0, 1) := by decide +kernel
theorem dL_651 : decode code 651 = .ok (.iload_n 3, 1) := by decide +kernel
theorem dL_652 : decode code 652 = .ok (.iconst 1, 1) := by decide +kernel
theorem dL_653 : decode code 653 = .ok (.iadd, 1) := by decide +kernel
theorem dL_654 : decode code 654 = .ok (.iaload, 1) := by decide +kernel
theorem dL_655 : decode code 655 = .ok (.aload_n 0, 1) := by decide +kernel
theorem dL_656 : decode code 656 = .ok (.iload_n 3, 1) := by decide +kernel
theorem dL_657 : decode code 657 = .ok (.iconst 2, 1) := by decide +kernel
theorem dL_658 : decode code 658 = .ok (.iadd, 1) := by decide +kernel
theorem dL_659 : decode code 659 = .ok (.iaload, 1) := by decide +kernel
theorem dL_660 : decode code 660 = .ok (.invokevirtual 78, 3) := by decide +kernel
theorem dL_663 : decode code 663 = .ok (.aload_n 2, 1) := by decide +kernel
theorem dL_664 : decode code 664 = .ok (.aload_n 0, 1) := by decide +kernel
theorem dL_665 : decode code 665 = .ok (.iload_n 3, 1) := by decide +kernel
theorem dL_666 : decode code 666 = .ok (.iconst 1, 1) := by decide +kernel
theorem dL_667 : decode code 667 = .ok (.iadd, 1) := by decide +kernel
theorem dL_668 : decode code 668 = .ok (.iaload, 1) := by decide +kernel
theorem dL_669 : decode code 669 = .ok (.aload_n 0, 1) := by decide +kernel
theorem dL_670 : decode code 670 = .ok (.iload_n 3, 1) := by decide +kernel
theorem dL_671 : decode code 671 = .ok (.iconst 2, 1) := by decide +kernel
theorem dL_672 : decode code 672 = .ok (.iadd, 1) := by decide +kernel
theorem dL_673 : decode code 673 = .ok (.iaload, 1) := by decide +kernel
theorem dL_674 : decode code 674 = .ok (.invokevirtual 81, 3) := by decide +kernel
theorem dL_677 : decode code 677 = .ok (.if_icmp .eq 570, 3) := by decide +kernel
theorem dL_680 : decode code 680 = .ok (.iconst 0, 1) := by decide +kernel
theorem dL_681 : decode code 681 = .ok (.ireturn, 1) := by decide +kernel
theorem dL_682 : decode code 682 = .ok (.aload_n 1, 1) := by decide +kernel
theorem dL_683 : decode code 683 = .ok (.aload_n 0, 1) := by decide +kernel
theorem dL_684 : decode code 684 = .ok (.iload_n 3, 1) := by decide +kernel
theorem dL_685 : decode code 685 = .ok (.iconst 1, 1) := by decide +kernel
theorem dL_686 : decode code 686 = .ok (.iadd, 1) := by decide +kernel
theorem dL_687 : decode code 687 = .ok (.iaload, 1) := by decide +kernel
theorem dL_688 : decode code 688 = .ok (.invokevirtual 82, 3) := by decide +kernel
theorem dL_691 : decode code 691 = .ok (.aload_n 2, 1) := by decide +kernel
theorem dL_692 : decode code 692 = .ok (.aload_n 0, 1) := by decide +kernel
theorem dL_693 : decode code 693 = .ok (.iload_n 3, 1) := by decide +kernel
theorem dL_694 : decode code 694 = .ok (.iconst 1, 1) := by decide +kernel
theorem dL_695 : decode code 695 = .ok (.iadd, 1) := by decide +kernel
theorem dL_696 : decode code 696 = .ok (.iaload, 1) := by decide +kernel
theorem dL_697 : decode code 697 = .ok (.invokevirtual 85, 3) := by decide +kernel
theorem dL_700 : decode code 700 = .ok (.if_icmp .eq 547, 3) := by decide +kernel
theorem dL_703 : decode code 703 = .ok (.iconst 0, 1) := by decide +kernel
theorem dL_704 : decode code 704 = .ok (.ireturn, 1) := by decide +kernel
theorem dL_705 : decode code 705 = .ok (.aload_n 1, 1) := by decide +kernel
theorem dL_706 : decode code 706 = .ok (.aload_n 0, 1) := by decide +kernel
theorem dL_707 : decode code 707 = .ok (.iload_n 3, 1) := by decide +kernel
theorem dL_708 : decode code 708 = .ok (.iconst 1, 1) := by decide +kernel
theorem dL_709 : decode code 709 = .ok (.iadd, 1) := by decide +kernel
theorem dL_710 : decode code 710 = .ok (.iaload, 1) := by decide +kernel
theorem dL_711 : decode code 711 = .ok (.aload_n 0, 1) := by decide +kernel
theorem dL_712 : decode code 712 = .ok (.iload_n 3, 1) := by decide +kernel
theorem dL_713 : decode code 713 = .ok (.iconst 2, 1) := by decide +kernel
theorem dL_714 : decode code 714 = .ok (.iadd, 1) := by decide +kernel
theorem dL_715 : decode code 715 = .ok (.iaload, 1) := by decide +kernel
theorem dL_716 : decode code 716 = .ok (.aload_n 0, 1) := by decide +kernel
theorem dL_717 : decode code 717 = .ok (.iload_n 3, 1) := by decide +kernel
theorem dL_718 : decode code 718 = .ok (.iconst 3, 1) := by decide +kernel
theorem dL_719 : decode code 719 = .ok (.iadd, 1) := by decide +kernel
theorem dL_720 : decode code 720 = .ok (.iaload, 1) := by decide +kernel
theorem dL_721 : decode code 721 = .ok (.invokevirtual 86, 3) := by decide +kernel
theorem dL_724 : decode code 724 = .ok (.aload_n 2, 1) := by decide +kernel
theorem dL_725 : decode code 725 = .ok (.aload_n 0, 1) := by decide +kernel
theorem dL_726 : decode code 726 = .ok (.iload_n 3, 1) := by decide +kernel
theorem dL_727 : decode code 727 = .ok (.iconst 1, 1) := by decide +kernel
theorem dL_728 : decode code 728 = .ok (.iadd, 1) := by decide +kernel
theorem dL_729 : decode code 729 = .ok (.iaload, 1) := by decide +kernel
theorem dL_730 : decode code 730 = .ok (.aload_n 0, 1) := by decide +kernel
theorem dL_731 : decode code 731 = .ok (.iload_n 3, 1) := by decide +kernel
theorem dL_732 : decode code 732 = .ok (.iconst 2, 1) := by decide +kernel
theorem dL_733 : decode code 733 = .ok (.iadd, 1) := by decide +kernel
theorem dL_734 : decode code 734 = .ok (.iaload, 1) := by decide +kernel
theorem dL_735 : decode code 735 = .ok (.aload_n 0, 1) := by decide +kernel
theorem dL_736 : decode code 736 = .ok (.iload_n 3, 1) := by decide +kernel
theorem dL_737 : decode code 737 = .ok (.iconst 3, 1) := by decide +kernel
theorem dL_738 : decode code 738 = .ok (.iadd, 1) := by decide +kernel
theorem dL_739 : decode code 739 = .ok (.iaload, 1) := by decide +kernel
theorem dL_740 : decode code 740 = .ok (.invokevirtual 89, 3) := by decide +kernel
theorem dL_743 : decode code 743 = .ok (.if_icmp .eq 504, 3) := by decide +kernel
theorem dL_746 : decode code 746 = .ok (.iconst 0, 1) := by decide +kernel
theorem dL_747 : decode code 747 = .ok (.ireturn, 1) := by decide +kernel
theorem dL_748 : decode code 748 = .ok (.aload_n 1, 1) := by decide +kernel
theorem dL_749 : decode code 749 = .ok (.aload_n 0, 1) := by decide +kernel
theorem dL_750 : decode code 750 = .ok (.iload_n 3, 1) := by decide +kernel
theorem dL_751 : decode code 751 = .ok (.iconst 1, 1) := by decide +kernel
theorem dL_752 : decode code 752 = .ok (.iadd, 1) := by decide +kernel
theorem dL_753 : decode code 753 = .ok (.iaload, 1) := by decide +kernel
theorem dL_754 : decode code 754 = .ok (.aload_n 0, 1) := by decide +kernel
theorem dL_755 : decode code 755 = .ok (.iload_n 3, 1) := by decide +kernel
theorem dL_756 : decode code 756 = .ok (.iconst 2, 1) := by decide +kernel
theorem dL_757 : decode code 757 = .ok (.iadd, 1) := by decide +kernel
theorem dL_758 : decode code 758 = .ok (.iaload, 1) := by decide +kernel
theorem dL_759 : decode code 759 = .ok (.invokevirtual 90, 3) := by decide +kernel
theorem dL_762 : decode code 762 = .ok (.aload_n 2, 1) := by decide +kernel
theorem dL_763 : decode code 763 = .ok (.aload_n 0, 1) := by decide +kernel
theorem dL_764 : decode code 764 = .ok (.iload_n 3, 1) := by decide +kernel
theorem dL_765 : decode code 765 = .ok (.iconst 1, 1) := by decide +kernel
theorem dL_766 : decode code 766 = .ok (.iadd, 1) := by decide +kernel
theorem dL_767 : decode code 767 = .ok (.iaload, 1) := by decide +kernel
theorem dL_768 : decode code 768 = .ok (.aload_n 0, 1) := by decide +kernel
theorem dL_769 : decode code 769 = .ok (.iload_n 3, 1) := by decide +kernel
theorem dL_770 : decode code 770 = .ok (.iconst 2, 1) := by decide +kernel
theorem dL_771 : decode code 771 = .ok (.iadd, 1) := by decide +kernel
theorem dL_772 : decode code 772 = .ok (.iaload, 1) := by decide +kernel
theorem dL_773 : decode code 773 = .ok (.invokevirtual 93, 3) := by decide +kernel
theorem dL_776 : decode code 776 = .ok (.if_icmp .eq 471, 3) := by decide +kernel
theorem dL_779 : decode code 779 = .ok (.iconst 0, 1) := by decide +kernel
theorem dL_780 : decode code 780 = .ok (.ireturn, 1) := by decide +kernel
theorem dL_781 : decode code 781 = .ok (.aload_n 1, 1) := by decide +kernel
theorem dL_782 : decode code 782 = .ok (.aload_n 0, 1) := by decide +kernel
theorem dL_783 : decode code 783 = .ok (.iload_n 3, 1) := by decide +kernel
theorem dL_784 : decode code 784 = .ok (.iconst 1, 1) := by decide +kernel
theorem dL_785 : decode code 785 = .ok (.iadd, 1) := by decide +kernel
theorem dL_786 : decode code 786 = .ok (.iaload, 1) := by decide +kernel
theorem dL_787 : decode code 787 = .ok (.aload_n 0, 1) := by decide +kernel
theorem dL_788 : decode code 788 = .ok (.iload_n 3, 1) := by decide +kernel
theorem dL_789 : decode code 789 = .ok (.iconst 2, 1) := by decide +kernel
theorem dL_790 : decode code 790 = .ok (.iadd, 1) := by decide +kernel
theorem dL_791 : decode code 791 = .ok (.iaload, 1) := by decide +kernel
theorem dL_792 : decode code 792 = .ok (.aload_n 0, 1) := by decide +kernel
theorem dL_793 : decode code 793 = .ok (.iload_n 3, 1) := by decide +kernel
theorem dL_794 : decode code 794 = .ok (.iconst 3, 1) := by decide +kernel
theorem dL_795 : decode code 795 = .ok (.iadd, 1) := by decide +kernel
theorem dL_796 : decode code 796 = .ok (.iaload, 1) := by decide +kernel
theorem dL_797 : decode code 797 = .ok (.invokevirtual 94, 3) := by decide +kernel
theorem dL_800 : decode code 800 = .ok (.aload_n 2, 1) := by decide +kernel
theorem dL_801 : decode code 801 = .ok (.aload_n 0, 1) := by decide +kernel
theorem dL_802 : decode code 802 = .ok (.iload_n 3, 1) := by decide +kernel
theorem dL_803 : decode code 803 = .ok (.iconst 1, 1) := by decide +kernel
theorem dL_804 : decode code 804 = .ok (.iadd, 1) := by decide +kernel
theorem dL_805 : decode code 805 = .ok (.iaload, 1) := by decide +kernel
theorem dL_806 : decode code 806 = .ok (.aload_n 0, 1) := by decide +kernel
theorem dL_807 : decode code 807 = .ok (.iload_n 3, 1) := by decide +kernel
theorem dL_808 : decode code 808 = .ok (.iconst 2, 1) := by decide +kernel
theorem dL_809 : decode code 809 = .ok (.iadd, 1) := by decide +kernel
theorem dL_810 : decode code 810 = .ok (.iaload, 1) := by decide +kernel
theorem dL_811 : decode code 811 = .ok (.aload_n 0, 1) := by decide +kernel
theorem dL_812 : decode code 812 = .ok (.iload_n 3, 1) := by decide +kernel
theorem dL_813 : decode code 813 = .ok (.iconst 3, 1) := by decide +kernel
theorem dL_814 : decode code 814 = .ok (.iadd, 1) := by decide +kernel
theorem dL_815 : decode code 815 = .ok (.iaload, 1) := by decide +kernel
theorem dL_816 : decode code 816 = .ok (.invokevirtual 97, 3) := by decide +kernel
theorem dL_819 : decode code 819 = .ok (.if_icmp .eq 428, 3) := by decide +kernel
theorem dL_822 : decode code 822 = .ok (.iconst 0, 1) := by decide +kernel
theorem dL_823 : decode code 823 = .ok (.ireturn, 1) := by decide +kernel
theorem dL_824 : decode code 824 = .ok (.aload_n 1, 1) := by decide +kernel
theorem dL_825 : decode code 825 = .ok (.aload_n 0, 1) := by decide +kernel
theorem dL_826 : decode code 826 = .ok (.iload_n 3, 1) := by decide +kernel
theorem dL_827 : decode code 827 = .ok (.iconst 1, 1) := by decide +kernel
theorem dL_828 : decode code 828 = .ok (.iadd, 1) := by decide +kernel
theorem dL_829 : decode code 829 = .ok (.iaload, 1) := by decide +kernel
theorem dL_830 : decode code 830 = .ok (.aload_n 0, 1) := by decide +kernel
theorem dL_831 : decode code 831 = .ok (.iload_n 3, 1) := by decide +kernel
theorem dL_832 : decode code 832 = .ok (.iconst 2, 1) := by decide +kernel
theorem dL_833 : decode code 833 = .ok (.iadd, 1) := by decide +kernel
theorem dL_834 : decode code 834 = .ok (.iaload, 1) := by decide +kernel
theorem dL_835 : decode code 835 = .ok (.aload_n 0, 1) := by decide +kernel
theorem dL_836 : decode code 836 = .ok (.iload_n 3, 1) := by decide +kernel
theorem dL_837 : decode code 837 = .ok (.iconst 3, 1) := by decide +kernel
theorem dL_838 : decode code 838 = .ok (.iadd, 1) := by decide +kernel
theorem dL_839 : decode code 839 = .ok (.iaload, 1) := by decide +kernel
theorem dL_840 : decode code 840 = .ok (.aload_n 0, 1) := by decide +kernel
theorem dL_841 : decode code 841 = .ok (.iload_n 3, 1) := by decide +kernel
theorem dL_842 : decode code 842 = .ok (.iconst 4, 1) := by decide +kernel
theorem dL_843 : decode code 843 = .ok (.iadd, 1) := by decide +kernel
theorem dL_844 : decode code 844 = .ok (.iaload, 1) := by decide +kernel
theorem dL_845 : decode code 845 = .ok (.invokevirtual 98, 3) := by decide +kernel
theorem dL_848 : decode code 848 = .ok (.aload_n 2, 1) := by decide +kernel
theorem dL_849 : decode code 849 = .ok (.aload_n 0, 1) := by decide +kernel
theorem dL_850 : decode code 850 = .ok (.iload_n 3, 1) := by decide +kernel
theorem dL_851 : decode code 851 = .ok (.iconst 1, 1) := by decide +kernel
theorem dL_852 : decode code 852 = .ok (.iadd, 1) := by decide +kernel
theorem dL_853 : decode code 853 = .ok (.iaload, 1) := by decide +kernel
theorem dL_854 : decode code 854 = .ok (.aload_n 0, 1) := by decide +kernel
theorem dL_855 : decode code 855 = .ok (.iload_n 3, 1) := by decide +kernel
theorem dL_856 : decode code 856 = .ok (.iconst 2, 1) := by decide +kernel
theorem dL_857 : decode code 857 = .ok (.iadd, 1) := by decide +kernel
theorem dL_858 : decode code 858 = .ok (.iaload, 1) := by decide +kernel
theorem dL_859 : decode code 859 = .ok (.aload_n 0, 1) := by decide +kernel
theorem dL_860 : decode code 860 = .ok (.iload_n 3, 1) := by decide +kernel
theorem dL_861 : decode code 861 = .ok (.iconst 3, 1) := by decide +kernel
theorem dL_862 : decode code 862 = .ok (.iadd, 1) := by decide +kernel
theorem dL_863 : decode code 863 = .ok (.iaload, 1) := by decide +kernel
theorem dL_864 : decode code 864 = .ok (.aload_n 0, 1) := by decide +kernel
theorem dL_865 : decode code 865 = .ok (.iload_n 3, 1) := by decide +kernel
theorem dL_866 : decode code 866 = .ok (.iconst 4, 1) := by decide +kernel
theorem dL_867 : decode code 867 = .ok (.iadd, 1) := by decide +kernel
theorem dL_868 : decode code 868 = .ok (.iaload, 1) := by decide +kernel
theorem dL_869 : decode code 869 = .ok (.invokevirtual 102, 3) := by decide +kernel
theorem dL_872 : decode code 872 = .ok (.if_icmp .eq 375, 3) := by decide +kernel
theorem dL_875 : decode code 875 = .ok (.iconst 0, 1) := by decide +kernel
theorem dL_876 : decode code 876 = .ok (.ireturn, 1) := by decide +kernel
theorem dL_877 : decode code 877 = .ok (.aload_n 1, 1) := by decide +kernel
theorem dL_878 : decode code 878 = .ok (.aload_n 0, 1) := by decide +kernel
theorem dL_879 : decode code 879 = .ok (.iload_n 3, 1) := by decide +kernel
theorem dL_880 : decode code 880 = .ok (.iconst 1, 1) := by decide +kernel
theorem dL_881 : decode code 881 = .ok (.iadd, 1) := by decide +kernel
theorem dL_882 : decode code 882 = .ok (.iaload, 1) := by decide +kernel
theorem dL_883 : decode code 883 = .ok (.aload_n 0, 1) := by decide +kernel
theorem dL_884 : decode code 884 = .ok (.iload_n 3, 1) := by decide +kernel
theorem dL_885 : decode code 885 = .ok (.iconst 2, 1) := by decide +kernel
theorem dL_886 : decode code 886 = .ok (.iadd, 1) := by decide +kernel
theorem dL_887 : decode code 887 = .ok (.iaload, 1) := by decide +kernel
theorem dL_888 : decode code 888 = .ok (.aload_n 0, 1) := by decide +kernel
theorem dL_889 : decode code 889 = .ok (.iload_n 3, 1) := by decide +kernel
theorem dL_890 : decode code 890 = .ok (.iconst 3, 1) := by decide +kernel
theorem dL_891 : decode code 891 = .ok (.iadd, 1) := by decide +kernel
theorem dL_892 : decode code 892 = .ok (.iaload, 1) := by decide +kernel
theorem dL_893 : decode code 893 = .ok (.aload_n 0, 1) := by decide +kernel
theorem dL_894 : decode code 894 = .ok (.iload_n 3, 1) := by decide +kernel
theorem dL_895 : decode code 895 = .ok (.iconst 4, 1) := by decide +kernel
theorem dL_896 : decode code 896 = .ok (.iadd, 1) := by decide +kernel
theorem dL_897 : decode code 897 = .ok (.iaload, 1) := by decide +kernel
theorem dL_898 : decode code 898 = .ok (.invokevirtual 103, 3) := by decide +kernel
theorem dL_901 : decode code 901 = .ok (.aload_n 2, 1) := by decide +kernel
theorem dL_902 : decode code 902 = .ok (.aload_n 0, 1) := by decide +kernel
theorem dL_903 : decode code 903 = .ok (.iload_n 3, 1) := by decide +kernel
theorem dL_904 : decode code 904 = .ok (.iconst 1, 1) := by decide +kernel
theorem dL_905 : decode code 905 = .ok (.iadd, 1) := by decide +kernel
theorem dL_906 : decode code 906 = .ok (.iaload, 1) := by decide +kernel
theorem dL_907 : decode code 907 = .ok (.aload_n 0, 1) := by decide +kernel
theorem dL_908 : decode code 908 = .ok (.iload_n 3, 1) := by decide +kernel
theorem dL_909 : decode code 909 = .ok (.iconst 2, 1) := by decide +kernel
theorem dL_910 : decode code 910 = .ok (.iadd, 1) := by decide +kernel
theorem dL_911 : decode code 911 = .ok (.iaload, 1) := by decide +kernel
theorem dL_912 : decode code 912 = .ok (.aload_n 0, 1) := by decide +kernel
theorem dL_913 : decode code 913 = .ok (.iload_n 3, 1) := by decide +kernel
theorem dL_914 : decode code 914 = .ok (.iconst 3, 1) := by decide +kernel
theorem dL_915 : decode code 915 = .ok (.iadd, 1) := by decide +kernel
theorem dL_916 : decode code 916 = .ok (.iaload, 1) := by decide +kernel
theorem dL_917 : decode code 917 = .ok (.aload_n 0, 1) := by decide +kernel
theorem dL_918 : decode code 918 = .ok (.iload_n 3, 1) := by decide +kernel
theorem dL_919 : decode code 919 = .ok (.iconst 4, 1) := by decide +kernel
theorem dL_920 : decode code 920 = .ok (.iadd, 1) := by decide +kernel
theorem dL_921 : decode code 921 = .ok (.iaload, 1) := by decide +kernel
theorem dL_922 : decode code 922 = .ok (.invokevirtual 106, 3) := by decide +kernel
theorem dL_925 : decode code 925 = .ok (.if_icmp .eq 322, 3) := by decide +kernel
theorem dL_928 : decode code 928 = .ok (.iconst 0, 1) := by decide +kernel
theorem dL_929 : decode code 929 = .ok (.ireturn, 1) := by decide +kernel
theorem dL_930 : decode code 930 = .ok (.aload_n 1, 1) := by decide +kernel
theorem dL_931 : decode code 931 = .ok (.aload_n 0, 1) := by decide +kernel
theorem dL_932 : decode code 932 = .ok (.iload_n 3, 1) := by decide +kernel
theorem dL_933 : decode code 933 = .ok (.iconst 1, 1) := by decide +kernel
theorem dL_934 : decode code 934 = .ok (.iadd, 1) := by decide +kernel
theorem dL_935 : decode code 935 = .ok (.iaload, 1) := by decide +kernel
theorem dL_936 : decode code 936 = .ok (.invokevirtual 107, 3) := by decide +kernel
theorem dL_939 : decode code 939 = .ok (.aload_n 2, 1) := by decide +kernel
theorem dL_940 : decode code 940 = .ok (.aload_n 0, 1) := by decide +kernel
theorem dL_941 : decode code 941 = .ok (.iload_n 3, 1) := by decide +kernel
theorem dL_942 : decode code 942 = .ok (.iconst 1, 1) := by decide +kernel
theorem dL_943 : decode code 943 = .ok (.iadd, 1) := by decide +kernel
theorem dL_944 : decode code 944 = .ok (.iaload, 1) := by decide +kernel
theorem dL_945 : decode code 945 = .ok (.invokevirtual 110, 3) := by decide +kernel
theorem dL_948 : decode code 948 = .ok (.if_icmp .eq 299, 3) := by decide +kernel
theorem dL_951 : decode code 951 = .ok (.iconst 0, 1) := by decide +kernel
theorem dL_952 : decode code 952 = .ok (.ireturn, 1) := by decide +kernel
theorem dL_953 : decode code 953 = .ok (.aload_n 1, 1) := by decide +kernel
theorem dL_954 : decode code 954 = .ok (.aload_n 0, 1) := by decide +kernel
theorem dL_955 : decode code 955 = .ok (.iload_n 3, 1) := by decide +kernel
theorem dL_956 : decode code 956 = .ok (.iconst 1, 1) := by decide +kernel
theorem dL_957 : decode code 957 = .ok (.iadd, 1) := by decide +kernel
theorem dL_958 : decode code 958 = .ok (.iaload, 1) := by decide +kernel
theorem dL_959 : decode code 959 = .ok (.invokevirtual 111, 3) := by decide +kernel
theorem dL_962 : decode code 962 = .ok (.aload_n 2, 1) := by decide +kernel
theorem dL_963 : decode code 963 = .ok (.aload_n 0, 1) := by decide +kernel
theorem dL_964 : decode code 964 = .ok (.iload_n 3, 1) := by decide +kernel
theorem dL_965 : decode code 965 = .ok (.iconst 1, 1) := by decide +kernel
theorem dL_966 : decode code 966 = .ok (.iadd, 1) := by decide +kernel
theorem dL_967 : decode code 967 = .ok (.iaload, 1) := by decide +kernel
theorem dL_968 : decode code 968 = .ok (.invokevirtual 114, 3) := by decide +kernel
theorem dL_971 : decode code 971 = .ok (.if_icmp .eq 276, 3) := by decide +kernel
theorem dL_974 : decode code 974 = .ok (.iconst 0, 1) := by decide +kernel
theorem dL_975 : decode code 975 = .ok (.ireturn, 1) := by decide +kernel
theorem dL_976 : decode code 976 = .ok (.aload_n 1, 1) := by decide +kernel
theorem dL_977 : decode code 977 = .ok (.aload_n 0, 1) := by decide +kernel
theorem dL_978 : decode code 978 = .ok (.iload_n 3, 1) := by decide +kernel
theorem dL_979 : decode code 979 = .ok (.iconst 1, 1) := by decide +kernel
theorem dL_980 : decode code 980 = .ok (.iadd, 1) := by decide +kernel
theorem dL_981 : decode code 981 = .ok (.iaload, 1) := by decide +kernel
theorem dL_982 : decode code 982 = .ok (.aload_n 0, 1) := by decide +kernel
theorem dL_983 : decode code 983 = .ok (.iload_n 3, 1) := by decide +kernel
theorem dL_984 : decode code 984 = .ok (.iconst 2, 1) := by decide +kernel
theorem dL_985 : decode code 985 = .ok (.iadd, 1) := by decide +kernel
theorem dL_986 : decode code 986 = .ok (.iaload, 1) := by decide +kernel
theorem dL_987 : decode code 987 = .ok (.invokevirtual 115, 3) := by decide +kernel
theorem dL_990 : decode code 990 = .ok (.aload_n 2, 1) := by decide +kernel
theorem dL_991 : decode code 991 = .ok (.aload_n 0, 1) := by decide +kernel
theorem dL_992 : decode code 992 = .ok (.iload_n 3, 1) := by decide +kernel
theorem dL_993 : decode code 993 = .ok (.iconst 1, 1) := by decide +kernel
theorem dL_994 : decode code 994 = .ok (.iadd, 1) := by decide +kernel
theorem dL_995 : decode code 995 = .ok (.iaload, 1) := by decide +kernel
theorem dL_996 : decode code 996 = .ok (.aload_n 0, 1) := by decide +kernel
theorem dL_997 : decode code 997 = .ok (.iload_n 3, 1) := by decide +kernel
theorem dL_998 : decode code 998 = .ok (.iconst 2, 1) := by decide +kernel
theorem dL_999 : decode code 999 = .ok (.iadd, 1) := by decide +kernel
theorem dL_1000 : decode code 1000 = .ok (.iaload, 1) := by decide +kernel
theorem dL_1001 : decode code 1001 = .ok (.invokevirtual 119, 3) := by decide +kernel
theorem dL_1004 : decode code 1004 = .ok (.lcmp, 1) := by decide +kernel
theorem dL_1005 : decode code 1005 = .ok (.ifCond .eq 242, 3) := by decide +kernel
theorem dL_1008 : decode code 1008 = .ok (.iconst 0, 1) := by decide +kernel
theorem dL_1009 : decode code 1009 = .ok (.ireturn, 1) := by decide +kernel
theorem dL_1010 : decode code 1010 = .ok (.aload_n 1, 1) := by decide +kernel
theorem dL_1011 : decode code 1011 = .ok (.aload_n 0, 1) := by decide +kernel
theorem dL_1012 : decode code 1012 = .ok (.iload_n 3, 1) := by decide +kernel
theorem dL_1013 : decode code 1013 = .ok (.iconst 1, 1) := by decide +kernel
theorem dL_1014 : decode code 1014 = .ok (.iadd, 1) := by decide +kernel
theorem dL_1015 : decode code 1015 = .ok (.iaload, 1) := by decide +kernel
theorem dL_1016 : decode code 1016 = .ok (.aload_n 0, 1) := by decide +kernel
theorem dL_1017 : decode code 1017 = .ok (.iload_n 3, 1) := by decide +kernel
theorem dL_1018 : decode code 1018 = .ok (.iconst 2, 1) := by decide +kernel
theorem dL_1019 : decode code 1019 = .ok (.iadd, 1) := by decide +kernel
theorem dL_1020 : decode code 1020 = .ok (.iaload, 1) := by decide +kernel
theorem dL_1021 : decode code 1021 = .ok (.aload_n 0, 1) := by decide +kernel
theorem dL_1022 : decode code 1022 = .ok (.iload_n 3, 1) := by decide +kernel
theorem dL_1023 : decode code 1023 = .ok (.iconst 3, 1) := by decide +kernel
theorem dL_1024 : decode code 1024 = .ok (.iadd, 1) := by decide +kernel
theorem dL_1025 : decode code 1025 = .ok (.iaload, 1) := by decide +kernel
theorem dL_1026 : decode code 1026 = .ok (.invokevirtual 120, 3) := by decide +kernel
theorem dL_1029 : decode code 1029 = .ok (.aload_n 2, 1) := by decide +kernel
theorem dL_1030 : decode code 1030 = .ok (.aload_n 0, 1) := by decide +kernel
theorem dL_1031 : decode code 1031 = .ok (.iload_n 3, 1) := by decide +kernel
theorem dL_1032 : decode code 1032 = .ok (.iconst 1, 1) := by decide +kernel
theorem dL_1033 : decode code 1033 = .ok (.iadd, 1) := by decide +kernel
theorem dL_1034 : decode code 1034 = .ok (.iaload, 1) := by decide +kernel
theorem dL_1035 : decode code 1035 = .ok (.aload_n 0, 1) := by decide +kernel
theorem dL_1036 : decode code 1036 = .ok (.iload_n 3, 1) := by decide +kernel
theorem dL_1037 : decode code 1037 = .ok (.iconst 2, 1) := by decide +kernel
theorem dL_1038 : decode code 1038 = .ok (.iadd, 1) := by decide +kernel
theorem dL_1039 : decode code 1039 = .ok (.iaload, 1) := by decide +kernel
theorem dL_1040 : decode code 1040 = .ok (.aload_n 0, 1) := by decide +kernel
theorem dL_1041 : decode code 1041 = .ok (.iload_n 3, 1) := by decide +kernel
theorem dL_1042 : decode code 1042 = .ok (.iconst 3, 1) := by decide +kernel
theorem dL_1043 : decode code 1043 = .ok (.iadd, 1) := by decide +kernel
theorem dL_1044 : decode code 1044 = .ok (.iaload, 1) := by decide +kernel
theorem dL_1045 : decode code 1045 = .ok (.invokevirtual 123, 3) := by decide +kernel
theorem dL_1048 : decode code 1048 = .ok (.if_icmp .eq 199, 3) := by decide +kernel
theorem dL_1051 : decode code 1051 = .ok (.iconst 0, 1) := by decide +kernel
theorem dL_1052 : decode code 1052 = .ok (.ireturn, 1) := by decide +kernel
theorem dL_1053 : decode code 1053 = .ok (.aload_n 1, 1) := by decide +kernel
theorem dL_1054 : decode code 1054 = .ok (.aload_n 0, 1) := by decide +kernel
theorem dL_1055 : decode code 1055 = .ok (.iload_n 3, 1) := by decide +kernel
theorem dL_1056 : decode code 1056 = .ok (.iconst 1, 1) := by decide +kernel
theorem dL_1057 : decode code 1057 = .ok (.iadd, 1) := by decide +kernel
theorem dL_1058 : decode code 1058 = .ok (.iaload, 1) := by decide +kernel
theorem dL_1059 : decode code 1059 = .ok (.invokevirtual 124, 3) := by decide +kernel
theorem dL_1062 : decode code 1062 = .ok (.aload_n 2, 1) := by decide +kernel
theorem dL_1063 : decode code 1063 = .ok (.aload_n 0, 1) := by decide +kernel
theorem dL_1064 : decode code 1064 = .ok (.iload_n 3, 1) := by decide +kernel
theorem dL_1065 : decode code 1065 = .ok (.iconst 1, 1) := by decide +kernel
theorem dL_1066 : decode code 1066 = .ok (.iadd, 1) := by decide +kernel
theorem dL_1067 : decode code 1067 = .ok (.iaload, 1) := by decide +kernel
theorem dL_1068 : decode code 1068 = .ok (.invokevirtual 127, 3) := by decide +kernel
theorem dL_1071 : decode code 1071 = .ok (.if_icmp .eq 176, 3) := by decide +kernel
theorem dL_1074 : decode code 1074 = .ok (.iconst 0, 1) := by decide +kernel
theorem dL_1075 : decode code 1075 = .ok (.ireturn, 1) := by decide +kernel
theorem dL_1076 : decode code 1076 = .ok (.aload_n 1, 1) := by decide +kernel
theorem dL_1077 : decode code 1077 = .ok (.aload_n 0, 1) := by decide +kernel
theorem dL_1078 : decode code 1078 = .ok (.iload_n 3, 1) := by decide +kernel
theorem dL_1079 : decode code 1079 = .ok (.iconst 1, 1) := by decide +kernel
theorem dL_1080 : decode code 1080 = .ok (.iadd, 1) := by decide +kernel
theorem dL_1081 : decode code 1081 = .ok (.iaload, 1) := by decide +kernel
theorem dL_1082 : decode code 1082 = .ok (.invokevirtual 128, 3) := by decide +kernel
theorem dL_1085 : decode code 1085 = .ok (.aload_n 2, 1) := by decide +kernel
theorem dL_1086 : decode code 1086 = .ok (.aload_n 0, 1) := by decide +kernel
theorem dL_1087 : decode code 1087 = .ok (.iload_n 3, 1) := by decide +kernel
theorem dL_1088 : decode code 1088 = .ok (.iconst 1, 1) := by decide +kernel
theorem dL_1089 : decode code 1089 = .ok (.iadd, 1) := by decide +kernel
theorem dL_1090 : decode code 1090 = .ok (.iaload, 1) := by decide +kernel
theorem dL_1091 : decode code 1091 = .ok (.invokevirtual 131, 3) := by decide +kernel
theorem dL_1094 : decode code 1094 = .ok (.if_icmp .eq 153, 3) := by decide +kernel
theorem dL_1097 : decode code 1097 = .ok (.iconst 0, 1) := by decide +kernel
theorem dL_1098 : decode code 1098 = .ok (.ireturn, 1) := by decide +kernel
theorem dL_1099 : decode code 1099 = .ok (.aload_n 1, 1) := by decide +kernel
theorem dL_1100 : decode code 1100 = .ok (.aload_n 0, 1) := by decide +kernel
theorem dL_1101 : decode code 1101 = .ok (.iload_n 3, 1) := by decide +kernel
theorem dL_1102 : decode code 1102 = .ok (.iconst 1, 1) := by decide +kernel
theorem dL_1103 : decode code 1103 = .ok (.iadd, 1) := by decide +kernel
theorem dL_1104 : decode code 1104 = .ok (.iaload, 1) := by decide +kernel
theorem dL_1105 : decode code 1105 = .ok (.invokevirtual 132, 3) := by decide +kernel
theorem dL_1108 : decode code 1108 = .ok (.aload_n 2, 1) := by decide +kernel
theorem dL_1109 : decode code 1109 = .ok (.aload_n 0, 1) := by decide +kernel
theorem dL_1110 : decode code 1110 = .ok (.iload_n 3, 1) := by decide +kernel
theorem dL_1111 : decode code 1111 = .ok (.iconst 1, 1) := by decide +kernel
theorem dL_1112 : decode code 1112 = .ok (.iadd, 1) := by decide +kernel
theorem dL_1113 : decode code 1113 = .ok (.iaload, 1) := by decide +kernel
theorem dL_1114 : decode code 1114 = .ok (.invokevirtual 135, 3) := by decide +kernel
theorem dL_1117 : decode code 1117 = .ok (.if_icmp .eq 130, 3) := by decide +kernel
theorem dL_1120 : decode code 1120 = .ok (.iconst 0, 1) := by decide +kernel
theorem dL_1121 : decode code 1121 = .ok (.ireturn, 1) := by decide +kernel
theorem dL_1122 : decode code 1122 = .ok (.aload_n 1, 1) := by decide +kernel
theorem dL_1123 : decode code 1123 = .ok (.aload_n 0, 1) := by decide +kernel
theorem dL_1124 : decode code 1124 = .ok (.iload_n 3, 1) := by decide +kernel
theorem dL_1125 : decode code 1125 = .ok (.iconst 1, 1) := by decide +kernel
theorem dL_1126 : decode code 1126 = .ok (.iadd, 1) := by decide +kernel
theorem dL_1127 : decode code 1127 = .ok (.iaload, 1) := by decide +kernel
theorem dL_1128 : decode code 1128 = .ok (.aload_n 0, 1) := by decide +kernel
theorem dL_1129 : decode code 1129 = .ok (.iload_n 3, 1) := by decide +kernel
theorem dL_1130 : decode code 1130 = .ok (.iconst 2, 1) := by decide +kernel
theorem dL_1131 : decode code 1131 = .ok (.iadd, 1) := by decide +kernel
theorem dL_1132 : decode code 1132 = .ok (.iaload, 1) := by decide +kernel
theorem dL_1133 : decode code 1133 = .ok (.invokevirtual 136, 3) := by decide +kernel
theorem dL_1136 : decode code 1136 = .ok (.aload_n 2, 1) := by decide +kernel
theorem dL_1137 : decode code 1137 = .ok (.aload_n 0, 1) := by decide +kernel
theorem dL_1138 : decode code 1138 = .ok (.iload_n 3, 1) := by decide +kernel
theorem dL_1139 : decode code 1139 = .ok (.iconst 1, 1) := by decide +kernel
theorem dL_1140 : decode code 1140 = .ok (.iadd, 1) := by decide +kernel
theorem dL_1141 : decode code 1141 = .ok (.iaload, 1) := by decide +kernel
theorem dL_1142 : decode code 1142 = .ok (.aload_n 0, 1) := by decide +kernel
theorem dL_1143 : decode code 1143 = .ok (.iload_n 3, 1) := by decide +kernel
theorem dL_1144 : decode code 1144 = .ok (.iconst 2, 1) := by decide +kernel
theorem dL_1145 : decode code 1145 = .ok (.iadd, 1) := by decide +kernel
theorem dL_1146 : decode code 1146 = .ok (.iaload, 1) := by decide +kernel
theorem dL_1147 : decode code 1147 = .ok (.invokevirtual 139, 3) := by decide +kernel
theorem dL_1150 : decode code 1150 = .ok (.if_icmp .eq 97, 3) := by decide +kernel
theorem dL_1153 : decode code 1153 = .ok (.iconst 0, 1) := by decide +kernel
theorem dL_1154 : decode code 1154 = .ok (.ireturn, 1) := by decide +kernel
theorem dL_1155 : decode code 1155 = .ok (.aload_n 1, 1) := by decide +kernel
theorem dL_1156 : decode code 1156 = .ok (.aload_n 0, 1) := by decide +kernel
theorem dL_1157 : decode code 1157 = .ok (.iload_n 3, 1) := by decide +kernel
theorem dL_1158 : decode code 1158 = .ok (.iconst 1, 1) := by decide +kernel
theorem dL_1159 : decode code 1159 = .ok (.iadd, 1) := by decide +kernel
theorem dL_1160 : decode code 1160 = .ok (.iaload, 1) := by decide +kernel
theorem dL_1161 : decode code 1161 = .ok (.aload_n 0, 1) := by decide +kernel
theorem dL_1162 : decode code 1162 = .ok (.iload_n 3, 1) := by decide +kernel
theorem dL_1163 : decode code 1163 = .ok (.iconst 2, 1) := by decide +kernel
theorem dL_1164 : decode code 1164 = .ok (.iadd, 1) := by decide +kernel
theorem dL_1165 : decode code 1165 = .ok (.iaload, 1) := by decide +kernel
theorem dL_1166 : decode code 1166 = .ok (.invokevirtual 140, 3) := by decide +kernel
theorem dL_1169 : decode code 1169 = .ok (.aload_n 2, 1) := by decide +kernel
theorem dL_1170 : decode code 1170 = .ok (.aload_n 0, 1) := by decide +kernel
theorem dL_1171 : decode code 1171 = .ok (.iload_n 3, 1) := by decide +kernel
theorem dL_1172 : decode code 1172 = .ok (.iconst 1, 1) := by decide +kernel
theorem dL_1173 : decode code 1173 = .ok (.iadd, 1) := by decide +kernel
theorem dL_1174 : decode code 1174 = .ok (.iaload, 1) := by decide +kernel
theorem dL_1175 : decode code 1175 = .ok (.aload_n 0, 1) := by decide +kernel
theorem dL_1176 : decode code 1176 = .ok (.iload_n 3, 1) := by decide +kernel
theorem dL_1177 : decode code 1177 = .ok (.iconst 2, 1) := by decide +kernel
theorem dL_1178 : decode code 1178 = .ok (.iadd, 1) := by decide +kernel
theorem dL_1179 : decode code 1179 = .ok (.iaload, 1) := by decide +kernel
theorem dL_1180 : decode code 1180 = .ok (.invokevirtual 143, 3) := by decide +kernel
theorem dL_1183 : decode code 1183 = .ok (.if_icmp .eq 64, 3) := by decide +kernel
theorem dL_1186 : decode code 1186 = .ok (.iconst 0, 1) := by decide +kernel
theorem dL_1187 : decode code 1187 = .ok (.ireturn, 1) := by decide +kernel
theorem dL_1188 : decode code 1188 = .ok (.aload_n 1, 1) := by decide +kernel
theorem dL_1189 : decode code 1189 = .ok (.aload_n 0, 1) := by decide +kernel
theorem dL_1190 : decode code 1190 = .ok (.iload_n 3, 1) := by decide +kernel
theorem dL_1191 : decode code 1191 = .ok (.iconst 1, 1) := by decide +kernel
theorem dL_1192 : decode code 1192 = .ok (.iadd, 1) := by decide +kernel
theorem dL_1193 : decode code 1193 = .ok (.iaload, 1) := by decide +kernel
theorem dL_1194 : decode code 1194 = .ok (.invokevirtual 144, 3) := by decide +kernel
theorem dL_1197 : decode code 1197 = .ok (.aload_n 2, 1) := by decide +kernel
theorem dL_1198 : decode code 1198 = .ok (.aload_n 0, 1) := by decide +kernel
theorem dL_1199 : decode code 1199 = .ok (.iload_n 3, 1) := by decide +kernel
theorem dL_1200 : decode code 1200 = .ok (.iconst 1, 1) := by decide +kernel
theorem dL_1201 : decode code 1201 = .ok (.iadd, 1) := by decide +kernel
theorem dL_1202 : decode code 1202 = .ok (.iaload, 1) := by decide +kernel
theorem dL_1203 : decode code 1203 = .ok (.invokevirtual 147, 3) := by decide +kernel
theorem dL_1206 : decode code 1206 = .ok (.if_icmp .eq 41, 3) := by decide +kernel
theorem dL_1209 : decode code 1209 = .ok (.iconst 0, 1) := by decide +kernel
theorem dL_1210 : decode code 1210 = .ok (.ireturn, 1) := by decide +kernel
theorem dL_1211 : decode code 1211 = .ok (.aload_n 1, 1) := by decide +kernel
theorem dL_1212 : decode code 1212 = .ok (.aload_n 0, 1) := by decide +kernel
theorem dL_1213 : decode code 1213 = .ok (.iload_n 3, 1) := by decide +kernel
theorem dL_1214 : decode code 1214 = .ok (.iconst 1, 1) := by decide +kernel
theorem dL_1215 : decode code 1215 = .ok (.iadd, 1) := by decide +kernel
theorem dL_1216 : decode code 1216 = .ok (.iaload, 1) := by decide +kernel
theorem dL_1217 : decode code 1217 = .ok (.invokevirtual 148, 3) := by decide +kernel
theorem dL_1220 : decode code 1220 = .ok (.aload_n 2, 1) := by decide +kernel
theorem dL_1221 : decode code 1221 = .ok (.aload_n 0, 1) := by decide +kernel
theorem dL_1222 : decode code 1222 = .ok (.iload_n 3, 1) := by decide +kernel
theorem dL_1223 : decode code 1223 = .ok (.iconst 1, 1) := by decide +kernel
theorem dL_1224 : decode code 1224 = .ok (.iadd, 1) := by decide +kernel
theorem dL_1225 : decode code 1225 = .ok (.iaload, 1) := by decide +kernel
theorem dL_1226 : decode code 1226 = .ok (.invokevirtual 151, 3) := by decide +kernel
theorem dL_1229 : decode code 1229 = .ok (.if_icmp .eq 18, 3) := by decide +kernel
theorem dL_1232 : decode code 1232 = .ok (.iconst 0, 1) := by decide +kernel
theorem dL_1233 : decode code 1233 = .ok (.ireturn, 1) := by decide +kernel
theorem dL_1234 : decode code 1234 = .ok (.aload_n 1, 1) := by decide +kernel
theorem dL_1235 : decode code 1235 = .ok (.invokevirtual 152, 3) := by decide +kernel
theorem dL_1238 : decode code 1238 = .ok (.aload_n 2, 1) := by decide +kernel
theorem dL_1239 : decode code 1239 = .ok (.invokevirtual 155, 3) := by decide +kernel
theorem dL_1242 : decode code 1242 = .ok (.if_icmp .eq 5, 3) := by decide +kernel
theorem dL_1245 : decode code 1245 = .ok (.iconst 0, 1) := by decide +kernel
theorem dL_1246 : decode code 1246 = .ok (.ireturn, 1) := by decide +kernel
theorem dL_1247 : decode code 1247 = .ok (.iinc 3 6, 3) := by decide +kernel
theorem dL_1250 : decode code 1250 = .ok (.goto (-1232), 3) := by decide +kernel
theorem dL_1253 : decode code 1253 = .ok (.iconst 1, 1) := by decide +kernel
theorem dL_1254 : decode code 1254 = .ok (.ireturn, 1) := by decide +kernel
