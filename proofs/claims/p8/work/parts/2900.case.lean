theorem dL_law_236 : decode cL_law 236 = .ok (.aload_n 1, 1) := dc1_43 (by decide +kernel)
theorem dL_law_237 : decode cL_law 237 = .ok (.aload_n 0, 1) := dc1_42 (by decide +kernel)
theorem dL_law_238 : decode cL_law 238 = .ok (.iload_n 3, 1) := dc1_29 (by decide +kernel)
theorem dL_law_239 : decode cL_law 239 = .ok (.iconst 1, 1) := dc1_4 (by decide +kernel)
theorem dL_law_240 : decode cL_law 240 = .ok (.iadd, 1) := dc1_96 (by decide +kernel)
theorem dL_law_241 : decode cL_law 241 = .ok (.iaload, 1) := dc1_46 (by decide +kernel)
theorem dL_law_242 : decode cL_law 242 = .ok (.aload_n 0, 1) := dc1_42 (by decide +kernel)
theorem dL_law_243 : decode cL_law 243 = .ok (.iload_n 3, 1) := dc1_29 (by decide +kernel)
theorem dL_law_244 : decode cL_law 244 = .ok (.iconst 2, 1) := dc1_5 (by decide +kernel)
theorem dL_law_245 : decode cL_law 245 = .ok (.iadd, 1) := dc1_96 (by decide +kernel)
theorem dL_law_246 : decode cL_law 246 = .ok (.iaload, 1) := dc1_46 (by decide +kernel)
theorem dL_law_247 : decode cL_law 247 = .ok (.aload_n 0, 1) := dc1_42 (by decide +kernel)
theorem dL_law_248 : decode cL_law 248 = .ok (.iload_n 3, 1) := dc1_29 (by decide +kernel)
theorem dL_law_249 : decode cL_law 249 = .ok (.iconst 3, 1) := dc1_6 (by decide +kernel)
theorem dL_law_250 : decode cL_law 250 = .ok (.iadd, 1) := dc1_96 (by decide +kernel)
theorem dL_law_251 : decode cL_law 251 = .ok (.iaload, 1) := dc1_46 (by decide +kernel)
theorem dL_law_252 : decode cL_law 252 = .ok (.aload_n 0, 1) := dc1_42 (by decide +kernel)
theorem dL_law_253 : decode cL_law 253 = .ok (.iload_n 3, 1) := dc1_29 (by decide +kernel)
theorem dL_law_254 : decode cL_law 254 = .ok (.iconst 4, 1) := dc1_7 (by decide +kernel)
theorem dL_law_255 : decode cL_law 255 = .ok (.iadd, 1) := dc1_96 (by decide +kernel)
theorem dL_law_256 : decode cL_law 256 = .ok (.iaload, 1) := dc1_46 (by decide +kernel)
theorem dL_law_257 : decode cL_law 257 = .ok (.aload_n 0, 1) := dc1_42 (by decide +kernel)
theorem dL_law_258 : decode cL_law 258 = .ok (.iload_n 3, 1) := dc1_29 (by decide +kernel)
theorem dL_law_259 : decode cL_law 259 = .ok (.iconst 5, 1) := dc1_8 (by decide +kernel)
theorem dL_law_260 : decode cL_law 260 = .ok (.iadd, 1) := dc1_96 (by decide +kernel)
theorem dL_law_261 : decode cL_law 261 = .ok (.iaload, 1) := dc1_46 (by decide +kernel)
theorem dL_law_262 : decode cL_law 262 = .ok (.invokevirtual 13, 3) := dcw_182 (by decide +kernel)
theorem dL_law_265 : decode cL_law 265 = .ok (.pop, 1) := dc1_87 (by decide +kernel)
theorem dL_law_266 : decode cL_law 266 = .ok (.aload_n 2, 1) := dc1_44 (by decide +kernel)
theorem dL_law_267 : decode cL_law 267 = .ok (.aload_n 0, 1) := dc1_42 (by decide +kernel)
theorem dL_law_268 : decode cL_law 268 = .ok (.iload_n 3, 1) := dc1_29 (by decide +kernel)
theorem dL_law_269 : decode cL_law 269 = .ok (.iconst 1, 1) := dc1_4 (by decide +kernel)
theorem dL_law_270 : decode cL_law 270 = .ok (.iadd, 1) := dc1_96 (by decide +kernel)
theorem dL_law_271 : decode cL_law 271 = .ok (.iaload, 1) := dc1_46 (by decide +kernel)
theorem dL_law_272 : decode cL_law 272 = .ok (.aload_n 0, 1) := dc1_42 (by decide +kernel)
theorem dL_law_273 : decode cL_law 273 = .ok (.iload_n 3, 1) := dc1_29 (by decide +kernel)
theorem dL_law_274 : decode cL_law 274 = .ok (.iconst 2, 1) := dc1_5 (by decide +kernel)
theorem dL_law_275 : decode cL_law 275 = .ok (.iadd, 1) := dc1_96 (by decide +kernel)
theorem dL_law_276 : decode cL_law 276 = .ok (.iaload, 1) := dc1_46 (by decide +kernel)
theorem dL_law_277 : decode cL_law 277 = .ok (.aload_n 0, 1) := dc1_42 (by decide +kernel)
theorem dL_law_278 : decode cL_law 278 = .ok (.iload_n 3, 1) := dc1_29 (by decide +kernel)
theorem dL_law_279 : decode cL_law 279 = .ok (.iconst 3, 1) := dc1_6 (by decide +kernel)
theorem dL_law_280 : decode cL_law 280 = .ok (.iadd, 1) := dc1_96 (by decide +kernel)
theorem dL_law_281 : decode cL_law 281 = .ok (.iaload, 1) := dc1_46 (by decide +kernel)
theorem dL_law_282 : decode cL_law 282 = .ok (.aload_n 0, 1) := dc1_42 (by decide +kernel)
theorem dL_law_283 : decode cL_law 283 = .ok (.iload_n 3, 1) := dc1_29 (by decide +kernel)
theorem dL_law_284 : decode cL_law 284 = .ok (.iconst 4, 1) := dc1_7 (by decide +kernel)
theorem dL_law_285 : decode cL_law 285 = .ok (.iadd, 1) := dc1_96 (by decide +kernel)
theorem dL_law_286 : decode cL_law 286 = .ok (.iaload, 1) := dc1_46 (by decide +kernel)
theorem dL_law_287 : decode cL_law 287 = .ok (.aload_n 0, 1) := dc1_42 (by decide +kernel)
theorem dL_law_288 : decode cL_law 288 = .ok (.iload_n 3, 1) := dc1_29 (by decide +kernel)
theorem dL_law_289 : decode cL_law 289 = .ok (.iconst 5, 1) := dc1_8 (by decide +kernel)
theorem dL_law_290 : decode cL_law 290 = .ok (.iadd, 1) := dc1_96 (by decide +kernel)
theorem dL_law_291 : decode cL_law 291 = .ok (.iaload, 1) := dc1_46 (by decide +kernel)
theorem dL_law_292 : decode cL_law 292 = .ok (.invokevirtual 17, 3) := dcw_182 (by decide +kernel)
theorem dL_law_295 : decode cL_law 295 = .ok (.pop, 1) := dc1_87 (by decide +kernel)
theorem dL_law_296 : decode cL_law 296 = .ok (.goto 1193, 3) := dcs_167 (n := 1193) (by decide +kernel)
theorem dL_law_299 : decode cL_law 299 = .ok (.aload_n 1, 1) := dc1_43 (by decide +kernel)
theorem dL_law_300 : decode cL_law 300 = .ok (.aload_n 0, 1) := dc1_42 (by decide +kernel)
theorem dL_law_301 : decode cL_law 301 = .ok (.iload_n 3, 1) := dc1_29 (by decide +kernel)
theorem dL_law_302 : decode cL_law 302 = .ok (.iconst 1, 1) := dc1_4 (by decide +kernel)
theorem dL_law_303 : decode cL_law 303 = .ok (.iadd, 1) := dc1_96 (by decide +kernel)
theorem dL_law_304 : decode cL_law 304 = .ok (.iaload, 1) := dc1_46 (by decide +kernel)
theorem dL_law_305 : decode cL_law 305 = .ok (.invokevirtual 18, 3) := dcw_182 (by decide +kernel)
theorem dL_law_308 : decode cL_law 308 = .ok (.pop, 1) := dc1_87 (by decide +kernel)
theorem dL_law_309 : decode cL_law 309 = .ok (.aload_n 2, 1) := dc1_44 (by decide +kernel)
theorem dL_law_310 : decode cL_law 310 = .ok (.aload_n 0, 1) := dc1_42 (by decide +kernel)
theorem dL_law_311 : decode cL_law 311 = .ok (.iload_n 3, 1) := dc1_29 (by decide +kernel)
theorem dL_law_312 : decode cL_law 312 = .ok (.iconst 1, 1) := dc1_4 (by decide +kernel)
theorem dL_law_313 : decode cL_law 313 = .ok (.iadd, 1) := dc1_96 (by decide +kernel)
theorem dL_law_314 : decode cL_law 314 = .ok (.iaload, 1) := dc1_46 (by decide +kernel)
theorem dL_law_315 : decode cL_law 315 = .ok (.invokevirtual 22, 3) := dcw_182 (by decide +kernel)
theorem dL_law_318 : decode cL_law 318 = .ok (.pop, 1) := dc1_87 (by decide +kernel)
theorem dL_law_319 : decode cL_law 319 = .ok (.goto 1170, 3) := dcs_167 (n := 1170) (by decide +kernel)
theorem dL_law_322 : decode cL_law 322 = .ok (.aload_n 1, 1) := dc1_43 (by decide +kernel)
theorem dL_law_323 : decode cL_law 323 = .ok (.invokevirtual 23, 3) := dcw_182 (by decide +kernel)
theorem dL_law_326 : decode cL_law 326 = .ok (.pop, 1) := dc1_87 (by decide +kernel)
theorem dL_law_327 : decode cL_law 327 = .ok (.aload_n 2, 1) := dc1_44 (by decide +kernel)
theorem dL_law_328 : decode cL_law 328 = .ok (.invokevirtual 27, 3) := dcw_182 (by decide +kernel)
theorem dL_law_331 : decode cL_law 331 = .ok (.pop, 1) := dc1_87 (by decide +kernel)
theorem dL_law_332 : decode cL_law 332 = .ok (.goto 1157, 3) := dcs_167 (n := 1157) (by decide +kernel)
theorem dL_law_335 : decode cL_law 335 = .ok (.aload_n 1, 1) := dc1_43 (by decide +kernel)
theorem dL_law_336 : decode cL_law 336 = .ok (.invokevirtual 28, 3) := dcw_182 (by decide +kernel)
theorem dL_law_339 : decode cL_law 339 = .ok (.pop, 1) := dc1_87 (by decide +kernel)
theorem dL_law_340 : decode cL_law 340 = .ok (.aload_n 2, 1) := dc1_44 (by decide +kernel)
theorem dL_law_341 : decode cL_law 341 = .ok (.invokevirtual 31, 3) := dcw_182 (by decide +kernel)
theorem dL_law_344 : decode cL_law 344 = .ok (.pop, 1) := dc1_87 (by decide +kernel)
theorem dL_law_345 : decode cL_law 345 = .ok (.goto 1144, 3) := dcs_167 (n := 1144) (by decide +kernel)
theorem dL_law_348 : decode cL_law 348 = .ok (.aload_n 1, 1) := dc1_43 (by decide +kernel)
theorem dL_law_349 : decode cL_law 349 = .ok (.aload_n 0, 1) := dc1_42 (by decide +kernel)
theorem dL_law_350 : decode cL_law 350 = .ok (.iload_n 3, 1) := dc1_29 (by decide +kernel)
theorem dL_law_351 : decode cL_law 351 = .ok (.iconst 1, 1) := dc1_4 (by decide +kernel)
theorem dL_law_352 : decode cL_law 352 = .ok (.iadd, 1) := dc1_96 (by decide +kernel)
theorem dL_law_353 : decode cL_law 353 = .ok (.iaload, 1) := dc1_46 (by decide +kernel)
theorem dL_law_354 : decode cL_law 354 = .ok (.aload_n 0, 1) := dc1_42 (by decide +kernel)
theorem dL_law_355 : decode cL_law 355 = .ok (.iload_n 3, 1) := dc1_29 (by decide +kernel)
theorem dL_law_356 : decode cL_law 356 = .ok (.iconst 2, 1) := dc1_5 (by decide +kernel)
theorem dL_law_357 : decode cL_law 357 = .ok (.iadd, 1) := dc1_96 (by decide +kernel)
theorem dL_law_358 : decode cL_law 358 = .ok (.iaload, 1) := dc1_46 (by decide +kernel)
theorem dL_law_359 : decode cL_law 359 = .ok (.invokevirtual 32, 3) := dcw_182 (by decide +kernel)
theorem dL_law_362 : decode cL_law 362 = .ok (.pop, 1) := dc1_87 (by decide +kernel)
theorem dL_law_363 : decode cL_law 363 = .ok (.aload_n 2, 1) := dc1_44 (by decide +kernel)
theorem dL_law_364 : decode cL_law 364 = .ok (.aload_n 0, 1) := dc1_42 (by decide +kernel)
theorem dL_law_365 : decode cL_law 365 = .ok (.iload_n 3, 1) := dc1_29 (by decide +kernel)
theorem dL_law_366 : decode cL_law 366 = .ok (.iconst 1, 1) := dc1_4 (by decide +kernel)
theorem dL_law_367 : decode cL_law 367 = .ok (.iadd, 1) := dc1_96 (by decide +kernel)
theorem dL_law_368 : decode cL_law 368 = .ok (.iaload, 1) := dc1_46 (by decide +kernel)
theorem dL_law_369 : decode cL_law 369 = .ok (.aload_n 0, 1) := dc1_42 (by decide +kernel)
theorem dL_law_370 : decode cL_law 370 = .ok (.iload_n 3, 1) := dc1_29 (by decide +kernel)
theorem dL_law_371 : decode cL_law 371 = .ok (.iconst 2, 1) := dc1_5 (by decide +kernel)
theorem dL_law_372 : decode cL_law 372 = .ok (.iadd, 1) := dc1_96 (by decide +kernel)
theorem dL_law_373 : decode cL_law 373 = .ok (.iaload, 1) := dc1_46 (by decide +kernel)
theorem dL_law_374 : decode cL_law 374 = .ok (.invokevirtual 36, 3) := dcw_182 (by decide +kernel)
theorem dL_law_377 : decode cL_law 377 = .ok (.pop, 1) := dc1_87 (by decide +kernel)
theorem dL_law_378 : decode cL_law 378 = .ok (.goto 1111, 3) := dcs_167 (n := 1111) (by decide +kernel)
theorem dL_law_381 : decode cL_law 381 = .ok (.aload_n 1, 1) := dc1_43 (by decide +kernel)
theorem dL_law_382 : decode cL_law 382 = .ok (.aload_n 0, 1) := dc1_42 (by decide +kernel)
theorem dL_law_383 : decode cL_law 383 = .ok (.iload_n 3, 1) := dc1_29 (by decide +kernel)
theorem dL_law_384 : decode cL_law 384 = .ok (.iconst 1, 1) := dc1_4 (by decide +kernel)
theorem dL_law_385 : decode cL_law 385 = .ok (.iadd, 1) := dc1_96 (by decide +kernel)
theorem dL_law_386 : decode cL_law 386 = .ok (.iaload, 1) := dc1_46 (by decide +kernel)
theorem dL_law_387 : decode cL_law 387 = .ok (.aload_n 0, 1) := dc1_42 (by decide +kernel)
theorem dL_law_388 : decode cL_law 388 = .ok (.iload_n 3, 1) := dc1_29 (by decide +kernel)
theorem dL_law_389 : decode cL_law 389 = .ok (.iconst 2, 1) := dc1_5 (by decide +kernel)
theorem dL_law_390 : decode cL_law 390 = .ok (.iadd, 1) := dc1_96 (by decide +kernel)
theorem dL_law_391 : decode cL_law 391 = .ok (.iaload, 1) := dc1_46 (by decide +kernel)
theorem dL_law_392 : decode cL_law 392 = .ok (.invokevirtual 37, 3) := dcw_182 (by decide +kernel)
theorem dL_law_395 : decode cL_law 395 = .ok (.pop, 1) := dc1_87 (by decide +kernel)
theorem dL_law_396 : decode cL_law 396 = .ok (.aload_n 2, 1) := dc1_44 (by decide +kernel)
theorem dL_law_397 : decode cL_law 397 = .ok (.aload_n 0, 1) := dc1_42 (by decide +kernel)
theorem dL_law_398 : decode cL_law 398 = .ok (.iload_n 3, 1) := dc1_29 (by decide +kernel)
theorem dL_law_399 : decode cL_law 399 = .ok (.iconst 1, 1) := dc1_4 (by decide +kernel)
theorem dL_law_400 : decode cL_law 400 = .ok (.iadd, 1) := dc1_96 (by decide +kernel)
theorem dL_law_401 : decode cL_law 401 = .ok (.iaload, 1) := dc1_46 (by decide +kernel)
theorem dL_law_402 : decode cL_law 402 = .ok (.aload_n 0, 1) := dc1_42 (by decide +kernel)
theorem dL_law_403 : decode cL_law 403 = .ok (.iload_n 3, 1) := dc1_29 (by decide +kernel)
theorem dL_law_404 : decode cL_law 404 = .ok (.iconst 2, 1) := dc1_5 (by decide +kernel)
theorem dL_law_405 : decode cL_law 405 = .ok (.iadd, 1) := dc1_96 (by decide +kernel)
theorem dL_law_406 : decode cL_law 406 = .ok (.iaload, 1) := dc1_46 (by decide +kernel)
theorem dL_law_407 : decode cL_law 407 = .ok (.invokevirtual 40, 3) := dcw_182 (by decide +kernel)
theorem dL_law_410 : decode cL_law 410 = .ok (.pop, 1) := dc1_87 (by decide +kernel)
theorem dL_law_411 : decode cL_law 411 = .ok (.goto 1078, 3) := dcs_167 (n := 1078) (by decide +kernel)
theorem dL_law_414 : decode cL_law 414 = .ok (.aload_n 1, 1) := dc1_43 (by decide +kernel)
theorem dL_law_415 : decode cL_law 415 = .ok (.aload_n 0, 1) := dc1_42 (by decide +kernel)
theorem dL_law_416 : decode cL_law 416 = .ok (.iload_n 3, 1) := dc1_29 (by decide +kernel)
theorem dL_law_417 : decode cL_law 417 = .ok (.iconst 1, 1) := dc1_4 (by decide +kernel)
theorem dL_law_418 : decode cL_law 418 = .ok (.iadd, 1) := dc1_96 (by decide +kernel)
theorem dL_law_419 : decode cL_law 419 = .ok (.iaload, 1) := dc1_46 (by decide +kernel)
theorem dL_law_420 : decode cL_law 420 = .ok (.aload_n 0, 1) := dc1_42 (by decide +kernel)
theorem dL_law_421 : decode cL_law 421 = .ok (.iload_n 3, 1) := dc1_29 (by decide +kernel)
theorem dL_law_422 : decode cL_law 422 = .ok (.iconst 2, 1) := dc1_5 (by decide +kernel)
theorem dL_law_423 : decode cL_law 423 = .ok (.iadd, 1) := dc1_96 (by decide +kernel)
theorem dL_law_424 : decode cL_law 424 = .ok (.iaload, 1) := dc1_46 (by decide +kernel)
theorem dL_law_425 : decode cL_law 425 = .ok (.invokevirtual 41, 3) := dcw_182 (by decide +kernel)
theorem dL_law_428 : decode cL_law 428 = .ok (.aload_n 2, 1) := dc1_44 (by decide +kernel)
theorem dL_law_429 : decode cL_law 429 = .ok (.aload_n 0, 1) := dc1_42 (by decide +kernel)
theorem dL_law_430 : decode cL_law 430 = .ok (.iload_n 3, 1) := dc1_29 (by decide +kernel)
theorem dL_law_431 : decode cL_law 431 = .ok (.iconst 1, 1) := dc1_4 (by decide +kernel)
theorem dL_law_432 : decode cL_law 432 = .ok (.iadd, 1) := dc1_96 (by decide +kernel)
theorem dL_law_433 : decode cL_law 433 = .ok (.iaload, 1) := dc1_46 (by decide +kernel)
theorem dL_law_434 : decode cL_law 434 = .ok (.aload_n 0, 1) := dc1_42 (by decide +kernel)
theorem dL_law_435 : decode cL_law 435 = .ok (.iload_n 3, 1) := dc1_29 (by decide +kernel)
theorem dL_law_436 : decode cL_law 436 = .ok (.iconst 2, 1) := dc1_5 (by decide +kernel)
theorem dL_law_437 : decode cL_law 437 = .ok (.iadd, 1) := dc1_96 (by decide +kernel)
theorem dL_law_438 : decode cL_law 438 = .ok (.iaload, 1) := dc1_46 (by decide +kernel)
theorem dL_law_439 : decode cL_law 439 = .ok (.invokevirtual 44, 3) := dcw_182 (by decide +kernel)
theorem dL_law_442 : decode cL_law 442 = .ok (.if_icmp .eq 1047, 3) := dcs_159 (n := 1047) (by decide +kernel)
set_option maxHeartbeats 4000000 in
set_option maxRecDepth 100000 in
theorem law_case_0 {p : Program} {e : Env} {s : State} {m : MethodId} {below : List Frame} {meth : Method} {c : Code} (l : Launch) {b L : Nat} {xs : Nat → Int32} (hL : L ≤ 3072) (C0 : lw_At p s m meth c b L xs) (dC : Nat → ClassId) (dI : Nat → Nat → Nat) (cB cI cJ cZ cS : ClassId) (hK : va_K (dC, dI) vwCl (tysA cB cI cJ cZ cS) s) (hN : nw_ok s) (ak av : Nat) (hXS : xS ak av (fun q : Nat => s.heap.size ≤ q) s s.heap) (a b1 b2 c0 : Nat → Nat) (bb : Nat → Nat → Nat) (hm : Nat) (a9 : Nat → Nat) (i : Nat) (hi : i + 6 ≤ L) (kk : ∀ (y : YS) (z : RS) (H : Heap) (locs : List Loc) (ls : Array Slot), InvK y.x.k → InvG y.x.g → InvR z → Big z → TP y z → va_P (dC, dI) vwCl (mwS cB cI cJ cZ hm a9 z ++ wY cB cI cJ cZ cS a b1 b2 c0 bb y) H → va_D (fun q : Nat => s.heap.size ≤ q) (mwS cB cI cJ cZ hm a9 z ++ wY cB cI cJ cZ cS a b1 b2 c0 bb y) → va_S (fun q : Nat => s.heap.size ≤ q) s.heap H locs → lv_has ls 4 [(3, .int (nI i)), (2, .ref hm), (1, .ref (c0 0)), (0, .ref b)] → W p l e room_1 s m #[Value.ref b] below meth c H locs 361 24806 (lw_Z below #[Value.ref b] s) (F0 m 1489 ls [])) : ∀ (y : YS) (z : RS) (H : Heap) (locs : List Loc) (ls : Array Slot), InvK y.x.k → InvG y.x.g → InvR z → Big z → TP y z → va_P (dC, dI) vwCl (mwS cB cI cJ cZ hm a9 z ++ wY cB cI cJ cZ cS a b1 b2 c0 bb y) H → va_D (fun q : Nat => s.heap.size ≤ q) (mwS cB cI cJ cZ hm a9 z ++ wY cB cI cJ cZ cS a b1 b2 c0 bb y) → va_S (fun q : Nat => s.heap.size ≤ q) s.heap H locs → lv_has ls 4 [(3, .int (nI i)), (2, .ref hm), (1, .ref (c0 0)), (0, .ref b)] → W p l e room_1 s m #[Value.ref b] below meth c H locs 361 24806 (lw_Z below #[Value.ref b] s) (F0 m 236 ls []) := by
  obtain ⟨hx, hb, hr, hml, hown, hts, hX, hbl, hlocks, hgv⟩ := id C0
  have C : CallFix p m c code 4 s #[Value.ref b] lw_tbl R_law := ⟨hx, hb, hml, hown, hts⟩
  have hA : ∀ q : Nat, s.heap.size ≤ q → (fun q : Nat => s.heap.size ≤ q) q := fun _ h => h
  have hbA : ¬ (fun q : Nat => s.heap.size ≤ q) b := Nat.not_le.mpr hbl
  intro y z H locs ls hIK hIG hIR hBG hTP hP hD hS hl
  refine lv_aload_n hx hb dL_law_236 rfl (lv_at hl 2 rfl) ?_
  refine lv_aload_n hx hb dL_law_237 rfl (lv_at hl 3 rfl) ?_
  refine lv_iload_n hx hb dL_law_238 rfl (lv_at hl 0 rfl) ?_
  refine lv_iconst (v := 1) hx hb dL_law_239 (by decide) ?_
  refine lv_iadd hx hb dL_law_240 ?_
  refine q_top (y := nI (i + 1)) (nI_add i 1) ?_
  refine va_sld hx hb hX hbl hbA hS (vp_in_nI (by omega) (by omega)) dL_law_241 ?_
  refine lv_aload_n hx hb dL_law_242 rfl (lv_at hl 3 rfl) ?_
  refine lv_iload_n hx hb dL_law_243 rfl (lv_at hl 0 rfl) ?_
  refine lv_iconst (v := 2) hx hb dL_law_244 (by decide) ?_
  refine lv_iadd hx hb dL_law_245 ?_
  refine q_top (y := nI (i + 2)) (nI_add i 2) ?_
  refine va_sld hx hb hX hbl hbA hS (vp_in_nI (by omega) (by omega)) dL_law_246 ?_
  refine lv_aload_n hx hb dL_law_247 rfl (lv_at hl 3 rfl) ?_
  refine lv_iload_n hx hb dL_law_248 rfl (lv_at hl 0 rfl) ?_
  refine lv_iconst (v := 3) hx hb dL_law_249 (by decide) ?_
  refine lv_iadd hx hb dL_law_250 ?_
  refine q_top (y := nI (i + 3)) (nI_add i 3) ?_
  refine va_sld hx hb hX hbl hbA hS (vp_in_nI (by omega) (by omega)) dL_law_251 ?_
  refine lv_aload_n hx hb dL_law_252 rfl (lv_at hl 3 rfl) ?_
  refine lv_iload_n hx hb dL_law_253 rfl (lv_at hl 0 rfl) ?_
  refine lv_iconst (v := 4) hx hb dL_law_254 (by decide) ?_
  refine lv_iadd hx hb dL_law_255 ?_
  refine q_top (y := nI (i + 4)) (nI_add i 4) ?_
  refine va_sld hx hb hX hbl hbA hS (vp_in_nI (by omega) (by omega)) dL_law_256 ?_
  refine lv_aload_n hx hb dL_law_257 rfl (lv_at hl 3 rfl) ?_
  refine lv_iload_n hx hb dL_law_258 rfl (lv_at hl 0 rfl) ?_
  refine lv_iconst (v := 5) hx hb dL_law_259 (by decide) ?_
  refine lv_iadd hx hb dL_law_260 ?_
  refine q_top (y := nI (i + 5)) (nI_add i 5) ?_
  refine va_sld hx hb hX hbl hbA hS (vp_in_nI (by omega) (by omega)) dL_law_261 ?_
  obtain ⟨⟨r1, y1⟩, hB1, hq1⟩ := ok_kX10_feed y.x (xs (Int32.toNatClampNeg (nI (i + 1)))) (xs (Int32.toNatClampNeg (nI (i + 2)))) (xs (Int32.toNatClampNeg (nI (i + 3)))) (xs (Int32.toNatClampNeg (nI (i + 4)))) (xs (Int32.toNatClampNeg (nI (i + 5)))) (hIK) (hIG)
  have hP1 : va_P (dC, dI) vwCl (wX cB cI cJ cZ cS a b1 b2 c0 (rgP bb) (slP bb) y.x ++ (wPool cI bb y.r 43 ++ mwS cB cI cJ cZ hm a9 z)) H := sw1P hP
  have hD1 : va_D (fun q : Nat => s.heap.size ≤ q) (wX cB cI cJ cZ cS a b1 b2 c0 (rgP bb) (slP bb) y.x ++ (wPool cI bb y.r 43 ++ mwS cB cI cJ cZ hm a9 z)) := sw1D hD
  refine q_goiW (va_runV (As := [.int (xs (Int32.toNatClampNeg (nI (i + 1)))), .int (xs (Int32.toNatClampNeg (nI (i + 2)))), .int (xs (Int32.toNatClampNeg (nI (i + 3)))), .int (xs (Int32.toNatClampNeg (nI (i + 4)))), .int (xs (Int32.toNatClampNeg (nI (i + 5))))]) (rest := []) C (ckX10_feed hB1 _) (cwV 5 hts glv_X10_feed rfl rfl rfl (by decide +kernel) ⟨Nat.le_of_ble_eq_true rfl, Nat.le_of_ble_eq_true rfl⟩) (q_preV hK (P_left hP1) (ci := 10) (q0 := 0) rfl rfl rfl (q_preF hN hK (P_left hP1) (D_left hD1))) rfl rfl hl.1 rfl (lv_room (Nat.le_of_ble_eq_true rfl)) dL_law_262 ⟨Nat.le_of_ble_eq_true rfl, Nat.le_of_ble_eq_true rfl⟩) hP1 hD1 hS hA (fun q1 w1 H locs hw hP hD hS => ?_)
  obtain ⟨hr1, hw⟩ := hw
  subst hw
  have hP : va_P (dC, dI) vwCl (mwS cB cI cJ cZ hm a9 z ++ wY cB cI cJ cZ cS a b1 b2 c0 bb (YS.mk y1 y.r)) H := sw3P hP
  have hD : va_D (fun q : Nat => s.heap.size ≤ q) (mwS cB cI cJ cZ hm a9 z ++ wY cB cI cJ cZ cS a b1 b2 c0 bb (YS.mk y1 y.r)) := sw3D hD
  refine lv_pop hx hb dL_law_265 rfl ?_
  refine lv_aload_n hx hb dL_law_266 rfl (lv_at hl 1 rfl) ?_
  refine lv_aload_n hx hb dL_law_267 rfl (lv_at hl 3 rfl) ?_
  refine lv_iload_n hx hb dL_law_268 rfl (lv_at hl 0 rfl) ?_
  refine lv_iconst (v := 1) hx hb dL_law_269 (by decide) ?_
  refine lv_iadd hx hb dL_law_270 ?_
  refine q_top (y := nI (i + 1)) (nI_add i 1) ?_
  refine va_sld hx hb hX hbl hbA hS (vp_in_nI (by omega) (by omega)) dL_law_271 ?_
  refine lv_aload_n hx hb dL_law_272 rfl (lv_at hl 3 rfl) ?_
  refine lv_iload_n hx hb dL_law_273 rfl (lv_at hl 0 rfl) ?_
  refine lv_iconst (v := 2) hx hb dL_law_274 (by decide) ?_
  refine lv_iadd hx hb dL_law_275 ?_
  refine q_top (y := nI (i + 2)) (nI_add i 2) ?_
  refine va_sld hx hb hX hbl hbA hS (vp_in_nI (by omega) (by omega)) dL_law_276 ?_
  refine lv_aload_n hx hb dL_law_277 rfl (lv_at hl 3 rfl) ?_
  refine lv_iload_n hx hb dL_law_278 rfl (lv_at hl 0 rfl) ?_
  refine lv_iconst (v := 3) hx hb dL_law_279 (by decide) ?_
  refine lv_iadd hx hb dL_law_280 ?_
  refine q_top (y := nI (i + 3)) (nI_add i 3) ?_
  refine va_sld hx hb hX hbl hbA hS (vp_in_nI (by omega) (by omega)) dL_law_281 ?_
  refine lv_aload_n hx hb dL_law_282 rfl (lv_at hl 3 rfl) ?_
  refine lv_iload_n hx hb dL_law_283 rfl (lv_at hl 0 rfl) ?_
  refine lv_iconst (v := 4) hx hb dL_law_284 (by decide) ?_
  refine lv_iadd hx hb dL_law_285 ?_
  refine q_top (y := nI (i + 4)) (nI_add i 4) ?_
  refine va_sld hx hb hX hbl hbA hS (vp_in_nI (by omega) (by omega)) dL_law_286 ?_
  refine lv_aload_n hx hb dL_law_287 rfl (lv_at hl 3 rfl) ?_
  refine lv_iload_n hx hb dL_law_288 rfl (lv_at hl 0 rfl) ?_
  refine lv_iconst (v := 5) hx hb dL_law_289 (by decide) ?_
  refine lv_iadd hx hb dL_law_290 ?_
  refine q_top (y := nI (i + 5)) (nI_add i 5) ?_
  refine va_sld hx hb hX hbl hbA hS (vp_in_nI (by omega) (by omega)) dL_law_291 ?_
  obtain ⟨⟨r2, z2⟩, hB2, hq2⟩ := ok_r_feed z (xs (Int32.toNatClampNeg (nI (i + 1)))) (xs (Int32.toNatClampNeg (nI (i + 2)))) (xs (Int32.toNatClampNeg (nI (i + 3)))) (xs (Int32.toNatClampNeg (nI (i + 4)))) (xs (Int32.toNatClampNeg (nI (i + 5)))) (hIR)
  refine q_goiW (va_runV (As := [.int (xs (Int32.toNatClampNeg (nI (i + 1)))), .int (xs (Int32.toNatClampNeg (nI (i + 2)))), .int (xs (Int32.toNatClampNeg (nI (i + 3)))), .int (xs (Int32.toNatClampNeg (nI (i + 4)))), .int (xs (Int32.toNatClampNeg (nI (i + 5))))]) (rest := []) C (cr_feed hB2 _) (cwV 5 hts glv_X11_feed rfl rfl rfl (by decide +kernel) ⟨Nat.le_of_ble_eq_true rfl, Nat.le_of_ble_eq_true rfl⟩) (q_preV hK (P_left hP) (ci := 11) (q0 := 0) rfl rfl rfl (q_preF hN hK (P_left hP) (D_left hD))) rfl rfl hl.1 rfl (lv_room (Nat.le_of_ble_eq_true rfl)) dL_law_292 ⟨Nat.le_of_ble_eq_true rfl, Nat.le_of_ble_eq_true rfl⟩) hP hD hS hA (fun q2 w2 H locs hw hP hD hS => ?_)
  obtain ⟨hr2, hw⟩ := hw
  subst hw
  refine lv_pop hx hb dL_law_295 rfl ?_
  refine lv_goto (tgt := 1489) hx hb dL_law_296 (by decide) ?_
  exact kk (YS.mk y1 y.r) z2 H locs ls (hq1.1) (hq1.2.2.1) (hq2.1) ((hBG).fr (hq2.2.1) (by decide)) ⟨(feed_same hIK hIR hTP.1 hB1 hB2).2, REL.keep hTP.2 (fr_kX10_feed _ _ _ _ _ _ _ _ ⟨rfl, rfl⟩ _ hB1).1 (fr_kX10_feed _ _ _ _ _ _ _ _ ⟨rfl, rfl⟩ _ hB1).2 (hq1.2.1) (hq2.2.1) ⟨by decide, by decide⟩ ⟨by decide, by decide⟩⟩ hP hD hS hl

set_option maxHeartbeats 4000000 in
set_option maxRecDepth 100000 in
theorem law_case_1 {p : Program} {e : Env} {s : State} {m : MethodId} {below : List Frame} {meth : Method} {c : Code} (l : Launch) {b L : Nat} {xs : Nat → Int32} (hL : L ≤ 3072) (C0 : lw_At p s m meth c b L xs) (dC : Nat → ClassId) (dI : Nat → Nat → Nat) (cB cI cJ cZ cS : ClassId) (hK : va_K (dC, dI) vwCl (tysA cB cI cJ cZ cS) s) (hN : nw_ok s) (ak av : Nat) (hXS : xS ak av (fun q : Nat => s.heap.size ≤ q) s s.heap) (a b1 b2 c0 : Nat → Nat) (bb : Nat → Nat → Nat) (hm : Nat) (a9 : Nat → Nat) (i : Nat) (hi : i + 6 ≤ L) (kk : ∀ (y : YS) (z : RS) (H : Heap) (locs : List Loc) (ls : Array Slot), InvK y.x.k → InvG y.x.g → InvR z → Big z → TP y z → va_P (dC, dI) vwCl (mwS cB cI cJ cZ hm a9 z ++ wY cB cI cJ cZ cS a b1 b2 c0 bb y) H → va_D (fun q : Nat => s.heap.size ≤ q) (mwS cB cI cJ cZ hm a9 z ++ wY cB cI cJ cZ cS a b1 b2 c0 bb y) → va_S (fun q : Nat => s.heap.size ≤ q) s.heap H locs → lv_has ls 4 [(3, .int (nI i)), (2, .ref hm), (1, .ref (c0 0)), (0, .ref b)] → W p l e room_1 s m #[Value.ref b] below meth c H locs 361 24806 (lw_Z below #[Value.ref b] s) (F0 m 1489 ls [])) : ∀ (y : YS) (z : RS) (H : Heap) (locs : List Loc) (ls : Array Slot), InvK y.x.k → InvG y.x.g → InvR z → Big z → TP y z → va_P (dC, dI) vwCl (mwS cB cI cJ cZ hm a9 z ++ wY cB cI cJ cZ cS a b1 b2 c0 bb y) H → va_D (fun q : Nat => s.heap.size ≤ q) (mwS cB cI cJ cZ hm a9 z ++ wY cB cI cJ cZ cS a b1 b2 c0 bb y) → va_S (fun q : Nat => s.heap.size ≤ q) s.heap H locs → lv_has ls 4 [(3, .int (nI i)), (2, .ref hm), (1, .ref (c0 0)), (0, .ref b)] → W p l e room_1 s m #[Value.ref b] below meth c H locs 361 24806 (lw_Z below #[Value.ref b] s) (F0 m 299 ls []) := by
  obtain ⟨hx, hb, hr, hml, hown, hts, hX, hbl, hlocks, hgv⟩ := id C0
  have C : CallFix p m c code 4 s #[Value.ref b] lw_tbl R_law := ⟨hx, hb, hml, hown, hts⟩
  have hA : ∀ q : Nat, s.heap.size ≤ q → (fun q : Nat => s.heap.size ≤ q) q := fun _ h => h
  have hbA : ¬ (fun q : Nat => s.heap.size ≤ q) b := Nat.not_le.mpr hbl
  intro y z H locs ls hIK hIG hIR hBG hTP hP hD hS hl
  refine lv_aload_n hx hb dL_law_299 rfl (lv_at hl 2 rfl) ?_
  refine lv_aload_n hx hb dL_law_300 rfl (lv_at hl 3 rfl) ?_
  refine lv_iload_n hx hb dL_law_301 rfl (lv_at hl 0 rfl) ?_
  refine lv_iconst (v := 1) hx hb dL_law_302 (by decide) ?_
  refine lv_iadd hx hb dL_law_303 ?_
  refine q_top (y := nI (i + 1)) (nI_add i 1) ?_
  refine va_sld hx hb hX hbl hbA hS (vp_in_nI (by omega) (by omega)) dL_law_304 ?_
  obtain ⟨⟨r1, y1⟩, hB1, hq1⟩ := ok_kX10_back y.x (xs (Int32.toNatClampNeg (nI (i + 1)))) (hIK) (hIG)
  have hP1 : va_P (dC, dI) vwCl (wX cB cI cJ cZ cS a b1 b2 c0 (rgP bb) (slP bb) y.x ++ (wPool cI bb y.r 43 ++ mwS cB cI cJ cZ hm a9 z)) H := sw1P hP
  have hD1 : va_D (fun q : Nat => s.heap.size ≤ q) (wX cB cI cJ cZ cS a b1 b2 c0 (rgP bb) (slP bb) y.x ++ (wPool cI bb y.r 43 ++ mwS cB cI cJ cZ hm a9 z)) := sw1D hD
  refine q_goiW (va_runV (As := [.int (xs (Int32.toNatClampNeg (nI (i + 1))))]) (rest := []) C (ckX10_back hB1 _) (cwV 1 hts glv_X10_back rfl rfl rfl (by decide +kernel) ⟨Nat.le_of_ble_eq_true rfl, Nat.le_of_ble_eq_true rfl⟩) (q_preV hK (P_left hP1) (ci := 10) (q0 := 0) rfl rfl rfl (q_preF hN hK (P_left hP1) (D_left hD1))) rfl rfl hl.1 rfl (lv_room (Nat.le_of_ble_eq_true rfl)) dL_law_305 ⟨Nat.le_of_ble_eq_true rfl, Nat.le_of_ble_eq_true rfl⟩) hP1 hD1 hS hA (fun q1 w1 H locs hw hP hD hS => ?_)
  obtain ⟨hr1, hw⟩ := hw
  subst hw
  have hP : va_P (dC, dI) vwCl (mwS cB cI cJ cZ hm a9 z ++ wY cB cI cJ cZ cS a b1 b2 c0 bb (YS.mk y1 y.r)) H := sw3P hP
  have hD : va_D (fun q : Nat => s.heap.size ≤ q) (mwS cB cI cJ cZ hm a9 z ++ wY cB cI cJ cZ cS a b1 b2 c0 bb (YS.mk y1 y.r)) := sw3D hD
  refine lv_pop hx hb dL_law_308 rfl ?_
  refine lv_aload_n hx hb dL_law_309 rfl (lv_at hl 1 rfl) ?_
  refine lv_aload_n hx hb dL_law_310 rfl (lv_at hl 3 rfl) ?_
  refine lv_iload_n hx hb dL_law_311 rfl (lv_at hl 0 rfl) ?_
  refine lv_iconst (v := 1) hx hb dL_law_312 (by decide) ?_
  refine lv_iadd hx hb dL_law_313 ?_
  refine q_top (y := nI (i + 1)) (nI_add i 1) ?_
  refine va_sld hx hb hX hbl hbA hS (vp_in_nI (by omega) (by omega)) dL_law_314 ?_
  obtain ⟨⟨r2, z2⟩, hB2, hq2⟩ := ok_r_back z (xs (Int32.toNatClampNeg (nI (i + 1)))) (hIR)
  refine q_goiW (va_runV (As := [.int (xs (Int32.toNatClampNeg (nI (i + 1))))]) (rest := []) C (cr_back hB2 _) (cwV 1 hts glv_X11_back rfl rfl rfl (by decide +kernel) ⟨Nat.le_of_ble_eq_true rfl, Nat.le_of_ble_eq_true rfl⟩) (q_preV hK (P_left hP) (ci := 11) (q0 := 0) rfl rfl rfl (q_preF hN hK (P_left hP) (D_left hD))) rfl rfl hl.1 rfl (lv_room (Nat.le_of_ble_eq_true rfl)) dL_law_315 ⟨Nat.le_of_ble_eq_true rfl, Nat.le_of_ble_eq_true rfl⟩) hP hD hS hA (fun q2 w2 H locs hw hP hD hS => ?_)
  obtain ⟨hr2, hw⟩ := hw
  subst hw
  refine lv_pop hx hb dL_law_318 rfl ?_
  refine lv_goto (tgt := 1489) hx hb dL_law_319 (by decide) ?_
  exact kk (YS.mk y1 y.r) z2 H locs ls (hq1.1) (hq1.2.2.1) (hq2.1) ((hBG).fr (hq2.2.1) (by decide)) ⟨(back_same hIK hIR hTP.1 hB1 hB2).2, REL.keep hTP.2 (fr_kX10_back _ _ _ _ ⟨rfl, rfl⟩ _ hB1).1 (fr_kX10_back _ _ _ _ ⟨rfl, rfl⟩ _ hB1).2 (hq1.2.1) (hq2.2.1) ⟨by decide, by decide⟩ ⟨by decide, by decide⟩⟩ hP hD hS hl

set_option maxHeartbeats 4000000 in
set_option maxRecDepth 100000 in
theorem law_case_2 {p : Program} {e : Env} {s : State} {m : MethodId} {below : List Frame} {meth : Method} {c : Code} (l : Launch) {b L : Nat} {xs : Nat → Int32} (hL : L ≤ 3072) (C0 : lw_At p s m meth c b L xs) (dC : Nat → ClassId) (dI : Nat → Nat → Nat) (cB cI cJ cZ cS : ClassId) (hK : va_K (dC, dI) vwCl (tysA cB cI cJ cZ cS) s) (hN : nw_ok s) (ak av : Nat) (hXS : xS ak av (fun q : Nat => s.heap.size ≤ q) s s.heap) (a b1 b2 c0 : Nat → Nat) (bb : Nat → Nat → Nat) (hm : Nat) (a9 : Nat → Nat) (i : Nat) (hi : i + 6 ≤ L) (kk : ∀ (y : YS) (z : RS) (H : Heap) (locs : List Loc) (ls : Array Slot), InvK y.x.k → InvG y.x.g → InvR z → Big z → TP y z → va_P (dC, dI) vwCl (mwS cB cI cJ cZ hm a9 z ++ wY cB cI cJ cZ cS a b1 b2 c0 bb y) H → va_D (fun q : Nat => s.heap.size ≤ q) (mwS cB cI cJ cZ hm a9 z ++ wY cB cI cJ cZ cS a b1 b2 c0 bb y) → va_S (fun q : Nat => s.heap.size ≤ q) s.heap H locs → lv_has ls 4 [(3, .int (nI i)), (2, .ref hm), (1, .ref (c0 0)), (0, .ref b)] → W p l e room_1 s m #[Value.ref b] below meth c H locs 361 24806 (lw_Z below #[Value.ref b] s) (F0 m 1489 ls [])) : ∀ (y : YS) (z : RS) (H : Heap) (locs : List Loc) (ls : Array Slot), InvK y.x.k → InvG y.x.g → InvR z → Big z → TP y z → va_P (dC, dI) vwCl (mwS cB cI cJ cZ hm a9 z ++ wY cB cI cJ cZ cS a b1 b2 c0 bb y) H → va_D (fun q : Nat => s.heap.size ≤ q) (mwS cB cI cJ cZ hm a9 z ++ wY cB cI cJ cZ cS a b1 b2 c0 bb y) → va_S (fun q : Nat => s.heap.size ≤ q) s.heap H locs → lv_has ls 4 [(3, .int (nI i)), (2, .ref hm), (1, .ref (c0 0)), (0, .ref b)] → W p l e room_1 s m #[Value.ref b] below meth c H locs 361 24806 (lw_Z below #[Value.ref b] s) (F0 m 322 ls []) := by
  obtain ⟨hx, hb, hr, hml, hown, hts, hX, hbl, hlocks, hgv⟩ := id C0
  have C : CallFix p m c code 4 s #[Value.ref b] lw_tbl R_law := ⟨hx, hb, hml, hown, hts⟩
  have hA : ∀ q : Nat, s.heap.size ≤ q → (fun q : Nat => s.heap.size ≤ q) q := fun _ h => h
  have hbA : ¬ (fun q : Nat => s.heap.size ≤ q) b := Nat.not_le.mpr hbl
  intro y z H locs ls hIK hIG hIR hBG hTP hP hD hS hl
  refine lv_aload_n hx hb dL_law_322 rfl (lv_at hl 2 rfl) ?_
  obtain ⟨⟨r1, y1⟩, hB1, hq1⟩ := ok_kX10_read y.x (hIK) (hIG)
  have hP1 : va_P (dC, dI) vwCl (wX cB cI cJ cZ cS a b1 b2 c0 (rgP bb) (slP bb) y.x ++ (wPool cI bb y.r 43 ++ mwS cB cI cJ cZ hm a9 z)) H := sw1P hP
  have hD1 : va_D (fun q : Nat => s.heap.size ≤ q) (wX cB cI cJ cZ cS a b1 b2 c0 (rgP bb) (slP bb) y.x ++ (wPool cI bb y.r 43 ++ mwS cB cI cJ cZ hm a9 z)) := sw1D hD
  refine q_goiW (va_runV (As := []) (rest := []) C (ckX10_read (ak := ak) (av := av) hB1 _) (cwV 0 hts glv_X10_read rfl rfl rfl (by decide +kernel) ⟨Nat.le_of_ble_eq_true rfl, Nat.le_of_ble_eq_true rfl⟩) (q_preV hK (P_left hP1) (ci := 10) (q0 := 0) rfl rfl rfl (q_preSF hN hK (P_left hP1) (D_left hD1) hS hA hXS)) rfl rfl hl.1 rfl (lv_room (Nat.le_of_ble_eq_true rfl)) dL_law_323 ⟨Nat.le_of_ble_eq_true rfl, Nat.le_of_ble_eq_true rfl⟩) hP1 hD1 hS hA (fun q1 w1 H locs hw hP hD hS => ?_)
  obtain ⟨hr1, hw⟩ := hw
  subst hw
  have hP : va_P (dC, dI) vwCl (mwS cB cI cJ cZ hm a9 z ++ wY cB cI cJ cZ cS a b1 b2 c0 bb (YS.mk y1 y.r)) H := sw3P hP
  have hD : va_D (fun q : Nat => s.heap.size ≤ q) (mwS cB cI cJ cZ hm a9 z ++ wY cB cI cJ cZ cS a b1 b2 c0 bb (YS.mk y1 y.r)) := sw3D hD
  refine lv_pop hx hb dL_law_326 rfl ?_
  refine lv_aload_n hx hb dL_law_327 rfl (lv_at hl 1 rfl) ?_
  obtain ⟨⟨r2, z2⟩, hB2, hq2⟩ := ok_r_read z (hIR) (hBG)
  refine q_goiW (va_runV (As := []) (rest := []) C (cr_read hB2 _) (cwV 0 hts glv_X11_read rfl rfl rfl (by decide +kernel) ⟨Nat.le_of_ble_eq_true rfl, Nat.le_of_ble_eq_true rfl⟩) (q_preV hK (P_left hP) (ci := 11) (q0 := 0) rfl rfl rfl (q_preF hN hK (P_left hP) (D_left hD))) rfl rfl hl.1 rfl (lv_room (Nat.le_of_ble_eq_true rfl)) dL_law_328 ⟨Nat.le_of_ble_eq_true rfl, Nat.le_of_ble_eq_true rfl⟩) hP hD hS hA (fun q2 w2 H locs hw hP hD hS => ?_)
  obtain ⟨hr2, hw⟩ := hw
  subst hw
  refine lv_pop hx hb dL_law_331 rfl ?_
  refine lv_goto (tgt := 1489) hx hb dL_law_332 (by decide) ?_
  exact kk (YS.mk y1 y.r) z2 H locs ls (hq1.1) (hq1.2.2.1) (hq2.1) (hq2.2.1) ⟨(read_same hIK hIR hTP.1 hq2.2.2 hB1 hB2).2, read_rel hIK hIR hIG hTP.1 hTP.2 hB1 hB2⟩ hP hD hS hl

set_option maxHeartbeats 4000000 in
set_option maxRecDepth 100000 in
theorem law_case_3 {p : Program} {e : Env} {s : State} {m : MethodId} {below : List Frame} {meth : Method} {c : Code} (l : Launch) {b L : Nat} {xs : Nat → Int32} (hL : L ≤ 3072) (C0 : lw_At p s m meth c b L xs) (dC : Nat → ClassId) (dI : Nat → Nat → Nat) (cB cI cJ cZ cS : ClassId) (hK : va_K (dC, dI) vwCl (tysA cB cI cJ cZ cS) s) (hN : nw_ok s) (ak av : Nat) (hXS : xS ak av (fun q : Nat => s.heap.size ≤ q) s s.heap) (a b1 b2 c0 : Nat → Nat) (bb : Nat → Nat → Nat) (hm : Nat) (a9 : Nat → Nat) (i : Nat) (hi : i + 6 ≤ L) (kk : ∀ (y : YS) (z : RS) (H : Heap) (locs : List Loc) (ls : Array Slot), InvK y.x.k → InvG y.x.g → InvR z → Big z → TP y z → va_P (dC, dI) vwCl (mwS cB cI cJ cZ hm a9 z ++ wY cB cI cJ cZ cS a b1 b2 c0 bb y) H → va_D (fun q : Nat => s.heap.size ≤ q) (mwS cB cI cJ cZ hm a9 z ++ wY cB cI cJ cZ cS a b1 b2 c0 bb y) → va_S (fun q : Nat => s.heap.size ≤ q) s.heap H locs → lv_has ls 4 [(3, .int (nI i)), (2, .ref hm), (1, .ref (c0 0)), (0, .ref b)] → W p l e room_1 s m #[Value.ref b] below meth c H locs 361 24806 (lw_Z below #[Value.ref b] s) (F0 m 1489 ls [])) : ∀ (y : YS) (z : RS) (H : Heap) (locs : List Loc) (ls : Array Slot), InvK y.x.k → InvG y.x.g → InvR z → Big z → TP y z → va_P (dC, dI) vwCl (mwS cB cI cJ cZ hm a9 z ++ wY cB cI cJ cZ cS a b1 b2 c0 bb y) H → va_D (fun q : Nat => s.heap.size ≤ q) (mwS cB cI cJ cZ hm a9 z ++ wY cB cI cJ cZ cS a b1 b2 c0 bb y) → va_S (fun q : Nat => s.heap.size ≤ q) s.heap H locs → lv_has ls 4 [(3, .int (nI i)), (2, .ref hm), (1, .ref (c0 0)), (0, .ref b)] → W p l e room_1 s m #[Value.ref b] below meth c H locs 361 24806 (lw_Z below #[Value.ref b] s) (F0 m 335 ls []) := by
  obtain ⟨hx, hb, hr, hml, hown, hts, hX, hbl, hlocks, hgv⟩ := id C0
  have C : CallFix p m c code 4 s #[Value.ref b] lw_tbl R_law := ⟨hx, hb, hml, hown, hts⟩
  have hA : ∀ q : Nat, s.heap.size ≤ q → (fun q : Nat => s.heap.size ≤ q) q := fun _ h => h
  have hbA : ¬ (fun q : Nat => s.heap.size ≤ q) b := Nat.not_le.mpr hbl
  intro y z H locs ls hIK hIG hIR hBG hTP hP hD hS hl
  refine lv_aload_n hx hb dL_law_335 rfl (lv_at hl 2 rfl) ?_
  obtain ⟨⟨r1, y1⟩, hB1, hq1⟩ := ok_kX10_place y.x (hIK) (hIG)
  have hP1 : va_P (dC, dI) vwCl (wX cB cI cJ cZ cS a b1 b2 c0 (rgP bb) (slP bb) y.x ++ (wPool cI bb y.r 43 ++ mwS cB cI cJ cZ hm a9 z)) H := sw1P hP
  have hD1 : va_D (fun q : Nat => s.heap.size ≤ q) (wX cB cI cJ cZ cS a b1 b2 c0 (rgP bb) (slP bb) y.x ++ (wPool cI bb y.r 43 ++ mwS cB cI cJ cZ hm a9 z)) := sw1D hD
  refine q_goiW (va_runV (As := []) (rest := []) C (ckX10_place hB1 _) (cwV 0 hts glv_X10_place rfl rfl rfl (by decide +kernel) ⟨Nat.le_of_ble_eq_true rfl, Nat.le_of_ble_eq_true rfl⟩) (q_preV hK (P_left hP1) (ci := 10) (q0 := 0) rfl rfl rfl (q_preF hN hK (P_left hP1) (D_left hD1))) rfl rfl hl.1 rfl (lv_room (Nat.le_of_ble_eq_true rfl)) dL_law_336 ⟨Nat.le_of_ble_eq_true rfl, Nat.le_of_ble_eq_true rfl⟩) hP1 hD1 hS hA (fun q1 w1 H locs hw hP hD hS => ?_)
  obtain ⟨hr1, hw⟩ := hw
  subst hw
  have hP : va_P (dC, dI) vwCl (mwS cB cI cJ cZ hm a9 z ++ wY cB cI cJ cZ cS a b1 b2 c0 bb (YS.mk y1 y.r)) H := sw3P hP
  have hD : va_D (fun q : Nat => s.heap.size ≤ q) (mwS cB cI cJ cZ hm a9 z ++ wY cB cI cJ cZ cS a b1 b2 c0 bb (YS.mk y1 y.r)) := sw3D hD
  refine lv_pop hx hb dL_law_339 rfl ?_
  refine lv_aload_n hx hb dL_law_340 rfl (lv_at hl 1 rfl) ?_
  obtain ⟨⟨r2, z2⟩, hB2, hq2⟩ := ok_r_place z (hIR)
  refine q_goiW (va_runV (As := []) (rest := []) C (cr_place hB2 _) (cwV 0 hts glv_X11_place rfl rfl rfl (by decide +kernel) ⟨Nat.le_of_ble_eq_true rfl, Nat.le_of_ble_eq_true rfl⟩) (q_preV hK (P_left hP) (ci := 11) (q0 := 0) rfl rfl rfl (q_preF hN hK (P_left hP) (D_left hD))) rfl rfl hl.1 rfl (lv_room (Nat.le_of_ble_eq_true rfl)) dL_law_341 ⟨Nat.le_of_ble_eq_true rfl, Nat.le_of_ble_eq_true rfl⟩) hP hD hS hA (fun q2 w2 H locs hw hP hD hS => ?_)
  obtain ⟨hr2, hw⟩ := hw
  subst hw
  refine lv_pop hx hb dL_law_344 rfl ?_
  refine lv_goto (tgt := 1489) hx hb dL_law_345 (by decide) ?_
  exact kk (YS.mk y1 y.r) z2 H locs ls (hq1.1) (hq1.2.2.1) (hq2.1) ((hBG).fr (hq2.2.1) (by decide)) ⟨tpr_keep (hq1.2.1) (hq2.2.1) (by decide) (by decide) hTP.1, REL.keep hTP.2 (fr_kX10_place _ _ _ ⟨rfl, rfl⟩ _ hB1).1 (fr_kX10_place _ _ _ ⟨rfl, rfl⟩ _ hB1).2 (hq1.2.1) (hq2.2.1) ⟨by decide, by decide⟩ ⟨by decide, by decide⟩⟩ hP hD hS hl

set_option maxHeartbeats 4000000 in
set_option maxRecDepth 100000 in
theorem law_case_4 {p : Program} {e : Env} {s : State} {m : MethodId} {below : List Frame} {meth : Method} {c : Code} (l : Launch) {b L : Nat} {xs : Nat → Int32} (hL : L ≤ 3072) (C0 : lw_At p s m meth c b L xs) (dC : Nat → ClassId) (dI : Nat → Nat → Nat) (cB cI cJ cZ cS : ClassId) (hK : va_K (dC, dI) vwCl (tysA cB cI cJ cZ cS) s) (hN : nw_ok s) (ak av : Nat) (hXS : xS ak av (fun q : Nat => s.heap.size ≤ q) s s.heap) (a b1 b2 c0 : Nat → Nat) (bb : Nat → Nat → Nat) (hm : Nat) (a9 : Nat → Nat) (i : Nat) (hi : i + 6 ≤ L) (kk : ∀ (y : YS) (z : RS) (H : Heap) (locs : List Loc) (ls : Array Slot), InvK y.x.k → InvG y.x.g → InvR z → Big z → TP y z → va_P (dC, dI) vwCl (mwS cB cI cJ cZ hm a9 z ++ wY cB cI cJ cZ cS a b1 b2 c0 bb y) H → va_D (fun q : Nat => s.heap.size ≤ q) (mwS cB cI cJ cZ hm a9 z ++ wY cB cI cJ cZ cS a b1 b2 c0 bb y) → va_S (fun q : Nat => s.heap.size ≤ q) s.heap H locs → lv_has ls 4 [(3, .int (nI i)), (2, .ref hm), (1, .ref (c0 0)), (0, .ref b)] → W p l e room_1 s m #[Value.ref b] below meth c H locs 361 24806 (lw_Z below #[Value.ref b] s) (F0 m 1489 ls [])) : ∀ (y : YS) (z : RS) (H : Heap) (locs : List Loc) (ls : Array Slot), InvK y.x.k → InvG y.x.g → InvR z → Big z → TP y z → va_P (dC, dI) vwCl (mwS cB cI cJ cZ hm a9 z ++ wY cB cI cJ cZ cS a b1 b2 c0 bb y) H → va_D (fun q : Nat => s.heap.size ≤ q) (mwS cB cI cJ cZ hm a9 z ++ wY cB cI cJ cZ cS a b1 b2 c0 bb y) → va_S (fun q : Nat => s.heap.size ≤ q) s.heap H locs → lv_has ls 4 [(3, .int (nI i)), (2, .ref hm), (1, .ref (c0 0)), (0, .ref b)] → W p l e room_1 s m #[Value.ref b] below meth c H locs 361 24806 (lw_Z below #[Value.ref b] s) (F0 m 348 ls []) := by
  obtain ⟨hx, hb, hr, hml, hown, hts, hX, hbl, hlocks, hgv⟩ := id C0
  have C : CallFix p m c code 4 s #[Value.ref b] lw_tbl R_law := ⟨hx, hb, hml, hown, hts⟩
  have hA : ∀ q : Nat, s.heap.size ≤ q → (fun q : Nat => s.heap.size ≤ q) q := fun _ h => h
  have hbA : ¬ (fun q : Nat => s.heap.size ≤ q) b := Nat.not_le.mpr hbl
  intro y z H locs ls hIK hIG hIR hBG hTP hP hD hS hl
  refine lv_aload_n hx hb dL_law_348 rfl (lv_at hl 2 rfl) ?_
  refine lv_aload_n hx hb dL_law_349 rfl (lv_at hl 3 rfl) ?_
  refine lv_iload_n hx hb dL_law_350 rfl (lv_at hl 0 rfl) ?_
  refine lv_iconst (v := 1) hx hb dL_law_351 (by decide) ?_
  refine lv_iadd hx hb dL_law_352 ?_
  refine q_top (y := nI (i + 1)) (nI_add i 1) ?_
  refine va_sld hx hb hX hbl hbA hS (vp_in_nI (by omega) (by omega)) dL_law_353 ?_
  refine lv_aload_n hx hb dL_law_354 rfl (lv_at hl 3 rfl) ?_
  refine lv_iload_n hx hb dL_law_355 rfl (lv_at hl 0 rfl) ?_
  refine lv_iconst (v := 2) hx hb dL_law_356 (by decide) ?_
  refine lv_iadd hx hb dL_law_357 ?_
  refine q_top (y := nI (i + 2)) (nI_add i 2) ?_
  refine va_sld hx hb hX hbl hbA hS (vp_in_nI (by omega) (by omega)) dL_law_358 ?_
  obtain ⟨⟨r1, y1⟩, hB1, hq1⟩ := ok_kX10_wave y.x (xs (Int32.toNatClampNeg (nI (i + 1)))) (xs (Int32.toNatClampNeg (nI (i + 2)))) (hIK) (hIG)
  have hP1 : va_P (dC, dI) vwCl (wX cB cI cJ cZ cS a b1 b2 c0 (rgP bb) (slP bb) y.x ++ (wPool cI bb y.r 43 ++ mwS cB cI cJ cZ hm a9 z)) H := sw1P hP
  have hD1 : va_D (fun q : Nat => s.heap.size ≤ q) (wX cB cI cJ cZ cS a b1 b2 c0 (rgP bb) (slP bb) y.x ++ (wPool cI bb y.r 43 ++ mwS cB cI cJ cZ hm a9 z)) := sw1D hD
  refine q_goiW (va_runV (As := [.int (xs (Int32.toNatClampNeg (nI (i + 1)))), .int (xs (Int32.toNatClampNeg (nI (i + 2))))]) (rest := []) C (ckX10_wave hB1 _) (cwV 2 hts glv_X10_wave rfl rfl rfl (by decide +kernel) ⟨Nat.le_of_ble_eq_true rfl, Nat.le_of_ble_eq_true rfl⟩) (q_preV hK (P_left hP1) (ci := 10) (q0 := 0) rfl rfl rfl (q_preF hN hK (P_left hP1) (D_left hD1))) rfl rfl hl.1 rfl (lv_room (Nat.le_of_ble_eq_true rfl)) dL_law_359 ⟨Nat.le_of_ble_eq_true rfl, Nat.le_of_ble_eq_true rfl⟩) hP1 hD1 hS hA (fun q1 w1 H locs hw hP hD hS => ?_)
  obtain ⟨hr1, hw⟩ := hw
  subst hw
  have hP : va_P (dC, dI) vwCl (mwS cB cI cJ cZ hm a9 z ++ wY cB cI cJ cZ cS a b1 b2 c0 bb (YS.mk y1 y.r)) H := sw3P hP
  have hD : va_D (fun q : Nat => s.heap.size ≤ q) (mwS cB cI cJ cZ hm a9 z ++ wY cB cI cJ cZ cS a b1 b2 c0 bb (YS.mk y1 y.r)) := sw3D hD
  refine lv_pop hx hb dL_law_362 rfl ?_
  refine lv_aload_n hx hb dL_law_363 rfl (lv_at hl 1 rfl) ?_
  refine lv_aload_n hx hb dL_law_364 rfl (lv_at hl 3 rfl) ?_
  refine lv_iload_n hx hb dL_law_365 rfl (lv_at hl 0 rfl) ?_
  refine lv_iconst (v := 1) hx hb dL_law_366 (by decide) ?_
  refine lv_iadd hx hb dL_law_367 ?_
  refine q_top (y := nI (i + 1)) (nI_add i 1) ?_
  refine va_sld hx hb hX hbl hbA hS (vp_in_nI (by omega) (by omega)) dL_law_368 ?_
  refine lv_aload_n hx hb dL_law_369 rfl (lv_at hl 3 rfl) ?_
  refine lv_iload_n hx hb dL_law_370 rfl (lv_at hl 0 rfl) ?_
  refine lv_iconst (v := 2) hx hb dL_law_371 (by decide) ?_
  refine lv_iadd hx hb dL_law_372 ?_
  refine q_top (y := nI (i + 2)) (nI_add i 2) ?_
  refine va_sld hx hb hX hbl hbA hS (vp_in_nI (by omega) (by omega)) dL_law_373 ?_
  obtain ⟨⟨r2, z2⟩, hB2, hq2⟩ := ok_r_wave z (xs (Int32.toNatClampNeg (nI (i + 1)))) (xs (Int32.toNatClampNeg (nI (i + 2)))) (hIR) (hBG)
  refine q_goiW (va_runV (As := [.int (xs (Int32.toNatClampNeg (nI (i + 1)))), .int (xs (Int32.toNatClampNeg (nI (i + 2))))]) (rest := []) C (cr_wave hB2 _) (cwV 2 hts glv_X11_wave rfl rfl rfl (by decide +kernel) ⟨Nat.le_of_ble_eq_true rfl, Nat.le_of_ble_eq_true rfl⟩) (q_preV hK (P_left hP) (ci := 11) (q0 := 0) rfl rfl rfl (q_preF hN hK (P_left hP) (D_left hD))) rfl rfl hl.1 rfl (lv_room (Nat.le_of_ble_eq_true rfl)) dL_law_374 ⟨Nat.le_of_ble_eq_true rfl, Nat.le_of_ble_eq_true rfl⟩) hP hD hS hA (fun q2 w2 H locs hw hP hD hS => ?_)
  obtain ⟨hr2, hw⟩ := hw
  subst hw
  refine lv_pop hx hb dL_law_377 rfl ?_
  refine lv_goto (tgt := 1489) hx hb dL_law_378 (by decide) ?_
  exact kk (YS.mk y1 y.r) z2 H locs ls (hq1.1) (hq1.2.2.1) (hq2.1) ((hBG).fr (hq2.2.1) (by decide)) ⟨tpr_keep (hq1.2.1) (hq2.2.1) (by decide) (by decide) hTP.1, REL.keep hTP.2 (fr_kX10_wave _ _ _ _ _ ⟨rfl, rfl⟩ _ hB1).1 (fr_kX10_wave _ _ _ _ _ ⟨rfl, rfl⟩ _ hB1).2 (hq1.2.1) (hq2.2.1) ⟨by decide, by decide⟩ ⟨by decide, by decide⟩⟩ hP hD hS hl

set_option maxHeartbeats 4000000 in
set_option maxRecDepth 100000 in
theorem law_case_5 {p : Program} {e : Env} {s : State} {m : MethodId} {below : List Frame} {meth : Method} {c : Code} (l : Launch) {b L : Nat} {xs : Nat → Int32} (hL : L ≤ 3072) (C0 : lw_At p s m meth c b L xs) (dC : Nat → ClassId) (dI : Nat → Nat → Nat) (cB cI cJ cZ cS : ClassId) (hK : va_K (dC, dI) vwCl (tysA cB cI cJ cZ cS) s) (hN : nw_ok s) (ak av : Nat) (hXS : xS ak av (fun q : Nat => s.heap.size ≤ q) s s.heap) (a b1 b2 c0 : Nat → Nat) (bb : Nat → Nat → Nat) (hm : Nat) (a9 : Nat → Nat) (i : Nat) (hi : i + 6 ≤ L) (kk : ∀ (y : YS) (z : RS) (H : Heap) (locs : List Loc) (ls : Array Slot), InvK y.x.k → InvG y.x.g → InvR z → Big z → TP y z → va_P (dC, dI) vwCl (mwS cB cI cJ cZ hm a9 z ++ wY cB cI cJ cZ cS a b1 b2 c0 bb y) H → va_D (fun q : Nat => s.heap.size ≤ q) (mwS cB cI cJ cZ hm a9 z ++ wY cB cI cJ cZ cS a b1 b2 c0 bb y) → va_S (fun q : Nat => s.heap.size ≤ q) s.heap H locs → lv_has ls 4 [(3, .int (nI i)), (2, .ref hm), (1, .ref (c0 0)), (0, .ref b)] → W p l e room_1 s m #[Value.ref b] below meth c H locs 361 24806 (lw_Z below #[Value.ref b] s) (F0 m 1489 ls [])) : ∀ (y : YS) (z : RS) (H : Heap) (locs : List Loc) (ls : Array Slot), InvK y.x.k → InvG y.x.g → InvR z → Big z → TP y z → va_P (dC, dI) vwCl (mwS cB cI cJ cZ hm a9 z ++ wY cB cI cJ cZ cS a b1 b2 c0 bb y) H → va_D (fun q : Nat => s.heap.size ≤ q) (mwS cB cI cJ cZ hm a9 z ++ wY cB cI cJ cZ cS a b1 b2 c0 bb y) → va_S (fun q : Nat => s.heap.size ≤ q) s.heap H locs → lv_has ls 4 [(3, .int (nI i)), (2, .ref hm), (1, .ref (c0 0)), (0, .ref b)] → W p l e room_1 s m #[Value.ref b] below meth c H locs 361 24806 (lw_Z below #[Value.ref b] s) (F0 m 381 ls []) := by
  obtain ⟨hx, hb, hr, hml, hown, hts, hX, hbl, hlocks, hgv⟩ := id C0
  have C : CallFix p m c code 4 s #[Value.ref b] lw_tbl R_law := ⟨hx, hb, hml, hown, hts⟩
  have hA : ∀ q : Nat, s.heap.size ≤ q → (fun q : Nat => s.heap.size ≤ q) q := fun _ h => h
  have hbA : ¬ (fun q : Nat => s.heap.size ≤ q) b := Nat.not_le.mpr hbl
  intro y z H locs ls hIK hIG hIR hBG hTP hP hD hS hl
  refine lv_aload_n hx hb dL_law_381 rfl (lv_at hl 2 rfl) ?_
  refine lv_aload_n hx hb dL_law_382 rfl (lv_at hl 3 rfl) ?_
  refine lv_iload_n hx hb dL_law_383 rfl (lv_at hl 0 rfl) ?_
  refine lv_iconst (v := 1) hx hb dL_law_384 (by decide) ?_
  refine lv_iadd hx hb dL_law_385 ?_
  refine q_top (y := nI (i + 1)) (nI_add i 1) ?_
  refine va_sld hx hb hX hbl hbA hS (vp_in_nI (by omega) (by omega)) dL_law_386 ?_
  refine lv_aload_n hx hb dL_law_387 rfl (lv_at hl 3 rfl) ?_
  refine lv_iload_n hx hb dL_law_388 rfl (lv_at hl 0 rfl) ?_
  refine lv_iconst (v := 2) hx hb dL_law_389 (by decide) ?_
  refine lv_iadd hx hb dL_law_390 ?_
  refine q_top (y := nI (i + 2)) (nI_add i 2) ?_
  refine va_sld hx hb hX hbl hbA hS (vp_in_nI (by omega) (by omega)) dL_law_391 ?_
  obtain ⟨⟨r1, y1⟩, hB1, hq1⟩ := ok_kX10_odds y.x (xs (Int32.toNatClampNeg (nI (i + 1)))) (xs (Int32.toNatClampNeg (nI (i + 2)))) (hIK) (hIG)
  have hP1 : va_P (dC, dI) vwCl (wX cB cI cJ cZ cS a b1 b2 c0 (rgP bb) (slP bb) y.x ++ (wPool cI bb y.r 43 ++ mwS cB cI cJ cZ hm a9 z)) H := sw1P hP
  have hD1 : va_D (fun q : Nat => s.heap.size ≤ q) (wX cB cI cJ cZ cS a b1 b2 c0 (rgP bb) (slP bb) y.x ++ (wPool cI bb y.r 43 ++ mwS cB cI cJ cZ hm a9 z)) := sw1D hD
  refine q_goiW (va_runV (As := [.int (xs (Int32.toNatClampNeg (nI (i + 1)))), .int (xs (Int32.toNatClampNeg (nI (i + 2))))]) (rest := []) C (ckX10_odds hB1 _) (cwV 2 hts glv_X10_odds rfl rfl rfl (by decide +kernel) ⟨Nat.le_of_ble_eq_true rfl, Nat.le_of_ble_eq_true rfl⟩) (q_preV hK (P_left hP1) (ci := 10) (q0 := 0) rfl rfl rfl (q_preF hN hK (P_left hP1) (D_left hD1))) rfl rfl hl.1 rfl (lv_room (Nat.le_of_ble_eq_true rfl)) dL_law_392 ⟨Nat.le_of_ble_eq_true rfl, Nat.le_of_ble_eq_true rfl⟩) hP1 hD1 hS hA (fun q1 w1 H locs hw hP hD hS => ?_)
  obtain ⟨hr1, hw⟩ := hw
  subst hw
  have hP : va_P (dC, dI) vwCl (mwS cB cI cJ cZ hm a9 z ++ wY cB cI cJ cZ cS a b1 b2 c0 bb (YS.mk y1 y.r)) H := sw3P hP
  have hD : va_D (fun q : Nat => s.heap.size ≤ q) (mwS cB cI cJ cZ hm a9 z ++ wY cB cI cJ cZ cS a b1 b2 c0 bb (YS.mk y1 y.r)) := sw3D hD
  refine lv_pop hx hb dL_law_395 rfl ?_
  refine lv_aload_n hx hb dL_law_396 rfl (lv_at hl 1 rfl) ?_
  refine lv_aload_n hx hb dL_law_397 rfl (lv_at hl 3 rfl) ?_
  refine lv_iload_n hx hb dL_law_398 rfl (lv_at hl 0 rfl) ?_
  refine lv_iconst (v := 1) hx hb dL_law_399 (by decide) ?_
  refine lv_iadd hx hb dL_law_400 ?_
  refine q_top (y := nI (i + 1)) (nI_add i 1) ?_
  refine va_sld hx hb hX hbl hbA hS (vp_in_nI (by omega) (by omega)) dL_law_401 ?_
  refine lv_aload_n hx hb dL_law_402 rfl (lv_at hl 3 rfl) ?_
  refine lv_iload_n hx hb dL_law_403 rfl (lv_at hl 0 rfl) ?_
  refine lv_iconst (v := 2) hx hb dL_law_404 (by decide) ?_
  refine lv_iadd hx hb dL_law_405 ?_
  refine q_top (y := nI (i + 2)) (nI_add i 2) ?_
  refine va_sld hx hb hX hbl hbA hS (vp_in_nI (by omega) (by omega)) dL_law_406 ?_
  obtain ⟨⟨r2, z2⟩, hB2, hq2⟩ := ok_r_odds z (xs (Int32.toNatClampNeg (nI (i + 1)))) (xs (Int32.toNatClampNeg (nI (i + 2)))) (hIR)
  refine q_goiW (va_runV (As := [.int (xs (Int32.toNatClampNeg (nI (i + 1)))), .int (xs (Int32.toNatClampNeg (nI (i + 2))))]) (rest := []) C (cr_odds hB2 _) (cwV 2 hts glv_X11_odds rfl rfl rfl (by decide +kernel) ⟨Nat.le_of_ble_eq_true rfl, Nat.le_of_ble_eq_true rfl⟩) (q_preV hK (P_left hP) (ci := 11) (q0 := 0) rfl rfl rfl (q_preF hN hK (P_left hP) (D_left hD))) rfl rfl hl.1 rfl (lv_room (Nat.le_of_ble_eq_true rfl)) dL_law_407 ⟨Nat.le_of_ble_eq_true rfl, Nat.le_of_ble_eq_true rfl⟩) hP hD hS hA (fun q2 w2 H locs hw hP hD hS => ?_)
  obtain ⟨hr2, hw⟩ := hw
  subst hw
  refine lv_pop hx hb dL_law_410 rfl ?_
  refine lv_goto (tgt := 1489) hx hb dL_law_411 (by decide) ?_
  exact kk (YS.mk y1 y.r) z2 H locs ls (hq1.1) (hq1.2.2.1) (hq2.1) ((hBG).fr (hq2.2.1) (by decide)) ⟨tpr_keep (hq1.2.1) (hq2.2.1) (by decide) (by decide) hTP.1, REL.keep hTP.2 (fr_kX10_odds _ _ _ _ _ ⟨rfl, rfl⟩ _ hB1).1 (fr_kX10_odds _ _ _ _ _ ⟨rfl, rfl⟩ _ hB1).2 (hq1.2.1) (hq2.2.1) ⟨by decide, by decide⟩ ⟨by decide, by decide⟩⟩ hP hD hS hl

set_option maxHeartbeats 4000000 in
set_option maxRecDepth 100000 in
theorem law_case_6 {p : Program} {e : Env} {s : State} {m : MethodId} {below : List Frame} {meth : Method} {c : Code} (l : Launch) {b L : Nat} {xs : Nat → Int32} (hL : L ≤ 3072) (C0 : lw_At p s m meth c b L xs) (dC : Nat → ClassId) (dI : Nat → Nat → Nat) (cB cI cJ cZ cS : ClassId) (hK : va_K (dC, dI) vwCl (tysA cB cI cJ cZ cS) s) (hN : nw_ok s) (ak av : Nat) (hXS : xS ak av (fun q : Nat => s.heap.size ≤ q) s s.heap) (a b1 b2 c0 : Nat → Nat) (bb : Nat → Nat → Nat) (hm : Nat) (a9 : Nat → Nat) (i : Nat) (hi : i + 6 ≤ L) (kk : ∀ (y : YS) (z : RS) (H : Heap) (locs : List Loc) (ls : Array Slot), InvK y.x.k → InvG y.x.g → InvR z → Big z → TP y z → va_P (dC, dI) vwCl (mwS cB cI cJ cZ hm a9 z ++ wY cB cI cJ cZ cS a b1 b2 c0 bb y) H → va_D (fun q : Nat => s.heap.size ≤ q) (mwS cB cI cJ cZ hm a9 z ++ wY cB cI cJ cZ cS a b1 b2 c0 bb y) → va_S (fun q : Nat => s.heap.size ≤ q) s.heap H locs → lv_has ls 4 [(3, .int (nI i)), (2, .ref hm), (1, .ref (c0 0)), (0, .ref b)] → W p l e room_1 s m #[Value.ref b] below meth c H locs 361 24806 (lw_Z below #[Value.ref b] s) (F0 m 1489 ls [])) : ∀ (y : YS) (z : RS) (H : Heap) (locs : List Loc) (ls : Array Slot), InvK y.x.k → InvG y.x.g → InvR z → Big z → TP y z → va_P (dC, dI) vwCl (mwS cB cI cJ cZ hm a9 z ++ wY cB cI cJ cZ cS a b1 b2 c0 bb y) H → va_D (fun q : Nat => s.heap.size ≤ q) (mwS cB cI cJ cZ hm a9 z ++ wY cB cI cJ cZ cS a b1 b2 c0 bb y) → va_S (fun q : Nat => s.heap.size ≤ q) s.heap H locs → lv_has ls 4 [(3, .int (nI i)), (2, .ref hm), (1, .ref (c0 0)), (0, .ref b)] → W p l e room_1 s m #[Value.ref b] below meth c H locs 361 24806 (lw_Z below #[Value.ref b] s) (F0 m 414 ls []) := by
  obtain ⟨hx, hb, hr, hml, hown, hts, hX, hbl, hlocks, hgv⟩ := id C0
  have C : CallFix p m c code 4 s #[Value.ref b] lw_tbl R_law := ⟨hx, hb, hml, hown, hts⟩
  have hA : ∀ q : Nat, s.heap.size ≤ q → (fun q : Nat => s.heap.size ≤ q) q := fun _ h => h
  have hbA : ¬ (fun q : Nat => s.heap.size ≤ q) b := Nat.not_le.mpr hbl
  intro y z H locs ls hIK hIG hIR hBG hTP hP hD hS hl
  refine lv_aload_n hx hb dL_law_414 rfl (lv_at hl 2 rfl) ?_
  refine lv_aload_n hx hb dL_law_415 rfl (lv_at hl 3 rfl) ?_
  refine lv_iload_n hx hb dL_law_416 rfl (lv_at hl 0 rfl) ?_
  refine lv_iconst (v := 1) hx hb dL_law_417 (by decide) ?_
  refine lv_iadd hx hb dL_law_418 ?_
  refine q_top (y := nI (i + 1)) (nI_add i 1) ?_
  refine va_sld hx hb hX hbl hbA hS (vp_in_nI (by omega) (by omega)) dL_law_419 ?_
  refine lv_aload_n hx hb dL_law_420 rfl (lv_at hl 3 rfl) ?_
  refine lv_iload_n hx hb dL_law_421 rfl (lv_at hl 0 rfl) ?_
  refine lv_iconst (v := 2) hx hb dL_law_422 (by decide) ?_
  refine lv_iadd hx hb dL_law_423 ?_
  refine q_top (y := nI (i + 2)) (nI_add i 2) ?_
  refine va_sld hx hb hX hbl hbA hS (vp_in_nI (by omega) (by omega)) dL_law_424 ?_
  obtain ⟨⟨r1, y1⟩, hB1, hq1⟩ := ok_kX10_party y.x (xs (Int32.toNatClampNeg (nI (i + 1)))) (xs (Int32.toNatClampNeg (nI (i + 2)))) (hIK) (hIG)
  have hP1 : va_P (dC, dI) vwCl (wX cB cI cJ cZ cS a b1 b2 c0 (rgP bb) (slP bb) y.x ++ (wPool cI bb y.r 43 ++ mwS cB cI cJ cZ hm a9 z)) H := sw1P hP
  have hD1 : va_D (fun q : Nat => s.heap.size ≤ q) (wX cB cI cJ cZ cS a b1 b2 c0 (rgP bb) (slP bb) y.x ++ (wPool cI bb y.r 43 ++ mwS cB cI cJ cZ hm a9 z)) := sw1D hD
  refine q_goiW (va_runV (As := [.int (xs (Int32.toNatClampNeg (nI (i + 1)))), .int (xs (Int32.toNatClampNeg (nI (i + 2))))]) (rest := []) C (ckX10_party hB1 _) (cwV 2 hts glv_X10_party rfl rfl rfl (by decide +kernel) ⟨Nat.le_of_ble_eq_true rfl, Nat.le_of_ble_eq_true rfl⟩) (q_preV hK (P_left hP1) (ci := 10) (q0 := 0) rfl rfl rfl (q_preF hN hK (P_left hP1) (D_left hD1))) rfl rfl hl.1 rfl (lv_room (Nat.le_of_ble_eq_true rfl)) dL_law_425 ⟨Nat.le_of_ble_eq_true rfl, Nat.le_of_ble_eq_true rfl⟩) hP1 hD1 hS hA (fun q1 w1 H locs hw hP hD hS => ?_)
  obtain ⟨hr1, hw⟩ := hw
  subst hw
  have hP : va_P (dC, dI) vwCl (mwS cB cI cJ cZ hm a9 z ++ wY cB cI cJ cZ cS a b1 b2 c0 bb (YS.mk y1 y.r)) H := sw3P hP
  have hD : va_D (fun q : Nat => s.heap.size ≤ q) (mwS cB cI cJ cZ hm a9 z ++ wY cB cI cJ cZ cS a b1 b2 c0 bb (YS.mk y1 y.r)) := sw3D hD
  refine lv_aload_n hx hb dL_law_428 rfl (lv_at hl 1 rfl) ?_
  refine lv_aload_n hx hb dL_law_429 rfl (lv_at hl 3 rfl) ?_
  refine lv_iload_n hx hb dL_law_430 rfl (lv_at hl 0 rfl) ?_
  refine lv_iconst (v := 1) hx hb dL_law_431 (by decide) ?_
  refine lv_iadd hx hb dL_law_432 ?_
  refine q_top (y := nI (i + 1)) (nI_add i 1) ?_
  refine va_sld hx hb hX hbl hbA hS (vp_in_nI (by omega) (by omega)) dL_law_433 ?_
  refine lv_aload_n hx hb dL_law_434 rfl (lv_at hl 3 rfl) ?_
  refine lv_iload_n hx hb dL_law_435 rfl (lv_at hl 0 rfl) ?_
  refine lv_iconst (v := 2) hx hb dL_law_436 (by decide) ?_
  refine lv_iadd hx hb dL_law_437 ?_
  refine q_top (y := nI (i + 2)) (nI_add i 2) ?_
  refine va_sld hx hb hX hbl hbA hS (vp_in_nI (by omega) (by omega)) dL_law_438 ?_
  obtain ⟨⟨r2, z2⟩, hB2, hq2⟩ := ok_r_party z (xs (Int32.toNatClampNeg (nI (i + 1)))) (xs (Int32.toNatClampNeg (nI (i + 2)))) (hIR) (hBG)
  refine q_goiW (va_runV (As := [.int (xs (Int32.toNatClampNeg (nI (i + 1)))), .int (xs (Int32.toNatClampNeg (nI (i + 2))))]) (rest := [.int q1]) C (cr_party hB2 _) (cwV 2 hts glv_X11_party rfl rfl rfl (by decide +kernel) ⟨Nat.le_of_ble_eq_true rfl, Nat.le_of_ble_eq_true rfl⟩) (q_preV hK (P_left hP) (ci := 11) (q0 := 0) rfl rfl rfl (q_preF hN hK (P_left hP) (D_left hD))) rfl rfl hl.1 rfl (lv_room (Nat.le_of_ble_eq_true rfl)) dL_law_439 ⟨Nat.le_of_ble_eq_true rfl, Nat.le_of_ble_eq_true rfl⟩) hP hD hS hA (fun q2 w2 H locs hw hP hD hS => ?_)
  obtain ⟨hr2, hw⟩ := hw
  subst hw
  refine lv_icmp_eq (tgt := 1489) hx hb dL_law_442 (by decide) (fun _ => ?_) (fun h => absurd (hr1.trans (((party_same hTP.2 hIK hIR hBG hB1 hB2).1).trans hr2.symm)) h)
  exact kk (YS.mk y1 y.r) z2 H locs ls (hq1.1) (hq1.2.2.1) (hq2.1) ((hBG).fr (hq2.2.1) (by decide)) ⟨tpr_keep (hq1.2.1) (hq2.2.1) (by decide) (by decide) hTP.1, REL.keep hTP.2 (fr_kX10_party _ _ _ _ _ ⟨rfl, rfl⟩ _ hB1).1 (fr_kX10_party _ _ _ _ _ ⟨rfl, rfl⟩ _ hB1).2 (hq1.2.1) (hq2.2.1) ⟨by decide, by decide⟩ ⟨by decide, by decide⟩⟩ hP hD hS hl
