/-! THE LAW: its cases. *)-/
section LAW
variable {l : Launch} {g : zG} {m0 m1 md : Nat} {M : zM} {i : Nat} {Q : Int32 → zS → zM → Prop}
abbrev z_LW (l : Launch) (g : zG) (Q : Int32 → zS → zM → Prop) (pc i : Nat) (S : zS) (M : zM) : Prop := AW l g R_law cL_law 4 (some .boolean) false 30 0 0 pc [some (.ref (1000000 + 4)), some (.ref 0), some (.ref 99), some (.int (nI i))] [] S M (z_Qi Q)
theorem K_0 (hI : Inv m0 m1 md M) (hi : i + 6 ≤ gL g) (hL : gL g ≤ 3072) (hn : ∀ a b c M2, Inv a b c M2 → z_LW l g Q 1342 i (ZS a b c) M2) : z_LW l g Q 192 i (ZS m0 m1 md) M := by
  refine AW.aload_n 193 dL_law_192 rfl rfl ?_
  refine AW.aload_n 194 dL_law_193 rfl rfl ?_
  refine AW.iload_n 195 dL_law_194 rfl rfl ?_
  refine AW.iconst 196 (nI 1) dL_law_195 (by decide) rfl ?_
  refine AW.iaddN 197 dL_law_196 rfl ?_
  refine AW.eald 198 dL_law_197 (by decide) rfl (show _ < gL g by omega) (show gL g < 2 ^ 31 by omega) rfl ?_
  refine AW.i2l 199 dL_law_198 rfl ?_
  refine AW.bipush 201 (nI 32) dL_law_199 (by decide) rfl ?_
  refine AW.lshl 202 dL_law_201 rfl ?_
  refine AW.aload_n 203 dL_law_202 rfl rfl ?_
  refine AW.iload_n 204 dL_law_203 rfl rfl ?_
  refine AW.iconst 205 (nI 2) dL_law_204 (by decide) rfl ?_
  refine AW.iaddN 206 dL_law_205 rfl ?_
  refine AW.eald 207 dL_law_206 (by decide) rfl (show _ < gL g by omega) (show gL g < 2 ^ 31 by omega) rfl ?_
  refine AW.i2l 208 dL_law_207 rfl ?_
  refine AW.ldc2 211 (lN 4294967295) dL_law_208 qL_13 rfl ?_
  refine AW.land 212 dL_law_211 rfl ?_
  refine AW.lor 213 dL_law_212 rfl ?_
  refine AW.aload_n 214 dL_law_213 rfl rfl ?_
  refine AW.iload_n 215 dL_law_214 rfl rfl ?_
  refine AW.iconst 216 (nI 3) dL_law_215 (by decide) rfl ?_
  refine AW.iaddN 217 dL_law_216 rfl ?_
  refine AW.eald 218 dL_law_217 (by decide) rfl (show _ < gL g by omega) (show gL g < 2 ^ 31 by omega) rfl ?_
  refine AW.cVi2 221 dL_law_218 kL_15 (zI rfl rfl) (Nat.le_of_ble_eq_true rfl) rfl (P_type hI (fun x a b c M1 hR => ?_))
  refine AW.aload_n 222 dL_law_221 rfl rfl ?_
  refine AW.aload_n 223 dL_law_222 rfl rfl ?_
  refine AW.iload_n 224 dL_law_223 rfl rfl ?_
  refine AW.iconst 225 (nI 1) dL_law_224 (by decide) rfl ?_
  refine AW.iaddN 226 dL_law_225 rfl ?_
  refine AW.eald 227 dL_law_226 (by decide) rfl (show _ < gL g by omega) (show gL g < 2 ^ 31 by omega) rfl ?_
  refine AW.i2l 228 dL_law_227 rfl ?_
  refine AW.bipush 230 (nI 32) dL_law_228 (by decide) rfl ?_
  refine AW.lshl 231 dL_law_230 rfl ?_
  refine AW.aload_n 232 dL_law_231 rfl rfl ?_
  refine AW.iload_n 233 dL_law_232 rfl rfl ?_
  refine AW.iconst 234 (nI 2) dL_law_233 (by decide) rfl ?_
  refine AW.iaddN 235 dL_law_234 rfl ?_
  refine AW.eald 236 dL_law_235 (by decide) rfl (show _ < gL g by omega) (show gL g < 2 ^ 31 by omega) rfl ?_
  refine AW.i2l 237 dL_law_236 rfl ?_
  refine AW.ldc2 240 (lN 4294967295) dL_law_237 qL_13 rfl ?_
  refine AW.land 241 dL_law_240 rfl ?_
  refine AW.lor 242 dL_law_241 rfl ?_
  refine AW.aload_n 243 dL_law_242 rfl rfl ?_
  refine AW.iload_n 244 dL_law_243 rfl rfl ?_
  refine AW.iconst 245 (nI 3) dL_law_244 (by decide) rfl ?_
  refine AW.iaddN 246 dL_law_245 rfl ?_
  refine AW.eald 247 dL_law_246 (by decide) rfl (show _ < gL g by omega) (show gL g < 2 ^ 31 by omega) rfl ?_
  refine AW.cVi2 250 dL_law_247 kL_19 (zI rfl rfl) (Nat.le_of_ble_eq_true rfl) rfl (hR _ (fun M2 hI2 => ?_))
  refine AW.zicmp_eq 253 1342 dL_law_250 (by decide) rfl rfl rfl (fun b250 => ?_) (fun b250 => absurd rfl b250)
  exact hn a b c M2 hI2
theorem K_1 (hI : Inv m0 m1 md M) (hi : i + 6 ≤ gL g) (hL : gL g ≤ 3072) (hn : ∀ a b c M2, Inv a b c M2 → z_LW l g Q 1342 i (ZS a b c) M2) : z_LW l g Q 255 i (ZS m0 m1 md) M := by
  refine AW.aload_n 256 dL_law_255 rfl rfl ?_
  refine AW.aload_n 257 dL_law_256 rfl rfl ?_
  refine AW.iload_n 258 dL_law_257 rfl rfl ?_
  refine AW.iconst 259 (nI 1) dL_law_258 (by decide) rfl ?_
  refine AW.iaddN 260 dL_law_259 rfl ?_
  refine AW.eald 261 dL_law_260 (by decide) rfl (show _ < gL g by omega) (show gL g < 2 ^ 31 by omega) rfl ?_
  refine AW.cVi1 264 dL_law_261 kL_20 (zI rfl rfl) (Nat.le_of_ble_eq_true rfl) rfl (P_rules hI (fun x a b c M1 hR => ?_))
  refine AW.aload_n 265 dL_law_264 rfl rfl ?_
  refine AW.aload_n 266 dL_law_265 rfl rfl ?_
  refine AW.iload_n 267 dL_law_266 rfl rfl ?_
  refine AW.iconst 268 (nI 1) dL_law_267 (by decide) rfl ?_
  refine AW.iaddN 269 dL_law_268 rfl ?_
  refine AW.eald 270 dL_law_269 (by decide) rfl (show _ < gL g by omega) (show gL g < 2 ^ 31 by omega) rfl ?_
  refine AW.cVi1 273 dL_law_270 kL_24 (zI rfl rfl) (Nat.le_of_ble_eq_true rfl) rfl (hR _ (fun M2 hI2 => ?_))
  refine AW.zicmp_eq 276 1342 dL_law_273 (by decide) rfl rfl rfl (fun b273 => ?_) (fun b273 => absurd rfl b273)
  exact hn a b c M2 hI2
theorem K_2 (hI : Inv m0 m1 md M) (hi : i + 6 ≤ gL g) (hL : gL g ≤ 3072) (hn : ∀ a b c M2, Inv a b c M2 → z_LW l g Q 1342 i (ZS a b c) M2) : z_LW l g Q 278 i (ZS m0 m1 md) M := by
  refine AW.aload_n 279 dL_law_278 rfl rfl ?_
  refine AW.aload_n 280 dL_law_279 rfl rfl ?_
  refine AW.iload_n 281 dL_law_280 rfl rfl ?_
  refine AW.iconst 282 (nI 1) dL_law_281 (by decide) rfl ?_
  refine AW.iaddN 283 dL_law_282 rfl ?_
  refine AW.eald 284 dL_law_283 (by decide) rfl (show _ < gL g by omega) (show gL g < 2 ^ 31 by omega) rfl ?_
  refine AW.aload_n 285 dL_law_284 rfl rfl ?_
  refine AW.iload_n 286 dL_law_285 rfl rfl ?_
  refine AW.iconst 287 (nI 2) dL_law_286 (by decide) rfl ?_
  refine AW.iaddN 288 dL_law_287 rfl ?_
  refine AW.eald 289 dL_law_288 (by decide) rfl (show _ < gL g by omega) (show gL g < 2 ^ 31 by omega) rfl ?_
  refine AW.aload_n 290 dL_law_289 rfl rfl ?_
  refine AW.iload_n 291 dL_law_290 rfl rfl ?_
  refine AW.iconst 292 (nI 3) dL_law_291 (by decide) rfl ?_
  refine AW.iaddN 293 dL_law_292 rfl ?_
  refine AW.eald 294 dL_law_293 (by decide) rfl (show _ < gL g by omega) (show gL g < 2 ^ 31 by omega) rfl ?_
  refine AW.cVi3 297 dL_law_294 kL_25 (zI rfl rfl) (Nat.le_of_ble_eq_true rfl) rfl (P_rule hI (fun x a b c M1 hR => ?_))
  refine AW.aload_n 298 dL_law_297 rfl rfl ?_
  refine AW.aload_n 299 dL_law_298 rfl rfl ?_
  refine AW.iload_n 300 dL_law_299 rfl rfl ?_
  refine AW.iconst 301 (nI 1) dL_law_300 (by decide) rfl ?_
  refine AW.iaddN 302 dL_law_301 rfl ?_
  refine AW.eald 303 dL_law_302 (by decide) rfl (show _ < gL g by omega) (show gL g < 2 ^ 31 by omega) rfl ?_
  refine AW.aload_n 304 dL_law_303 rfl rfl ?_
  refine AW.iload_n 305 dL_law_304 rfl rfl ?_
  refine AW.iconst 306 (nI 2) dL_law_305 (by decide) rfl ?_
  refine AW.iaddN 307 dL_law_306 rfl ?_
  refine AW.eald 308 dL_law_307 (by decide) rfl (show _ < gL g by omega) (show gL g < 2 ^ 31 by omega) rfl ?_
  refine AW.aload_n 309 dL_law_308 rfl rfl ?_
  refine AW.iload_n 310 dL_law_309 rfl rfl ?_
  refine AW.iconst 311 (nI 3) dL_law_310 (by decide) rfl ?_
  refine AW.iaddN 312 dL_law_311 rfl ?_
  refine AW.eald 313 dL_law_312 (by decide) rfl (show _ < gL g by omega) (show gL g < 2 ^ 31 by omega) rfl ?_
  refine AW.cVi3 316 dL_law_313 kL_29 (zI rfl rfl) (Nat.le_of_ble_eq_true rfl) rfl (hR _ (fun M2 hI2 => ?_))
  refine AW.zicmp_eq 319 1342 dL_law_316 (by decide) rfl rfl rfl (fun b316 => ?_) (fun b316 => absurd rfl b316)
  exact hn a b c M2 hI2
theorem K_3 (hI : Inv m0 m1 md M) (hi : i + 6 ≤ gL g) (hL : gL g ≤ 3072) (hn : ∀ a b c M2, Inv a b c M2 → z_LW l g Q 1342 i (ZS a b c) M2) : z_LW l g Q 321 i (ZS m0 m1 md) M := by
  refine AW.aload_n 322 dL_law_321 rfl rfl ?_
  refine AW.aload_n 323 dL_law_322 rfl rfl ?_
  refine AW.iload_n 324 dL_law_323 rfl rfl ?_
  refine AW.iconst 325 (nI 1) dL_law_324 (by decide) rfl ?_
  refine AW.iaddN 326 dL_law_325 rfl ?_
  refine AW.eald 327 dL_law_326 (by decide) rfl (show _ < gL g by omega) (show gL g < 2 ^ 31 by omega) rfl ?_
  refine AW.cVi1 330 dL_law_327 kL_30 (zI rfl rfl) (Nat.le_of_ble_eq_true rfl) rfl (P_ticks hI (fun x a b c M1 hR => ?_))
  refine AW.aload_n 331 dL_law_330 rfl rfl ?_
  refine AW.aload_n 332 dL_law_331 rfl rfl ?_
  refine AW.iload_n 333 dL_law_332 rfl rfl ?_
  refine AW.iconst 334 (nI 1) dL_law_333 (by decide) rfl ?_
  refine AW.iaddN 335 dL_law_334 rfl ?_
  refine AW.eald 336 dL_law_335 (by decide) rfl (show _ < gL g by omega) (show gL g < 2 ^ 31 by omega) rfl ?_
  refine AW.cVi1 339 dL_law_336 kL_33 (zI rfl rfl) (Nat.le_of_ble_eq_true rfl) rfl (hR _ (fun M2 hI2 => ?_))
  refine AW.zicmp_eq 342 1342 dL_law_339 (by decide) rfl rfl rfl (fun b339 => ?_) (fun b339 => absurd rfl b339)
  exact hn a b c M2 hI2
theorem K_4 (hI : Inv m0 m1 md M) (hi : i + 6 ≤ gL g) (hL : gL g ≤ 3072) (hn : ∀ a b c M2, Inv a b c M2 → z_LW l g Q 1342 i (ZS a b c) M2) : z_LW l g Q 344 i (ZS m0 m1 md) M := by
  refine AW.aload_n 345 dL_law_344 rfl rfl ?_
  refine AW.aload_n 346 dL_law_345 rfl rfl ?_
  refine AW.iload_n 347 dL_law_346 rfl rfl ?_
  refine AW.iconst 348 (nI 1) dL_law_347 (by decide) rfl ?_
  refine AW.iaddN 349 dL_law_348 rfl ?_
  refine AW.eald 350 dL_law_349 (by decide) rfl (show _ < gL g by omega) (show gL g < 2 ^ 31 by omega) rfl ?_
  refine AW.aload_n 351 dL_law_350 rfl rfl ?_
  refine AW.iload_n 352 dL_law_351 rfl rfl ?_
  refine AW.iconst 353 (nI 2) dL_law_352 (by decide) rfl ?_
  refine AW.iaddN 354 dL_law_353 rfl ?_
  refine AW.eald 355 dL_law_354 (by decide) rfl (show _ < gL g by omega) (show gL g < 2 ^ 31 by omega) rfl ?_
  refine AW.aload_n 356 dL_law_355 rfl rfl ?_
  refine AW.iload_n 357 dL_law_356 rfl rfl ?_
  refine AW.iconst 358 (nI 3) dL_law_357 (by decide) rfl ?_
  refine AW.iaddN 359 dL_law_358 rfl ?_
  refine AW.eald 360 dL_law_359 (by decide) rfl (show _ < gL g by omega) (show gL g < 2 ^ 31 by omega) rfl ?_
  refine AW.cVi3 363 dL_law_360 kL_34 (zI rfl rfl) (Nat.le_of_ble_eq_true rfl) rfl (P_world hI (fun x a b c M1 hR => ?_))
  refine AW.aload_n 364 dL_law_363 rfl rfl ?_
  refine AW.aload_n 365 dL_law_364 rfl rfl ?_
  refine AW.iload_n 366 dL_law_365 rfl rfl ?_
  refine AW.iconst 367 (nI 1) dL_law_366 (by decide) rfl ?_
  refine AW.iaddN 368 dL_law_367 rfl ?_
  refine AW.eald 369 dL_law_368 (by decide) rfl (show _ < gL g by omega) (show gL g < 2 ^ 31 by omega) rfl ?_
  refine AW.aload_n 370 dL_law_369 rfl rfl ?_
  refine AW.iload_n 371 dL_law_370 rfl rfl ?_
  refine AW.iconst 372 (nI 2) dL_law_371 (by decide) rfl ?_
  refine AW.iaddN 373 dL_law_372 rfl ?_
  refine AW.eald 374 dL_law_373 (by decide) rfl (show _ < gL g by omega) (show gL g < 2 ^ 31 by omega) rfl ?_
  refine AW.aload_n 375 dL_law_374 rfl rfl ?_
  refine AW.iload_n 376 dL_law_375 rfl rfl ?_
  refine AW.iconst 377 (nI 3) dL_law_376 (by decide) rfl ?_
  refine AW.iaddN 378 dL_law_377 rfl ?_
  refine AW.eald 379 dL_law_378 (by decide) rfl (show _ < gL g by omega) (show gL g < 2 ^ 31 by omega) rfl ?_
  refine AW.cVi3 382 dL_law_379 kL_37 (zI rfl rfl) (Nat.le_of_ble_eq_true rfl) rfl (hR _ (fun M2 hI2 => ?_))
  refine AW.zicmp_eq 385 1342 dL_law_382 (by decide) rfl rfl rfl (fun b382 => ?_) (fun b382 => absurd rfl b382)
  exact hn a b c M2 hI2
theorem K_5 (hI : Inv m0 m1 md M) (hi : i + 6 ≤ gL g) (hL : gL g ≤ 3072) (hn : ∀ a b c M2, Inv a b c M2 → z_LW l g Q 1342 i (ZS a b c) M2) : z_LW l g Q 387 i (ZS m0 m1 md) M := by
  refine AW.aload_n 388 dL_law_387 rfl rfl ?_
  refine AW.aload_n 389 dL_law_388 rfl rfl ?_
  refine AW.iload_n 390 dL_law_389 rfl rfl ?_
  refine AW.iconst 391 (nI 1) dL_law_390 (by decide) rfl ?_
  refine AW.iaddN 392 dL_law_391 rfl ?_
  refine AW.eald 393 dL_law_392 (by decide) rfl (show _ < gL g by omega) (show gL g < 2 ^ 31 by omega) rfl ?_
  refine AW.aload_n 394 dL_law_393 rfl rfl ?_
  refine AW.iload_n 395 dL_law_394 rfl rfl ?_
  refine AW.iconst 396 (nI 2) dL_law_395 (by decide) rfl ?_
  refine AW.iaddN 397 dL_law_396 rfl ?_
  refine AW.eald 398 dL_law_397 (by decide) rfl (show _ < gL g by omega) (show gL g < 2 ^ 31 by omega) rfl ?_
  refine AW.aload_n 399 dL_law_398 rfl rfl ?_
  refine AW.iload_n 400 dL_law_399 rfl rfl ?_
  refine AW.iconst 401 (nI 3) dL_law_400 (by decide) rfl ?_
  refine AW.iaddN 402 dL_law_401 rfl ?_
  refine AW.eald 403 dL_law_402 (by decide) rfl (show _ < gL g by omega) (show gL g < 2 ^ 31 by omega) rfl ?_
  refine AW.cVi3 406 dL_law_403 kL_38 (zI rfl rfl) (Nat.le_of_ble_eq_true rfl) rfl (P_sights hI (fun x a b c M1 hR => ?_))
  refine AW.aload_n 407 dL_law_406 rfl rfl ?_
  refine AW.aload_n 408 dL_law_407 rfl rfl ?_
  refine AW.iload_n 409 dL_law_408 rfl rfl ?_
  refine AW.iconst 410 (nI 1) dL_law_409 (by decide) rfl ?_
  refine AW.iaddN 411 dL_law_410 rfl ?_
  refine AW.eald 412 dL_law_411 (by decide) rfl (show _ < gL g by omega) (show gL g < 2 ^ 31 by omega) rfl ?_
  refine AW.aload_n 413 dL_law_412 rfl rfl ?_
  refine AW.iload_n 414 dL_law_413 rfl rfl ?_
  refine AW.iconst 415 (nI 2) dL_law_414 (by decide) rfl ?_
  refine AW.iaddN 416 dL_law_415 rfl ?_
  refine AW.eald 417 dL_law_416 (by decide) rfl (show _ < gL g by omega) (show gL g < 2 ^ 31 by omega) rfl ?_
  refine AW.aload_n 418 dL_law_417 rfl rfl ?_
  refine AW.iload_n 419 dL_law_418 rfl rfl ?_
  refine AW.iconst 420 (nI 3) dL_law_419 (by decide) rfl ?_
  refine AW.iaddN 421 dL_law_420 rfl ?_
  refine AW.eald 422 dL_law_421 (by decide) rfl (show _ < gL g by omega) (show gL g < 2 ^ 31 by omega) rfl ?_
  refine AW.cVi3 425 dL_law_422 kL_41 (zI rfl rfl) (Nat.le_of_ble_eq_true rfl) rfl (hR _ (fun M2 hI2 => ?_))
  refine AW.zicmp_eq 428 1342 dL_law_425 (by decide) rfl rfl rfl (fun b425 => ?_) (fun b425 => absurd rfl b425)
  exact hn a b c M2 hI2
theorem K_6 (hI : Inv m0 m1 md M) (hi : i + 6 ≤ gL g) (hL : gL g ≤ 3072) (hn : ∀ a b c M2, Inv a b c M2 → z_LW l g Q 1342 i (ZS a b c) M2) : z_LW l g Q 430 i (ZS m0 m1 md) M := by
  refine AW.aload_n 431 dL_law_430 rfl rfl ?_
  refine AW.aload_n 432 dL_law_431 rfl rfl ?_
  refine AW.iload_n 433 dL_law_432 rfl rfl ?_
  refine AW.iconst 434 (nI 1) dL_law_433 (by decide) rfl ?_
  refine AW.iaddN 435 dL_law_434 rfl ?_
  refine AW.eald 436 dL_law_435 (by decide) rfl (show _ < gL g by omega) (show gL g < 2 ^ 31 by omega) rfl ?_
  refine AW.aload_n 437 dL_law_436 rfl rfl ?_
  refine AW.iload_n 438 dL_law_437 rfl rfl ?_
  refine AW.iconst 439 (nI 2) dL_law_438 (by decide) rfl ?_
  refine AW.iaddN 440 dL_law_439 rfl ?_
  refine AW.eald 441 dL_law_440 (by decide) rfl (show _ < gL g by omega) (show gL g < 2 ^ 31 by omega) rfl ?_
  refine AW.cVi2 444 dL_law_441 kL_42 (zI rfl rfl) (Nat.le_of_ble_eq_true rfl) rfl (P_lots hI (fun x a b c M1 hR => ?_))
  refine AW.aload_n 445 dL_law_444 rfl rfl ?_
  refine AW.aload_n 446 dL_law_445 rfl rfl ?_
  refine AW.iload_n 447 dL_law_446 rfl rfl ?_
  refine AW.iconst 448 (nI 1) dL_law_447 (by decide) rfl ?_
  refine AW.iaddN 449 dL_law_448 rfl ?_
  refine AW.eald 450 dL_law_449 (by decide) rfl (show _ < gL g by omega) (show gL g < 2 ^ 31 by omega) rfl ?_
  refine AW.aload_n 451 dL_law_450 rfl rfl ?_
  refine AW.iload_n 452 dL_law_451 rfl rfl ?_
  refine AW.iconst 453 (nI 2) dL_law_452 (by decide) rfl ?_
  refine AW.iaddN 454 dL_law_453 rfl ?_
  refine AW.eald 455 dL_law_454 (by decide) rfl (show _ < gL g by omega) (show gL g < 2 ^ 31 by omega) rfl ?_
  refine AW.cVi2 458 dL_law_455 kL_46 (zI rfl rfl) (Nat.le_of_ble_eq_true rfl) rfl (hR _ (fun M2 hI2 => ?_))
  refine AW.zicmp_eq 461 1342 dL_law_458 (by decide) rfl rfl rfl (fun b458 => ?_) (fun b458 => absurd rfl b458)
  exact hn a b c M2 hI2
theorem K_7 (hI : Inv m0 m1 md M) (hi : i + 6 ≤ gL g) (hL : gL g ≤ 3072) (hn : ∀ a b c M2, Inv a b c M2 → z_LW l g Q 1342 i (ZS a b c) M2) : z_LW l g Q 463 i (ZS m0 m1 md) M := by
  refine AW.aload_n 464 dL_law_463 rfl rfl ?_
  refine AW.aload_n 465 dL_law_464 rfl rfl ?_
  refine AW.iload_n 466 dL_law_465 rfl rfl ?_
  refine AW.iconst 467 (nI 1) dL_law_466 (by decide) rfl ?_
  refine AW.iaddN 468 dL_law_467 rfl ?_
  refine AW.eald 469 dL_law_468 (by decide) rfl (show _ < gL g by omega) (show gL g < 2 ^ 31 by omega) rfl ?_
  refine AW.aload_n 470 dL_law_469 rfl rfl ?_
  refine AW.iload_n 471 dL_law_470 rfl rfl ?_
  refine AW.iconst 472 (nI 2) dL_law_471 (by decide) rfl ?_
  refine AW.iaddN 473 dL_law_472 rfl ?_
  refine AW.eald 474 dL_law_473 (by decide) rfl (show _ < gL g by omega) (show gL g < 2 ^ 31 by omega) rfl ?_
  refine AW.aload_n 475 dL_law_474 rfl rfl ?_
  refine AW.iload_n 476 dL_law_475 rfl rfl ?_
  refine AW.iconst 477 (nI 3) dL_law_476 (by decide) rfl ?_
  refine AW.iaddN 478 dL_law_477 rfl ?_
  refine AW.eald 479 dL_law_478 (by decide) rfl (show _ < gL g by omega) (show gL g < 2 ^ 31 by omega) rfl ?_
  refine AW.cVi3 482 dL_law_479 kL_47 (zI rfl rfl) (Nat.le_of_ble_eq_true rfl) rfl (P_play hI (fun x a b c M1 hR => ?_))
  refine AW.aload_n 483 dL_law_482 rfl rfl ?_
  refine AW.aload_n 484 dL_law_483 rfl rfl ?_
  refine AW.iload_n 485 dL_law_484 rfl rfl ?_
  refine AW.iconst 486 (nI 1) dL_law_485 (by decide) rfl ?_
  refine AW.iaddN 487 dL_law_486 rfl ?_
  refine AW.eald 488 dL_law_487 (by decide) rfl (show _ < gL g by omega) (show gL g < 2 ^ 31 by omega) rfl ?_
  refine AW.aload_n 489 dL_law_488 rfl rfl ?_
  refine AW.iload_n 490 dL_law_489 rfl rfl ?_
  refine AW.iconst 491 (nI 2) dL_law_490 (by decide) rfl ?_
  refine AW.iaddN 492 dL_law_491 rfl ?_
  refine AW.eald 493 dL_law_492 (by decide) rfl (show _ < gL g by omega) (show gL g < 2 ^ 31 by omega) rfl ?_
  refine AW.aload_n 494 dL_law_493 rfl rfl ?_
  refine AW.iload_n 495 dL_law_494 rfl rfl ?_
  refine AW.iconst 496 (nI 3) dL_law_495 (by decide) rfl ?_
  refine AW.iaddN 497 dL_law_496 rfl ?_
  refine AW.eald 498 dL_law_497 (by decide) rfl (show _ < gL g by omega) (show gL g < 2 ^ 31 by omega) rfl ?_
  refine AW.cVi3 501 dL_law_498 kL_50 (zI rfl rfl) (Nat.le_of_ble_eq_true rfl) rfl (hR _ (fun M2 hI2 => ?_))
  refine AW.zicmp_eq 504 1342 dL_law_501 (by decide) rfl rfl rfl (fun b501 => ?_) (fun b501 => absurd rfl b501)
  exact hn a b c M2 hI2
theorem K_8 (hI : Inv m0 m1 md M) (hi : i + 6 ≤ gL g) (hL : gL g ≤ 3072) (hn : ∀ a b c M2, Inv a b c M2 → z_LW l g Q 1342 i (ZS a b c) M2) : z_LW l g Q 506 i (ZS m0 m1 md) M := by
  refine AW.aload_n 507 dL_law_506 rfl rfl ?_
  refine AW.aload_n 508 dL_law_507 rfl rfl ?_
  refine AW.iload_n 509 dL_law_508 rfl rfl ?_
  refine AW.iconst 510 (nI 1) dL_law_509 (by decide) rfl ?_
  refine AW.iaddN 511 dL_law_510 rfl ?_
  refine AW.eald 512 dL_law_511 (by decide) rfl (show _ < gL g by omega) (show gL g < 2 ^ 31 by omega) rfl ?_
  refine AW.aload_n 513 dL_law_512 rfl rfl ?_
  refine AW.iload_n 514 dL_law_513 rfl rfl ?_
  refine AW.iconst 515 (nI 2) dL_law_514 (by decide) rfl ?_
  refine AW.iaddN 516 dL_law_515 rfl ?_
  refine AW.eald 517 dL_law_516 (by decide) rfl (show _ < gL g by omega) (show gL g < 2 ^ 31 by omega) rfl ?_
  refine AW.aload_n 518 dL_law_517 rfl rfl ?_
  refine AW.iload_n 519 dL_law_518 rfl rfl ?_
  refine AW.iconst 520 (nI 3) dL_law_519 (by decide) rfl ?_
  refine AW.iaddN 521 dL_law_520 rfl ?_
  refine AW.eald 522 dL_law_521 (by decide) rfl (show _ < gL g by omega) (show gL g < 2 ^ 31 by omega) rfl ?_
  refine AW.aload_n 523 dL_law_522 rfl rfl ?_
  refine AW.iload_n 524 dL_law_523 rfl rfl ?_
  refine AW.iconst 525 (nI 4) dL_law_524 (by decide) rfl ?_
  refine AW.iaddN 526 dL_law_525 rfl ?_
  refine AW.eald 527 dL_law_526 (by decide) rfl (show _ < gL g by omega) (show gL g < 2 ^ 31 by omega) rfl ?_
  refine AW.cVi4 530 dL_law_527 kL_51 (zI rfl rfl) (Nat.le_of_ble_eq_true rfl) rfl (P_chooses hI (fun x a b c M1 hR => ?_))
  refine AW.aload_n 531 dL_law_530 rfl rfl ?_
  refine AW.aload_n 532 dL_law_531 rfl rfl ?_
  refine AW.iload_n 533 dL_law_532 rfl rfl ?_
  refine AW.iconst 534 (nI 1) dL_law_533 (by decide) rfl ?_
  refine AW.iaddN 535 dL_law_534 rfl ?_
  refine AW.eald 536 dL_law_535 (by decide) rfl (show _ < gL g by omega) (show gL g < 2 ^ 31 by omega) rfl ?_
  refine AW.aload_n 537 dL_law_536 rfl rfl ?_
  refine AW.iload_n 538 dL_law_537 rfl rfl ?_
  refine AW.iconst 539 (nI 2) dL_law_538 (by decide) rfl ?_
  refine AW.iaddN 540 dL_law_539 rfl ?_
  refine AW.eald 541 dL_law_540 (by decide) rfl (show _ < gL g by omega) (show gL g < 2 ^ 31 by omega) rfl ?_
  refine AW.aload_n 542 dL_law_541 rfl rfl ?_
  refine AW.iload_n 543 dL_law_542 rfl rfl ?_
  refine AW.iconst 544 (nI 3) dL_law_543 (by decide) rfl ?_
  refine AW.iaddN 545 dL_law_544 rfl ?_
  refine AW.eald 546 dL_law_545 (by decide) rfl (show _ < gL g by omega) (show gL g < 2 ^ 31 by omega) rfl ?_
  refine AW.aload_n 547 dL_law_546 rfl rfl ?_
  refine AW.iload_n 548 dL_law_547 rfl rfl ?_
  refine AW.iconst 549 (nI 4) dL_law_548 (by decide) rfl ?_
  refine AW.iaddN 550 dL_law_549 rfl ?_
  refine AW.eald 551 dL_law_550 (by decide) rfl (show _ < gL g by omega) (show gL g < 2 ^ 31 by omega) rfl ?_
  refine AW.cVi4 554 dL_law_551 kL_55 (zI rfl rfl) (Nat.le_of_ble_eq_true rfl) rfl (hR _ (fun M2 hI2 => ?_))
  refine AW.zicmp_eq 557 1342 dL_law_554 (by decide) rfl rfl rfl (fun b554 => ?_) (fun b554 => absurd rfl b554)
  exact hn a b c M2 hI2
theorem K_9 (hI : Inv m0 m1 md M) (hi : i + 6 ≤ gL g) (hL : gL g ≤ 3072) (hn : ∀ a b c M2, Inv a b c M2 → z_LW l g Q 1342 i (ZS a b c) M2) : z_LW l g Q 559 i (ZS m0 m1 md) M := by
  refine AW.aload_n 560 dL_law_559 rfl rfl ?_
  refine AW.aload_n 561 dL_law_560 rfl rfl ?_
  refine AW.iload_n 562 dL_law_561 rfl rfl ?_
  refine AW.iconst 563 (nI 1) dL_law_562 (by decide) rfl ?_
  refine AW.iaddN 564 dL_law_563 rfl ?_
  refine AW.eald 565 dL_law_564 (by decide) rfl (show _ < gL g by omega) (show gL g < 2 ^ 31 by omega) rfl ?_
  refine AW.cVi1 568 dL_law_565 kL_56 (zI rfl rfl) (Nat.le_of_ble_eq_true rfl) rfl (P_write hI (fun x a b c M1 hR => ?_))
  refine AW.aload_n 569 dL_law_568 rfl rfl ?_
  refine AW.aload_n 570 dL_law_569 rfl rfl ?_
  refine AW.iload_n 571 dL_law_570 rfl rfl ?_
  refine AW.iconst 572 (nI 1) dL_law_571 (by decide) rfl ?_
  refine AW.iaddN 573 dL_law_572 rfl ?_
  refine AW.eald 574 dL_law_573 (by decide) rfl (show _ < gL g by omega) (show gL g < 2 ^ 31 by omega) rfl ?_
  refine AW.cVi1 577 dL_law_574 kL_59 (zI rfl rfl) (Nat.le_of_ble_eq_true rfl) rfl (hR _ (fun M2 hI2 => ?_))
  refine AW.zicmp_eq 580 1342 dL_law_577 (by decide) rfl rfl rfl (fun b577 => ?_) (fun b577 => absurd rfl b577)
  exact hn a b c M2 hI2
theorem K_10 (hI : Inv m0 m1 md M) (hi : i + 6 ≤ gL g) (hL : gL g ≤ 3072) (hn : ∀ a b c M2, Inv a b c M2 → z_LW l g Q 1342 i (ZS a b c) M2) : z_LW l g Q 582 i (ZS m0 m1 md) M := by
  refine AW.aload_n 583 dL_law_582 rfl rfl ?_
  refine AW.aload_n 584 dL_law_583 rfl rfl ?_
  refine AW.iload_n 585 dL_law_584 rfl rfl ?_
  refine AW.iconst 586 (nI 1) dL_law_585 (by decide) rfl ?_
  refine AW.iaddN 587 dL_law_586 rfl ?_
  refine AW.eald 588 dL_law_587 (by decide) rfl (show _ < gL g by omega) (show gL g < 2 ^ 31 by omega) rfl ?_
  refine AW.aload_n 589 dL_law_588 rfl rfl ?_
  refine AW.iload_n 590 dL_law_589 rfl rfl ?_
  refine AW.iconst 591 (nI 2) dL_law_590 (by decide) rfl ?_
  refine AW.iaddN 592 dL_law_591 rfl ?_
  refine AW.eald 593 dL_law_592 (by decide) rfl (show _ < gL g by omega) (show gL g < 2 ^ 31 by omega) rfl ?_
  refine AW.cVi2 596 dL_law_593 kL_60 (zI rfl rfl) (Nat.le_of_ble_eq_true rfl) rfl (P_tell hI (fun x a b c M1 hR => ?_))
  refine AW.aload_n 597 dL_law_596 rfl rfl ?_
  refine AW.aload_n 598 dL_law_597 rfl rfl ?_
  refine AW.iload_n 599 dL_law_598 rfl rfl ?_
  refine AW.iconst 600 (nI 1) dL_law_599 (by decide) rfl ?_
  refine AW.iaddN 601 dL_law_600 rfl ?_
  refine AW.eald 602 dL_law_601 (by decide) rfl (show _ < gL g by omega) (show gL g < 2 ^ 31 by omega) rfl ?_
  refine AW.aload_n 603 dL_law_602 rfl rfl ?_
  refine AW.iload_n 604 dL_law_603 rfl rfl ?_
  refine AW.iconst 605 (nI 2) dL_law_604 (by decide) rfl ?_
  refine AW.iaddN 606 dL_law_605 rfl ?_
  refine AW.eald 607 dL_law_606 (by decide) rfl (show _ < gL g by omega) (show gL g < 2 ^ 31 by omega) rfl ?_
  refine AW.cVi2 610 dL_law_607 kL_63 (zI rfl rfl) (Nat.le_of_ble_eq_true rfl) rfl (hR _ (fun M2 hI2 => ?_))
  refine AW.zicmp_eq 613 1342 dL_law_610 (by decide) rfl rfl rfl (fun b610 => ?_) (fun b610 => absurd rfl b610)
  exact hn a b c M2 hI2
theorem K_11 (hI : Inv m0 m1 md M) (hi : i + 6 ≤ gL g) (hL : gL g ≤ 3072) (hn : ∀ a b c M2, Inv a b c M2 → z_LW l g Q 1342 i (ZS a b c) M2) : z_LW l g Q 615 i (ZS m0 m1 md) M := by
  refine AW.aload_n 616 dL_law_615 rfl rfl ?_
  refine AW.aload_n 617 dL_law_616 rfl rfl ?_
  refine AW.iload_n 618 dL_law_617 rfl rfl ?_
  refine AW.iconst 619 (nI 1) dL_law_618 (by decide) rfl ?_
  refine AW.iaddN 620 dL_law_619 rfl ?_
  refine AW.eald 621 dL_law_620 (by decide) rfl (show _ < gL g by omega) (show gL g < 2 ^ 31 by omega) rfl ?_
  refine AW.aload_n 622 dL_law_621 rfl rfl ?_
  refine AW.iload_n 623 dL_law_622 rfl rfl ?_
  refine AW.iconst 624 (nI 2) dL_law_623 (by decide) rfl ?_
  refine AW.iaddN 625 dL_law_624 rfl ?_
  refine AW.eald 626 dL_law_625 (by decide) rfl (show _ < gL g by omega) (show gL g < 2 ^ 31 by omega) rfl ?_
  refine AW.cVi2 629 dL_law_626 kL_64 (zI rfl rfl) (Nat.le_of_ble_eq_true rfl) rfl (P_line hI (fun x a b c M1 hR => ?_))
  refine AW.aload_n 630 dL_law_629 rfl rfl ?_
  refine AW.aload_n 631 dL_law_630 rfl rfl ?_
  refine AW.iload_n 632 dL_law_631 rfl rfl ?_
  refine AW.iconst 633 (nI 1) dL_law_632 (by decide) rfl ?_
  refine AW.iaddN 634 dL_law_633 rfl ?_
  refine AW.eald 635 dL_law_634 (by decide) rfl (show _ < gL g by omega) (show gL g < 2 ^ 31 by omega) rfl ?_
  refine AW.aload_n 636 dL_law_635 rfl rfl ?_
  refine AW.iload_n 637 dL_law_636 rfl rfl ?_
  refine AW.iconst 638 (nI 2) dL_law_637 (by decide) rfl ?_
  refine AW.iaddN 639 dL_law_638 rfl ?_
  refine AW.eald 640 dL_law_639 (by decide) rfl (show _ < gL g by omega) (show gL g < 2 ^ 31 by omega) rfl ?_
  refine AW.cVi2 643 dL_law_640 kL_67 (zI rfl rfl) (Nat.le_of_ble_eq_true rfl) rfl (hR _ (fun M2 hI2 => ?_))
  refine AW.zicmp_eq 646 1342 dL_law_643 (by decide) rfl rfl rfl (fun b643 => ?_) (fun b643 => absurd rfl b643)
  exact hn a b c M2 hI2
theorem K_12 (hI : Inv m0 m1 md M) (hi : i + 6 ≤ gL g) (hL : gL g ≤ 3072) (hn : ∀ a b c M2, Inv a b c M2 → z_LW l g Q 1342 i (ZS a b c) M2) : z_LW l g Q 648 i (ZS m0 m1 md) M := by
  refine AW.aload_n 649 dL_law_648 rfl rfl ?_
  refine AW.aload_n 650 dL_law_649 rfl rfl ?_
  refine AW.iload_n 651 dL_law_650 rfl rfl ?_
  refine AW.iconst 652 (nI 1) dL_law_651 (by decide) rfl ?_
  refine AW.iaddN 653 dL_law_652 rfl ?_
  refine AW.eald 654 dL_law_653 (by decide) rfl (show _ < gL g by omega) (show gL g < 2 ^ 31 by omega) rfl ?_
  refine AW.aload_n 655 dL_law_654 rfl rfl ?_
  refine AW.iload_n 656 dL_law_655 rfl rfl ?_
  refine AW.iconst 657 (nI 2) dL_law_656 (by decide) rfl ?_
  refine AW.iaddN 658 dL_law_657 rfl ?_
  refine AW.eald 659 dL_law_658 (by decide) rfl (show _ < gL g by omega) (show gL g < 2 ^ 31 by omega) rfl ?_
  refine AW.cVi2 662 dL_law_659 kL_68 (zI rfl rfl) (Nat.le_of_ble_eq_true rfl) rfl (P_forge hI (fun x a b c M1 hR => ?_))
  refine AW.aload_n 663 dL_law_662 rfl rfl ?_
  refine AW.aload_n 664 dL_law_663 rfl rfl ?_
  refine AW.iload_n 665 dL_law_664 rfl rfl ?_
  refine AW.iconst 666 (nI 1) dL_law_665 (by decide) rfl ?_
  refine AW.iaddN 667 dL_law_666 rfl ?_
  refine AW.eald 668 dL_law_667 (by decide) rfl (show _ < gL g by omega) (show gL g < 2 ^ 31 by omega) rfl ?_
  refine AW.aload_n 669 dL_law_668 rfl rfl ?_
  refine AW.iload_n 670 dL_law_669 rfl rfl ?_
  refine AW.iconst 671 (nI 2) dL_law_670 (by decide) rfl ?_
  refine AW.iaddN 672 dL_law_671 rfl ?_
  refine AW.eald 673 dL_law_672 (by decide) rfl (show _ < gL g by omega) (show gL g < 2 ^ 31 by omega) rfl ?_
  refine AW.cVi2 676 dL_law_673 kL_71 (zI rfl rfl) (Nat.le_of_ble_eq_true rfl) rfl (hR _ (fun M2 hI2 => ?_))
  refine AW.zicmp_eq 679 1342 dL_law_676 (by decide) rfl rfl rfl (fun b676 => ?_) (fun b676 => absurd rfl b676)
  exact hn a b c M2 hI2
theorem K_13 (hI : Inv m0 m1 md M) (hi : i + 6 ≤ gL g) (hL : gL g ≤ 3072) (hn : ∀ a b c M2, Inv a b c M2 → z_LW l g Q 1342 i (ZS a b c) M2) : z_LW l g Q 681 i (ZS m0 m1 md) M := by
  refine AW.aload_n 682 dL_law_681 rfl rfl ?_
  refine AW.aload_n 683 dL_law_682 rfl rfl ?_
  refine AW.iload_n 684 dL_law_683 rfl rfl ?_
  refine AW.iconst 685 (nI 1) dL_law_684 (by decide) rfl ?_
  refine AW.iaddN 686 dL_law_685 rfl ?_
  refine AW.eald 687 dL_law_686 (by decide) rfl (show _ < gL g by omega) (show gL g < 2 ^ 31 by omega) rfl ?_
  refine AW.aload_n 688 dL_law_687 rfl rfl ?_
  refine AW.iload_n 689 dL_law_688 rfl rfl ?_
  refine AW.iconst 690 (nI 2) dL_law_689 (by decide) rfl ?_
  refine AW.iaddN 691 dL_law_690 rfl ?_
  refine AW.eald 692 dL_law_691 (by decide) rfl (show _ < gL g by omega) (show gL g < 2 ^ 31 by omega) rfl ?_
  refine AW.cVi2 695 dL_law_692 kL_72 (zI rfl rfl) (Nat.le_of_ble_eq_true rfl) rfl (P_swap hI (fun x a b c M1 hR => ?_))
  refine AW.aload_n 696 dL_law_695 rfl rfl ?_
  refine AW.aload_n 697 dL_law_696 rfl rfl ?_
  refine AW.iload_n 698 dL_law_697 rfl rfl ?_
  refine AW.iconst 699 (nI 1) dL_law_698 (by decide) rfl ?_
  refine AW.iaddN 700 dL_law_699 rfl ?_
  refine AW.eald 701 dL_law_700 (by decide) rfl (show _ < gL g by omega) (show gL g < 2 ^ 31 by omega) rfl ?_
  refine AW.aload_n 702 dL_law_701 rfl rfl ?_
  refine AW.iload_n 703 dL_law_702 rfl rfl ?_
  refine AW.iconst 704 (nI 2) dL_law_703 (by decide) rfl ?_
  refine AW.iaddN 705 dL_law_704 rfl ?_
  refine AW.eald 706 dL_law_705 (by decide) rfl (show _ < gL g by omega) (show gL g < 2 ^ 31 by omega) rfl ?_
  refine AW.cVi2 709 dL_law_706 kL_75 (zI rfl rfl) (Nat.le_of_ble_eq_true rfl) rfl (hR _ (fun M2 hI2 => ?_))
  refine AW.zicmp_eq 712 1342 dL_law_709 (by decide) rfl rfl rfl (fun b709 => ?_) (fun b709 => absurd rfl b709)
  exact hn a b c M2 hI2
theorem K_14 (hI : Inv m0 m1 md M) (hi : i + 6 ≤ gL g) (hL : gL g ≤ 3072) (hn : ∀ a b c M2, Inv a b c M2 → z_LW l g Q 1342 i (ZS a b c) M2) : z_LW l g Q 714 i (ZS m0 m1 md) M := by
  refine AW.aload_n 715 dL_law_714 rfl rfl ?_
  refine AW.aload_n 716 dL_law_715 rfl rfl ?_
  refine AW.iload_n 717 dL_law_716 rfl rfl ?_
  refine AW.iconst 718 (nI 1) dL_law_717 (by decide) rfl ?_
  refine AW.iaddN 719 dL_law_718 rfl ?_
  refine AW.eald 720 dL_law_719 (by decide) rfl (show _ < gL g by omega) (show gL g < 2 ^ 31 by omega) rfl ?_
  refine AW.cVi1 723 dL_law_720 kL_76 (zI rfl rfl) (Nat.le_of_ble_eq_true rfl) rfl (P_tear hI (fun x a b c M1 hR => ?_))
  refine AW.aload_n 724 dL_law_723 rfl rfl ?_
  refine AW.aload_n 725 dL_law_724 rfl rfl ?_
  refine AW.iload_n 726 dL_law_725 rfl rfl ?_
  refine AW.iconst 727 (nI 1) dL_law_726 (by decide) rfl ?_
  refine AW.iaddN 728 dL_law_727 rfl ?_
  refine AW.eald 729 dL_law_728 (by decide) rfl (show _ < gL g by omega) (show gL g < 2 ^ 31 by omega) rfl ?_
  refine AW.cVi1 732 dL_law_729 kL_79 (zI rfl rfl) (Nat.le_of_ble_eq_true rfl) rfl (hR _ (fun M2 hI2 => ?_))
  refine AW.zicmp_eq 735 1342 dL_law_732 (by decide) rfl rfl rfl (fun b732 => ?_) (fun b732 => absurd rfl b732)
  exact hn a b c M2 hI2
theorem K_15 (hI : Inv m0 m1 md M) (hi : i + 6 ≤ gL g) (hL : gL g ≤ 3072) (hn : ∀ a b c M2, Inv a b c M2 → z_LW l g Q 1342 i (ZS a b c) M2) : z_LW l g Q 737 i (ZS m0 m1 md) M := by
  refine AW.aload_n 738 dL_law_737 rfl rfl ?_
  refine AW.aload_n 739 dL_law_738 rfl rfl ?_
  refine AW.iload_n 740 dL_law_739 rfl rfl ?_
  refine AW.iconst 741 (nI 1) dL_law_740 (by decide) rfl ?_
  refine AW.iaddN 742 dL_law_741 rfl ?_
  refine AW.eald 743 dL_law_742 (by decide) rfl (show _ < gL g by omega) (show gL g < 2 ^ 31 by omega) rfl ?_
  refine AW.cVi1 746 dL_law_743 kL_80 (zI rfl rfl) (Nat.le_of_ble_eq_true rfl) rfl (P_give hI (fun x a b c M1 hR => ?_))
  refine AW.aload_n 747 dL_law_746 rfl rfl ?_
  refine AW.aload_n 748 dL_law_747 rfl rfl ?_
  refine AW.iload_n 749 dL_law_748 rfl rfl ?_
  refine AW.iconst 750 (nI 1) dL_law_749 (by decide) rfl ?_
  refine AW.iaddN 751 dL_law_750 rfl ?_
  refine AW.eald 752 dL_law_751 (by decide) rfl (show _ < gL g by omega) (show gL g < 2 ^ 31 by omega) rfl ?_
  refine AW.cVi1 755 dL_law_752 kL_83 (zI rfl rfl) (Nat.le_of_ble_eq_true rfl) rfl (hR _ (fun M2 hI2 => ?_))
  refine AW.zicmp_eq 758 1342 dL_law_755 (by decide) rfl rfl rfl (fun b755 => ?_) (fun b755 => absurd rfl b755)
  exact hn a b c M2 hI2
theorem K_16 (hI : Inv m0 m1 md M) (hi : i + 6 ≤ gL g) (hL : gL g ≤ 3072) (hn : ∀ a b c M2, Inv a b c M2 → z_LW l g Q 1342 i (ZS a b c) M2) : z_LW l g Q 760 i (ZS m0 m1 md) M := by
  refine AW.aload_n 761 dL_law_760 rfl rfl ?_
  refine AW.aload_n 762 dL_law_761 rfl rfl ?_
  refine AW.iload_n 763 dL_law_762 rfl rfl ?_
  refine AW.iconst 764 (nI 1) dL_law_763 (by decide) rfl ?_
  refine AW.iaddN 765 dL_law_764 rfl ?_
  refine AW.eald 766 dL_law_765 (by decide) rfl (show _ < gL g by omega) (show gL g < 2 ^ 31 by omega) rfl ?_
  refine AW.aload_n 767 dL_law_766 rfl rfl ?_
  refine AW.iload_n 768 dL_law_767 rfl rfl ?_
  refine AW.iconst 769 (nI 2) dL_law_768 (by decide) rfl ?_
  refine AW.iaddN 770 dL_law_769 rfl ?_
  refine AW.eald 771 dL_law_770 (by decide) rfl (show _ < gL g by omega) (show gL g < 2 ^ 31 by omega) rfl ?_
  refine AW.cVi2 774 dL_law_771 kL_84 (zI rfl rfl) (Nat.le_of_ble_eq_true rfl) rfl (P_kept hI (fun x a b c M1 hR => ?_))
  refine AW.aload_n 775 dL_law_774 rfl rfl ?_
  refine AW.aload_n 776 dL_law_775 rfl rfl ?_
  refine AW.iload_n 777 dL_law_776 rfl rfl ?_
  refine AW.iconst 778 (nI 1) dL_law_777 (by decide) rfl ?_
  refine AW.iaddN 779 dL_law_778 rfl ?_
  refine AW.eald 780 dL_law_779 (by decide) rfl (show _ < gL g by omega) (show gL g < 2 ^ 31 by omega) rfl ?_
  refine AW.aload_n 781 dL_law_780 rfl rfl ?_
  refine AW.iload_n 782 dL_law_781 rfl rfl ?_
  refine AW.iconst 783 (nI 2) dL_law_782 (by decide) rfl ?_
  refine AW.iaddN 784 dL_law_783 rfl ?_
  refine AW.eald 785 dL_law_784 (by decide) rfl (show _ < gL g by omega) (show gL g < 2 ^ 31 by omega) rfl ?_
  refine AW.cVi2 788 dL_law_785 kL_87 (zI rfl rfl) (Nat.le_of_ble_eq_true rfl) rfl (hR _ (fun M2 hI2 => ?_))
  refine AW.zicmp_eq 791 1342 dL_law_788 (by decide) rfl rfl rfl (fun b788 => ?_) (fun b788 => absurd rfl b788)
  exact hn a b c M2 hI2
theorem K_17 (hI : Inv m0 m1 md M) (hi : i + 6 ≤ gL g) (hL : gL g ≤ 3072) (hn : ∀ a b c M2, Inv a b c M2 → z_LW l g Q 1342 i (ZS a b c) M2) : z_LW l g Q 793 i (ZS m0 m1 md) M := by
  refine AW.aload_n 794 dL_law_793 rfl rfl ?_
  refine AW.cVi0 797 dL_law_794 kL_88 (zI rfl rfl) (Nat.le_of_ble_eq_true rfl) rfl (P_torn hI (fun x a b c M1 hR => ?_))
  refine AW.aload_n 798 dL_law_797 rfl rfl ?_
  refine AW.cVi0 801 dL_law_798 kL_92 (zI rfl rfl) (Nat.le_of_ble_eq_true rfl) rfl (hR _ (fun M2 hI2 => ?_))
  refine AW.zicmp_eq 804 1342 dL_law_801 (by decide) rfl rfl rfl (fun b801 => ?_) (fun b801 => absurd rfl b801)
  exact hn a b c M2 hI2
theorem K_18 (hI : Inv m0 m1 md M) (hi : i + 6 ≤ gL g) (hL : gL g ≤ 3072) (hn : ∀ a b c M2, Inv a b c M2 → z_LW l g Q 1342 i (ZS a b c) M2) : z_LW l g Q 806 i (ZS m0 m1 md) M := by
  refine AW.aload_n 807 dL_law_806 rfl rfl ?_
  refine AW.cVi0 810 dL_law_807 kL_93 (zI rfl rfl) (Nat.le_of_ble_eq_true rfl) rfl (P_differs hI (fun x a b c M1 hR => ?_))
  refine AW.aload_n 811 dL_law_810 rfl rfl ?_
  refine AW.cVi0 814 dL_law_811 kL_96 (zI rfl rfl) (Nat.le_of_ble_eq_true rfl) rfl (hR _ (fun M2 hI2 => ?_))
  refine AW.zicmp_eq 817 1342 dL_law_814 (by decide) rfl rfl rfl (fun b814 => ?_) (fun b814 => absurd rfl b814)
  exact hn a b c M2 hI2
theorem K_19 (hI : Inv m0 m1 md M) (hi : i + 6 ≤ gL g) (hL : gL g ≤ 3072) (hn : ∀ a b c M2, Inv a b c M2 → z_LW l g Q 1342 i (ZS a b c) M2) : z_LW l g Q 819 i (ZS m0 m1 md) M := by
  refine AW.aload_n 820 dL_law_819 rfl rfl ?_
  refine AW.aload_n 821 dL_law_820 rfl rfl ?_
  refine AW.iload_n 822 dL_law_821 rfl rfl ?_
  refine AW.iconst 823 (nI 1) dL_law_822 (by decide) rfl ?_
  refine AW.iaddN 824 dL_law_823 rfl ?_
  refine AW.eald 825 dL_law_824 (by decide) rfl (show _ < gL g by omega) (show gL g < 2 ^ 31 by omega) rfl ?_
  refine AW.cVi1 828 dL_law_825 kL_97 (zI rfl rfl) (Nat.le_of_ble_eq_true rfl) rfl (P_count hI (fun x a b c M1 hR => ?_))
  refine AW.aload_n 829 dL_law_828 rfl rfl ?_
  refine AW.aload_n 830 dL_law_829 rfl rfl ?_
  refine AW.iload_n 831 dL_law_830 rfl rfl ?_
  refine AW.iconst 832 (nI 1) dL_law_831 (by decide) rfl ?_
  refine AW.iaddN 833 dL_law_832 rfl ?_
  refine AW.eald 834 dL_law_833 (by decide) rfl (show _ < gL g by omega) (show gL g < 2 ^ 31 by omega) rfl ?_
  refine AW.cVi1 837 dL_law_834 kL_100 (zI rfl rfl) (Nat.le_of_ble_eq_true rfl) rfl (hR _ (fun M2 hI2 => ?_))
  refine AW.zicmp_eq 840 1342 dL_law_837 (by decide) rfl rfl rfl (fun b837 => ?_) (fun b837 => absurd rfl b837)
  exact hn a b c M2 hI2
theorem K_20 (hI : Inv m0 m1 md M) (hi : i + 6 ≤ gL g) (hL : gL g ≤ 3072) (hn : ∀ a b c M2, Inv a b c M2 → z_LW l g Q 1342 i (ZS a b c) M2) : z_LW l g Q 842 i (ZS m0 m1 md) M := by
  refine AW.aload_n 843 dL_law_842 rfl rfl ?_
  refine AW.aload_n 844 dL_law_843 rfl rfl ?_
  refine AW.iload_n 845 dL_law_844 rfl rfl ?_
  refine AW.iconst 846 (nI 1) dL_law_845 (by decide) rfl ?_
  refine AW.iaddN 847 dL_law_846 rfl ?_
  refine AW.eald 848 dL_law_847 (by decide) rfl (show _ < gL g by omega) (show gL g < 2 ^ 31 by omega) rfl ?_
  refine AW.aload_n 849 dL_law_848 rfl rfl ?_
  refine AW.iload_n 850 dL_law_849 rfl rfl ?_
  refine AW.iconst 851 (nI 2) dL_law_850 (by decide) rfl ?_
  refine AW.iaddN 852 dL_law_851 rfl ?_
  refine AW.eald 853 dL_law_852 (by decide) rfl (show _ < gL g by omega) (show gL g < 2 ^ 31 by omega) rfl ?_
  refine AW.cVi2 856 dL_law_853 kL_101 (zI rfl rfl) (Nat.le_of_ble_eq_true rfl) rfl (P_doing hI (fun x a b c M1 hR => ?_))
  refine AW.aload_n 857 dL_law_856 rfl rfl ?_
  refine AW.aload_n 858 dL_law_857 rfl rfl ?_
  refine AW.iload_n 859 dL_law_858 rfl rfl ?_
  refine AW.iconst 860 (nI 1) dL_law_859 (by decide) rfl ?_
  refine AW.iaddN 861 dL_law_860 rfl ?_
  refine AW.eald 862 dL_law_861 (by decide) rfl (show _ < gL g by omega) (show gL g < 2 ^ 31 by omega) rfl ?_
  refine AW.aload_n 863 dL_law_862 rfl rfl ?_
  refine AW.iload_n 864 dL_law_863 rfl rfl ?_
  refine AW.iconst 865 (nI 2) dL_law_864 (by decide) rfl ?_
  refine AW.iaddN 866 dL_law_865 rfl ?_
  refine AW.eald 867 dL_law_866 (by decide) rfl (show _ < gL g by omega) (show gL g < 2 ^ 31 by omega) rfl ?_
  refine AW.cVi2 870 dL_law_867 kL_104 (zI rfl rfl) (Nat.le_of_ble_eq_true rfl) rfl (hR _ (fun M2 hI2 => ?_))
  refine AW.zicmp_eq 873 1342 dL_law_870 (by decide) rfl rfl rfl (fun b870 => ?_) (fun b870 => absurd rfl b870)
  exact hn a b c M2 hI2
theorem K_21 (hI : Inv m0 m1 md M) (hi : i + 6 ≤ gL g) (hL : gL g ≤ 3072) (hn : ∀ a b c M2, Inv a b c M2 → z_LW l g Q 1342 i (ZS a b c) M2) : z_LW l g Q 875 i (ZS m0 m1 md) M := by
  refine AW.aload_n 876 dL_law_875 rfl rfl ?_
  refine AW.aload_n 877 dL_law_876 rfl rfl ?_
  refine AW.iload_n 878 dL_law_877 rfl rfl ?_
  refine AW.iconst 879 (nI 1) dL_law_878 (by decide) rfl ?_
  refine AW.iaddN 880 dL_law_879 rfl ?_
  refine AW.eald 881 dL_law_880 (by decide) rfl (show _ < gL g by omega) (show gL g < 2 ^ 31 by omega) rfl ?_
  refine AW.aload_n 882 dL_law_881 rfl rfl ?_
  refine AW.iload_n 883 dL_law_882 rfl rfl ?_
  refine AW.iconst 884 (nI 2) dL_law_883 (by decide) rfl ?_
  refine AW.iaddN 885 dL_law_884 rfl ?_
  refine AW.eald 886 dL_law_885 (by decide) rfl (show _ < gL g by omega) (show gL g < 2 ^ 31 by omega) rfl ?_
  refine AW.aload_n 887 dL_law_886 rfl rfl ?_
  refine AW.iload_n 888 dL_law_887 rfl rfl ?_
  refine AW.iconst 889 (nI 3) dL_law_888 (by decide) rfl ?_
  refine AW.iaddN 890 dL_law_889 rfl ?_
  refine AW.eald 891 dL_law_890 (by decide) rfl (show _ < gL g by omega) (show gL g < 2 ^ 31 by omega) rfl ?_
  refine AW.cVi3 894 dL_law_891 kL_105 (zI rfl rfl) (Nat.le_of_ble_eq_true rfl) rfl (P_thing hI (fun x a b c M1 hR => ?_))
  refine AW.aload_n 895 dL_law_894 rfl rfl ?_
  refine AW.aload_n 896 dL_law_895 rfl rfl ?_
  refine AW.iload_n 897 dL_law_896 rfl rfl ?_
  refine AW.iconst 898 (nI 1) dL_law_897 (by decide) rfl ?_
  refine AW.iaddN 899 dL_law_898 rfl ?_
  refine AW.eald 900 dL_law_899 (by decide) rfl (show _ < gL g by omega) (show gL g < 2 ^ 31 by omega) rfl ?_
  refine AW.aload_n 901 dL_law_900 rfl rfl ?_
  refine AW.iload_n 902 dL_law_901 rfl rfl ?_
  refine AW.iconst 903 (nI 2) dL_law_902 (by decide) rfl ?_
  refine AW.iaddN 904 dL_law_903 rfl ?_
  refine AW.eald 905 dL_law_904 (by decide) rfl (show _ < gL g by omega) (show gL g < 2 ^ 31 by omega) rfl ?_
  refine AW.aload_n 906 dL_law_905 rfl rfl ?_
  refine AW.iload_n 907 dL_law_906 rfl rfl ?_
  refine AW.iconst 908 (nI 3) dL_law_907 (by decide) rfl ?_
  refine AW.iaddN 909 dL_law_908 rfl ?_
  refine AW.eald 910 dL_law_909 (by decide) rfl (show _ < gL g by omega) (show gL g < 2 ^ 31 by omega) rfl ?_
  refine AW.cVi3 913 dL_law_910 kL_108 (zI rfl rfl) (Nat.le_of_ble_eq_true rfl) rfl (hR _ (fun M2 hI2 => ?_))
  refine AW.zicmp_eq 916 1342 dL_law_913 (by decide) rfl rfl rfl (fun b913 => ?_) (fun b913 => absurd rfl b913)
  exact hn a b c M2 hI2
theorem K_22 (hI : Inv m0 m1 md M) (hi : i + 6 ≤ gL g) (hL : gL g ≤ 3072) (hn : ∀ a b c M2, Inv a b c M2 → z_LW l g Q 1342 i (ZS a b c) M2) : z_LW l g Q 918 i (ZS m0 m1 md) M := by
  refine AW.aload_n 919 dL_law_918 rfl rfl ?_
  refine AW.cVi0 922 dL_law_919 kL_109 (zI rfl rfl) (Nat.le_of_ble_eq_true rfl) rfl (P_clear hI (fun x a b c M1 hR => ?_))
  refine AW.aload_n 923 dL_law_922 rfl rfl ?_
  refine AW.cVi0 926 dL_law_923 kL_112 (zI rfl rfl) (Nat.le_of_ble_eq_true rfl) rfl (hR _ (fun M2 hI2 => ?_))
  refine AW.zicmp_eq 929 1342 dL_law_926 (by decide) rfl rfl rfl (fun b926 => ?_) (fun b926 => absurd rfl b926)
  exact hn a b c M2 hI2
theorem K_23 (hI : Inv m0 m1 md M) (hi : i + 6 ≤ gL g) (hL : gL g ≤ 3072) (hn : ∀ a b c M2, Inv a b c M2 → z_LW l g Q 1342 i (ZS a b c) M2) : z_LW l g Q 931 i (ZS m0 m1 md) M := by
  refine AW.aload_n 932 dL_law_931 rfl rfl ?_
  refine AW.aload_n 933 dL_law_932 rfl rfl ?_
  refine AW.iload_n 934 dL_law_933 rfl rfl ?_
  refine AW.iconst 935 (nI 1) dL_law_934 (by decide) rfl ?_
  refine AW.iaddN 936 dL_law_935 rfl ?_
  refine AW.eald 937 dL_law_936 (by decide) rfl (show _ < gL g by omega) (show gL g < 2 ^ 31 by omega) rfl ?_
  refine AW.cVi1 940 dL_law_937 kL_113 (zI rfl rfl) (Nat.le_of_ble_eq_true rfl) rfl (P_otherwise hI (fun x a b c M1 hR => ?_))
  refine AW.aload_n 941 dL_law_940 rfl rfl ?_
  refine AW.aload_n 942 dL_law_941 rfl rfl ?_
  refine AW.iload_n 943 dL_law_942 rfl rfl ?_
  refine AW.iconst 944 (nI 1) dL_law_943 (by decide) rfl ?_
  refine AW.iaddN 945 dL_law_944 rfl ?_
  refine AW.eald 946 dL_law_945 (by decide) rfl (show _ < gL g by omega) (show gL g < 2 ^ 31 by omega) rfl ?_
  refine AW.cVi1 949 dL_law_946 kL_116 (zI rfl rfl) (Nat.le_of_ble_eq_true rfl) rfl (hR _ (fun M2 hI2 => ?_))
  refine AW.zicmp_eq 952 1342 dL_law_949 (by decide) rfl rfl rfl (fun b949 => ?_) (fun b949 => absurd rfl b949)
  exact hn a b c M2 hI2
theorem K_24 (hI : Inv m0 m1 md M) (hi : i + 6 ≤ gL g) (hL : gL g ≤ 3072) (hn : ∀ a b c M2, Inv a b c M2 → z_LW l g Q 1342 i (ZS a b c) M2) : z_LW l g Q 954 i (ZS m0 m1 md) M := by
  refine AW.aload_n 955 dL_law_954 rfl rfl ?_
  refine AW.cVi0 958 dL_law_955 kL_117 (zI rfl rfl) (Nat.le_of_ble_eq_true rfl) rfl (P_because hI (fun x a b c M1 hR => ?_))
  refine AW.aload_n 959 dL_law_958 rfl rfl ?_
  refine AW.cVi0 962 dL_law_959 kL_120 (zI rfl rfl) (Nat.le_of_ble_eq_true rfl) rfl (hR _ (fun M2 hI2 => ?_))
  refine AW.zicmp_eq 965 1342 dL_law_962 (by decide) rfl rfl rfl (fun b962 => ?_) (fun b962 => absurd rfl b962)
  exact hn a b c M2 hI2
theorem K_25 (hI : Inv m0 m1 md M) (hi : i + 6 ≤ gL g) (hL : gL g ≤ 3072) (hn : ∀ a b c M2, Inv a b c M2 → z_LW l g Q 1342 i (ZS a b c) M2) : z_LW l g Q 967 i (ZS m0 m1 md) M := by
  refine AW.aload_n 968 dL_law_967 rfl rfl ?_
  refine AW.cVi0 971 dL_law_968 kL_121 (zI rfl rfl) (Nat.le_of_ble_eq_true rfl) rfl (P_enough hI (fun x a b c M1 hR => ?_))
  refine AW.aload_n 972 dL_law_971 rfl rfl ?_
  refine AW.cVi0 975 dL_law_972 kL_124 (zI rfl rfl) (Nat.le_of_ble_eq_true rfl) rfl (hR _ (fun M2 hI2 => ?_))
  refine AW.zicmp_eq 978 1342 dL_law_975 (by decide) rfl rfl rfl (fun b975 => ?_) (fun b975 => absurd rfl b975)
  exact hn a b c M2 hI2
theorem K_26 (hI : Inv m0 m1 md M) (hi : i + 6 ≤ gL g) (hL : gL g ≤ 3072) (hn : ∀ a b c M2, Inv a b c M2 → z_LW l g Q 1342 i (ZS a b c) M2) : z_LW l g Q 980 i (ZS m0 m1 md) M := by
  refine AW.aload_n 981 dL_law_980 rfl rfl ?_
  refine AW.aload_n 982 dL_law_981 rfl rfl ?_
  refine AW.iload_n 983 dL_law_982 rfl rfl ?_
  refine AW.iconst 984 (nI 1) dL_law_983 (by decide) rfl ?_
  refine AW.iaddN 985 dL_law_984 rfl ?_
  refine AW.eald 986 dL_law_985 (by decide) rfl (show _ < gL g by omega) (show gL g < 2 ^ 31 by omega) rfl ?_
  refine AW.cVi1 989 dL_law_986 kL_125 (zI rfl rfl) (Nat.le_of_ble_eq_true rfl) rfl (P_sets hI (fun x a b c M1 hR => ?_))
  refine AW.aload_n 990 dL_law_989 rfl rfl ?_
  refine AW.aload_n 991 dL_law_990 rfl rfl ?_
  refine AW.iload_n 992 dL_law_991 rfl rfl ?_
  refine AW.iconst 993 (nI 1) dL_law_992 (by decide) rfl ?_
  refine AW.iaddN 994 dL_law_993 rfl ?_
  refine AW.eald 995 dL_law_994 (by decide) rfl (show _ < gL g by omega) (show gL g < 2 ^ 31 by omega) rfl ?_
  refine AW.cVi1 998 dL_law_995 kL_128 (zI rfl rfl) (Nat.le_of_ble_eq_true rfl) rfl (hR _ (fun M2 hI2 => ?_))
  refine AW.zicmp_eq 1001 1342 dL_law_998 (by decide) rfl rfl rfl (fun b998 => ?_) (fun b998 => absurd rfl b998)
  exact hn a b c M2 hI2
theorem K_27 (hI : Inv m0 m1 md M) (hi : i + 6 ≤ gL g) (hL : gL g ≤ 3072) (hn : ∀ a b c M2, Inv a b c M2 → z_LW l g Q 1342 i (ZS a b c) M2) : z_LW l g Q 1003 i (ZS m0 m1 md) M := by
  refine AW.aload_n 1004 dL_law_1003 rfl rfl ?_
  refine AW.aload_n 1005 dL_law_1004 rfl rfl ?_
  refine AW.iload_n 1006 dL_law_1005 rfl rfl ?_
  refine AW.iconst 1007 (nI 1) dL_law_1006 (by decide) rfl ?_
  refine AW.iaddN 1008 dL_law_1007 rfl ?_
  refine AW.eald 1009 dL_law_1008 (by decide) rfl (show _ < gL g by omega) (show gL g < 2 ^ 31 by omega) rfl ?_
  refine AW.cVi1 1012 dL_law_1009 kL_129 (zI rfl rfl) (Nat.le_of_ble_eq_true rfl) rfl (P_part hI (fun x a b c M1 hR => ?_))
  refine AW.aload_n 1013 dL_law_1012 rfl rfl ?_
  refine AW.aload_n 1014 dL_law_1013 rfl rfl ?_
  refine AW.iload_n 1015 dL_law_1014 rfl rfl ?_
  refine AW.iconst 1016 (nI 1) dL_law_1015 (by decide) rfl ?_
  refine AW.iaddN 1017 dL_law_1016 rfl ?_
  refine AW.eald 1018 dL_law_1017 (by decide) rfl (show _ < gL g by omega) (show gL g < 2 ^ 31 by omega) rfl ?_
  refine AW.cVi1 1021 dL_law_1018 kL_132 (zI rfl rfl) (Nat.le_of_ble_eq_true rfl) rfl (hR _ (fun M2 hI2 => ?_))
  refine AW.zicmp_eq 1024 1342 dL_law_1021 (by decide) rfl rfl rfl (fun b1021 => ?_) (fun b1021 => absurd rfl b1021)
  exact hn a b c M2 hI2
theorem K_28 (hI : Inv m0 m1 md M) (hi : i + 6 ≤ gL g) (hL : gL g ≤ 3072) (hn : ∀ a b c M2, Inv a b c M2 → z_LW l g Q 1342 i (ZS a b c) M2) : z_LW l g Q 1026 i (ZS m0 m1 md) M := by
  refine AW.aload_n 1027 dL_law_1026 rfl rfl ?_
  refine AW.aload_n 1028 dL_law_1027 rfl rfl ?_
  refine AW.iload_n 1029 dL_law_1028 rfl rfl ?_
  refine AW.iconst 1030 (nI 1) dL_law_1029 (by decide) rfl ?_
  refine AW.iaddN 1031 dL_law_1030 rfl ?_
  refine AW.eald 1032 dL_law_1031 (by decide) rfl (show _ < gL g by omega) (show gL g < 2 ^ 31 by omega) rfl ?_
  refine AW.aload_n 1033 dL_law_1032 rfl rfl ?_
  refine AW.iload_n 1034 dL_law_1033 rfl rfl ?_
  refine AW.iconst 1035 (nI 2) dL_law_1034 (by decide) rfl ?_
  refine AW.iaddN 1036 dL_law_1035 rfl ?_
  refine AW.eald 1037 dL_law_1036 (by decide) rfl (show _ < gL g by omega) (show gL g < 2 ^ 31 by omega) rfl ?_
  refine AW.cVi2 1040 dL_law_1037 kL_133 (zI rfl rfl) (Nat.le_of_ble_eq_true rfl) rfl (P_careful hI (fun x a b c M1 hR => ?_))
  refine AW.aload_n 1041 dL_law_1040 rfl rfl ?_
  refine AW.aload_n 1042 dL_law_1041 rfl rfl ?_
  refine AW.iload_n 1043 dL_law_1042 rfl rfl ?_
  refine AW.iconst 1044 (nI 1) dL_law_1043 (by decide) rfl ?_
  refine AW.iaddN 1045 dL_law_1044 rfl ?_
  refine AW.eald 1046 dL_law_1045 (by decide) rfl (show _ < gL g by omega) (show gL g < 2 ^ 31 by omega) rfl ?_
  refine AW.aload_n 1047 dL_law_1046 rfl rfl ?_
  refine AW.iload_n 1048 dL_law_1047 rfl rfl ?_
  refine AW.iconst 1049 (nI 2) dL_law_1048 (by decide) rfl ?_
  refine AW.iaddN 1050 dL_law_1049 rfl ?_
  refine AW.eald 1051 dL_law_1050 (by decide) rfl (show _ < gL g by omega) (show gL g < 2 ^ 31 by omega) rfl ?_
  refine AW.cVi2 1054 dL_law_1051 kL_136 (zI rfl rfl) (Nat.le_of_ble_eq_true rfl) rfl (hR _ (fun M2 hI2 => ?_))
  refine AW.zicmp_eq 1057 1342 dL_law_1054 (by decide) rfl rfl rfl (fun b1054 => ?_) (fun b1054 => absurd rfl b1054)
  exact hn a b c M2 hI2
theorem K_29 (hI : Inv m0 m1 md M) (hi : i + 6 ≤ gL g) (hL : gL g ≤ 3072) (hn : ∀ a b c M2, Inv a b c M2 → z_LW l g Q 1342 i (ZS a b c) M2) : z_LW l g Q 1059 i (ZS m0 m1 md) M := by
  by_cases h2 : (z_ev g 4 (i + 2)).toInt = 0
  · by_cases h3 : (z_ev g 4 (i + 3)).toInt = 0
    · skip
      refine AW.aload_n 1060 dL_law_1059 rfl rfl ?_
      refine AW.aload_n 1061 dL_law_1060 rfl rfl ?_
      refine AW.iload_n 1062 dL_law_1061 rfl rfl ?_
      refine AW.iconst 1063 (nI 1) dL_law_1062 (by decide) rfl ?_
      refine AW.iaddN 1064 dL_law_1063 rfl ?_
      refine AW.eald 1065 dL_law_1064 (by decide) rfl (show _ < gL g by omega) (show gL g < 2 ^ 31 by omega) rfl ?_
      refine AW.aload_n 1066 dL_law_1065 rfl rfl ?_
      refine AW.iload_n 1067 dL_law_1066 rfl rfl ?_
      refine AW.iconst 1068 (nI 2) dL_law_1067 (by decide) rfl ?_
      refine AW.iaddN 1069 dL_law_1068 rfl ?_
      refine AW.eald 1070 dL_law_1069 (by decide) rfl (show _ < gL g by omega) (show gL g < 2 ^ 31 by omega) rfl ?_
      refine AW.zif_eq 1073 1077 dL_law_1070 (by decide) rfl rfl (fun b1070 => ?_) (fun b1070 => absurd h2 b1070)
      refine AW.iconst 1078 (nI 0) dL_law_1077 (by decide) rfl ?_
      refine AW.aload_n 1079 dL_law_1078 rfl rfl ?_
      refine AW.iload_n 1080 dL_law_1079 rfl rfl ?_
      refine AW.iconst 1081 (nI 3) dL_law_1080 (by decide) rfl ?_
      refine AW.iaddN 1082 dL_law_1081 rfl ?_
      refine AW.eald 1083 dL_law_1082 (by decide) rfl (show _ < gL g by omega) (show gL g < 2 ^ 31 by omega) rfl ?_
      refine AW.zif_eq 1086 1090 dL_law_1083 (by decide) rfl rfl (fun b1083 => ?_) (fun b1083 => absurd h3 b1083)
      refine AW.iconst 1091 (nI 0) dL_law_1090 (by decide) rfl ?_
      refine AW.cVi3 1094 dL_law_1091 kL_137 (zI rfl rfl) (Nat.le_of_ble_eq_true rfl) rfl (P_saying hI (fun x a b c M1 hR => ?_))
      refine AW.aload_n 1095 dL_law_1094 rfl rfl ?_
      refine AW.aload_n 1096 dL_law_1095 rfl rfl ?_
      refine AW.iload_n 1097 dL_law_1096 rfl rfl ?_
      refine AW.iconst 1098 (nI 1) dL_law_1097 (by decide) rfl ?_
      refine AW.iaddN 1099 dL_law_1098 rfl ?_
      refine AW.eald 1100 dL_law_1099 (by decide) rfl (show _ < gL g by omega) (show gL g < 2 ^ 31 by omega) rfl ?_
      refine AW.aload_n 1101 dL_law_1100 rfl rfl ?_
      refine AW.iload_n 1102 dL_law_1101 rfl rfl ?_
      refine AW.iconst 1103 (nI 2) dL_law_1102 (by decide) rfl ?_
      refine AW.iaddN 1104 dL_law_1103 rfl ?_
      refine AW.eald 1105 dL_law_1104 (by decide) rfl (show _ < gL g by omega) (show gL g < 2 ^ 31 by omega) rfl ?_
      refine AW.zif_eq 1108 1112 dL_law_1105 (by decide) rfl rfl (fun b1105 => ?_) (fun b1105 => absurd h2 b1105)
      refine AW.iconst 1113 (nI 0) dL_law_1112 (by decide) rfl ?_
      refine AW.aload_n 1114 dL_law_1113 rfl rfl ?_
      refine AW.iload_n 1115 dL_law_1114 rfl rfl ?_
      refine AW.iconst 1116 (nI 3) dL_law_1115 (by decide) rfl ?_
      refine AW.iaddN 1117 dL_law_1116 rfl ?_
      refine AW.eald 1118 dL_law_1117 (by decide) rfl (show _ < gL g by omega) (show gL g < 2 ^ 31 by omega) rfl ?_
      refine AW.zif_eq 1121 1125 dL_law_1118 (by decide) rfl rfl (fun b1118 => ?_) (fun b1118 => absurd h3 b1118)
      refine AW.iconst 1126 (nI 0) dL_law_1125 (by decide) rfl ?_
      refine AW.cVi3 1129 dL_law_1126 kL_141 (zI rfl rfl) (Nat.le_of_ble_eq_true rfl) rfl (hR _ (fun M2 hI2 => ?_))
      refine AW.zicmp_eq 1132 1342 dL_law_1129 (by decide) rfl rfl rfl (fun b1129 => ?_) (fun b1129 => absurd rfl b1129)
      exact hn a b c M2 hI2
    · skip
      refine AW.aload_n 1060 dL_law_1059 rfl rfl ?_
      refine AW.aload_n 1061 dL_law_1060 rfl rfl ?_
      refine AW.iload_n 1062 dL_law_1061 rfl rfl ?_
      refine AW.iconst 1063 (nI 1) dL_law_1062 (by decide) rfl ?_
      refine AW.iaddN 1064 dL_law_1063 rfl ?_
      refine AW.eald 1065 dL_law_1064 (by decide) rfl (show _ < gL g by omega) (show gL g < 2 ^ 31 by omega) rfl ?_
      refine AW.aload_n 1066 dL_law_1065 rfl rfl ?_
      refine AW.iload_n 1067 dL_law_1066 rfl rfl ?_
      refine AW.iconst 1068 (nI 2) dL_law_1067 (by decide) rfl ?_
      refine AW.iaddN 1069 dL_law_1068 rfl ?_
      refine AW.eald 1070 dL_law_1069 (by decide) rfl (show _ < gL g by omega) (show gL g < 2 ^ 31 by omega) rfl ?_
      refine AW.zif_eq 1073 1077 dL_law_1070 (by decide) rfl rfl (fun b1070 => ?_) (fun b1070 => absurd h2 b1070)
      refine AW.iconst 1078 (nI 0) dL_law_1077 (by decide) rfl ?_
      refine AW.aload_n 1079 dL_law_1078 rfl rfl ?_
      refine AW.iload_n 1080 dL_law_1079 rfl rfl ?_
      refine AW.iconst 1081 (nI 3) dL_law_1080 (by decide) rfl ?_
      refine AW.iaddN 1082 dL_law_1081 rfl ?_
      refine AW.eald 1083 dL_law_1082 (by decide) rfl (show _ < gL g by omega) (show gL g < 2 ^ 31 by omega) rfl ?_
      refine AW.zif_eq 1086 1090 dL_law_1083 (by decide) rfl rfl (fun b1083 => absurd b1083 h3) (fun b1083 => ?_)
      refine AW.iconst 1087 (nI 1) dL_law_1086 (by decide) rfl ?_
      refine AW.goto 1091 dL_law_1087 (by decide) ?_
      refine AW.cVi3 1094 dL_law_1091 kL_137 (zI rfl rfl) (Nat.le_of_ble_eq_true rfl) rfl (P_saying hI (fun x a b c M1 hR => ?_))
      refine AW.aload_n 1095 dL_law_1094 rfl rfl ?_
      refine AW.aload_n 1096 dL_law_1095 rfl rfl ?_
      refine AW.iload_n 1097 dL_law_1096 rfl rfl ?_
      refine AW.iconst 1098 (nI 1) dL_law_1097 (by decide) rfl ?_
      refine AW.iaddN 1099 dL_law_1098 rfl ?_
      refine AW.eald 1100 dL_law_1099 (by decide) rfl (show _ < gL g by omega) (show gL g < 2 ^ 31 by omega) rfl ?_
      refine AW.aload_n 1101 dL_law_1100 rfl rfl ?_
      refine AW.iload_n 1102 dL_law_1101 rfl rfl ?_
      refine AW.iconst 1103 (nI 2) dL_law_1102 (by decide) rfl ?_
      refine AW.iaddN 1104 dL_law_1103 rfl ?_
      refine AW.eald 1105 dL_law_1104 (by decide) rfl (show _ < gL g by omega) (show gL g < 2 ^ 31 by omega) rfl ?_
      refine AW.zif_eq 1108 1112 dL_law_1105 (by decide) rfl rfl (fun b1105 => ?_) (fun b1105 => absurd h2 b1105)
      refine AW.iconst 1113 (nI 0) dL_law_1112 (by decide) rfl ?_
      refine AW.aload_n 1114 dL_law_1113 rfl rfl ?_
      refine AW.iload_n 1115 dL_law_1114 rfl rfl ?_
      refine AW.iconst 1116 (nI 3) dL_law_1115 (by decide) rfl ?_
      refine AW.iaddN 1117 dL_law_1116 rfl ?_
      refine AW.eald 1118 dL_law_1117 (by decide) rfl (show _ < gL g by omega) (show gL g < 2 ^ 31 by omega) rfl ?_
      refine AW.zif_eq 1121 1125 dL_law_1118 (by decide) rfl rfl (fun b1118 => absurd b1118 h3) (fun b1118 => ?_)
      refine AW.iconst 1122 (nI 1) dL_law_1121 (by decide) rfl ?_
      refine AW.goto 1126 dL_law_1122 (by decide) ?_
      refine AW.cVi3 1129 dL_law_1126 kL_141 (zI rfl rfl) (Nat.le_of_ble_eq_true rfl) rfl (hR _ (fun M2 hI2 => ?_))
      refine AW.zicmp_eq 1132 1342 dL_law_1129 (by decide) rfl rfl rfl (fun b1129 => ?_) (fun b1129 => absurd rfl b1129)
      exact hn a b c M2 hI2
  · by_cases h3 : (z_ev g 4 (i + 3)).toInt = 0
    · skip
      refine AW.aload_n 1060 dL_law_1059 rfl rfl ?_
      refine AW.aload_n 1061 dL_law_1060 rfl rfl ?_
      refine AW.iload_n 1062 dL_law_1061 rfl rfl ?_
      refine AW.iconst 1063 (nI 1) dL_law_1062 (by decide) rfl ?_
      refine AW.iaddN 1064 dL_law_1063 rfl ?_
      refine AW.eald 1065 dL_law_1064 (by decide) rfl (show _ < gL g by omega) (show gL g < 2 ^ 31 by omega) rfl ?_
      refine AW.aload_n 1066 dL_law_1065 rfl rfl ?_
      refine AW.iload_n 1067 dL_law_1066 rfl rfl ?_
      refine AW.iconst 1068 (nI 2) dL_law_1067 (by decide) rfl ?_
      refine AW.iaddN 1069 dL_law_1068 rfl ?_
      refine AW.eald 1070 dL_law_1069 (by decide) rfl (show _ < gL g by omega) (show gL g < 2 ^ 31 by omega) rfl ?_
      refine AW.zif_eq 1073 1077 dL_law_1070 (by decide) rfl rfl (fun b1070 => absurd b1070 h2) (fun b1070 => ?_)
      refine AW.iconst 1074 (nI 1) dL_law_1073 (by decide) rfl ?_
      refine AW.goto 1078 dL_law_1074 (by decide) ?_
      refine AW.aload_n 1079 dL_law_1078 rfl rfl ?_
      refine AW.iload_n 1080 dL_law_1079 rfl rfl ?_
      refine AW.iconst 1081 (nI 3) dL_law_1080 (by decide) rfl ?_
      refine AW.iaddN 1082 dL_law_1081 rfl ?_
      refine AW.eald 1083 dL_law_1082 (by decide) rfl (show _ < gL g by omega) (show gL g < 2 ^ 31 by omega) rfl ?_
      refine AW.zif_eq 1086 1090 dL_law_1083 (by decide) rfl rfl (fun b1083 => ?_) (fun b1083 => absurd h3 b1083)
      refine AW.iconst 1091 (nI 0) dL_law_1090 (by decide) rfl ?_
      refine AW.cVi3 1094 dL_law_1091 kL_137 (zI rfl rfl) (Nat.le_of_ble_eq_true rfl) rfl (P_saying hI (fun x a b c M1 hR => ?_))
      refine AW.aload_n 1095 dL_law_1094 rfl rfl ?_
      refine AW.aload_n 1096 dL_law_1095 rfl rfl ?_
      refine AW.iload_n 1097 dL_law_1096 rfl rfl ?_
      refine AW.iconst 1098 (nI 1) dL_law_1097 (by decide) rfl ?_
      refine AW.iaddN 1099 dL_law_1098 rfl ?_
      refine AW.eald 1100 dL_law_1099 (by decide) rfl (show _ < gL g by omega) (show gL g < 2 ^ 31 by omega) rfl ?_
      refine AW.aload_n 1101 dL_law_1100 rfl rfl ?_
      refine AW.iload_n 1102 dL_law_1101 rfl rfl ?_
      refine AW.iconst 1103 (nI 2) dL_law_1102 (by decide) rfl ?_
      refine AW.iaddN 1104 dL_law_1103 rfl ?_
      refine AW.eald 1105 dL_law_1104 (by decide) rfl (show _ < gL g by omega) (show gL g < 2 ^ 31 by omega) rfl ?_
      refine AW.zif_eq 1108 1112 dL_law_1105 (by decide) rfl rfl (fun b1105 => absurd b1105 h2) (fun b1105 => ?_)
      refine AW.iconst 1109 (nI 1) dL_law_1108 (by decide) rfl ?_
      refine AW.goto 1113 dL_law_1109 (by decide) ?_
      refine AW.aload_n 1114 dL_law_1113 rfl rfl ?_
      refine AW.iload_n 1115 dL_law_1114 rfl rfl ?_
      refine AW.iconst 1116 (nI 3) dL_law_1115 (by decide) rfl ?_
      refine AW.iaddN 1117 dL_law_1116 rfl ?_
      refine AW.eald 1118 dL_law_1117 (by decide) rfl (show _ < gL g by omega) (show gL g < 2 ^ 31 by omega) rfl ?_
      refine AW.zif_eq 1121 1125 dL_law_1118 (by decide) rfl rfl (fun b1118 => ?_) (fun b1118 => absurd h3 b1118)
      refine AW.iconst 1126 (nI 0) dL_law_1125 (by decide) rfl ?_
      refine AW.cVi3 1129 dL_law_1126 kL_141 (zI rfl rfl) (Nat.le_of_ble_eq_true rfl) rfl (hR _ (fun M2 hI2 => ?_))
      refine AW.zicmp_eq 1132 1342 dL_law_1129 (by decide) rfl rfl rfl (fun b1129 => ?_) (fun b1129 => absurd rfl b1129)
      exact hn a b c M2 hI2
    · skip
      refine AW.aload_n 1060 dL_law_1059 rfl rfl ?_
      refine AW.aload_n 1061 dL_law_1060 rfl rfl ?_
      refine AW.iload_n 1062 dL_law_1061 rfl rfl ?_
      refine AW.iconst 1063 (nI 1) dL_law_1062 (by decide) rfl ?_
      refine AW.iaddN 1064 dL_law_1063 rfl ?_
      refine AW.eald 1065 dL_law_1064 (by decide) rfl (show _ < gL g by omega) (show gL g < 2 ^ 31 by omega) rfl ?_
      refine AW.aload_n 1066 dL_law_1065 rfl rfl ?_
      refine AW.iload_n 1067 dL_law_1066 rfl rfl ?_
      refine AW.iconst 1068 (nI 2) dL_law_1067 (by decide) rfl ?_
      refine AW.iaddN 1069 dL_law_1068 rfl ?_
      refine AW.eald 1070 dL_law_1069 (by decide) rfl (show _ < gL g by omega) (show gL g < 2 ^ 31 by omega) rfl ?_
      refine AW.zif_eq 1073 1077 dL_law_1070 (by decide) rfl rfl (fun b1070 => absurd b1070 h2) (fun b1070 => ?_)
      refine AW.iconst 1074 (nI 1) dL_law_1073 (by decide) rfl ?_
      refine AW.goto 1078 dL_law_1074 (by decide) ?_
      refine AW.aload_n 1079 dL_law_1078 rfl rfl ?_
      refine AW.iload_n 1080 dL_law_1079 rfl rfl ?_
      refine AW.iconst 1081 (nI 3) dL_law_1080 (by decide) rfl ?_
      refine AW.iaddN 1082 dL_law_1081 rfl ?_
      refine AW.eald 1083 dL_law_1082 (by decide) rfl (show _ < gL g by omega) (show gL g < 2 ^ 31 by omega) rfl ?_
      refine AW.zif_eq 1086 1090 dL_law_1083 (by decide) rfl rfl (fun b1083 => absurd b1083 h3) (fun b1083 => ?_)
      refine AW.iconst 1087 (nI 1) dL_law_1086 (by decide) rfl ?_
      refine AW.goto 1091 dL_law_1087 (by decide) ?_
      refine AW.cVi3 1094 dL_law_1091 kL_137 (zI rfl rfl) (Nat.le_of_ble_eq_true rfl) rfl (P_saying hI (fun x a b c M1 hR => ?_))
      refine AW.aload_n 1095 dL_law_1094 rfl rfl ?_
      refine AW.aload_n 1096 dL_law_1095 rfl rfl ?_
      refine AW.iload_n 1097 dL_law_1096 rfl rfl ?_
      refine AW.iconst 1098 (nI 1) dL_law_1097 (by decide) rfl ?_
      refine AW.iaddN 1099 dL_law_1098 rfl ?_
      refine AW.eald 1100 dL_law_1099 (by decide) rfl (show _ < gL g by omega) (show gL g < 2 ^ 31 by omega) rfl ?_
      refine AW.aload_n 1101 dL_law_1100 rfl rfl ?_
      refine AW.iload_n 1102 dL_law_1101 rfl rfl ?_
      refine AW.iconst 1103 (nI 2) dL_law_1102 (by decide) rfl ?_
      refine AW.iaddN 1104 dL_law_1103 rfl ?_
      refine AW.eald 1105 dL_law_1104 (by decide) rfl (show _ < gL g by omega) (show gL g < 2 ^ 31 by omega) rfl ?_
      refine AW.zif_eq 1108 1112 dL_law_1105 (by decide) rfl rfl (fun b1105 => absurd b1105 h2) (fun b1105 => ?_)
      refine AW.iconst 1109 (nI 1) dL_law_1108 (by decide) rfl ?_
      refine AW.goto 1113 dL_law_1109 (by decide) ?_
      refine AW.aload_n 1114 dL_law_1113 rfl rfl ?_
      refine AW.iload_n 1115 dL_law_1114 rfl rfl ?_
      refine AW.iconst 1116 (nI 3) dL_law_1115 (by decide) rfl ?_
      refine AW.iaddN 1117 dL_law_1116 rfl ?_
      refine AW.eald 1118 dL_law_1117 (by decide) rfl (show _ < gL g by omega) (show gL g < 2 ^ 31 by omega) rfl ?_
      refine AW.zif_eq 1121 1125 dL_law_1118 (by decide) rfl rfl (fun b1118 => absurd b1118 h3) (fun b1118 => ?_)
      refine AW.iconst 1122 (nI 1) dL_law_1121 (by decide) rfl ?_
      refine AW.goto 1126 dL_law_1122 (by decide) ?_
      refine AW.cVi3 1129 dL_law_1126 kL_141 (zI rfl rfl) (Nat.le_of_ble_eq_true rfl) rfl (hR _ (fun M2 hI2 => ?_))
      refine AW.zicmp_eq 1132 1342 dL_law_1129 (by decide) rfl rfl rfl (fun b1129 => ?_) (fun b1129 => absurd rfl b1129)
      exact hn a b c M2 hI2
theorem K_30 (hI : Inv m0 m1 md M) (hi : i + 6 ≤ gL g) (hL : gL g ≤ 3072) (hn : ∀ a b c M2, Inv a b c M2 → z_LW l g Q 1342 i (ZS a b c) M2) : z_LW l g Q 1134 i (ZS m0 m1 md) M := by
  refine AW.aload_n 1135 dL_law_1134 rfl rfl ?_
  refine AW.cVi0 1138 dL_law_1135 kL_142 (zI rfl rfl) (Nat.le_of_ble_eq_true rfl) rfl (P_duty hI (fun x a b c M1 hR => ?_))
  refine AW.aload_n 1139 dL_law_1138 rfl rfl ?_
  refine AW.cVi0 1142 dL_law_1139 kL_145 (zI rfl rfl) (Nat.le_of_ble_eq_true rfl) rfl (hR _ (fun M2 hI2 => ?_))
  refine AW.zicmp_eq 1145 1342 dL_law_1142 (by decide) rfl rfl rfl (fun b1142 => ?_) (fun b1142 => absurd rfl b1142)
  exact hn a b c M2 hI2
theorem K_31 (hI : Inv m0 m1 md M) (hi : i + 6 ≤ gL g) (hL : gL g ≤ 3072) (hn : ∀ a b c M2, Inv a b c M2 → z_LW l g Q 1342 i (ZS a b c) M2) : z_LW l g Q 1147 i (ZS m0 m1 md) M := by
  refine AW.aload_n 1148 dL_law_1147 rfl rfl ?_
  refine AW.cVi0 1151 dL_law_1148 kL_146 (zI rfl rfl) (Nat.le_of_ble_eq_true rfl) rfl (P_broken hI (fun x a b c M1 hR => ?_))
  refine AW.aload_n 1152 dL_law_1151 rfl rfl ?_
  refine AW.cVi0 1155 dL_law_1152 kL_149 (zI rfl rfl) (Nat.le_of_ble_eq_true rfl) rfl (hR _ (fun M2 hI2 => ?_))
  refine AW.zicmp_eq 1158 1342 dL_law_1155 (by decide) rfl rfl rfl (fun b1155 => ?_) (fun b1155 => absurd rfl b1155)
  exact hn a b c M2 hI2
theorem K_32 (hI : Inv m0 m1 md M) (hi : i + 6 ≤ gL g) (hL : gL g ≤ 3072) (hn : ∀ a b c M2, Inv a b c M2 → z_LW l g Q 1342 i (ZS a b c) M2) : z_LW l g Q 1160 i (ZS m0 m1 md) M := by
  refine AW.aload_n 1161 dL_law_1160 rfl rfl ?_
  refine AW.aload_n 1162 dL_law_1161 rfl rfl ?_
  refine AW.iload_n 1163 dL_law_1162 rfl rfl ?_
  refine AW.iconst 1164 (nI 1) dL_law_1163 (by decide) rfl ?_
  refine AW.iaddN 1165 dL_law_1164 rfl ?_
  refine AW.eald 1166 dL_law_1165 (by decide) rfl (show _ < gL g by omega) (show gL g < 2 ^ 31 by omega) rfl ?_
  refine AW.aload_n 1167 dL_law_1166 rfl rfl ?_
  refine AW.iload_n 1168 dL_law_1167 rfl rfl ?_
  refine AW.iconst 1169 (nI 2) dL_law_1168 (by decide) rfl ?_
  refine AW.iaddN 1170 dL_law_1169 rfl ?_
  refine AW.eald 1171 dL_law_1170 (by decide) rfl (show _ < gL g by omega) (show gL g < 2 ^ 31 by omega) rfl ?_
  refine AW.aload_n 1172 dL_law_1171 rfl rfl ?_
  refine AW.iload_n 1173 dL_law_1172 rfl rfl ?_
  refine AW.iconst 1174 (nI 3) dL_law_1173 (by decide) rfl ?_
  refine AW.iaddN 1175 dL_law_1174 rfl ?_
  refine AW.eald 1176 dL_law_1175 (by decide) rfl (show _ < gL g by omega) (show gL g < 2 ^ 31 by omega) rfl ?_
  refine AW.cVi3 1179 dL_law_1176 kL_150 (zI rfl rfl) (Nat.le_of_ble_eq_true rfl) rfl (P_sheet hI (fun x a b c M1 hR => ?_))
  refine AW.aload_n 1180 dL_law_1179 rfl rfl ?_
  refine AW.aload_n 1181 dL_law_1180 rfl rfl ?_
  refine AW.iload_n 1182 dL_law_1181 rfl rfl ?_
  refine AW.iconst 1183 (nI 1) dL_law_1182 (by decide) rfl ?_
  refine AW.iaddN 1184 dL_law_1183 rfl ?_
  refine AW.eald 1185 dL_law_1184 (by decide) rfl (show _ < gL g by omega) (show gL g < 2 ^ 31 by omega) rfl ?_
  refine AW.aload_n 1186 dL_law_1185 rfl rfl ?_
  refine AW.iload_n 1187 dL_law_1186 rfl rfl ?_
  refine AW.iconst 1188 (nI 2) dL_law_1187 (by decide) rfl ?_
  refine AW.iaddN 1189 dL_law_1188 rfl ?_
  refine AW.eald 1190 dL_law_1189 (by decide) rfl (show _ < gL g by omega) (show gL g < 2 ^ 31 by omega) rfl ?_
  refine AW.aload_n 1191 dL_law_1190 rfl rfl ?_
  refine AW.iload_n 1192 dL_law_1191 rfl rfl ?_
  refine AW.iconst 1193 (nI 3) dL_law_1192 (by decide) rfl ?_
  refine AW.iaddN 1194 dL_law_1193 rfl ?_
  refine AW.eald 1195 dL_law_1194 (by decide) rfl (show _ < gL g by omega) (show gL g < 2 ^ 31 by omega) rfl ?_
  refine AW.cVi3 1198 dL_law_1195 kL_153 (zI rfl rfl) (Nat.le_of_ble_eq_true rfl) rfl (hR _ (fun M2 hI2 => ?_))
  refine AW.zicmp_eq 1201 1342 dL_law_1198 (by decide) rfl rfl rfl (fun b1198 => ?_) (fun b1198 => absurd rfl b1198)
  exact hn a b c M2 hI2
theorem K_33 (hI : Inv m0 m1 md M) (hi : i + 6 ≤ gL g) (hL : gL g ≤ 3072) (hn : ∀ a b c M2, Inv a b c M2 → z_LW l g Q 1342 i (ZS a b c) M2) : z_LW l g Q 1203 i (ZS m0 m1 md) M := by
  refine AW.aload_n 1204 dL_law_1203 rfl rfl ?_
  refine AW.aload_n 1205 dL_law_1204 rfl rfl ?_
  refine AW.iload_n 1206 dL_law_1205 rfl rfl ?_
  refine AW.iconst 1207 (nI 1) dL_law_1206 (by decide) rfl ?_
  refine AW.iaddN 1208 dL_law_1207 rfl ?_
  refine AW.eald 1209 dL_law_1208 (by decide) rfl (show _ < gL g by omega) (show gL g < 2 ^ 31 by omega) rfl ?_
  refine AW.cVi1 1212 dL_law_1209 kL_154 (zI rfl rfl) (Nat.le_of_ble_eq_true rfl) rfl (P_drop hI (fun x a b c M1 hR => ?_))
  refine AW.aload_n 1213 dL_law_1212 rfl rfl ?_
  refine AW.aload_n 1214 dL_law_1213 rfl rfl ?_
  refine AW.iload_n 1215 dL_law_1214 rfl rfl ?_
  refine AW.iconst 1216 (nI 1) dL_law_1215 (by decide) rfl ?_
  refine AW.iaddN 1217 dL_law_1216 rfl ?_
  refine AW.eald 1218 dL_law_1217 (by decide) rfl (show _ < gL g by omega) (show gL g < 2 ^ 31 by omega) rfl ?_
  refine AW.cVi1 1221 dL_law_1218 kL_157 (zI rfl rfl) (Nat.le_of_ble_eq_true rfl) rfl (hR _ (fun M2 hI2 => ?_))
  refine AW.zicmp_eq 1224 1342 dL_law_1221 (by decide) rfl rfl rfl (fun b1221 => ?_) (fun b1221 => absurd rfl b1221)
  exact hn a b c M2 hI2
theorem K_34 (hI : Inv m0 m1 md M) (hi : i + 6 ≤ gL g) (hL : gL g ≤ 3072) (hn : ∀ a b c M2, Inv a b c M2 → z_LW l g Q 1342 i (ZS a b c) M2) : z_LW l g Q 1226 i (ZS m0 m1 md) M := by
  refine AW.aload_n 1227 dL_law_1226 rfl rfl ?_
  refine AW.aload_n 1228 dL_law_1227 rfl rfl ?_
  refine AW.iload_n 1229 dL_law_1228 rfl rfl ?_
  refine AW.iconst 1230 (nI 1) dL_law_1229 (by decide) rfl ?_
  refine AW.iaddN 1231 dL_law_1230 rfl ?_
  refine AW.eald 1232 dL_law_1231 (by decide) rfl (show _ < gL g by omega) (show gL g < 2 ^ 31 by omega) rfl ?_
  refine AW.aload_n 1233 dL_law_1232 rfl rfl ?_
  refine AW.iload_n 1234 dL_law_1233 rfl rfl ?_
  refine AW.iconst 1235 (nI 2) dL_law_1234 (by decide) rfl ?_
  refine AW.iaddN 1236 dL_law_1235 rfl ?_
  refine AW.eald 1237 dL_law_1236 (by decide) rfl (show _ < gL g by omega) (show gL g < 2 ^ 31 by omega) rfl ?_
  refine AW.aload_n 1238 dL_law_1237 rfl rfl ?_
  refine AW.iload_n 1239 dL_law_1238 rfl rfl ?_
  refine AW.iconst 1240 (nI 3) dL_law_1239 (by decide) rfl ?_
  refine AW.iaddN 1241 dL_law_1240 rfl ?_
  refine AW.eald 1242 dL_law_1241 (by decide) rfl (show _ < gL g by omega) (show gL g < 2 ^ 31 by omega) rfl ?_
  refine AW.aload_n 1243 dL_law_1242 rfl rfl ?_
  refine AW.iload_n 1244 dL_law_1243 rfl rfl ?_
  refine AW.iconst 1245 (nI 4) dL_law_1244 (by decide) rfl ?_
  refine AW.iaddN 1246 dL_law_1245 rfl ?_
  refine AW.eald 1247 dL_law_1246 (by decide) rfl (show _ < gL g by omega) (show gL g < 2 ^ 31 by omega) rfl ?_
  refine AW.cVi4 1250 dL_law_1247 kL_158 (zI rfl rfl) (Nat.le_of_ble_eq_true rfl) rfl (P_item hI (fun x a b c M1 hR => ?_))
  refine AW.aload_n 1251 dL_law_1250 rfl rfl ?_
  refine AW.aload_n 1252 dL_law_1251 rfl rfl ?_
  refine AW.iload_n 1253 dL_law_1252 rfl rfl ?_
  refine AW.iconst 1254 (nI 1) dL_law_1253 (by decide) rfl ?_
  refine AW.iaddN 1255 dL_law_1254 rfl ?_
  refine AW.eald 1256 dL_law_1255 (by decide) rfl (show _ < gL g by omega) (show gL g < 2 ^ 31 by omega) rfl ?_
  refine AW.aload_n 1257 dL_law_1256 rfl rfl ?_
  refine AW.iload_n 1258 dL_law_1257 rfl rfl ?_
  refine AW.iconst 1259 (nI 2) dL_law_1258 (by decide) rfl ?_
  refine AW.iaddN 1260 dL_law_1259 rfl ?_
  refine AW.eald 1261 dL_law_1260 (by decide) rfl (show _ < gL g by omega) (show gL g < 2 ^ 31 by omega) rfl ?_
  refine AW.aload_n 1262 dL_law_1261 rfl rfl ?_
  refine AW.iload_n 1263 dL_law_1262 rfl rfl ?_
  refine AW.iconst 1264 (nI 3) dL_law_1263 (by decide) rfl ?_
  refine AW.iaddN 1265 dL_law_1264 rfl ?_
  refine AW.eald 1266 dL_law_1265 (by decide) rfl (show _ < gL g by omega) (show gL g < 2 ^ 31 by omega) rfl ?_
  refine AW.aload_n 1267 dL_law_1266 rfl rfl ?_
  refine AW.iload_n 1268 dL_law_1267 rfl rfl ?_
  refine AW.iconst 1269 (nI 4) dL_law_1268 (by decide) rfl ?_
  refine AW.iaddN 1270 dL_law_1269 rfl ?_
  refine AW.eald 1271 dL_law_1270 (by decide) rfl (show _ < gL g by omega) (show gL g < 2 ^ 31 by omega) rfl ?_
  refine AW.cVi4 1274 dL_law_1271 kL_161 (zI rfl rfl) (Nat.le_of_ble_eq_true rfl) rfl (hR _ (fun M2 hI2 => ?_))
  refine AW.zicmp_eq 1277 1342 dL_law_1274 (by decide) rfl rfl rfl (fun b1274 => ?_) (fun b1274 => absurd rfl b1274)
  exact hn a b c M2 hI2
theorem K_35 (hI : Inv m0 m1 md M) (hi : i + 6 ≤ gL g) (hL : gL g ≤ 3072) (hn : ∀ a b c M2, Inv a b c M2 → z_LW l g Q 1342 i (ZS a b c) M2) : z_LW l g Q 1279 i (ZS m0 m1 md) M := by
  refine AW.aload_n 1280 dL_law_1279 rfl rfl ?_
  refine AW.aload_n 1281 dL_law_1280 rfl rfl ?_
  refine AW.iload_n 1282 dL_law_1281 rfl rfl ?_
  refine AW.iconst 1283 (nI 1) dL_law_1282 (by decide) rfl ?_
  refine AW.iaddN 1284 dL_law_1283 rfl ?_
  refine AW.eald 1285 dL_law_1284 (by decide) rfl (show _ < gL g by omega) (show gL g < 2 ^ 31 by omega) rfl ?_
  refine AW.aload_n 1286 dL_law_1285 rfl rfl ?_
  refine AW.iload_n 1287 dL_law_1286 rfl rfl ?_
  refine AW.iconst 1288 (nI 2) dL_law_1287 (by decide) rfl ?_
  refine AW.iaddN 1289 dL_law_1288 rfl ?_
  refine AW.eald 1290 dL_law_1289 (by decide) rfl (show _ < gL g by omega) (show gL g < 2 ^ 31 by omega) rfl ?_
  refine AW.aload_n 1291 dL_law_1290 rfl rfl ?_
  refine AW.iload_n 1292 dL_law_1291 rfl rfl ?_
  refine AW.iconst 1293 (nI 3) dL_law_1292 (by decide) rfl ?_
  refine AW.iaddN 1294 dL_law_1293 rfl ?_
  refine AW.eald 1295 dL_law_1294 (by decide) rfl (show _ < gL g by omega) (show gL g < 2 ^ 31 by omega) rfl ?_
  refine AW.aload_n 1296 dL_law_1295 rfl rfl ?_
  refine AW.iload_n 1297 dL_law_1296 rfl rfl ?_
  refine AW.iconst 1298 (nI 4) dL_law_1297 (by decide) rfl ?_
  refine AW.iaddN 1299 dL_law_1298 rfl ?_
  refine AW.eald 1300 dL_law_1299 (by decide) rfl (show _ < gL g by omega) (show gL g < 2 ^ 31 by omega) rfl ?_
  refine AW.aload_n 1301 dL_law_1300 rfl rfl ?_
  refine AW.iload_n 1302 dL_law_1301 rfl rfl ?_
  refine AW.iconst 1303 (nI 5) dL_law_1302 (by decide) rfl ?_
  refine AW.iaddN 1304 dL_law_1303 rfl ?_
  refine AW.eald 1305 dL_law_1304 (by decide) rfl (show _ < gL g by omega) (show gL g < 2 ^ 31 by omega) rfl ?_
  refine AW.cVi5 1308 dL_law_1305 kL_162 (zI rfl rfl) (Nat.le_of_ble_eq_true rfl) rfl (P_copy hI (fun x a b c M1 hR => ?_))
  refine AW.aload_n 1309 dL_law_1308 rfl rfl ?_
  refine AW.aload_n 1310 dL_law_1309 rfl rfl ?_
  refine AW.iload_n 1311 dL_law_1310 rfl rfl ?_
  refine AW.iconst 1312 (nI 1) dL_law_1311 (by decide) rfl ?_
  refine AW.iaddN 1313 dL_law_1312 rfl ?_
  refine AW.eald 1314 dL_law_1313 (by decide) rfl (show _ < gL g by omega) (show gL g < 2 ^ 31 by omega) rfl ?_
  refine AW.aload_n 1315 dL_law_1314 rfl rfl ?_
  refine AW.iload_n 1316 dL_law_1315 rfl rfl ?_
  refine AW.iconst 1317 (nI 2) dL_law_1316 (by decide) rfl ?_
  refine AW.iaddN 1318 dL_law_1317 rfl ?_
  refine AW.eald 1319 dL_law_1318 (by decide) rfl (show _ < gL g by omega) (show gL g < 2 ^ 31 by omega) rfl ?_
  refine AW.aload_n 1320 dL_law_1319 rfl rfl ?_
  refine AW.iload_n 1321 dL_law_1320 rfl rfl ?_
  refine AW.iconst 1322 (nI 3) dL_law_1321 (by decide) rfl ?_
  refine AW.iaddN 1323 dL_law_1322 rfl ?_
  refine AW.eald 1324 dL_law_1323 (by decide) rfl (show _ < gL g by omega) (show gL g < 2 ^ 31 by omega) rfl ?_
  refine AW.aload_n 1325 dL_law_1324 rfl rfl ?_
  refine AW.iload_n 1326 dL_law_1325 rfl rfl ?_
  refine AW.iconst 1327 (nI 4) dL_law_1326 (by decide) rfl ?_
  refine AW.iaddN 1328 dL_law_1327 rfl ?_
  refine AW.eald 1329 dL_law_1328 (by decide) rfl (show _ < gL g by omega) (show gL g < 2 ^ 31 by omega) rfl ?_
  refine AW.aload_n 1330 dL_law_1329 rfl rfl ?_
  refine AW.iload_n 1331 dL_law_1330 rfl rfl ?_
  refine AW.iconst 1332 (nI 5) dL_law_1331 (by decide) rfl ?_
  refine AW.iaddN 1333 dL_law_1332 rfl ?_
  refine AW.eald 1334 dL_law_1333 (by decide) rfl (show _ < gL g by omega) (show gL g < 2 ^ 31 by omega) rfl ?_
  refine AW.cVi5 1337 dL_law_1334 kL_166 (zI rfl rfl) (Nat.le_of_ble_eq_true rfl) rfl (hR _ (fun M2 hI2 => ?_))
  refine AW.zicmp_eq 1340 1342 dL_law_1337 (by decide) rfl rfl rfl (fun b1337 => ?_) (fun b1337 => absurd rfl b1337)
  exact hn a b c M2 hI2
end LAW
