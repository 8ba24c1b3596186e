theorem dL_law_196 : decode cL_law 196 = .ok (.aload_n 1, 1) := by decide +kernel
theorem dL_law_197 : decode cL_law 197 = .ok (.aload_n 0, 1) := by decide +kernel
theorem dL_law_198 : decode cL_law 198 = .ok (.iload_n 3, 1) := by decide +kernel
theorem dL_law_199 : decode cL_law 199 = .ok (.iconst 1, 1) := by decide +kernel
theorem dL_law_200 : decode cL_law 200 = .ok (.iadd, 1) := by decide +kernel
theorem dL_law_201 : decode cL_law 201 = .ok (.iaload, 1) := by decide +kernel
theorem dL_law_202 : decode cL_law 202 = .ok (.invokevirtual 13, 3) := by decide +kernel
theorem dL_law_205 : decode cL_law 205 = .ok (.aload_n 2, 1) := by decide +kernel
theorem dL_law_206 : decode cL_law 206 = .ok (.aload_n 0, 1) := by decide +kernel
theorem dL_law_207 : decode cL_law 207 = .ok (.iload_n 3, 1) := by decide +kernel
theorem dL_law_208 : decode cL_law 208 = .ok (.iconst 1, 1) := by decide +kernel
theorem dL_law_209 : decode cL_law 209 = .ok (.iadd, 1) := by decide +kernel
theorem dL_law_210 : decode cL_law 210 = .ok (.iaload, 1) := by decide +kernel
theorem dL_law_211 : decode cL_law 211 = .ok (.invokevirtual 17, 3) := by decide +kernel
theorem dL_law_214 : decode cL_law 214 = .ok (.if_icmp .eq 945, 3) := by decide +kernel
theorem dL_law_217 : decode cL_law 217 = .ok (.iconst 0, 1) := by decide +kernel
theorem dL_law_218 : decode cL_law 218 = .ok (.ireturn, 1) := by decide +kernel
theorem dL_law_219 : decode cL_law 219 = .ok (.aload_n 1, 1) := by decide +kernel
theorem dL_law_220 : decode cL_law 220 = .ok (.aload_n 0, 1) := by decide +kernel
theorem dL_law_221 : decode cL_law 221 = .ok (.iload_n 3, 1) := by decide +kernel
theorem dL_law_222 : decode cL_law 222 = .ok (.iconst 1, 1) := by decide +kernel
theorem dL_law_223 : decode cL_law 223 = .ok (.iadd, 1) := by decide +kernel
theorem dL_law_224 : decode cL_law 224 = .ok (.iaload, 1) := by decide +kernel
theorem dL_law_225 : decode cL_law 225 = .ok (.aload_n 0, 1) := by decide +kernel
theorem dL_law_226 : decode cL_law 226 = .ok (.iload_n 3, 1) := by decide +kernel
theorem dL_law_227 : decode cL_law 227 = .ok (.iconst 2, 1) := by decide +kernel
theorem dL_law_228 : decode cL_law 228 = .ok (.iadd, 1) := by decide +kernel
theorem dL_law_229 : decode cL_law 229 = .ok (.iaload, 1) := by decide +kernel
theorem dL_law_230 : decode cL_law 230 = .ok (.aload_n 0, 1) := by decide +kernel
theorem dL_law_231 : decode cL_law 231 = .ok (.iload_n 3, 1) := by decide +kernel
theorem dL_law_232 : decode cL_law 232 = .ok (.iconst 3, 1) := by decide +kernel
theorem dL_law_233 : decode cL_law 233 = .ok (.iadd, 1) := by decide +kernel
theorem dL_law_234 : decode cL_law 234 = .ok (.iaload, 1) := by decide +kernel
theorem dL_law_235 : decode cL_law 235 = .ok (.invokevirtual 18, 3) := by decide +kernel
theorem dL_law_238 : decode cL_law 238 = .ok (.aload_n 2, 1) := by decide +kernel
theorem dL_law_239 : decode cL_law 239 = .ok (.aload_n 0, 1) := by decide +kernel
theorem dL_law_240 : decode cL_law 240 = .ok (.iload_n 3, 1) := by decide +kernel
theorem dL_law_241 : decode cL_law 241 = .ok (.iconst 1, 1) := by decide +kernel
theorem dL_law_242 : decode cL_law 242 = .ok (.iadd, 1) := by decide +kernel
theorem dL_law_243 : decode cL_law 243 = .ok (.iaload, 1) := by decide +kernel
theorem dL_law_244 : decode cL_law 244 = .ok (.aload_n 0, 1) := by decide +kernel
theorem dL_law_245 : decode cL_law 245 = .ok (.iload_n 3, 1) := by decide +kernel
theorem dL_law_246 : decode cL_law 246 = .ok (.iconst 2, 1) := by decide +kernel
theorem dL_law_247 : decode cL_law 247 = .ok (.iadd, 1) := by decide +kernel
theorem dL_law_248 : decode cL_law 248 = .ok (.iaload, 1) := by decide +kernel
theorem dL_law_249 : decode cL_law 249 = .ok (.aload_n 0, 1) := by decide +kernel
theorem dL_law_250 : decode cL_law 250 = .ok (.iload_n 3, 1) := by decide +kernel
theorem dL_law_251 : decode cL_law 251 = .ok (.iconst 3, 1) := by decide +kernel
theorem dL_law_252 : decode cL_law 252 = .ok (.iadd, 1) := by decide +kernel
theorem dL_law_253 : decode cL_law 253 = .ok (.iaload, 1) := by decide +kernel
theorem dL_law_254 : decode cL_law 254 = .ok (.invokevirtual 22, 3) := by decide +kernel
theorem dL_law_257 : decode cL_law 257 = .ok (.if_icmp .eq 902, 3) := by decide +kernel
theorem dL_law_260 : decode cL_law 260 = .ok (.iconst 0, 1) := by decide +kernel
theorem dL_law_261 : decode cL_law 261 = .ok (.ireturn, 1) := by decide +kernel
theorem dL_law_262 : decode cL_law 262 = .ok (.aload_n 1, 1) := by decide +kernel
theorem dL_law_263 : decode cL_law 263 = .ok (.aload_n 0, 1) := by decide +kernel
theorem dL_law_264 : decode cL_law 264 = .ok (.iload_n 3, 1) := by decide +kernel
theorem dL_law_265 : decode cL_law 265 = .ok (.iconst 1, 1) := by decide +kernel
theorem dL_law_266 : decode cL_law 266 = .ok (.iadd, 1) := by decide +kernel
theorem dL_law_267 : decode cL_law 267 = .ok (.iaload, 1) := by decide +kernel
theorem dL_law_268 : decode cL_law 268 = .ok (.aload_n 0, 1) := by decide +kernel
theorem dL_law_269 : decode cL_law 269 = .ok (.iload_n 3, 1) := by decide +kernel
theorem dL_law_270 : decode cL_law 270 = .ok (.iconst 2, 1) := by decide +kernel
theorem dL_law_271 : decode cL_law 271 = .ok (.iadd, 1) := by decide +kernel
theorem dL_law_272 : decode cL_law 272 = .ok (.iaload, 1) := by decide +kernel
theorem dL_law_273 : decode cL_law 273 = .ok (.invokevirtual 23, 3) := by decide +kernel
theorem dL_law_276 : decode cL_law 276 = .ok (.aload_n 2, 1) := by decide +kernel
theorem dL_law_277 : decode cL_law 277 = .ok (.aload_n 0, 1) := by decide +kernel
theorem dL_law_278 : decode cL_law 278 = .ok (.iload_n 3, 1) := by decide +kernel
theorem dL_law_279 : decode cL_law 279 = .ok (.iconst 1, 1) := by decide +kernel
theorem dL_law_280 : decode cL_law 280 = .ok (.iadd, 1) := by decide +kernel
theorem dL_law_281 : decode cL_law 281 = .ok (.iaload, 1) := by decide +kernel
theorem dL_law_282 : decode cL_law 282 = .ok (.aload_n 0, 1) := by decide +kernel
theorem dL_law_283 : decode cL_law 283 = .ok (.iload_n 3, 1) := by decide +kernel
theorem dL_law_284 : decode cL_law 284 = .ok (.iconst 2, 1) := by decide +kernel
theorem dL_law_285 : decode cL_law 285 = .ok (.iadd, 1) := by decide +kernel
theorem dL_law_286 : decode cL_law 286 = .ok (.iaload, 1) := by decide +kernel
theorem dL_law_287 : decode cL_law 287 = .ok (.invokevirtual 27, 3) := by decide +kernel
theorem dL_law_290 : decode cL_law 290 = .ok (.if_icmp .eq 869, 3) := by decide +kernel
theorem dL_law_293 : decode cL_law 293 = .ok (.iconst 0, 1) := by decide +kernel
theorem dL_law_294 : decode cL_law 294 = .ok (.ireturn, 1) := by decide +kernel
theorem dL_law_295 : decode cL_law 295 = .ok (.aload_n 1, 1) := by decide +kernel
theorem dL_law_296 : decode cL_law 296 = .ok (.aload_n 0, 1) := by decide +kernel
theorem dL_law_297 : decode cL_law 297 = .ok (.iload_n 3, 1) := by decide +kernel
theorem dL_law_298 : decode cL_law 298 = .ok (.iconst 1, 1) := by decide +kernel
theorem dL_law_299 : decode cL_law 299 = .ok (.iadd, 1) := by decide +kernel
theorem dL_law_300 : decode cL_law 300 = .ok (.iaload, 1) := by decide +kernel
theorem dL_law_301 : decode cL_law 301 = .ok (.aload_n 0, 1) := by decide +kernel
theorem dL_law_302 : decode cL_law 302 = .ok (.iload_n 3, 1) := by decide +kernel
theorem dL_law_303 : decode cL_law 303 = .ok (.iconst 2, 1) := by decide +kernel
theorem dL_law_304 : decode cL_law 304 = .ok (.iadd, 1) := by decide +kernel
theorem dL_law_305 : decode cL_law 305 = .ok (.iaload, 1) := by decide +kernel
theorem dL_law_306 : decode cL_law 306 = .ok (.invokevirtual 28, 3) := by decide +kernel
theorem dL_law_309 : decode cL_law 309 = .ok (.aload_n 2, 1) := by decide +kernel
theorem dL_law_310 : decode cL_law 310 = .ok (.aload_n 0, 1) := by decide +kernel
theorem dL_law_311 : decode cL_law 311 = .ok (.iload_n 3, 1) := by decide +kernel
theorem dL_law_312 : decode cL_law 312 = .ok (.iconst 1, 1) := by decide +kernel
theorem dL_law_313 : decode cL_law 313 = .ok (.iadd, 1) := by decide +kernel
theorem dL_law_314 : decode cL_law 314 = .ok (.iaload, 1) := by decide +kernel
theorem dL_law_315 : decode cL_law 315 = .ok (.aload_n 0, 1) := by decide +kernel
theorem dL_law_316 : decode cL_law 316 = .ok (.iload_n 3, 1) := by decide +kernel
theorem dL_law_317 : decode cL_law 317 = .ok (.iconst 2, 1) := by decide +kernel
theorem dL_law_318 : decode cL_law 318 = .ok (.iadd, 1) := by decide +kernel
theorem dL_law_319 : decode cL_law 319 = .ok (.iaload, 1) := by decide +kernel
theorem dL_law_320 : decode cL_law 320 = .ok (.invokevirtual 31, 3) := by decide +kernel
theorem dL_law_323 : decode cL_law 323 = .ok (.if_icmp .eq 836, 3) := by decide +kernel
theorem dL_law_326 : decode cL_law 326 = .ok (.iconst 0, 1) := by decide +kernel
theorem dL_law_327 : decode cL_law 327 = .ok (.ireturn, 1) := by decide +kernel
theorem dL_law_328 : decode cL_law 328 = .ok (.aload_n 1, 1) := by decide +kernel
theorem dL_law_329 : decode cL_law 329 = .ok (.aload_n 0, 1) := by decide +kernel
theorem dL_law_330 : decode cL_law 330 = .ok (.iload_n 3, 1) := by decide +kernel
theorem dL_law_331 : decode cL_law 331 = .ok (.iconst 1, 1) := by decide +kernel
theorem dL_law_332 : decode cL_law 332 = .ok (.iadd, 1) := by decide +kernel
theorem dL_law_333 : decode cL_law 333 = .ok (.iaload, 1) := by decide +kernel
theorem dL_law_334 : decode cL_law 334 = .ok (.invokevirtual 32, 3) := by decide +kernel
theorem dL_law_337 : decode cL_law 337 = .ok (.aload_n 2, 1) := by decide +kernel
theorem dL_law_338 : decode cL_law 338 = .ok (.aload_n 0, 1) := by decide +kernel
theorem dL_law_339 : decode cL_law 339 = .ok (.iload_n 3, 1) := by decide +kernel
theorem dL_law_340 : decode cL_law 340 = .ok (.iconst 1, 1) := by decide +kernel
theorem dL_law_341 : decode cL_law 341 = .ok (.iadd, 1) := by decide +kernel
theorem dL_law_342 : decode cL_law 342 = .ok (.iaload, 1) := by decide +kernel
theorem dL_law_343 : decode cL_law 343 = .ok (.invokevirtual 35, 3) := by decide +kernel
theorem dL_law_346 : decode cL_law 346 = .ok (.if_icmp .eq 813, 3) := by decide +kernel
theorem dL_law_349 : decode cL_law 349 = .ok (.iconst 0, 1) := by decide +kernel
theorem dL_law_350 : decode cL_law 350 = .ok (.ireturn, 1) := by decide +kernel
theorem dL_law_351 : decode cL_law 351 = .ok (.aload_n 1, 1) := by decide +kernel
theorem dL_law_352 : decode cL_law 352 = .ok (.aload_n 0, 1) := by decide +kernel
theorem dL_law_353 : decode cL_law 353 = .ok (.iload_n 3, 1) := by decide +kernel
theorem dL_law_354 : decode cL_law 354 = .ok (.iconst 1, 1) := by decide +kernel
theorem dL_law_355 : decode cL_law 355 = .ok (.iadd, 1) := by decide +kernel
theorem dL_law_356 : decode cL_law 356 = .ok (.iaload, 1) := by decide +kernel
theorem dL_law_357 : decode cL_law 357 = .ok (.aload_n 0, 1) := by decide +kernel
theorem dL_law_358 : decode cL_law 358 = .ok (.iload_n 3, 1) := by decide +kernel
theorem dL_law_359 : decode cL_law 359 = .ok (.iconst 2, 1) := by decide +kernel
theorem dL_law_360 : decode cL_law 360 = .ok (.iadd, 1) := by decide +kernel
theorem dL_law_361 : decode cL_law 361 = .ok (.iaload, 1) := by decide +kernel
theorem dL_law_362 : decode cL_law 362 = .ok (.invokevirtual 36, 3) := by decide +kernel
theorem dL_law_365 : decode cL_law 365 = .ok (.aload_n 2, 1) := by decide +kernel
theorem dL_law_366 : decode cL_law 366 = .ok (.aload_n 0, 1) := by decide +kernel
theorem dL_law_367 : decode cL_law 367 = .ok (.iload_n 3, 1) := by decide +kernel
theorem dL_law_368 : decode cL_law 368 = .ok (.iconst 1, 1) := by decide +kernel
theorem dL_law_369 : decode cL_law 369 = .ok (.iadd, 1) := by decide +kernel
theorem dL_law_370 : decode cL_law 370 = .ok (.iaload, 1) := by decide +kernel
theorem dL_law_371 : decode cL_law 371 = .ok (.aload_n 0, 1) := by decide +kernel
theorem dL_law_372 : decode cL_law 372 = .ok (.iload_n 3, 1) := by decide +kernel
theorem dL_law_373 : decode cL_law 373 = .ok (.iconst 2, 1) := by decide +kernel
theorem dL_law_374 : decode cL_law 374 = .ok (.iadd, 1) := by decide +kernel
theorem dL_law_375 : decode cL_law 375 = .ok (.iaload, 1) := by decide +kernel
theorem dL_law_376 : decode cL_law 376 = .ok (.invokevirtual 39, 3) := by decide +kernel
theorem dL_law_379 : decode cL_law 379 = .ok (.if_icmp .eq 780, 3) := by decide +kernel
theorem dL_law_382 : decode cL_law 382 = .ok (.iconst 0, 1) := by decide +kernel
theorem dL_law_383 : decode cL_law 383 = .ok (.ireturn, 1) := by decide +kernel
theorem dL_law_384 : decode cL_law 384 = .ok (.aload_n 1, 1) := by decide +kernel
theorem dL_law_385 : decode cL_law 385 = .ok (.aload_n 0, 1) := by decide +kernel
theorem dL_law_386 : decode cL_law 386 = .ok (.iload_n 3, 1) := by decide +kernel
theorem dL_law_387 : decode cL_law 387 = .ok (.iconst 1, 1) := by decide +kernel
theorem dL_law_388 : decode cL_law 388 = .ok (.iadd, 1) := by decide +kernel
theorem dL_law_389 : decode cL_law 389 = .ok (.iaload, 1) := by decide +kernel
theorem dL_law_390 : decode cL_law 390 = .ok (.invokevirtual 40, 3) := by decide +kernel
theorem dL_law_393 : decode cL_law 393 = .ok (.aload_n 2, 1) := by decide +kernel
theorem dL_law_394 : decode cL_law 394 = .ok (.aload_n 0, 1) := by decide +kernel
theorem dL_law_395 : decode cL_law 395 = .ok (.iload_n 3, 1) := by decide +kernel
theorem dL_law_396 : decode cL_law 396 = .ok (.iconst 1, 1) := by decide +kernel
theorem dL_law_397 : decode cL_law 397 = .ok (.iadd, 1) := by decide +kernel
theorem dL_law_398 : decode cL_law 398 = .ok (.iaload, 1) := by decide +kernel
theorem dL_law_399 : decode cL_law 399 = .ok (.invokevirtual 43, 3) := by decide +kernel
theorem dL_law_402 : decode cL_law 402 = .ok (.if_icmp .eq 757, 3) := by decide +kernel
theorem dL_law_405 : decode cL_law 405 = .ok (.iconst 0, 1) := by decide +kernel
theorem dL_law_406 : decode cL_law 406 = .ok (.ireturn, 1) := by decide +kernel
theorem dL_law_407 : decode cL_law 407 = .ok (.aload_n 1, 1) := by decide +kernel
theorem dL_law_408 : decode cL_law 408 = .ok (.invokevirtual 44, 3) := by decide +kernel
theorem dL_law_411 : decode cL_law 411 = .ok (.aload_n 2, 1) := by decide +kernel
theorem dL_law_412 : decode cL_law 412 = .ok (.invokevirtual 48, 3) := by decide +kernel
theorem dL_law_415 : decode cL_law 415 = .ok (.if_icmp .eq 744, 3) := by decide +kernel
theorem dL_law_418 : decode cL_law 418 = .ok (.iconst 0, 1) := by decide +kernel
theorem dL_law_419 : decode cL_law 419 = .ok (.ireturn, 1) := by decide +kernel
theorem dL_law_0 : decode cL_law 0 = .ok (.new 7, 3) := by decide +kernel
theorem dL_law_3 : decode cL_law 3 = .ok (.dup, 1) := by decide +kernel
theorem dL_law_4 : decode cL_law 4 = .ok (.invokespecial 9, 3) := by decide +kernel
theorem dL_law_7 : decode cL_law 7 = .ok (.astore_n 1, 1) := by decide +kernel
theorem dL_law_8 : decode cL_law 8 = .ok (.new 10, 3) := by decide +kernel
theorem dL_law_11 : decode cL_law 11 = .ok (.dup, 1) := by decide +kernel
theorem dL_law_12 : decode cL_law 12 = .ok (.invokespecial 12, 3) := by decide +kernel
theorem dL_law_15 : decode cL_law 15 = .ok (.astore_n 2, 1) := by decide +kernel
theorem dL_law_16 : decode cL_law 16 = .ok (.iconst 0, 1) := by decide +kernel
theorem dL_law_17 : decode cL_law 17 = .ok (.istore_n 3, 1) := by decide +kernel
theorem dL_law_18 : decode cL_law 18 = .ok (.iload_n 3, 1) := by decide +kernel
theorem dL_law_19 : decode cL_law 19 = .ok (.aload_n 0, 1) := by decide +kernel
theorem dL_law_20 : decode cL_law 20 = .ok (.arraylength, 1) := by decide +kernel
theorem dL_law_21 : decode cL_law 21 = .ok (.iconst 5, 1) := by decide +kernel
theorem dL_law_22 : decode cL_law 22 = .ok (.isub, 1) := by decide +kernel
theorem dL_law_23 : decode cL_law 23 = .ok (.if_icmp .gt 1142, 3) := by decide +kernel
theorem dL_law_26 : decode cL_law 26 = .ok (.aload_n 0, 1) := by decide +kernel
theorem dL_law_27 : decode cL_law 27 = .ok (.iload_n 3, 1) := by decide +kernel
theorem dL_law_28 : decode cL_law 28 = .ok (.iaload, 1) := by decide +kernel
theorem dL_law_29 : decode cL_law 29 = .ok (.bipush 63, 2) := by decide +kernel
theorem dL_law_31 : decode cL_law 31 = .ok (.iand, 1) := by decide +kernel
theorem dL_law_32 : decode cL_law 32 = .ok (.tableswitch 1127 0 36 #[164, 187, 230, 263, 296, 319, 352, 375, 388, 401, 414, 437, 450, 493, 506, 519, 532, 555, 578, 611, 644, 687, 730, 783, 796, 819, 832, 855, 878, 911, 934, 947, 981, 1015, 1058, 1081, 1104], 164) := by decide +kernel
section LAW0
variable {nm : String} {xl : Nat} {xs : Nat → Int32} {n i : Nat} {I S : Nat → Nat → Int32} {J T : Nat → Nat → Int64} {X : Nat → Option Nat} {Q : QT}
theorem lw_things (hx : xl ≤ 320) (hi : i + 5 ≤ xl) (hG : GI n I J X) (k : ∀ I S J T, GI n I J X → Ev xl xs 7 169 (65 - n) ((65 - n) * 12) (mLn nm) 1159 [some (.ref 1004), some (.ref 0), some (.ref 33), some (.int (nI i))] [] n (sysH (ov I S) (ovJ J T) X) Q) : Ev xl xs 7 169 (65 - n) ((65 - n) * 12) (mLn nm) 196 [some (.ref 1004), some (.ref 0), some (.ref 33), some (.int (nI i))] [] n (sysH (ov I S) (ovJ J T) X) Q := by
  have hn := GI_n hG
  obtain ⟨r, hB⟩ := st_things (xl := xl) (xs := xs) (xs (nI i + 1).toNatClampNeg) hG
  refine ev_aload_n (q := 197) dL_law_196 rfl rfl ?_
  refine ev_aload_n (q := 198) dL_law_197 rfl rfl ?_
  refine ev_iload_n (q := 199) dL_law_198 rfl rfl ?_
  refine ev_iconst (q := 200) (1) dL_law_199 (by decide) rfl ?_
  refine ev_iadd (q := 201) dL_law_200 rfl ?_
  refine ev_sald (q := 202) dL_law_201 (sc_in (k := 1) (by omega) hx) rfl ?_
  refine ev_callV1iX (q := 205) dL_law_202 ca_L_13 (hB _ _) rfl (lt_n hn (by decide)) rfl rfl (Nat.le_of_ble_eq_true rfl) (Nat.le_of_ble_eq_true rfl) (by decide) (by decide) rfl (fun I2 S J2 T hp_202 => ?_)
  refine ev_aload_n (q := 206) dL_law_205 rfl rfl ?_
  refine ev_aload_n (q := 207) dL_law_206 rfl rfl ?_
  refine ev_iload_n (q := 208) dL_law_207 rfl rfl ?_
  refine ev_iconst (q := 209) (1) dL_law_208 (by decide) rfl ?_
  refine ev_iadd (q := 210) dL_law_209 rfl ?_
  refine ev_sald (q := 211) dL_law_210 (sc_in (k := 1) (by omega) hx) rfl ?_
  refine ev_callV1iX (q := 214) dL_law_211 ca_L_17 (hp_202 _ _) rfl (lt_n hn (by decide)) rfl rfl (Nat.le_of_ble_eq_true rfl) (Nat.le_of_ble_eq_true rfl) (by decide) (by decide) rfl (fun I2 S J2 T hp_211 => ?_)
  refine ev_icmp_eq (q := 217) 1159 dL_law_214 (by decide) rfl (fun c_214 => ?_) (fun c_214 => ?_)
  · exact k _ _ _ _ hp_211
  · exact absurd rfl c_214
theorem lw_worth (hx : xl ≤ 320) (hi : i + 5 ≤ xl) (hG : GI n I J X) (k : ∀ I S J T, GI n I J X → Ev xl xs 7 169 (65 - n) ((65 - n) * 12) (mLn nm) 1159 [some (.ref 1004), some (.ref 0), some (.ref 33), some (.int (nI i))] [] n (sysH (ov I S) (ovJ J T) X) Q) : Ev xl xs 7 169 (65 - n) ((65 - n) * 12) (mLn nm) 219 [some (.ref 1004), some (.ref 0), some (.ref 33), some (.int (nI i))] [] n (sysH (ov I S) (ovJ J T) X) Q := by
  have hn := GI_n hG
  obtain ⟨r, hB⟩ := st_worth (xl := xl) (xs := xs) (xs (nI i + 1).toNatClampNeg) (xs (nI i + 2).toNatClampNeg) (xs (nI i + 3).toNatClampNeg) hG
  refine ev_aload_n (q := 220) dL_law_219 rfl rfl ?_
  refine ev_aload_n (q := 221) dL_law_220 rfl rfl ?_
  refine ev_iload_n (q := 222) dL_law_221 rfl rfl ?_
  refine ev_iconst (q := 223) (1) dL_law_222 (by decide) rfl ?_
  refine ev_iadd (q := 224) dL_law_223 rfl ?_
  refine ev_sald (q := 225) dL_law_224 (sc_in (k := 1) (by omega) hx) rfl ?_
  refine ev_aload_n (q := 226) dL_law_225 rfl rfl ?_
  refine ev_iload_n (q := 227) dL_law_226 rfl rfl ?_
  refine ev_iconst (q := 228) (2) dL_law_227 (by decide) rfl ?_
  refine ev_iadd (q := 229) dL_law_228 rfl ?_
  refine ev_sald (q := 230) dL_law_229 (sc_in (k := 2) (by omega) hx) rfl ?_
  refine ev_aload_n (q := 231) dL_law_230 rfl rfl ?_
  refine ev_iload_n (q := 232) dL_law_231 rfl rfl ?_
  refine ev_iconst (q := 233) (3) dL_law_232 (by decide) rfl ?_
  refine ev_iadd (q := 234) dL_law_233 rfl ?_
  refine ev_sald (q := 235) dL_law_234 (sc_in (k := 3) (by omega) hx) rfl ?_
  refine ev_callV3iX (q := 238) dL_law_235 ca_L_18 (hB _ _) rfl (lt_n hn (by decide)) rfl rfl (Nat.le_of_ble_eq_true rfl) (Nat.le_of_ble_eq_true rfl) (by decide) (by decide) rfl (fun I2 S J2 T hp_235 => ?_)
  refine ev_aload_n (q := 239) dL_law_238 rfl rfl ?_
  refine ev_aload_n (q := 240) dL_law_239 rfl rfl ?_
  refine ev_iload_n (q := 241) dL_law_240 rfl rfl ?_
  refine ev_iconst (q := 242) (1) dL_law_241 (by decide) rfl ?_
  refine ev_iadd (q := 243) dL_law_242 rfl ?_
  refine ev_sald (q := 244) dL_law_243 (sc_in (k := 1) (by omega) hx) rfl ?_
  refine ev_aload_n (q := 245) dL_law_244 rfl rfl ?_
  refine ev_iload_n (q := 246) dL_law_245 rfl rfl ?_
  refine ev_iconst (q := 247) (2) dL_law_246 (by decide) rfl ?_
  refine ev_iadd (q := 248) dL_law_247 rfl ?_
  refine ev_sald (q := 249) dL_law_248 (sc_in (k := 2) (by omega) hx) rfl ?_
  refine ev_aload_n (q := 250) dL_law_249 rfl rfl ?_
  refine ev_iload_n (q := 251) dL_law_250 rfl rfl ?_
  refine ev_iconst (q := 252) (3) dL_law_251 (by decide) rfl ?_
  refine ev_iadd (q := 253) dL_law_252 rfl ?_
  refine ev_sald (q := 254) dL_law_253 (sc_in (k := 3) (by omega) hx) rfl ?_
  refine ev_callV3iX (q := 257) dL_law_254 ca_L_22 (hp_235 _ _) rfl (lt_n hn (by decide)) rfl rfl (Nat.le_of_ble_eq_true rfl) (Nat.le_of_ble_eq_true rfl) (by decide) (by decide) rfl (fun I2 S J2 T hp_254 => ?_)
  refine ev_icmp_eq (q := 260) 1159 dL_law_257 (by decide) rfl (fun c_257 => ?_) (fun c_257 => ?_)
  · exact k _ _ _ _ hp_254
  · exact absurd rfl c_257
theorem lw_taste (hx : xl ≤ 320) (hi : i + 5 ≤ xl) (hG : GI n I J X) (k : ∀ I S J T, GI n I J X → Ev xl xs 7 169 (65 - n) ((65 - n) * 12) (mLn nm) 1159 [some (.ref 1004), some (.ref 0), some (.ref 33), some (.int (nI i))] [] n (sysH (ov I S) (ovJ J T) X) Q) : Ev xl xs 7 169 (65 - n) ((65 - n) * 12) (mLn nm) 262 [some (.ref 1004), some (.ref 0), some (.ref 33), some (.int (nI i))] [] n (sysH (ov I S) (ovJ J T) X) Q := by
  have hn := GI_n hG
  obtain ⟨r, hB⟩ := st_taste (xl := xl) (xs := xs) (xs (nI i + 1).toNatClampNeg) (xs (nI i + 2).toNatClampNeg) hG
  refine ev_aload_n (q := 263) dL_law_262 rfl rfl ?_
  refine ev_aload_n (q := 264) dL_law_263 rfl rfl ?_
  refine ev_iload_n (q := 265) dL_law_264 rfl rfl ?_
  refine ev_iconst (q := 266) (1) dL_law_265 (by decide) rfl ?_
  refine ev_iadd (q := 267) dL_law_266 rfl ?_
  refine ev_sald (q := 268) dL_law_267 (sc_in (k := 1) (by omega) hx) rfl ?_
  refine ev_aload_n (q := 269) dL_law_268 rfl rfl ?_
  refine ev_iload_n (q := 270) dL_law_269 rfl rfl ?_
  refine ev_iconst (q := 271) (2) dL_law_270 (by decide) rfl ?_
  refine ev_iadd (q := 272) dL_law_271 rfl ?_
  refine ev_sald (q := 273) dL_law_272 (sc_in (k := 2) (by omega) hx) rfl ?_
  refine ev_callV2iX (q := 276) dL_law_273 ca_L_23 (hB _ _) rfl (lt_n hn (by decide)) rfl rfl (Nat.le_of_ble_eq_true rfl) (Nat.le_of_ble_eq_true rfl) (by decide) (by decide) rfl (fun I2 S J2 T hp_273 => ?_)
  refine ev_aload_n (q := 277) dL_law_276 rfl rfl ?_
  refine ev_aload_n (q := 278) dL_law_277 rfl rfl ?_
  refine ev_iload_n (q := 279) dL_law_278 rfl rfl ?_
  refine ev_iconst (q := 280) (1) dL_law_279 (by decide) rfl ?_
  refine ev_iadd (q := 281) dL_law_280 rfl ?_
  refine ev_sald (q := 282) dL_law_281 (sc_in (k := 1) (by omega) hx) rfl ?_
  refine ev_aload_n (q := 283) dL_law_282 rfl rfl ?_
  refine ev_iload_n (q := 284) dL_law_283 rfl rfl ?_
  refine ev_iconst (q := 285) (2) dL_law_284 (by decide) rfl ?_
  refine ev_iadd (q := 286) dL_law_285 rfl ?_
  refine ev_sald (q := 287) dL_law_286 (sc_in (k := 2) (by omega) hx) rfl ?_
  refine ev_callV2iX (q := 290) dL_law_287 ca_L_27 (hp_273 _ _) rfl (lt_n hn (by decide)) rfl rfl (Nat.le_of_ble_eq_true rfl) (Nat.le_of_ble_eq_true rfl) (by decide) (by decide) rfl (fun I2 S J2 T hp_287 => ?_)
  refine ev_icmp_eq (q := 293) 1159 dL_law_290 (by decide) rfl (fun c_290 => ?_) (fun c_290 => ?_)
  · exact k _ _ _ _ hp_287
  · exact absurd rfl c_290
theorem lw_set (hx : xl ≤ 320) (hi : i + 5 ≤ xl) (hG : GI n I J X) (k : ∀ I S J T, GI n I J X → Ev xl xs 7 169 (65 - n) ((65 - n) * 12) (mLn nm) 1159 [some (.ref 1004), some (.ref 0), some (.ref 33), some (.int (nI i))] [] n (sysH (ov I S) (ovJ J T) X) Q) : Ev xl xs 7 169 (65 - n) ((65 - n) * 12) (mLn nm) 295 [some (.ref 1004), some (.ref 0), some (.ref 33), some (.int (nI i))] [] n (sysH (ov I S) (ovJ J T) X) Q := by
  have hn := GI_n hG
  obtain ⟨r, hB⟩ := st_set (xl := xl) (xs := xs) (xs (nI i + 1).toNatClampNeg) (xs (nI i + 2).toNatClampNeg) hG
  refine ev_aload_n (q := 296) dL_law_295 rfl rfl ?_
  refine ev_aload_n (q := 297) dL_law_296 rfl rfl ?_
  refine ev_iload_n (q := 298) dL_law_297 rfl rfl ?_
  refine ev_iconst (q := 299) (1) dL_law_298 (by decide) rfl ?_
  refine ev_iadd (q := 300) dL_law_299 rfl ?_
  refine ev_sald (q := 301) dL_law_300 (sc_in (k := 1) (by omega) hx) rfl ?_
  refine ev_aload_n (q := 302) dL_law_301 rfl rfl ?_
  refine ev_iload_n (q := 303) dL_law_302 rfl rfl ?_
  refine ev_iconst (q := 304) (2) dL_law_303 (by decide) rfl ?_
  refine ev_iadd (q := 305) dL_law_304 rfl ?_
  refine ev_sald (q := 306) dL_law_305 (sc_in (k := 2) (by omega) hx) rfl ?_
  refine ev_callV2iX (q := 309) dL_law_306 ca_L_28 (hB _ _) rfl (lt_n hn (by decide)) rfl rfl (Nat.le_of_ble_eq_true rfl) (Nat.le_of_ble_eq_true rfl) (by decide) (by decide) rfl (fun I2 S J2 T hp_306 => ?_)
  refine ev_aload_n (q := 310) dL_law_309 rfl rfl ?_
  refine ev_aload_n (q := 311) dL_law_310 rfl rfl ?_
  refine ev_iload_n (q := 312) dL_law_311 rfl rfl ?_
  refine ev_iconst (q := 313) (1) dL_law_312 (by decide) rfl ?_
  refine ev_iadd (q := 314) dL_law_313 rfl ?_
  refine ev_sald (q := 315) dL_law_314 (sc_in (k := 1) (by omega) hx) rfl ?_
  refine ev_aload_n (q := 316) dL_law_315 rfl rfl ?_
  refine ev_iload_n (q := 317) dL_law_316 rfl rfl ?_
  refine ev_iconst (q := 318) (2) dL_law_317 (by decide) rfl ?_
  refine ev_iadd (q := 319) dL_law_318 rfl ?_
  refine ev_sald (q := 320) dL_law_319 (sc_in (k := 2) (by omega) hx) rfl ?_
  refine ev_callV2iX (q := 323) dL_law_320 ca_L_31 (hp_306 _ _) rfl (lt_n hn (by decide)) rfl rfl (Nat.le_of_ble_eq_true rfl) (Nat.le_of_ble_eq_true rfl) (by decide) (by decide) rfl (fun I2 S J2 T hp_320 => ?_)
  refine ev_icmp_eq (q := 326) 1159 dL_law_323 (by decide) rfl (fun c_323 => ?_) (fun c_323 => ?_)
  · exact k _ _ _ _ hp_320
  · exact absurd rfl c_323
theorem lw_now (hx : xl ≤ 320) (hi : i + 5 ≤ xl) (hG : GI n I J X) (k : ∀ I S J T, GI n I J X → Ev xl xs 7 169 (65 - n) ((65 - n) * 12) (mLn nm) 1159 [some (.ref 1004), some (.ref 0), some (.ref 33), some (.int (nI i))] [] n (sysH (ov I S) (ovJ J T) X) Q) : Ev xl xs 7 169 (65 - n) ((65 - n) * 12) (mLn nm) 328 [some (.ref 1004), some (.ref 0), some (.ref 33), some (.int (nI i))] [] n (sysH (ov I S) (ovJ J T) X) Q := by
  have hn := GI_n hG
  obtain ⟨r, hB⟩ := st_now (xl := xl) (xs := xs) (xs (nI i + 1).toNatClampNeg) hG
  refine ev_aload_n (q := 329) dL_law_328 rfl rfl ?_
  refine ev_aload_n (q := 330) dL_law_329 rfl rfl ?_
  refine ev_iload_n (q := 331) dL_law_330 rfl rfl ?_
  refine ev_iconst (q := 332) (1) dL_law_331 (by decide) rfl ?_
  refine ev_iadd (q := 333) dL_law_332 rfl ?_
  refine ev_sald (q := 334) dL_law_333 (sc_in (k := 1) (by omega) hx) rfl ?_
  refine ev_callV1iX (q := 337) dL_law_334 ca_L_32 (hB _ _) rfl (lt_n hn (by decide)) rfl rfl (Nat.le_of_ble_eq_true rfl) (Nat.le_of_ble_eq_true rfl) (by decide) (by decide) rfl (fun I2 S J2 T hp_334 => ?_)
  refine ev_aload_n (q := 338) dL_law_337 rfl rfl ?_
  refine ev_aload_n (q := 339) dL_law_338 rfl rfl ?_
  refine ev_iload_n (q := 340) dL_law_339 rfl rfl ?_
  refine ev_iconst (q := 341) (1) dL_law_340 (by decide) rfl ?_
  refine ev_iadd (q := 342) dL_law_341 rfl ?_
  refine ev_sald (q := 343) dL_law_342 (sc_in (k := 1) (by omega) hx) rfl ?_
  refine ev_callV1iX (q := 346) dL_law_343 ca_L_35 (hp_334 _ _) rfl (lt_n hn (by decide)) rfl rfl (Nat.le_of_ble_eq_true rfl) (Nat.le_of_ble_eq_true rfl) (by decide) (by decide) rfl (fun I2 S J2 T hp_343 => ?_)
  refine ev_icmp_eq (q := 349) 1159 dL_law_346 (by decide) rfl (fun c_346 => ?_) (fun c_346 => ?_)
  · exact k _ _ _ _ hp_343
  · exact absurd rfl c_346
theorem lw_worthOf (hx : xl ≤ 320) (hi : i + 5 ≤ xl) (hG : GI n I J X) (k : ∀ I S J T, GI n I J X → Ev xl xs 7 169 (65 - n) ((65 - n) * 12) (mLn nm) 1159 [some (.ref 1004), some (.ref 0), some (.ref 33), some (.int (nI i))] [] n (sysH (ov I S) (ovJ J T) X) Q) : Ev xl xs 7 169 (65 - n) ((65 - n) * 12) (mLn nm) 351 [some (.ref 1004), some (.ref 0), some (.ref 33), some (.int (nI i))] [] n (sysH (ov I S) (ovJ J T) X) Q := by
  have hn := GI_n hG
  obtain ⟨r, hB⟩ := st_worthOf (xl := xl) (xs := xs) (xs (nI i + 1).toNatClampNeg) (xs (nI i + 2).toNatClampNeg) hG
  refine ev_aload_n (q := 352) dL_law_351 rfl rfl ?_
  refine ev_aload_n (q := 353) dL_law_352 rfl rfl ?_
  refine ev_iload_n (q := 354) dL_law_353 rfl rfl ?_
  refine ev_iconst (q := 355) (1) dL_law_354 (by decide) rfl ?_
  refine ev_iadd (q := 356) dL_law_355 rfl ?_
  refine ev_sald (q := 357) dL_law_356 (sc_in (k := 1) (by omega) hx) rfl ?_
  refine ev_aload_n (q := 358) dL_law_357 rfl rfl ?_
  refine ev_iload_n (q := 359) dL_law_358 rfl rfl ?_
  refine ev_iconst (q := 360) (2) dL_law_359 (by decide) rfl ?_
  refine ev_iadd (q := 361) dL_law_360 rfl ?_
  refine ev_sald (q := 362) dL_law_361 (sc_in (k := 2) (by omega) hx) rfl ?_
  refine ev_callV2iX (q := 365) dL_law_362 ca_L_36 (hB _ _) rfl (lt_n hn (by decide)) rfl rfl (Nat.le_of_ble_eq_true rfl) (Nat.le_of_ble_eq_true rfl) (by decide) (by decide) rfl (fun I2 S J2 T hp_362 => ?_)
  refine ev_aload_n (q := 366) dL_law_365 rfl rfl ?_
  refine ev_aload_n (q := 367) dL_law_366 rfl rfl ?_
  refine ev_iload_n (q := 368) dL_law_367 rfl rfl ?_
  refine ev_iconst (q := 369) (1) dL_law_368 (by decide) rfl ?_
  refine ev_iadd (q := 370) dL_law_369 rfl ?_
  refine ev_sald (q := 371) dL_law_370 (sc_in (k := 1) (by omega) hx) rfl ?_
  refine ev_aload_n (q := 372) dL_law_371 rfl rfl ?_
  refine ev_iload_n (q := 373) dL_law_372 rfl rfl ?_
  refine ev_iconst (q := 374) (2) dL_law_373 (by decide) rfl ?_
  refine ev_iadd (q := 375) dL_law_374 rfl ?_
  refine ev_sald (q := 376) dL_law_375 (sc_in (k := 2) (by omega) hx) rfl ?_
  refine ev_callV2iX (q := 379) dL_law_376 ca_L_39 (hp_362 _ _) rfl (lt_n hn (by decide)) rfl rfl (Nat.le_of_ble_eq_true rfl) (Nat.le_of_ble_eq_true rfl) (by decide) (by decide) rfl (fun I2 S J2 T hp_376 => ?_)
  refine ev_icmp_eq (q := 382) 1159 dL_law_379 (by decide) rfl (fun c_379 => ?_) (fun c_379 => ?_)
  · exact k _ _ _ _ hp_376
  · exact absurd rfl c_379
theorem lw_say (hx : xl ≤ 320) (hi : i + 5 ≤ xl) (hG : GI n I J X) (k : ∀ I S J T, GI n I J X → Ev xl xs 7 169 (65 - n) ((65 - n) * 12) (mLn nm) 1159 [some (.ref 1004), some (.ref 0), some (.ref 33), some (.int (nI i))] [] n (sysH (ov I S) (ovJ J T) X) Q) : Ev xl xs 7 169 (65 - n) ((65 - n) * 12) (mLn nm) 384 [some (.ref 1004), some (.ref 0), some (.ref 33), some (.int (nI i))] [] n (sysH (ov I S) (ovJ J T) X) Q := by
  have hn := GI_n hG
  obtain ⟨r, hB⟩ := st_say (xl := xl) (xs := xs) (xs (nI i + 1).toNatClampNeg) hG
  refine ev_aload_n (q := 385) dL_law_384 rfl rfl ?_
  refine ev_aload_n (q := 386) dL_law_385 rfl rfl ?_
  refine ev_iload_n (q := 387) dL_law_386 rfl rfl ?_
  refine ev_iconst (q := 388) (1) dL_law_387 (by decide) rfl ?_
  refine ev_iadd (q := 389) dL_law_388 rfl ?_
  refine ev_sald (q := 390) dL_law_389 (sc_in (k := 1) (by omega) hx) rfl ?_
  refine ev_callV1iX (q := 393) dL_law_390 ca_L_40 (hB _ _) rfl (lt_n hn (by decide)) rfl rfl (Nat.le_of_ble_eq_true rfl) (Nat.le_of_ble_eq_true rfl) (by decide) (by decide) rfl (fun I2 S J2 T hp_390 => ?_)
  refine ev_aload_n (q := 394) dL_law_393 rfl rfl ?_
  refine ev_aload_n (q := 395) dL_law_394 rfl rfl ?_
  refine ev_iload_n (q := 396) dL_law_395 rfl rfl ?_
  refine ev_iconst (q := 397) (1) dL_law_396 (by decide) rfl ?_
  refine ev_iadd (q := 398) dL_law_397 rfl ?_
  refine ev_sald (q := 399) dL_law_398 (sc_in (k := 1) (by omega) hx) rfl ?_
  refine ev_callV1iX (q := 402) dL_law_399 ca_L_43 (hp_390 _ _) rfl (lt_n hn (by decide)) rfl rfl (Nat.le_of_ble_eq_true rfl) (Nat.le_of_ble_eq_true rfl) (by decide) (by decide) rfl (fun I2 S J2 T hp_399 => ?_)
  refine ev_icmp_eq (q := 405) 1159 dL_law_402 (by decide) rfl (fun c_402 => ?_) (fun c_402 => ?_)
  · exact k _ _ _ _ hp_399
  · exact absurd rfl c_402
theorem lw_wipe (hx : xl ≤ 320) (hi : i + 5 ≤ xl) (hG : GI n I J X) (k : ∀ I S J T, GI n I J X → Ev xl xs 7 169 (65 - n) ((65 - n) * 12) (mLn nm) 1159 [some (.ref 1004), some (.ref 0), some (.ref 33), some (.int (nI i))] [] n (sysH (ov I S) (ovJ J T) X) Q) : Ev xl xs 7 169 (65 - n) ((65 - n) * 12) (mLn nm) 407 [some (.ref 1004), some (.ref 0), some (.ref 33), some (.int (nI i))] [] n (sysH (ov I S) (ovJ J T) X) Q := by
  have hn := GI_n hG
  obtain ⟨r, hB⟩ := st_wipe (xl := xl) (xs := xs)  hG
  refine ev_aload_n (q := 408) dL_law_407 rfl rfl ?_
  refine ev_callV0iX (q := 411) dL_law_408 ca_L_44 (hB _ _) rfl (lt_n hn (by decide)) rfl rfl (Nat.le_of_ble_eq_true rfl) (Nat.le_of_ble_eq_true rfl) (by decide) (by decide) rfl (fun I2 S J2 T hp_408 => ?_)
  refine ev_aload_n (q := 412) dL_law_411 rfl rfl ?_
  refine ev_callV0iX (q := 415) dL_law_412 ca_L_48 (hp_408 _ _) rfl (lt_n hn (by decide)) rfl rfl (Nat.le_of_ble_eq_true rfl) (Nat.le_of_ble_eq_true rfl) (by decide) (by decide) rfl (fun I2 S J2 T hp_412 => ?_)
  refine ev_icmp_eq (q := 418) 1159 dL_law_415 (by decide) rfl (fun c_415 => ?_) (fun c_415 => ?_)
  · exact k _ _ _ _ hp_412
  · exact absurd rfl c_415
end LAW0
