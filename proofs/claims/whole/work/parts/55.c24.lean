abbrev mL_law : kY := (x, cL_law, 4, some .boolean)
section C24
variable {E : kE} {C S k : Nat} {I : Nat → Nat → Int32} {Q : Option Value → kM → Prop}
theorem c2L_64 {y : kY} {d cl sl mc ms pc n : Nat} {L : List (Option Value)} {st : List Value} {M : kM} (hd : decode y.2.1 pc = .ok (.ldc2_w 64, 3)) (hn : pc + 3 = n) (hy : R_law = y.1.cls) (kk : Wd E d y cl sl mc ms n L (.long 4294967295 :: st) M Q) : Wd E d y cl sl mc ms pc L st M Q := k_ldc2 hd hn (hy ▸ gwi 1305 (by decide +kernel) rfl) kk
theorem INV.mono {n : Nat} (h : INV n I) : INV (n + 1) I := by
  obtain ⟨h1, h2, h3, h4, h5, h6, ⟨p, p1, p2⟩, h8⟩ := h
  exact ⟨h1, h2, h3, h4, h5, h6, ⟨p, by omega, p2⟩, h8⟩
/-- the script's k-th number -/
abbrev sc (E : kE) (j : Nat) : Int32 := (kxt E 1000).2 j
theorem sR : kRd E (kJ I) 1000 (kxt E 1000).1 (kxt E 1000).2 := Or.inr ⟨by decide, by decide, rfl, rfl⟩
set_option maxHeartbeats 2000000 in
set_option maxRecDepth 20000 in
theorem L_0 (hlen : (kxt E 1000).1 ≤ 3072) (hk : 6 * k + 6 ≤ (kxt E 1000).1) (hI : INV k I) (hnext : ∀ K, INV (k + 1) K → Wd E 100 mL_law C S C S 1482 [some (.ref 1000), some (.ref 0), some (.ref 81), some (.int (nI (6 * k)))] [] (kJ K) Q) : Wd E 100 mL_law C S C S 216 [some (.ref 1000), some (.ref 0), some (.ref 81), some (.int (nI (6 * k)))] [] (kJ I) Q := by
  obtain ⟨P, hP, h2⟩ := a_rope (E := E) hI (sc E (6 * k + 1))
  refine al1 (n := 217) dL_law_216 rfl ?_
  refine al0 (n := 218) dL_law_217 rfl ?_
  refine il3 (n := 219) dL_law_218 rfl ?_
  refine k_iconst (a := 1) (n := 220) dL_law_219 rfl rfl ?_
  refine k_iadd (n := 221) dL_law_220 rfl ?_
  refine k_iald (j := 6 * k + 1) (n := 222) dL_law_221 rfl sR (show nI (6 * k) + 1 = nI (6 * k + 1) from nI_add (6 * k) 1) (by omega) (by omega) ?_
  refine qL_13 (n := 225) dL_law_222 rfl rfl (Nat.le_of_ble_eq_true rfl) (by decide) (Nat.le_refl _) (Nat.le_refl _) rfl hP (fun v M hv => ?_)
  obtain ⟨J, a, rfl, rfl, P2, hP2, h3⟩ := h2 v M hv
  dsimp only [Option.toList, List.cons_append, List.nil_append, Nat.add_zero]
  refine al2 (n := 226) dL_law_225 rfl ?_
  refine al0 (n := 227) dL_law_226 rfl ?_
  refine il3 (n := 228) dL_law_227 rfl ?_
  refine k_iconst (a := 1) (n := 229) dL_law_228 rfl rfl ?_
  refine k_iadd (n := 230) dL_law_229 rfl ?_
  refine k_iald (j := 6 * k + 1) (n := 231) dL_law_230 rfl sR (show nI (6 * k) + 1 = nI (6 * k + 1) from nI_add (6 * k) 1) (by omega) (by omega) ?_
  refine qL_17 (n := 234) dL_law_231 rfl rfl (Nat.le_of_ble_eq_true rfl) (by decide) (Nat.le_refl _) (Nat.le_refl _) rfl hP2 (fun v M hv => ?_)
  obtain ⟨K, rfl, rfl, hK⟩ := h3 v M hv
  dsimp only [Option.toList, List.cons_append, List.nil_append, Nat.add_zero]
  refine k_icmp_eq (t := 1482) (n := 237) dL_law_234 (by decide) rfl (fun _ => hnext K hK) (fun h => absurd rfl h)
set_option maxHeartbeats 2000000 in
set_option maxRecDepth 20000 in
theorem L_1 (hlen : (kxt E 1000).1 ≤ 3072) (hk : 6 * k + 6 ≤ (kxt E 1000).1) (hI : INV k I) (hnext : ∀ K, INV (k + 1) K → Wd E 100 mL_law C S C S 1482 [some (.ref 1000), some (.ref 0), some (.ref 81), some (.int (nI (6 * k)))] [] (kJ K) Q) : Wd E 100 mL_law C S C S 239 [some (.ref 1000), some (.ref 0), some (.ref 81), some (.int (nI (6 * k)))] [] (kJ I) Q := by
  obtain ⟨P, hP, h2⟩ := a_rhyme (E := E) hI (sc E (6 * k + 1)) (sc E (6 * k + 2))
  refine al1 (n := 240) dL_law_239 rfl ?_
  refine al0 (n := 241) dL_law_240 rfl ?_
  refine il3 (n := 242) dL_law_241 rfl ?_
  refine k_iconst (a := 1) (n := 243) dL_law_242 rfl rfl ?_
  refine k_iadd (n := 244) dL_law_243 rfl ?_
  refine k_iald (j := 6 * k + 1) (n := 245) dL_law_244 rfl sR (show nI (6 * k) + 1 = nI (6 * k + 1) from nI_add (6 * k) 1) (by omega) (by omega) ?_
  refine al0 (n := 246) dL_law_245 rfl ?_
  refine il3 (n := 247) dL_law_246 rfl ?_
  refine k_iconst (a := 2) (n := 248) dL_law_247 rfl rfl ?_
  refine k_iadd (n := 249) dL_law_248 rfl ?_
  refine k_iald (j := 6 * k + 2) (n := 250) dL_law_249 rfl sR (show nI (6 * k) + 2 = nI (6 * k + 2) from nI_add (6 * k) 2) (by omega) (by omega) ?_
  refine qL_18 (n := 253) dL_law_250 rfl rfl (Nat.le_of_ble_eq_true rfl) (by decide) (Nat.le_refl _) (Nat.le_refl _) rfl hP (fun v M hv => ?_)
  obtain ⟨J, a, rfl, rfl, P2, hP2, h3⟩ := h2 v M hv
  dsimp only [Option.toList, List.cons_append, List.nil_append, Nat.add_zero]
  refine al2 (n := 254) dL_law_253 rfl ?_
  refine al0 (n := 255) dL_law_254 rfl ?_
  refine il3 (n := 256) dL_law_255 rfl ?_
  refine k_iconst (a := 1) (n := 257) dL_law_256 rfl rfl ?_
  refine k_iadd (n := 258) dL_law_257 rfl ?_
  refine k_iald (j := 6 * k + 1) (n := 259) dL_law_258 rfl sR (show nI (6 * k) + 1 = nI (6 * k + 1) from nI_add (6 * k) 1) (by omega) (by omega) ?_
  refine al0 (n := 260) dL_law_259 rfl ?_
  refine il3 (n := 261) dL_law_260 rfl ?_
  refine k_iconst (a := 2) (n := 262) dL_law_261 rfl rfl ?_
  refine k_iadd (n := 263) dL_law_262 rfl ?_
  refine k_iald (j := 6 * k + 2) (n := 264) dL_law_263 rfl sR (show nI (6 * k) + 2 = nI (6 * k + 2) from nI_add (6 * k) 2) (by omega) (by omega) ?_
  refine qL_22 (n := 267) dL_law_264 rfl rfl (Nat.le_of_ble_eq_true rfl) (by decide) (Nat.le_refl _) (Nat.le_refl _) rfl hP2 (fun v M hv => ?_)
  obtain ⟨K, rfl, rfl, hK⟩ := h3 v M hv
  dsimp only [Option.toList, List.cons_append, List.nil_append, Nat.add_zero]
  refine k_icmp_eq (t := 1482) (n := 270) dL_law_267 (by decide) rfl (fun _ => hnext K hK) (fun h => absurd rfl h)
set_option maxHeartbeats 2000000 in
set_option maxRecDepth 20000 in
theorem L_2 (hlen : (kxt E 1000).1 ≤ 3072) (hk : 6 * k + 6 ≤ (kxt E 1000).1) (hI : INV k I) (hnext : ∀ K, INV (k + 1) K → Wd E 100 mL_law C S C S 1482 [some (.ref 1000), some (.ref 0), some (.ref 81), some (.int (nI (6 * k)))] [] (kJ K) Q) : Wd E 100 mL_law C S C S 272 [some (.ref 1000), some (.ref 0), some (.ref 81), some (.int (nI (6 * k)))] [] (kJ I) Q := by
  obtain ⟨P, hP, h2⟩ := a_turner (E := E) hI (sc E (6 * k + 1))
  refine al1 (n := 273) dL_law_272 rfl ?_
  refine al0 (n := 274) dL_law_273 rfl ?_
  refine il3 (n := 275) dL_law_274 rfl ?_
  refine k_iconst (a := 1) (n := 276) dL_law_275 rfl rfl ?_
  refine k_iadd (n := 277) dL_law_276 rfl ?_
  refine k_iald (j := 6 * k + 1) (n := 278) dL_law_277 rfl sR (show nI (6 * k) + 1 = nI (6 * k + 1) from nI_add (6 * k) 1) (by omega) (by omega) ?_
  refine qL_23 (n := 281) dL_law_278 rfl rfl (Nat.le_of_ble_eq_true rfl) (by decide) (Nat.le_refl _) (Nat.le_refl _) rfl hP (fun v M hv => ?_)
  obtain ⟨J, a, rfl, rfl, P2, hP2, h3⟩ := h2 v M hv
  dsimp only [Option.toList, List.cons_append, List.nil_append, Nat.add_zero]
  refine al2 (n := 282) dL_law_281 rfl ?_
  refine al0 (n := 283) dL_law_282 rfl ?_
  refine il3 (n := 284) dL_law_283 rfl ?_
  refine k_iconst (a := 1) (n := 285) dL_law_284 rfl rfl ?_
  refine k_iadd (n := 286) dL_law_285 rfl ?_
  refine k_iald (j := 6 * k + 1) (n := 287) dL_law_286 rfl sR (show nI (6 * k) + 1 = nI (6 * k + 1) from nI_add (6 * k) 1) (by omega) (by omega) ?_
  refine qL_26 (n := 290) dL_law_287 rfl rfl (Nat.le_of_ble_eq_true rfl) (by decide) (Nat.le_refl _) (Nat.le_refl _) rfl hP2 (fun v M hv => ?_)
  obtain ⟨K, rfl, rfl, hK⟩ := h3 v M hv
  dsimp only [Option.toList, List.cons_append, List.nil_append, Nat.add_zero]
  refine k_icmp_eq (t := 1482) (n := 293) dL_law_290 (by decide) rfl (fun _ => hnext K hK) (fun h => absurd rfl h)
set_option maxHeartbeats 2000000 in
set_option maxRecDepth 20000 in
theorem L_3 (hlen : (kxt E 1000).1 ≤ 3072) (hk : 6 * k + 6 ≤ (kxt E 1000).1) (hI : INV k I) (hnext : ∀ K, INV (k + 1) K → Wd E 100 mL_law C S C S 1482 [some (.ref 1000), some (.ref 0), some (.ref 81), some (.int (nI (6 * k)))] [] (kJ K) Q) : Wd E 100 mL_law C S C S 295 [some (.ref 1000), some (.ref 0), some (.ref 81), some (.int (nI (6 * k)))] [] (kJ I) Q := by
  obtain ⟨P, hP, h2⟩ := a_ofTurner (E := E) hI (sc E (6 * k + 1)) (sc E (6 * k + 2))
  refine al1 (n := 296) dL_law_295 rfl ?_
  refine al0 (n := 297) dL_law_296 rfl ?_
  refine il3 (n := 298) dL_law_297 rfl ?_
  refine k_iconst (a := 1) (n := 299) dL_law_298 rfl rfl ?_
  refine k_iadd (n := 300) dL_law_299 rfl ?_
  refine k_iald (j := 6 * k + 1) (n := 301) dL_law_300 rfl sR (show nI (6 * k) + 1 = nI (6 * k + 1) from nI_add (6 * k) 1) (by omega) (by omega) ?_
  refine al0 (n := 302) dL_law_301 rfl ?_
  refine il3 (n := 303) dL_law_302 rfl ?_
  refine k_iconst (a := 2) (n := 304) dL_law_303 rfl rfl ?_
  refine k_iadd (n := 305) dL_law_304 rfl ?_
  refine k_iald (j := 6 * k + 2) (n := 306) dL_law_305 rfl sR (show nI (6 * k) + 2 = nI (6 * k + 2) from nI_add (6 * k) 2) (by omega) (by omega) ?_
  refine qL_27 (n := 309) dL_law_306 rfl rfl (Nat.le_of_ble_eq_true rfl) (by decide) (Nat.le_refl _) (Nat.le_refl _) rfl hP (fun v M hv => ?_)
  obtain ⟨J, a, rfl, rfl, P2, hP2, h3⟩ := h2 v M hv
  dsimp only [Option.toList, List.cons_append, List.nil_append, Nat.add_zero]
  refine al2 (n := 310) dL_law_309 rfl ?_
  refine al0 (n := 311) dL_law_310 rfl ?_
  refine il3 (n := 312) dL_law_311 rfl ?_
  refine k_iconst (a := 1) (n := 313) dL_law_312 rfl rfl ?_
  refine k_iadd (n := 314) dL_law_313 rfl ?_
  refine k_iald (j := 6 * k + 1) (n := 315) dL_law_314 rfl sR (show nI (6 * k) + 1 = nI (6 * k + 1) from nI_add (6 * k) 1) (by omega) (by omega) ?_
  refine al0 (n := 316) dL_law_315 rfl ?_
  refine il3 (n := 317) dL_law_316 rfl ?_
  refine k_iconst (a := 2) (n := 318) dL_law_317 rfl rfl ?_
  refine k_iadd (n := 319) dL_law_318 rfl ?_
  refine k_iald (j := 6 * k + 2) (n := 320) dL_law_319 rfl sR (show nI (6 * k) + 2 = nI (6 * k + 2) from nI_add (6 * k) 2) (by omega) (by omega) ?_
  refine qL_30 (n := 323) dL_law_320 rfl rfl (Nat.le_of_ble_eq_true rfl) (by decide) (Nat.le_refl _) (Nat.le_refl _) rfl hP2 (fun v M hv => ?_)
  obtain ⟨K, rfl, rfl, hK⟩ := h3 v M hv
  dsimp only [Option.toList, List.cons_append, List.nil_append, Nat.add_zero]
  refine k_icmp_eq (t := 1482) (n := 326) dL_law_323 (by decide) rfl (fun _ => hnext K hK) (fun h => absurd rfl h)
set_option maxHeartbeats 2000000 in
set_option maxRecDepth 20000 in
theorem L_4 (hlen : (kxt E 1000).1 ≤ 3072) (hk : 6 * k + 6 ≤ (kxt E 1000).1) (hI : INV k I) (hnext : ∀ K, INV (k + 1) K → Wd E 100 mL_law C S C S 1482 [some (.ref 1000), some (.ref 0), some (.ref 81), some (.int (nI (6 * k)))] [] (kJ K) Q) : Wd E 100 mL_law C S C S 328 [some (.ref 1000), some (.ref 0), some (.ref 81), some (.int (nI (6 * k)))] [] (kJ I) Q := by
  obtain ⟨P, hP, h2⟩ := a_relieve (E := E) hI (sc E (6 * k + 1))
  refine al1 (n := 329) dL_law_328 rfl ?_
  refine al0 (n := 330) dL_law_329 rfl ?_
  refine il3 (n := 331) dL_law_330 rfl ?_
  refine k_iconst (a := 1) (n := 332) dL_law_331 rfl rfl ?_
  refine k_iadd (n := 333) dL_law_332 rfl ?_
  refine k_iald (j := 6 * k + 1) (n := 334) dL_law_333 rfl sR (show nI (6 * k) + 1 = nI (6 * k + 1) from nI_add (6 * k) 1) (by omega) (by omega) ?_
  refine qL_31 (n := 337) dL_law_334 rfl rfl (Nat.le_of_ble_eq_true rfl) (by decide) (Nat.le_refl _) (Nat.le_refl _) rfl hP (fun v M hv => ?_)
  obtain ⟨J, a, rfl, rfl, P2, hP2, h3⟩ := h2 v M hv
  dsimp only [Option.toList, List.cons_append, List.nil_append, Nat.add_zero]
  refine al2 (n := 338) dL_law_337 rfl ?_
  refine al0 (n := 339) dL_law_338 rfl ?_
  refine il3 (n := 340) dL_law_339 rfl ?_
  refine k_iconst (a := 1) (n := 341) dL_law_340 rfl rfl ?_
  refine k_iadd (n := 342) dL_law_341 rfl ?_
  refine k_iald (j := 6 * k + 1) (n := 343) dL_law_342 rfl sR (show nI (6 * k) + 1 = nI (6 * k + 1) from nI_add (6 * k) 1) (by omega) (by omega) ?_
  refine qL_34 (n := 346) dL_law_343 rfl rfl (Nat.le_of_ble_eq_true rfl) (by decide) (Nat.le_refl _) (Nat.le_refl _) rfl hP2 (fun v M hv => ?_)
  obtain ⟨K, rfl, rfl, hK⟩ := h3 v M hv
  dsimp only [Option.toList, List.cons_append, List.nil_append, Nat.add_zero]
  refine k_icmp_eq (t := 1482) (n := 349) dL_law_346 (by decide) rfl (fun _ => hnext K hK) (fun h => absurd rfl h)
set_option maxHeartbeats 2000000 in
set_option maxRecDepth 20000 in
theorem L_5 (hlen : (kxt E 1000).1 ≤ 3072) (hk : 6 * k + 6 ≤ (kxt E 1000).1) (hI : INV k I) (hnext : ∀ K, INV (k + 1) K → Wd E 100 mL_law C S C S 1482 [some (.ref 1000), some (.ref 0), some (.ref 81), some (.int (nI (6 * k)))] [] (kJ K) Q) : Wd E 100 mL_law C S C S 351 [some (.ref 1000), some (.ref 0), some (.ref 81), some (.int (nI (6 * k)))] [] (kJ I) Q := by
  obtain ⟨P, hP, h2⟩ := a_crosser (E := E) hI (sc E (6 * k + 1)) (sc E (6 * k + 2)) (sc E (6 * k + 3))
  refine al1 (n := 352) dL_law_351 rfl ?_
  refine al0 (n := 353) dL_law_352 rfl ?_
  refine il3 (n := 354) dL_law_353 rfl ?_
  refine k_iconst (a := 1) (n := 355) dL_law_354 rfl rfl ?_
  refine k_iadd (n := 356) dL_law_355 rfl ?_
  refine k_iald (j := 6 * k + 1) (n := 357) dL_law_356 rfl sR (show nI (6 * k) + 1 = nI (6 * k + 1) from nI_add (6 * k) 1) (by omega) (by omega) ?_
  refine al0 (n := 358) dL_law_357 rfl ?_
  refine il3 (n := 359) dL_law_358 rfl ?_
  refine k_iconst (a := 2) (n := 360) dL_law_359 rfl rfl ?_
  refine k_iadd (n := 361) dL_law_360 rfl ?_
  refine k_iald (j := 6 * k + 2) (n := 362) dL_law_361 rfl sR (show nI (6 * k) + 2 = nI (6 * k + 2) from nI_add (6 * k) 2) (by omega) (by omega) ?_
  refine al0 (n := 363) dL_law_362 rfl ?_
  refine il3 (n := 364) dL_law_363 rfl ?_
  refine k_iconst (a := 3) (n := 365) dL_law_364 rfl rfl ?_
  refine k_iadd (n := 366) dL_law_365 rfl ?_
  refine k_iald (j := 6 * k + 3) (n := 367) dL_law_366 rfl sR (show nI (6 * k) + 3 = nI (6 * k + 3) from nI_add (6 * k) 3) (by omega) (by omega) ?_
  refine qL_35 (n := 370) dL_law_367 rfl rfl (Nat.le_of_ble_eq_true rfl) (by decide) (Nat.le_refl _) (Nat.le_refl _) rfl hP (fun v M hv => ?_)
  obtain ⟨J, a, rfl, rfl, P2, hP2, h3⟩ := h2 v M hv
  dsimp only [Option.toList, List.cons_append, List.nil_append, Nat.add_zero]
  refine al2 (n := 371) dL_law_370 rfl ?_
  refine al0 (n := 372) dL_law_371 rfl ?_
  refine il3 (n := 373) dL_law_372 rfl ?_
  refine k_iconst (a := 1) (n := 374) dL_law_373 rfl rfl ?_
  refine k_iadd (n := 375) dL_law_374 rfl ?_
  refine k_iald (j := 6 * k + 1) (n := 376) dL_law_375 rfl sR (show nI (6 * k) + 1 = nI (6 * k + 1) from nI_add (6 * k) 1) (by omega) (by omega) ?_
  refine al0 (n := 377) dL_law_376 rfl ?_
  refine il3 (n := 378) dL_law_377 rfl ?_
  refine k_iconst (a := 2) (n := 379) dL_law_378 rfl rfl ?_
  refine k_iadd (n := 380) dL_law_379 rfl ?_
  refine k_iald (j := 6 * k + 2) (n := 381) dL_law_380 rfl sR (show nI (6 * k) + 2 = nI (6 * k + 2) from nI_add (6 * k) 2) (by omega) (by omega) ?_
  refine al0 (n := 382) dL_law_381 rfl ?_
  refine il3 (n := 383) dL_law_382 rfl ?_
  refine k_iconst (a := 3) (n := 384) dL_law_383 rfl rfl ?_
  refine k_iadd (n := 385) dL_law_384 rfl ?_
  refine k_iald (j := 6 * k + 3) (n := 386) dL_law_385 rfl sR (show nI (6 * k) + 3 = nI (6 * k + 3) from nI_add (6 * k) 3) (by omega) (by omega) ?_
  refine qL_39 (n := 389) dL_law_386 rfl rfl (Nat.le_of_ble_eq_true rfl) (by decide) (Nat.le_refl _) (Nat.le_refl _) rfl hP2 (fun v M hv => ?_)
  obtain ⟨K, rfl, rfl, hK⟩ := h3 v M hv
  dsimp only [Option.toList, List.cons_append, List.nil_append, Nat.add_zero]
  refine k_icmp_eq (t := 1482) (n := 392) dL_law_389 (by decide) rfl (fun _ => hnext K hK) (fun h => absurd rfl h)
set_option maxHeartbeats 2000000 in
set_option maxRecDepth 20000 in
theorem L_6 (hlen : (kxt E 1000).1 ≤ 3072) (hk : 6 * k + 6 ≤ (kxt E 1000).1) (hI : INV k I) (hnext : ∀ K, INV (k + 1) K → Wd E 100 mL_law C S C S 1482 [some (.ref 1000), some (.ref 0), some (.ref 81), some (.int (nI (6 * k)))] [] (kJ K) Q) : Wd E 100 mL_law C S C S 394 [some (.ref 1000), some (.ref 0), some (.ref 81), some (.int (nI (6 * k)))] [] (kJ I) Q := by
  obtain ⟨P, hP, h2⟩ := a_ofCrosser (E := E) hI (sc E (6 * k + 1)) (sc E (6 * k + 2))
  refine al1 (n := 395) dL_law_394 rfl ?_
  refine al0 (n := 396) dL_law_395 rfl ?_
  refine il3 (n := 397) dL_law_396 rfl ?_
  refine k_iconst (a := 1) (n := 398) dL_law_397 rfl rfl ?_
  refine k_iadd (n := 399) dL_law_398 rfl ?_
  refine k_iald (j := 6 * k + 1) (n := 400) dL_law_399 rfl sR (show nI (6 * k) + 1 = nI (6 * k + 1) from nI_add (6 * k) 1) (by omega) (by omega) ?_
  refine al0 (n := 401) dL_law_400 rfl ?_
  refine il3 (n := 402) dL_law_401 rfl ?_
  refine k_iconst (a := 2) (n := 403) dL_law_402 rfl rfl ?_
  refine k_iadd (n := 404) dL_law_403 rfl ?_
  refine k_iald (j := 6 * k + 2) (n := 405) dL_law_404 rfl sR (show nI (6 * k) + 2 = nI (6 * k + 2) from nI_add (6 * k) 2) (by omega) (by omega) ?_
  refine qL_40 (n := 408) dL_law_405 rfl rfl (Nat.le_of_ble_eq_true rfl) (by decide) (Nat.le_refl _) (Nat.le_refl _) rfl hP (fun v M hv => ?_)
  obtain ⟨J, a, rfl, rfl, P2, hP2, h3⟩ := h2 v M hv
  dsimp only [Option.toList, List.cons_append, List.nil_append, Nat.add_zero]
  refine al2 (n := 409) dL_law_408 rfl ?_
  refine al0 (n := 410) dL_law_409 rfl ?_
  refine il3 (n := 411) dL_law_410 rfl ?_
  refine k_iconst (a := 1) (n := 412) dL_law_411 rfl rfl ?_
  refine k_iadd (n := 413) dL_law_412 rfl ?_
  refine k_iald (j := 6 * k + 1) (n := 414) dL_law_413 rfl sR (show nI (6 * k) + 1 = nI (6 * k + 1) from nI_add (6 * k) 1) (by omega) (by omega) ?_
  refine al0 (n := 415) dL_law_414 rfl ?_
  refine il3 (n := 416) dL_law_415 rfl ?_
  refine k_iconst (a := 2) (n := 417) dL_law_416 rfl rfl ?_
  refine k_iadd (n := 418) dL_law_417 rfl ?_
  refine k_iald (j := 6 * k + 2) (n := 419) dL_law_418 rfl sR (show nI (6 * k) + 2 = nI (6 * k + 2) from nI_add (6 * k) 2) (by omega) (by omega) ?_
  refine qL_43 (n := 422) dL_law_419 rfl rfl (Nat.le_of_ble_eq_true rfl) (by decide) (Nat.le_refl _) (Nat.le_refl _) rfl hP2 (fun v M hv => ?_)
  obtain ⟨K, rfl, rfl, hK⟩ := h3 v M hv
  dsimp only [Option.toList, List.cons_append, List.nil_append, Nat.add_zero]
  refine k_icmp_eq (t := 1482) (n := 425) dL_law_422 (by decide) rfl (fun _ => hnext K hK) (fun h => absurd rfl h)
set_option maxHeartbeats 2000000 in
set_option maxRecDepth 20000 in
theorem L_7 (hlen : (kxt E 1000).1 ≤ 3072) (hk : 6 * k + 6 ≤ (kxt E 1000).1) (hI : INV k I) (hnext : ∀ K, INV (k + 1) K → Wd E 100 mL_law C S C S 1482 [some (.ref 1000), some (.ref 0), some (.ref 81), some (.int (nI (6 * k)))] [] (kJ K) Q) : Wd E 100 mL_law C S C S 427 [some (.ref 1000), some (.ref 0), some (.ref 81), some (.int (nI (6 * k)))] [] (kJ I) Q := by
  obtain ⟨P, hP, h2⟩ := a_change (E := E) hI (sc E (6 * k + 1)) (sc E (6 * k + 2)) (sc E (6 * k + 3))
  refine al1 (n := 428) dL_law_427 rfl ?_
  refine al0 (n := 429) dL_law_428 rfl ?_
  refine il3 (n := 430) dL_law_429 rfl ?_
  refine k_iconst (a := 1) (n := 431) dL_law_430 rfl rfl ?_
  refine k_iadd (n := 432) dL_law_431 rfl ?_
  refine k_iald (j := 6 * k + 1) (n := 433) dL_law_432 rfl sR (show nI (6 * k) + 1 = nI (6 * k + 1) from nI_add (6 * k) 1) (by omega) (by omega) ?_
  refine al0 (n := 434) dL_law_433 rfl ?_
  refine il3 (n := 435) dL_law_434 rfl ?_
  refine k_iconst (a := 2) (n := 436) dL_law_435 rfl rfl ?_
  refine k_iadd (n := 437) dL_law_436 rfl ?_
  refine k_iald (j := 6 * k + 2) (n := 438) dL_law_437 rfl sR (show nI (6 * k) + 2 = nI (6 * k + 2) from nI_add (6 * k) 2) (by omega) (by omega) ?_
  refine al0 (n := 439) dL_law_438 rfl ?_
  refine il3 (n := 440) dL_law_439 rfl ?_
  refine k_iconst (a := 3) (n := 441) dL_law_440 rfl rfl ?_
  refine k_iadd (n := 442) dL_law_441 rfl ?_
  refine k_iald (j := 6 * k + 3) (n := 443) dL_law_442 rfl sR (show nI (6 * k) + 3 = nI (6 * k + 3) from nI_add (6 * k) 3) (by omega) (by omega) ?_
  refine qL_44 (n := 446) dL_law_443 rfl rfl (Nat.le_of_ble_eq_true rfl) (by decide) (Nat.le_refl _) (Nat.le_refl _) rfl hP (fun v M hv => ?_)
  obtain ⟨J, a, rfl, rfl, P2, hP2, h3⟩ := h2 v M hv
  dsimp only [Option.toList, List.cons_append, List.nil_append, Nat.add_zero]
  refine al2 (n := 447) dL_law_446 rfl ?_
  refine al0 (n := 448) dL_law_447 rfl ?_
  refine il3 (n := 449) dL_law_448 rfl ?_
  refine k_iconst (a := 1) (n := 450) dL_law_449 rfl rfl ?_
  refine k_iadd (n := 451) dL_law_450 rfl ?_
  refine k_iald (j := 6 * k + 1) (n := 452) dL_law_451 rfl sR (show nI (6 * k) + 1 = nI (6 * k + 1) from nI_add (6 * k) 1) (by omega) (by omega) ?_
  refine al0 (n := 453) dL_law_452 rfl ?_
  refine il3 (n := 454) dL_law_453 rfl ?_
  refine k_iconst (a := 2) (n := 455) dL_law_454 rfl rfl ?_
  refine k_iadd (n := 456) dL_law_455 rfl ?_
  refine k_iald (j := 6 * k + 2) (n := 457) dL_law_456 rfl sR (show nI (6 * k) + 2 = nI (6 * k + 2) from nI_add (6 * k) 2) (by omega) (by omega) ?_
  refine al0 (n := 458) dL_law_457 rfl ?_
  refine il3 (n := 459) dL_law_458 rfl ?_
  refine k_iconst (a := 3) (n := 460) dL_law_459 rfl rfl ?_
  refine k_iadd (n := 461) dL_law_460 rfl ?_
  refine k_iald (j := 6 * k + 3) (n := 462) dL_law_461 rfl sR (show nI (6 * k) + 3 = nI (6 * k + 3) from nI_add (6 * k) 3) (by omega) (by omega) ?_
  refine qL_47 (n := 465) dL_law_462 rfl rfl (Nat.le_of_ble_eq_true rfl) (by decide) (Nat.le_refl _) (Nat.le_refl _) rfl hP2 (fun v M hv => ?_)
  obtain ⟨K, rfl, rfl, hK⟩ := h3 v M hv
  dsimp only [Option.toList, List.cons_append, List.nil_append, Nat.add_zero]
  refine k_icmp_eq (t := 1482) (n := 468) dL_law_465 (by decide) rfl (fun _ => hnext K hK) (fun h => absurd rfl h)
set_option maxHeartbeats 2000000 in
set_option maxRecDepth 20000 in
theorem L_8 (hlen : (kxt E 1000).1 ≤ 3072) (hk : 6 * k + 6 ≤ (kxt E 1000).1) (hI : INV k I) (hnext : ∀ K, INV (k + 1) K → Wd E 100 mL_law C S C S 1482 [some (.ref 1000), some (.ref 0), some (.ref 81), some (.int (nI (6 * k)))] [] (kJ K) Q) : Wd E 100 mL_law C S C S 470 [some (.ref 1000), some (.ref 0), some (.ref 81), some (.int (nI (6 * k)))] [] (kJ I) Q := by
  obtain ⟨P, hP, h2⟩ := a_become (E := E) hI (sc E (6 * k + 1)) (sc E (6 * k + 2))
  refine al1 (n := 471) dL_law_470 rfl ?_
  refine al0 (n := 472) dL_law_471 rfl ?_
  refine il3 (n := 473) dL_law_472 rfl ?_
  refine k_iconst (a := 1) (n := 474) dL_law_473 rfl rfl ?_
  refine k_iadd (n := 475) dL_law_474 rfl ?_
  refine k_iald (j := 6 * k + 1) (n := 476) dL_law_475 rfl sR (show nI (6 * k) + 1 = nI (6 * k + 1) from nI_add (6 * k) 1) (by omega) (by omega) ?_
  refine al0 (n := 477) dL_law_476 rfl ?_
  refine il3 (n := 478) dL_law_477 rfl ?_
  refine k_iconst (a := 2) (n := 479) dL_law_478 rfl rfl ?_
  refine k_iadd (n := 480) dL_law_479 rfl ?_
  refine k_iald (j := 6 * k + 2) (n := 481) dL_law_480 rfl sR (show nI (6 * k) + 2 = nI (6 * k + 2) from nI_add (6 * k) 2) (by omega) (by omega) ?_
  refine qL_48 (n := 484) dL_law_481 rfl rfl (Nat.le_of_ble_eq_true rfl) (by decide) (Nat.le_refl _) (Nat.le_refl _) rfl hP (fun v M hv => ?_)
  obtain ⟨J, a, rfl, rfl, P2, hP2, h3⟩ := h2 v M hv
  dsimp only [Option.toList, List.cons_append, List.nil_append, Nat.add_zero]
  refine al2 (n := 485) dL_law_484 rfl ?_
  refine al0 (n := 486) dL_law_485 rfl ?_
  refine il3 (n := 487) dL_law_486 rfl ?_
  refine k_iconst (a := 1) (n := 488) dL_law_487 rfl rfl ?_
  refine k_iadd (n := 489) dL_law_488 rfl ?_
  refine k_iald (j := 6 * k + 1) (n := 490) dL_law_489 rfl sR (show nI (6 * k) + 1 = nI (6 * k + 1) from nI_add (6 * k) 1) (by omega) (by omega) ?_
  refine al0 (n := 491) dL_law_490 rfl ?_
  refine il3 (n := 492) dL_law_491 rfl ?_
  refine k_iconst (a := 2) (n := 493) dL_law_492 rfl rfl ?_
  refine k_iadd (n := 494) dL_law_493 rfl ?_
  refine k_iald (j := 6 * k + 2) (n := 495) dL_law_494 rfl sR (show nI (6 * k) + 2 = nI (6 * k + 2) from nI_add (6 * k) 2) (by omega) (by omega) ?_
  refine qL_51 (n := 498) dL_law_495 rfl rfl (Nat.le_of_ble_eq_true rfl) (by decide) (Nat.le_refl _) (Nat.le_refl _) rfl hP2 (fun v M hv => ?_)
  obtain ⟨K, rfl, rfl, hK⟩ := h3 v M hv
  dsimp only [Option.toList, List.cons_append, List.nil_append, Nat.add_zero]
  refine k_icmp_eq (t := 1482) (n := 501) dL_law_498 (by decide) rfl (fun _ => hnext K hK) (fun h => absurd rfl h)
set_option maxHeartbeats 2000000 in
set_option maxRecDepth 20000 in
theorem L_9 (hlen : (kxt E 1000).1 ≤ 3072) (hk : 6 * k + 6 ≤ (kxt E 1000).1) (hI : INV k I) (hnext : ∀ K, INV (k + 1) K → Wd E 100 mL_law C S C S 1482 [some (.ref 1000), some (.ref 0), some (.ref 81), some (.int (nI (6 * k)))] [] (kJ K) Q) : Wd E 100 mL_law C S C S 503 [some (.ref 1000), some (.ref 0), some (.ref 81), some (.int (nI (6 * k)))] [] (kJ I) Q := by
  obtain ⟨P, hP, h2⟩ := a_as (E := E) hI (sc E (6 * k + 1)) (sc E (6 * k + 2))
  refine al1 (n := 504) dL_law_503 rfl ?_
  refine al0 (n := 505) dL_law_504 rfl ?_
  refine il3 (n := 506) dL_law_505 rfl ?_
  refine k_iconst (a := 1) (n := 507) dL_law_506 rfl rfl ?_
  refine k_iadd (n := 508) dL_law_507 rfl ?_
  refine k_iald (j := 6 * k + 1) (n := 509) dL_law_508 rfl sR (show nI (6 * k) + 1 = nI (6 * k + 1) from nI_add (6 * k) 1) (by omega) (by omega) ?_
  refine al0 (n := 510) dL_law_509 rfl ?_
  refine il3 (n := 511) dL_law_510 rfl ?_
  refine k_iconst (a := 2) (n := 512) dL_law_511 rfl rfl ?_
  refine k_iadd (n := 513) dL_law_512 rfl ?_
  refine k_iald (j := 6 * k + 2) (n := 514) dL_law_513 rfl sR (show nI (6 * k) + 2 = nI (6 * k + 2) from nI_add (6 * k) 2) (by omega) (by omega) ?_
  refine qL_52 (n := 517) dL_law_514 rfl rfl (Nat.le_of_ble_eq_true rfl) (by decide) (Nat.le_refl _) (Nat.le_refl _) rfl hP (fun v M hv => ?_)
  obtain ⟨J, a, rfl, rfl, P2, hP2, h3⟩ := h2 v M hv
  dsimp only [Option.toList, List.cons_append, List.nil_append, Nat.add_zero]
  refine al2 (n := 518) dL_law_517 rfl ?_
  refine al0 (n := 519) dL_law_518 rfl ?_
  refine il3 (n := 520) dL_law_519 rfl ?_
  refine k_iconst (a := 1) (n := 521) dL_law_520 rfl rfl ?_
  refine k_iadd (n := 522) dL_law_521 rfl ?_
  refine k_iald (j := 6 * k + 1) (n := 523) dL_law_522 rfl sR (show nI (6 * k) + 1 = nI (6 * k + 1) from nI_add (6 * k) 1) (by omega) (by omega) ?_
  refine al0 (n := 524) dL_law_523 rfl ?_
  refine il3 (n := 525) dL_law_524 rfl ?_
  refine k_iconst (a := 2) (n := 526) dL_law_525 rfl rfl ?_
  refine k_iadd (n := 527) dL_law_526 rfl ?_
  refine k_iald (j := 6 * k + 2) (n := 528) dL_law_527 rfl sR (show nI (6 * k) + 2 = nI (6 * k + 2) from nI_add (6 * k) 2) (by omega) (by omega) ?_
  refine qL_55 (n := 531) dL_law_528 rfl rfl (Nat.le_of_ble_eq_true rfl) (by decide) (Nat.le_refl _) (Nat.le_refl _) rfl hP2 (fun v M hv => ?_)
  obtain ⟨K, rfl, rfl, hK⟩ := h3 v M hv
  dsimp only [Option.toList, List.cons_append, List.nil_append, Nat.add_zero]
  refine k_icmp_eq (t := 1482) (n := 534) dL_law_531 (by decide) rfl (fun _ => hnext K hK) (fun h => absurd rfl h)
set_option maxHeartbeats 2000000 in
set_option maxRecDepth 20000 in
theorem L_10 (hlen : (kxt E 1000).1 ≤ 3072) (hk : 6 * k + 6 ≤ (kxt E 1000).1) (hI : INV k I) (hnext : ∀ K, INV (k + 1) K → Wd E 100 mL_law C S C S 1482 [some (.ref 1000), some (.ref 0), some (.ref 81), some (.int (nI (6 * k)))] [] (kJ K) Q) : Wd E 100 mL_law C S C S 536 [some (.ref 1000), some (.ref 0), some (.ref 81), some (.int (nI (6 * k)))] [] (kJ I) Q := by
  obtain ⟨P, hP, h2⟩ := a_go (E := E) hI (sc E (6 * k + 1))
  refine al1 (n := 537) dL_law_536 rfl ?_
  refine al0 (n := 538) dL_law_537 rfl ?_
  refine il3 (n := 539) dL_law_538 rfl ?_
  refine k_iconst (a := 1) (n := 540) dL_law_539 rfl rfl ?_
  refine k_iadd (n := 541) dL_law_540 rfl ?_
  refine k_iald (j := 6 * k + 1) (n := 542) dL_law_541 rfl sR (show nI (6 * k) + 1 = nI (6 * k + 1) from nI_add (6 * k) 1) (by omega) (by omega) ?_
  refine qL_56 (n := 545) dL_law_542 rfl rfl (Nat.le_of_ble_eq_true rfl) (by decide) (Nat.le_refl _) (Nat.le_refl _) rfl hP (fun v M hv => ?_)
  obtain ⟨J, a, rfl, rfl, P2, hP2, h3⟩ := h2 v M hv
  dsimp only [Option.toList, List.cons_append, List.nil_append, Nat.add_zero]
  refine al2 (n := 546) dL_law_545 rfl ?_
  refine al0 (n := 547) dL_law_546 rfl ?_
  refine il3 (n := 548) dL_law_547 rfl ?_
  refine k_iconst (a := 1) (n := 549) dL_law_548 rfl rfl ?_
  refine k_iadd (n := 550) dL_law_549 rfl ?_
  refine k_iald (j := 6 * k + 1) (n := 551) dL_law_550 rfl sR (show nI (6 * k) + 1 = nI (6 * k + 1) from nI_add (6 * k) 1) (by omega) (by omega) ?_
  refine qL_59 (n := 554) dL_law_551 rfl rfl (Nat.le_of_ble_eq_true rfl) (by decide) (Nat.le_refl _) (Nat.le_refl _) rfl hP2 (fun v M hv => ?_)
  obtain ⟨K, rfl, rfl, hK⟩ := h3 v M hv
  dsimp only [Option.toList, List.cons_append, List.nil_append, Nat.add_zero]
  refine k_icmp_eq (t := 1482) (n := 557) dL_law_554 (by decide) rfl (fun _ => hnext K hK) (fun h => absurd rfl h)
set_option maxHeartbeats 2000000 in
set_option maxRecDepth 20000 in
theorem L_11 (hlen : (kxt E 1000).1 ≤ 3072) (hk : 6 * k + 6 ≤ (kxt E 1000).1) (hI : INV k I) (hnext : ∀ K, INV (k + 1) K → Wd E 100 mL_law C S C S 1482 [some (.ref 1000), some (.ref 0), some (.ref 81), some (.int (nI (6 * k)))] [] (kJ K) Q) : Wd E 100 mL_law C S C S 559 [some (.ref 1000), some (.ref 0), some (.ref 81), some (.int (nI (6 * k)))] [] (kJ I) Q := by
  obtain ⟨P, hP, h2⟩ := a_splice (E := E) hI (sc E (6 * k + 1)) (sc E (6 * k + 2))
  refine al1 (n := 560) dL_law_559 rfl ?_
  refine al0 (n := 561) dL_law_560 rfl ?_
  refine il3 (n := 562) dL_law_561 rfl ?_
  refine k_iconst (a := 1) (n := 563) dL_law_562 rfl rfl ?_
  refine k_iadd (n := 564) dL_law_563 rfl ?_
  refine k_iald (j := 6 * k + 1) (n := 565) dL_law_564 rfl sR (show nI (6 * k) + 1 = nI (6 * k + 1) from nI_add (6 * k) 1) (by omega) (by omega) ?_
  refine al0 (n := 566) dL_law_565 rfl ?_
  refine il3 (n := 567) dL_law_566 rfl ?_
  refine k_iconst (a := 2) (n := 568) dL_law_567 rfl rfl ?_
  refine k_iadd (n := 569) dL_law_568 rfl ?_
  refine k_iald (j := 6 * k + 2) (n := 570) dL_law_569 rfl sR (show nI (6 * k) + 2 = nI (6 * k + 2) from nI_add (6 * k) 2) (by omega) (by omega) ?_
  refine qL_60 (n := 573) dL_law_570 rfl rfl (Nat.le_of_ble_eq_true rfl) (by decide) (Nat.le_refl _) (Nat.le_refl _) rfl hP (fun v M hv => ?_)
  obtain ⟨J, a, rfl, rfl, P2, hP2, h3⟩ := h2 v M hv
  dsimp only [Option.toList, List.cons_append, List.nil_append, Nat.add_zero]
  refine al2 (n := 574) dL_law_573 rfl ?_
  refine al0 (n := 575) dL_law_574 rfl ?_
  refine il3 (n := 576) dL_law_575 rfl ?_
  refine k_iconst (a := 1) (n := 577) dL_law_576 rfl rfl ?_
  refine k_iadd (n := 578) dL_law_577 rfl ?_
  refine k_iald (j := 6 * k + 1) (n := 579) dL_law_578 rfl sR (show nI (6 * k) + 1 = nI (6 * k + 1) from nI_add (6 * k) 1) (by omega) (by omega) ?_
  refine al0 (n := 580) dL_law_579 rfl ?_
  refine il3 (n := 581) dL_law_580 rfl ?_
  refine k_iconst (a := 2) (n := 582) dL_law_581 rfl rfl ?_
  refine k_iadd (n := 583) dL_law_582 rfl ?_
  refine k_iald (j := 6 * k + 2) (n := 584) dL_law_583 rfl sR (show nI (6 * k) + 2 = nI (6 * k + 2) from nI_add (6 * k) 2) (by omega) (by omega) ?_
  refine qL_63 (n := 587) dL_law_584 rfl rfl (Nat.le_of_ble_eq_true rfl) (by decide) (Nat.le_refl _) (Nat.le_refl _) rfl hP2 (fun v M hv => ?_)
  obtain ⟨K, rfl, rfl, hK⟩ := h3 v M hv
  dsimp only [Option.toList, List.cons_append, List.nil_append, Nat.add_zero]
  refine k_icmp_eq (t := 1482) (n := 590) dL_law_587 (by decide) rfl (fun _ => hnext K hK) (fun h => absurd rfl h)
set_option maxHeartbeats 2000000 in
set_option maxRecDepth 20000 in
theorem L_12 (hlen : (kxt E 1000).1 ≤ 3072) (hk : 6 * k + 6 ≤ (kxt E 1000).1) (hI : INV k I) (hnext : ∀ K, INV (k + 1) K → Wd E 100 mL_law C S C S 1482 [some (.ref 1000), some (.ref 0), some (.ref 81), some (.int (nI (6 * k)))] [] (kJ K) Q) : Wd E 100 mL_law C S C S 592 [some (.ref 1000), some (.ref 0), some (.ref 81), some (.int (nI (6 * k)))] [] (kJ I) Q := by
  obtain ⟨P, hP, h2⟩ := a_feed (E := E) hI ((((sc E (6 * k + 1))).toInt64 <<< ((32 : Int32).toInt64 &&& 63)) ||| (((sc E (6 * k + 2))).toInt64 &&& (4294967295 : Int64))) (sc E (6 * k + 3))
  refine al1 (n := 593) dL_law_592 rfl ?_
  refine al0 (n := 594) dL_law_593 rfl ?_
  refine il3 (n := 595) dL_law_594 rfl ?_
  refine k_iconst (a := 1) (n := 596) dL_law_595 rfl rfl ?_
  refine k_iadd (n := 597) dL_law_596 rfl ?_
  refine k_iald (j := 6 * k + 1) (n := 598) dL_law_597 rfl sR (show nI (6 * k) + 1 = nI (6 * k + 1) from nI_add (6 * k) 1) (by omega) (by omega) ?_
  refine k_i2l (n := 599) dL_law_598 rfl ?_
  refine k_bipush (a := 32) (n := 601) dL_law_599 rfl rfl ?_
  refine k_lshl (n := 602) dL_law_601 rfl ?_
  refine al0 (n := 603) dL_law_602 rfl ?_
  refine il3 (n := 604) dL_law_603 rfl ?_
  refine k_iconst (a := 2) (n := 605) dL_law_604 rfl rfl ?_
  refine k_iadd (n := 606) dL_law_605 rfl ?_
  refine k_iald (j := 6 * k + 2) (n := 607) dL_law_606 rfl sR (show nI (6 * k) + 2 = nI (6 * k + 2) from nI_add (6 * k) 2) (by omega) (by omega) ?_
  refine k_i2l (n := 608) dL_law_607 rfl ?_
  refine c2L_64 (n := 611) dL_law_608 rfl rfl ?_
  refine k_land (n := 612) dL_law_611 rfl ?_
  refine k_lor (n := 613) dL_law_612 rfl ?_
  refine al0 (n := 614) dL_law_613 rfl ?_
  refine il3 (n := 615) dL_law_614 rfl ?_
  refine k_iconst (a := 3) (n := 616) dL_law_615 rfl rfl ?_
  refine k_iadd (n := 617) dL_law_616 rfl ?_
  refine k_iald (j := 6 * k + 3) (n := 618) dL_law_617 rfl sR (show nI (6 * k) + 3 = nI (6 * k + 3) from nI_add (6 * k) 3) (by omega) (by omega) ?_
  refine qL_66 (n := 621) dL_law_618 rfl rfl (Nat.le_of_ble_eq_true rfl) (by decide) (Nat.le_refl _) (Nat.le_refl _) rfl hP (fun v M hv => ?_)
  obtain ⟨J, a, rfl, rfl, P2, hP2, h3⟩ := h2 v M hv
  dsimp only [Option.toList, List.cons_append, List.nil_append, Nat.add_zero]
  refine al2 (n := 622) dL_law_621 rfl ?_
  refine al0 (n := 623) dL_law_622 rfl ?_
  refine il3 (n := 624) dL_law_623 rfl ?_
  refine k_iconst (a := 1) (n := 625) dL_law_624 rfl rfl ?_
  refine k_iadd (n := 626) dL_law_625 rfl ?_
  refine k_iald (j := 6 * k + 1) (n := 627) dL_law_626 rfl sR (show nI (6 * k) + 1 = nI (6 * k + 1) from nI_add (6 * k) 1) (by omega) (by omega) ?_
  refine k_i2l (n := 628) dL_law_627 rfl ?_
  refine k_bipush (a := 32) (n := 630) dL_law_628 rfl rfl ?_
  refine k_lshl (n := 631) dL_law_630 rfl ?_
  refine al0 (n := 632) dL_law_631 rfl ?_
  refine il3 (n := 633) dL_law_632 rfl ?_
  refine k_iconst (a := 2) (n := 634) dL_law_633 rfl rfl ?_
  refine k_iadd (n := 635) dL_law_634 rfl ?_
  refine k_iald (j := 6 * k + 2) (n := 636) dL_law_635 rfl sR (show nI (6 * k) + 2 = nI (6 * k + 2) from nI_add (6 * k) 2) (by omega) (by omega) ?_
  refine k_i2l (n := 637) dL_law_636 rfl ?_
  refine c2L_64 (n := 640) dL_law_637 rfl rfl ?_
  refine k_land (n := 641) dL_law_640 rfl ?_
  refine k_lor (n := 642) dL_law_641 rfl ?_
  refine al0 (n := 643) dL_law_642 rfl ?_
  refine il3 (n := 644) dL_law_643 rfl ?_
  refine k_iconst (a := 3) (n := 645) dL_law_644 rfl rfl ?_
  refine k_iadd (n := 646) dL_law_645 rfl ?_
  refine k_iald (j := 6 * k + 3) (n := 647) dL_law_646 rfl sR (show nI (6 * k) + 3 = nI (6 * k + 3) from nI_add (6 * k) 3) (by omega) (by omega) ?_
  refine qL_70 (n := 650) dL_law_647 rfl rfl (Nat.le_of_ble_eq_true rfl) (by decide) (Nat.le_refl _) (Nat.le_refl _) rfl hP2 (fun v M hv => ?_)
  obtain ⟨K, rfl, rfl, hK⟩ := h3 v M hv
  dsimp only [Option.toList, List.cons_append, List.nil_append, Nat.add_zero]
  refine k_icmp_eq (t := 1482) (n := 653) dL_law_650 (by decide) rfl (fun _ => hnext K hK) (fun h => absurd rfl h)
set_option maxHeartbeats 2000000 in
set_option maxRecDepth 20000 in
theorem L_13 (hlen : (kxt E 1000).1 ≤ 3072) (hk : 6 * k + 6 ≤ (kxt E 1000).1) (hI : INV k I) (hnext : ∀ K, INV (k + 1) K → Wd E 100 mL_law C S C S 1482 [some (.ref 1000), some (.ref 0), some (.ref 81), some (.int (nI (6 * k)))] [] (kJ K) Q) : Wd E 100 mL_law C S C S 655 [some (.ref 1000), some (.ref 0), some (.ref 81), some (.int (nI (6 * k)))] [] (kJ I) Q := by
  obtain ⟨P, hP, h2⟩ := a_text (E := E) hI (sc E (6 * k + 1))
  refine al1 (n := 656) dL_law_655 rfl ?_
  refine al0 (n := 657) dL_law_656 rfl ?_
  refine il3 (n := 658) dL_law_657 rfl ?_
  refine k_iconst (a := 1) (n := 659) dL_law_658 rfl rfl ?_
  refine k_iadd (n := 660) dL_law_659 rfl ?_
  refine k_iald (j := 6 * k + 1) (n := 661) dL_law_660 rfl sR (show nI (6 * k) + 1 = nI (6 * k + 1) from nI_add (6 * k) 1) (by omega) (by omega) ?_
  refine qL_71 (n := 664) dL_law_661 rfl rfl (Nat.le_of_ble_eq_true rfl) (by decide) (Nat.le_refl _) (Nat.le_refl _) rfl hP (fun v M hv => ?_)
  obtain ⟨J, a, rfl, rfl, P2, hP2, h3⟩ := h2 v M hv
  dsimp only [Option.toList, List.cons_append, List.nil_append, Nat.add_zero]
  refine al2 (n := 665) dL_law_664 rfl ?_
  refine al0 (n := 666) dL_law_665 rfl ?_
  refine il3 (n := 667) dL_law_666 rfl ?_
  refine k_iconst (a := 1) (n := 668) dL_law_667 rfl rfl ?_
  refine k_iadd (n := 669) dL_law_668 rfl ?_
  refine k_iald (j := 6 * k + 1) (n := 670) dL_law_669 rfl sR (show nI (6 * k) + 1 = nI (6 * k + 1) from nI_add (6 * k) 1) (by omega) (by omega) ?_
  refine qL_74 (n := 673) dL_law_670 rfl rfl (Nat.le_of_ble_eq_true rfl) (by decide) (Nat.le_refl _) (Nat.le_refl _) rfl hP2 (fun v M hv => ?_)
  obtain ⟨K, rfl, rfl, hK⟩ := h3 v M hv
  dsimp only [Option.toList, List.cons_append, List.nil_append, Nat.add_zero]
  refine k_icmp_eq (t := 1482) (n := 676) dL_law_673 (by decide) rfl (fun _ => hnext K hK) (fun h => absurd rfl h)
set_option maxHeartbeats 2000000 in
set_option maxRecDepth 20000 in
theorem L_14 (hlen : (kxt E 1000).1 ≤ 3072) (hk : 6 * k + 6 ≤ (kxt E 1000).1) (hI : INV k I) (hnext : ∀ K, INV (k + 1) K → Wd E 100 mL_law C S C S 1482 [some (.ref 1000), some (.ref 0), some (.ref 81), some (.int (nI (6 * k)))] [] (kJ K) Q) : Wd E 100 mL_law C S C S 678 [some (.ref 1000), some (.ref 0), some (.ref 81), some (.int (nI (6 * k)))] [] (kJ I) Q := by
  obtain ⟨P, hP, h2⟩ := a_law (E := E) hI (sc E (6 * k + 1)) (sc E (6 * k + 2)) (sc E (6 * k + 3)) (sc E (6 * k + 4))
  refine al1 (n := 679) dL_law_678 rfl ?_
  refine al0 (n := 680) dL_law_679 rfl ?_
  refine il3 (n := 681) dL_law_680 rfl ?_
  refine k_iconst (a := 1) (n := 682) dL_law_681 rfl rfl ?_
  refine k_iadd (n := 683) dL_law_682 rfl ?_
  refine k_iald (j := 6 * k + 1) (n := 684) dL_law_683 rfl sR (show nI (6 * k) + 1 = nI (6 * k + 1) from nI_add (6 * k) 1) (by omega) (by omega) ?_
  refine al0 (n := 685) dL_law_684 rfl ?_
  refine il3 (n := 686) dL_law_685 rfl ?_
  refine k_iconst (a := 2) (n := 687) dL_law_686 rfl rfl ?_
  refine k_iadd (n := 688) dL_law_687 rfl ?_
  refine k_iald (j := 6 * k + 2) (n := 689) dL_law_688 rfl sR (show nI (6 * k) + 2 = nI (6 * k + 2) from nI_add (6 * k) 2) (by omega) (by omega) ?_
  refine al0 (n := 690) dL_law_689 rfl ?_
  refine il3 (n := 691) dL_law_690 rfl ?_
  refine k_iconst (a := 3) (n := 692) dL_law_691 rfl rfl ?_
  refine k_iadd (n := 693) dL_law_692 rfl ?_
  refine k_iald (j := 6 * k + 3) (n := 694) dL_law_693 rfl sR (show nI (6 * k) + 3 = nI (6 * k + 3) from nI_add (6 * k) 3) (by omega) (by omega) ?_
  refine al0 (n := 695) dL_law_694 rfl ?_
  refine il3 (n := 696) dL_law_695 rfl ?_
  refine k_iconst (a := 4) (n := 697) dL_law_696 rfl rfl ?_
  refine k_iadd (n := 698) dL_law_697 rfl ?_
  refine k_iald (j := 6 * k + 4) (n := 699) dL_law_698 rfl sR (show nI (6 * k) + 4 = nI (6 * k + 4) from nI_add (6 * k) 4) (by omega) (by omega) ?_
  refine qL_75 (n := 702) dL_law_699 rfl rfl (Nat.le_of_ble_eq_true rfl) (by decide) (Nat.le_refl _) (Nat.le_refl _) rfl hP (fun v M hv => ?_)
  obtain ⟨J, a, rfl, rfl, P2, hP2, h3⟩ := h2 v M hv
  dsimp only [Option.toList, List.cons_append, List.nil_append, Nat.add_zero]
  refine al2 (n := 703) dL_law_702 rfl ?_
  refine al0 (n := 704) dL_law_703 rfl ?_
  refine il3 (n := 705) dL_law_704 rfl ?_
  refine k_iconst (a := 1) (n := 706) dL_law_705 rfl rfl ?_
  refine k_iadd (n := 707) dL_law_706 rfl ?_
  refine k_iald (j := 6 * k + 1) (n := 708) dL_law_707 rfl sR (show nI (6 * k) + 1 = nI (6 * k + 1) from nI_add (6 * k) 1) (by omega) (by omega) ?_
  refine al0 (n := 709) dL_law_708 rfl ?_
  refine il3 (n := 710) dL_law_709 rfl ?_
  refine k_iconst (a := 2) (n := 711) dL_law_710 rfl rfl ?_
  refine k_iadd (n := 712) dL_law_711 rfl ?_
  refine k_iald (j := 6 * k + 2) (n := 713) dL_law_712 rfl sR (show nI (6 * k) + 2 = nI (6 * k + 2) from nI_add (6 * k) 2) (by omega) (by omega) ?_
  refine al0 (n := 714) dL_law_713 rfl ?_
  refine il3 (n := 715) dL_law_714 rfl ?_
  refine k_iconst (a := 3) (n := 716) dL_law_715 rfl rfl ?_
  refine k_iadd (n := 717) dL_law_716 rfl ?_
  refine k_iald (j := 6 * k + 3) (n := 718) dL_law_717 rfl sR (show nI (6 * k) + 3 = nI (6 * k + 3) from nI_add (6 * k) 3) (by omega) (by omega) ?_
  refine al0 (n := 719) dL_law_718 rfl ?_
  refine il3 (n := 720) dL_law_719 rfl ?_
  refine k_iconst (a := 4) (n := 721) dL_law_720 rfl rfl ?_
  refine k_iadd (n := 722) dL_law_721 rfl ?_
  refine k_iald (j := 6 * k + 4) (n := 723) dL_law_722 rfl sR (show nI (6 * k) + 4 = nI (6 * k + 4) from nI_add (6 * k) 4) (by omega) (by omega) ?_
  refine qL_79 (n := 726) dL_law_723 rfl rfl (Nat.le_of_ble_eq_true rfl) (by decide) (Nat.le_refl _) (Nat.le_refl _) rfl hP2 (fun v M hv => ?_)
  obtain ⟨K, rfl, rfl, hK⟩ := h3 v M hv
  dsimp only [Option.toList, List.cons_append, List.nil_append, Nat.add_zero]
  refine k_icmp_eq (t := 1482) (n := 729) dL_law_726 (by decide) rfl (fun _ => hnext K hK) (fun h => absurd rfl h)
set_option maxHeartbeats 2000000 in
set_option maxRecDepth 20000 in
theorem L_15 (hlen : (kxt E 1000).1 ≤ 3072) (hk : 6 * k + 6 ≤ (kxt E 1000).1) (hI : INV k I) (hnext : ∀ K, INV (k + 1) K → Wd E 100 mL_law C S C S 1482 [some (.ref 1000), some (.ref 0), some (.ref 81), some (.int (nI (6 * k)))] [] (kJ K) Q) : Wd E 100 mL_law C S C S 731 [some (.ref 1000), some (.ref 0), some (.ref 81), some (.int (nI (6 * k)))] [] (kJ I) Q := by
  obtain ⟨P, hP, h2⟩ := a_beats (E := E) hI (sc E (6 * k + 1))
  refine al1 (n := 732) dL_law_731 rfl ?_
  refine al0 (n := 733) dL_law_732 rfl ?_
  refine il3 (n := 734) dL_law_733 rfl ?_
  refine k_iconst (a := 1) (n := 735) dL_law_734 rfl rfl ?_
  refine k_iadd (n := 736) dL_law_735 rfl ?_
  refine k_iald (j := 6 * k + 1) (n := 737) dL_law_736 rfl sR (show nI (6 * k) + 1 = nI (6 * k + 1) from nI_add (6 * k) 1) (by omega) (by omega) ?_
  refine qL_80 (n := 740) dL_law_737 rfl rfl (Nat.le_of_ble_eq_true rfl) (by decide) (Nat.le_refl _) (Nat.le_refl _) rfl hP (fun v M hv => ?_)
  obtain ⟨J, a, rfl, rfl, P2, hP2, h3⟩ := h2 v M hv
  dsimp only [Option.toList, List.cons_append, List.nil_append, Nat.add_zero]
  refine al2 (n := 741) dL_law_740 rfl ?_
  refine al0 (n := 742) dL_law_741 rfl ?_
  refine il3 (n := 743) dL_law_742 rfl ?_
  refine k_iconst (a := 1) (n := 744) dL_law_743 rfl rfl ?_
  refine k_iadd (n := 745) dL_law_744 rfl ?_
  refine k_iald (j := 6 * k + 1) (n := 746) dL_law_745 rfl sR (show nI (6 * k) + 1 = nI (6 * k + 1) from nI_add (6 * k) 1) (by omega) (by omega) ?_
  refine qL_83 (n := 749) dL_law_746 rfl rfl (Nat.le_of_ble_eq_true rfl) (by decide) (Nat.le_refl _) (Nat.le_refl _) rfl hP2 (fun v M hv => ?_)
  obtain ⟨K, rfl, rfl, hK⟩ := h3 v M hv
  dsimp only [Option.toList, List.cons_append, List.nil_append, Nat.add_zero]
  refine k_icmp_eq (t := 1482) (n := 752) dL_law_749 (by decide) rfl (fun _ => hnext K hK) (fun h => absurd rfl h)
set_option maxHeartbeats 2000000 in
set_option maxRecDepth 20000 in
theorem L_16 (hlen : (kxt E 1000).1 ≤ 3072) (hk : 6 * k + 6 ≤ (kxt E 1000).1) (hI : INV k I) (hnext : ∀ K, INV (k + 1) K → Wd E 100 mL_law C S C S 1482 [some (.ref 1000), some (.ref 0), some (.ref 81), some (.int (nI (6 * k)))] [] (kJ K) Q) : Wd E 100 mL_law C S C S 754 [some (.ref 1000), some (.ref 0), some (.ref 81), some (.int (nI (6 * k)))] [] (kJ I) Q := by
  obtain ⟨P, hP, h2⟩ := a_loose (E := E) hI (sc E (6 * k + 1))
  refine al1 (n := 755) dL_law_754 rfl ?_
  refine al0 (n := 756) dL_law_755 rfl ?_
  refine il3 (n := 757) dL_law_756 rfl ?_
  refine k_iconst (a := 1) (n := 758) dL_law_757 rfl rfl ?_
  refine k_iadd (n := 759) dL_law_758 rfl ?_
  refine k_iald (j := 6 * k + 1) (n := 760) dL_law_759 rfl sR (show nI (6 * k) + 1 = nI (6 * k + 1) from nI_add (6 * k) 1) (by omega) (by omega) ?_
  refine qL_84 (n := 763) dL_law_760 rfl rfl (Nat.le_of_ble_eq_true rfl) (by decide) (Nat.le_refl _) (Nat.le_refl _) rfl hP (fun v M hv => ?_)
  obtain ⟨J, a, rfl, rfl, P2, hP2, h3⟩ := h2 v M hv
  dsimp only [Option.toList, List.cons_append, List.nil_append, Nat.add_zero]
  refine al2 (n := 764) dL_law_763 rfl ?_
  refine al0 (n := 765) dL_law_764 rfl ?_
  refine il3 (n := 766) dL_law_765 rfl ?_
  refine k_iconst (a := 1) (n := 767) dL_law_766 rfl rfl ?_
  refine k_iadd (n := 768) dL_law_767 rfl ?_
  refine k_iald (j := 6 * k + 1) (n := 769) dL_law_768 rfl sR (show nI (6 * k) + 1 = nI (6 * k + 1) from nI_add (6 * k) 1) (by omega) (by omega) ?_
  refine qL_87 (n := 772) dL_law_769 rfl rfl (Nat.le_of_ble_eq_true rfl) (by decide) (Nat.le_refl _) (Nat.le_refl _) rfl hP2 (fun v M hv => ?_)
  obtain ⟨K, rfl, rfl, hK⟩ := h3 v M hv
  dsimp only [Option.toList, List.cons_append, List.nil_append, Nat.add_zero]
  refine k_icmp_eq (t := 1482) (n := 775) dL_law_772 (by decide) rfl (fun _ => hnext K hK) (fun h => absurd rfl h)
set_option maxHeartbeats 2000000 in
set_option maxRecDepth 20000 in
theorem L_17 (hlen : (kxt E 1000).1 ≤ 3072) (hk : 6 * k + 6 ≤ (kxt E 1000).1) (hI : INV k I) (hnext : ∀ K, INV (k + 1) K → Wd E 100 mL_law C S C S 1482 [some (.ref 1000), some (.ref 0), some (.ref 81), some (.int (nI (6 * k)))] [] (kJ K) Q) : Wd E 100 mL_law C S C S 777 [some (.ref 1000), some (.ref 0), some (.ref 81), some (.int (nI (6 * k)))] [] (kJ I) Q := by
  obtain ⟨P, hP, h2⟩ := a_wear (E := E) hI (sc E (6 * k + 1))
  refine al1 (n := 778) dL_law_777 rfl ?_
  refine al0 (n := 779) dL_law_778 rfl ?_
  refine il3 (n := 780) dL_law_779 rfl ?_
  refine k_iconst (a := 1) (n := 781) dL_law_780 rfl rfl ?_
  refine k_iadd (n := 782) dL_law_781 rfl ?_
  refine k_iald (j := 6 * k + 1) (n := 783) dL_law_782 rfl sR (show nI (6 * k) + 1 = nI (6 * k + 1) from nI_add (6 * k) 1) (by omega) (by omega) ?_
  refine qL_88 (n := 786) dL_law_783 rfl rfl (Nat.le_of_ble_eq_true rfl) (by decide) (Nat.le_refl _) (Nat.le_refl _) rfl hP (fun v M hv => ?_)
  obtain ⟨J, a, rfl, rfl, P2, hP2, h3⟩ := h2 v M hv
  dsimp only [Option.toList, List.cons_append, List.nil_append, Nat.add_zero]
  refine al2 (n := 787) dL_law_786 rfl ?_
  refine al0 (n := 788) dL_law_787 rfl ?_
  refine il3 (n := 789) dL_law_788 rfl ?_
  refine k_iconst (a := 1) (n := 790) dL_law_789 rfl rfl ?_
  refine k_iadd (n := 791) dL_law_790 rfl ?_
  refine k_iald (j := 6 * k + 1) (n := 792) dL_law_791 rfl sR (show nI (6 * k) + 1 = nI (6 * k + 1) from nI_add (6 * k) 1) (by omega) (by omega) ?_
  refine qL_91 (n := 795) dL_law_792 rfl rfl (Nat.le_of_ble_eq_true rfl) (by decide) (Nat.le_refl _) (Nat.le_refl _) rfl hP2 (fun v M hv => ?_)
  obtain ⟨K, rfl, rfl, hK⟩ := h3 v M hv
  dsimp only [Option.toList, List.cons_append, List.nil_append, Nat.add_zero]
  refine k_icmp_eq (t := 1482) (n := 798) dL_law_795 (by decide) rfl (fun _ => hnext K hK) (fun h => absurd rfl h)
set_option maxHeartbeats 2000000 in
set_option maxRecDepth 20000 in
theorem L_18 (hlen : (kxt E 1000).1 ≤ 3072) (hk : 6 * k + 6 ≤ (kxt E 1000).1) (hI : INV k I) (hnext : ∀ K, INV (k + 1) K → Wd E 100 mL_law C S C S 1482 [some (.ref 1000), some (.ref 0), some (.ref 81), some (.int (nI (6 * k)))] [] (kJ K) Q) : Wd E 100 mL_law C S C S 800 [some (.ref 1000), some (.ref 0), some (.ref 81), some (.int (nI (6 * k)))] [] (kJ I) Q := by
  obtain ⟨P, hP, h2⟩ := a_then (E := E) hI (sc E (6 * k + 1)) (sc E (6 * k + 2)) (sc E (6 * k + 3))
  refine al1 (n := 801) dL_law_800 rfl ?_
  refine al0 (n := 802) dL_law_801 rfl ?_
  refine il3 (n := 803) dL_law_802 rfl ?_
  refine k_iconst (a := 1) (n := 804) dL_law_803 rfl rfl ?_
  refine k_iadd (n := 805) dL_law_804 rfl ?_
  refine k_iald (j := 6 * k + 1) (n := 806) dL_law_805 rfl sR (show nI (6 * k) + 1 = nI (6 * k + 1) from nI_add (6 * k) 1) (by omega) (by omega) ?_
  refine al0 (n := 807) dL_law_806 rfl ?_
  refine il3 (n := 808) dL_law_807 rfl ?_
  refine k_iconst (a := 2) (n := 809) dL_law_808 rfl rfl ?_
  refine k_iadd (n := 810) dL_law_809 rfl ?_
  refine k_iald (j := 6 * k + 2) (n := 811) dL_law_810 rfl sR (show nI (6 * k) + 2 = nI (6 * k + 2) from nI_add (6 * k) 2) (by omega) (by omega) ?_
  refine al0 (n := 812) dL_law_811 rfl ?_
  refine il3 (n := 813) dL_law_812 rfl ?_
  refine k_iconst (a := 3) (n := 814) dL_law_813 rfl rfl ?_
  refine k_iadd (n := 815) dL_law_814 rfl ?_
  refine k_iald (j := 6 * k + 3) (n := 816) dL_law_815 rfl sR (show nI (6 * k) + 3 = nI (6 * k + 3) from nI_add (6 * k) 3) (by omega) (by omega) ?_
  refine qL_92 (n := 819) dL_law_816 rfl rfl (Nat.le_of_ble_eq_true rfl) (by decide) (Nat.le_refl _) (Nat.le_refl _) rfl hP (fun v M hv => ?_)
  obtain ⟨J, a, rfl, rfl, P2, hP2, h3⟩ := h2 v M hv
  dsimp only [Option.toList, List.cons_append, List.nil_append, Nat.add_zero]
  refine al2 (n := 820) dL_law_819 rfl ?_
  refine al0 (n := 821) dL_law_820 rfl ?_
  refine il3 (n := 822) dL_law_821 rfl ?_
  refine k_iconst (a := 1) (n := 823) dL_law_822 rfl rfl ?_
  refine k_iadd (n := 824) dL_law_823 rfl ?_
  refine k_iald (j := 6 * k + 1) (n := 825) dL_law_824 rfl sR (show nI (6 * k) + 1 = nI (6 * k + 1) from nI_add (6 * k) 1) (by omega) (by omega) ?_
  refine al0 (n := 826) dL_law_825 rfl ?_
  refine il3 (n := 827) dL_law_826 rfl ?_
  refine k_iconst (a := 2) (n := 828) dL_law_827 rfl rfl ?_
  refine k_iadd (n := 829) dL_law_828 rfl ?_
  refine k_iald (j := 6 * k + 2) (n := 830) dL_law_829 rfl sR (show nI (6 * k) + 2 = nI (6 * k + 2) from nI_add (6 * k) 2) (by omega) (by omega) ?_
  refine al0 (n := 831) dL_law_830 rfl ?_
  refine il3 (n := 832) dL_law_831 rfl ?_
  refine k_iconst (a := 3) (n := 833) dL_law_832 rfl rfl ?_
  refine k_iadd (n := 834) dL_law_833 rfl ?_
  refine k_iald (j := 6 * k + 3) (n := 835) dL_law_834 rfl sR (show nI (6 * k) + 3 = nI (6 * k + 3) from nI_add (6 * k) 3) (by omega) (by omega) ?_
  refine qL_95 (n := 838) dL_law_835 rfl rfl (Nat.le_of_ble_eq_true rfl) (by decide) (Nat.le_refl _) (Nat.le_refl _) rfl hP2 (fun v M hv => ?_)
  obtain ⟨K, rfl, rfl, hK⟩ := h3 v M hv
  dsimp only [Option.toList, List.cons_append, List.nil_append, Nat.add_zero]
  refine k_icmp_eq (t := 1482) (n := 841) dL_law_838 (by decide) rfl (fun _ => hnext K hK) (fun h => absurd rfl h)
set_option maxHeartbeats 2000000 in
set_option maxRecDepth 20000 in
theorem L_19 (hlen : (kxt E 1000).1 ≤ 3072) (hk : 6 * k + 6 ≤ (kxt E 1000).1) (hI : INV k I) (hnext : ∀ K, INV (k + 1) K → Wd E 100 mL_law C S C S 1482 [some (.ref 1000), some (.ref 0), some (.ref 81), some (.int (nI (6 * k)))] [] (kJ K) Q) : Wd E 100 mL_law C S C S 843 [some (.ref 1000), some (.ref 0), some (.ref 81), some (.int (nI (6 * k)))] [] (kJ I) Q := by
  obtain ⟨P, hP, h2⟩ := a_over (E := E) hI (sc E (6 * k + 1))
  refine al1 (n := 844) dL_law_843 rfl ?_
  refine al0 (n := 845) dL_law_844 rfl ?_
  refine il3 (n := 846) dL_law_845 rfl ?_
  refine k_iconst (a := 1) (n := 847) dL_law_846 rfl rfl ?_
  refine k_iadd (n := 848) dL_law_847 rfl ?_
  refine k_iald (j := 6 * k + 1) (n := 849) dL_law_848 rfl sR (show nI (6 * k) + 1 = nI (6 * k + 1) from nI_add (6 * k) 1) (by omega) (by omega) ?_
  refine qL_96 (n := 852) dL_law_849 rfl rfl (Nat.le_of_ble_eq_true rfl) (by decide) (Nat.le_refl _) (Nat.le_refl _) rfl hP (fun v M hv => ?_)
  obtain ⟨J, a, rfl, rfl, P2, hP2, h3⟩ := h2 v M hv
  dsimp only [Option.toList, List.cons_append, List.nil_append, Nat.add_zero]
  refine al2 (n := 853) dL_law_852 rfl ?_
  refine al0 (n := 854) dL_law_853 rfl ?_
  refine il3 (n := 855) dL_law_854 rfl ?_
  refine k_iconst (a := 1) (n := 856) dL_law_855 rfl rfl ?_
  refine k_iadd (n := 857) dL_law_856 rfl ?_
  refine k_iald (j := 6 * k + 1) (n := 858) dL_law_857 rfl sR (show nI (6 * k) + 1 = nI (6 * k + 1) from nI_add (6 * k) 1) (by omega) (by omega) ?_
  refine qL_99 (n := 861) dL_law_858 rfl rfl (Nat.le_of_ble_eq_true rfl) (by decide) (Nat.le_refl _) (Nat.le_refl _) rfl hP2 (fun v M hv => ?_)
  obtain ⟨K, rfl, rfl, hK⟩ := h3 v M hv
  dsimp only [Option.toList, List.cons_append, List.nil_append, Nat.add_zero]
  refine k_icmp_eq (t := 1482) (n := 864) dL_law_861 (by decide) rfl (fun _ => hnext K hK) (fun h => absurd rfl h)
set_option maxHeartbeats 2000000 in
set_option maxRecDepth 20000 in
theorem L_20 (hlen : (kxt E 1000).1 ≤ 3072) (hk : 6 * k + 6 ≤ (kxt E 1000).1) (hI : INV k I) (hnext : ∀ K, INV (k + 1) K → Wd E 100 mL_law C S C S 1482 [some (.ref 1000), some (.ref 0), some (.ref 81), some (.int (nI (6 * k)))] [] (kJ K) Q) : Wd E 100 mL_law C S C S 866 [some (.ref 1000), some (.ref 0), some (.ref 81), some (.int (nI (6 * k)))] [] (kJ I) Q := by
  obtain ⟨P, hP, h2⟩ := a_begin (E := E) hI (sc E (6 * k + 1))
  refine al1 (n := 867) dL_law_866 rfl ?_
  refine al0 (n := 868) dL_law_867 rfl ?_
  refine il3 (n := 869) dL_law_868 rfl ?_
  refine k_iconst (a := 1) (n := 870) dL_law_869 rfl rfl ?_
  refine k_iadd (n := 871) dL_law_870 rfl ?_
  refine k_iald (j := 6 * k + 1) (n := 872) dL_law_871 rfl sR (show nI (6 * k) + 1 = nI (6 * k + 1) from nI_add (6 * k) 1) (by omega) (by omega) ?_
  refine qL_100 (n := 875) dL_law_872 rfl rfl (Nat.le_of_ble_eq_true rfl) (by decide) (Nat.le_refl _) (Nat.le_refl _) rfl hP (fun v M hv => ?_)
  obtain ⟨J, a, rfl, rfl, P2, hP2, h3⟩ := h2 v M hv
  dsimp only [Option.toList, List.cons_append, List.nil_append, Nat.add_zero]
  refine al2 (n := 876) dL_law_875 rfl ?_
  refine al0 (n := 877) dL_law_876 rfl ?_
  refine il3 (n := 878) dL_law_877 rfl ?_
  refine k_iconst (a := 1) (n := 879) dL_law_878 rfl rfl ?_
  refine k_iadd (n := 880) dL_law_879 rfl ?_
  refine k_iald (j := 6 * k + 1) (n := 881) dL_law_880 rfl sR (show nI (6 * k) + 1 = nI (6 * k + 1) from nI_add (6 * k) 1) (by omega) (by omega) ?_
  refine qL_103 (n := 884) dL_law_881 rfl rfl (Nat.le_of_ble_eq_true rfl) (by decide) (Nat.le_refl _) (Nat.le_refl _) rfl hP2 (fun v M hv => ?_)
  obtain ⟨K, rfl, rfl, hK⟩ := h3 v M hv
  dsimp only [Option.toList, List.cons_append, List.nil_append, Nat.add_zero]
  refine k_icmp_eq (t := 1482) (n := 887) dL_law_884 (by decide) rfl (fun _ => hnext K hK) (fun h => absurd rfl h)
set_option maxHeartbeats 2000000 in
set_option maxRecDepth 20000 in
theorem L_21 (hlen : (kxt E 1000).1 ≤ 3072) (hk : 6 * k + 6 ≤ (kxt E 1000).1) (hI : INV k I) (hnext : ∀ K, INV (k + 1) K → Wd E 100 mL_law C S C S 1482 [some (.ref 1000), some (.ref 0), some (.ref 81), some (.int (nI (6 * k)))] [] (kJ K) Q) : Wd E 100 mL_law C S C S 889 [some (.ref 1000), some (.ref 0), some (.ref 81), some (.int (nI (6 * k)))] [] (kJ I) Q := by
  obtain ⟨P, hP, h2⟩ := a_rhymes (E := E) hI (sc E (6 * k + 1)) (sc E (6 * k + 2)) (sc E (6 * k + 3)) (sc E (6 * k + 4))
  refine al1 (n := 890) dL_law_889 rfl ?_
  refine al0 (n := 891) dL_law_890 rfl ?_
  refine il3 (n := 892) dL_law_891 rfl ?_
  refine k_iconst (a := 1) (n := 893) dL_law_892 rfl rfl ?_
  refine k_iadd (n := 894) dL_law_893 rfl ?_
  refine k_iald (j := 6 * k + 1) (n := 895) dL_law_894 rfl sR (show nI (6 * k) + 1 = nI (6 * k + 1) from nI_add (6 * k) 1) (by omega) (by omega) ?_
  refine al0 (n := 896) dL_law_895 rfl ?_
  refine il3 (n := 897) dL_law_896 rfl ?_
  refine k_iconst (a := 2) (n := 898) dL_law_897 rfl rfl ?_
  refine k_iadd (n := 899) dL_law_898 rfl ?_
  refine k_iald (j := 6 * k + 2) (n := 900) dL_law_899 rfl sR (show nI (6 * k) + 2 = nI (6 * k + 2) from nI_add (6 * k) 2) (by omega) (by omega) ?_
  refine al0 (n := 901) dL_law_900 rfl ?_
  refine il3 (n := 902) dL_law_901 rfl ?_
  refine k_iconst (a := 3) (n := 903) dL_law_902 rfl rfl ?_
  refine k_iadd (n := 904) dL_law_903 rfl ?_
  refine k_iald (j := 6 * k + 3) (n := 905) dL_law_904 rfl sR (show nI (6 * k) + 3 = nI (6 * k + 3) from nI_add (6 * k) 3) (by omega) (by omega) ?_
  refine al0 (n := 906) dL_law_905 rfl ?_
  refine il3 (n := 907) dL_law_906 rfl ?_
  refine k_iconst (a := 4) (n := 908) dL_law_907 rfl rfl ?_
  refine k_iadd (n := 909) dL_law_908 rfl ?_
  refine k_iald (j := 6 * k + 4) (n := 910) dL_law_909 rfl sR (show nI (6 * k) + 4 = nI (6 * k + 4) from nI_add (6 * k) 4) (by omega) (by omega) ?_
  refine qL_104 (n := 913) dL_law_910 rfl rfl (Nat.le_of_ble_eq_true rfl) (by decide) (Nat.le_refl _) (Nat.le_refl _) rfl hP (fun v M hv => ?_)
  obtain ⟨J, a, rfl, rfl, P2, hP2, h3⟩ := h2 v M hv
  dsimp only [Option.toList, List.cons_append, List.nil_append, Nat.add_zero]
  refine al2 (n := 914) dL_law_913 rfl ?_
  refine al0 (n := 915) dL_law_914 rfl ?_
  refine il3 (n := 916) dL_law_915 rfl ?_
  refine k_iconst (a := 1) (n := 917) dL_law_916 rfl rfl ?_
  refine k_iadd (n := 918) dL_law_917 rfl ?_
  refine k_iald (j := 6 * k + 1) (n := 919) dL_law_918 rfl sR (show nI (6 * k) + 1 = nI (6 * k + 1) from nI_add (6 * k) 1) (by omega) (by omega) ?_
  refine al0 (n := 920) dL_law_919 rfl ?_
  refine il3 (n := 921) dL_law_920 rfl ?_
  refine k_iconst (a := 2) (n := 922) dL_law_921 rfl rfl ?_
  refine k_iadd (n := 923) dL_law_922 rfl ?_
  refine k_iald (j := 6 * k + 2) (n := 924) dL_law_923 rfl sR (show nI (6 * k) + 2 = nI (6 * k + 2) from nI_add (6 * k) 2) (by omega) (by omega) ?_
  refine al0 (n := 925) dL_law_924 rfl ?_
  refine il3 (n := 926) dL_law_925 rfl ?_
  refine k_iconst (a := 3) (n := 927) dL_law_926 rfl rfl ?_
  refine k_iadd (n := 928) dL_law_927 rfl ?_
  refine k_iald (j := 6 * k + 3) (n := 929) dL_law_928 rfl sR (show nI (6 * k) + 3 = nI (6 * k + 3) from nI_add (6 * k) 3) (by omega) (by omega) ?_
  refine al0 (n := 930) dL_law_929 rfl ?_
  refine il3 (n := 931) dL_law_930 rfl ?_
  refine k_iconst (a := 4) (n := 932) dL_law_931 rfl rfl ?_
  refine k_iadd (n := 933) dL_law_932 rfl ?_
  refine k_iald (j := 6 * k + 4) (n := 934) dL_law_933 rfl sR (show nI (6 * k) + 4 = nI (6 * k + 4) from nI_add (6 * k) 4) (by omega) (by omega) ?_
  refine qL_107 (n := 937) dL_law_934 rfl rfl (Nat.le_of_ble_eq_true rfl) (by decide) (Nat.le_refl _) (Nat.le_refl _) rfl hP2 (fun v M hv => ?_)
  obtain ⟨K, rfl, rfl, hK⟩ := h3 v M hv
  dsimp only [Option.toList, List.cons_append, List.nil_append, Nat.add_zero]
  refine k_icmp_eq (t := 1482) (n := 940) dL_law_937 (by decide) rfl (fun _ => hnext K hK) (fun h => absurd rfl h)
set_option maxHeartbeats 2000000 in
set_option maxRecDepth 20000 in
theorem L_22 (hlen : (kxt E 1000).1 ≤ 3072) (hk : 6 * k + 6 ≤ (kxt E 1000).1) (hI : INV k I) (hnext : ∀ K, INV (k + 1) K → Wd E 100 mL_law C S C S 1482 [some (.ref 1000), some (.ref 0), some (.ref 81), some (.int (nI (6 * k)))] [] (kJ K) Q) : Wd E 100 mL_law C S C S 942 [some (.ref 1000), some (.ref 0), some (.ref 81), some (.int (nI (6 * k)))] [] (kJ I) Q := by
  obtain ⟨P, hP, h2⟩ := a_most (E := E) hI (sc E (6 * k + 1))
  refine al1 (n := 943) dL_law_942 rfl ?_
  refine al0 (n := 944) dL_law_943 rfl ?_
  refine il3 (n := 945) dL_law_944 rfl ?_
  refine k_iconst (a := 1) (n := 946) dL_law_945 rfl rfl ?_
  refine k_iadd (n := 947) dL_law_946 rfl ?_
  refine k_iald (j := 6 * k + 1) (n := 948) dL_law_947 rfl sR (show nI (6 * k) + 1 = nI (6 * k + 1) from nI_add (6 * k) 1) (by omega) (by omega) ?_
  refine qL_108 (n := 951) dL_law_948 rfl rfl (Nat.le_of_ble_eq_true rfl) (by decide) (Nat.le_refl _) (Nat.le_refl _) rfl hP (fun v M hv => ?_)
  obtain ⟨J, a, rfl, rfl, P2, hP2, h3⟩ := h2 v M hv
  dsimp only [Option.toList, List.cons_append, List.nil_append, Nat.add_zero]
  refine al2 (n := 952) dL_law_951 rfl ?_
  refine al0 (n := 953) dL_law_952 rfl ?_
  refine il3 (n := 954) dL_law_953 rfl ?_
  refine k_iconst (a := 1) (n := 955) dL_law_954 rfl rfl ?_
  refine k_iadd (n := 956) dL_law_955 rfl ?_
  refine k_iald (j := 6 * k + 1) (n := 957) dL_law_956 rfl sR (show nI (6 * k) + 1 = nI (6 * k + 1) from nI_add (6 * k) 1) (by omega) (by omega) ?_
  refine qL_111 (n := 960) dL_law_957 rfl rfl (Nat.le_of_ble_eq_true rfl) (by decide) (Nat.le_refl _) (Nat.le_refl _) rfl hP2 (fun v M hv => ?_)
  obtain ⟨K, rfl, rfl, hK⟩ := h3 v M hv
  dsimp only [Option.toList, List.cons_append, List.nil_append, Nat.add_zero]
  refine k_icmp_eq (t := 1482) (n := 963) dL_law_960 (by decide) rfl (fun _ => hnext K hK) (fun h => absurd rfl h)
set_option maxHeartbeats 2000000 in
set_option maxRecDepth 20000 in
theorem L_23 (hlen : (kxt E 1000).1 ≤ 3072) (hk : 6 * k + 6 ≤ (kxt E 1000).1) (hI : INV k I) (hnext : ∀ K, INV (k + 1) K → Wd E 100 mL_law C S C S 1482 [some (.ref 1000), some (.ref 0), some (.ref 81), some (.int (nI (6 * k)))] [] (kJ K) Q) : Wd E 100 mL_law C S C S 965 [some (.ref 1000), some (.ref 0), some (.ref 81), some (.int (nI (6 * k)))] [] (kJ I) Q := by
  obtain ⟨P, hP, h2⟩ := a_relief (E := E) hI 
  refine al1 (n := 966) dL_law_965 rfl ?_
  refine qL_112 (n := 969) dL_law_966 rfl rfl (Nat.le_of_ble_eq_true rfl) (by decide) (Nat.le_refl _) (Nat.le_refl _) rfl hP (fun v M hv => ?_)
  obtain ⟨J, a, rfl, rfl, P2, hP2, h3⟩ := h2 v M hv
  dsimp only [Option.toList, List.cons_append, List.nil_append, Nat.add_zero]
  refine al2 (n := 970) dL_law_969 rfl ?_
  refine qL_116 (n := 973) dL_law_970 rfl rfl (Nat.le_of_ble_eq_true rfl) (by decide) (Nat.le_refl _) (Nat.le_refl _) rfl hP2 (fun v M hv => ?_)
  obtain ⟨K, rfl, rfl, hK⟩ := h3 v M hv
  dsimp only [Option.toList, List.cons_append, List.nil_append, Nat.add_zero]
  refine k_icmp_eq (t := 1482) (n := 976) dL_law_973 (by decide) rfl (fun _ => hnext K hK) (fun h => absurd rfl h)
set_option maxHeartbeats 2000000 in
set_option maxRecDepth 20000 in
theorem L_24 (hlen : (kxt E 1000).1 ≤ 3072) (hk : 6 * k + 6 ≤ (kxt E 1000).1) (hI : INV k I) (hnext : ∀ K, INV (k + 1) K → Wd E 100 mL_law C S C S 1482 [some (.ref 1000), some (.ref 0), some (.ref 81), some (.int (nI (6 * k)))] [] (kJ K) Q) : Wd E 100 mL_law C S C S 978 [some (.ref 1000), some (.ref 0), some (.ref 81), some (.int (nI (6 * k)))] [] (kJ I) Q := by
  obtain ⟨P, hP, h2⟩ := a_stands (E := E) hI 
  refine al1 (n := 979) dL_law_978 rfl ?_
  refine qL_117 (n := 982) dL_law_979 rfl rfl (Nat.le_of_ble_eq_true rfl) (by decide) (Nat.le_refl _) (Nat.le_refl _) rfl hP (fun v M hv => ?_)
  obtain ⟨J, a, rfl, rfl, P2, hP2, h3⟩ := h2 v M hv
  dsimp only [Option.toList, List.cons_append, List.nil_append, Nat.add_zero]
  refine al2 (n := 983) dL_law_982 rfl ?_
  refine qL_120 (n := 986) dL_law_983 rfl rfl (Nat.le_of_ble_eq_true rfl) (by decide) (Nat.le_refl _) (Nat.le_refl _) rfl hP2 (fun v M hv => ?_)
  obtain ⟨K, rfl, rfl, hK⟩ := h3 v M hv
  dsimp only [Option.toList, List.cons_append, List.nil_append, Nat.add_zero]
  refine k_icmp_eq (t := 1482) (n := 989) dL_law_986 (by decide) rfl (fun _ => hnext K hK) (fun h => absurd rfl h)
set_option maxHeartbeats 2000000 in
set_option maxRecDepth 20000 in
theorem L_25 (hlen : (kxt E 1000).1 ≤ 3072) (hk : 6 * k + 6 ≤ (kxt E 1000).1) (hI : INV k I) (hnext : ∀ K, INV (k + 1) K → Wd E 100 mL_law C S C S 1482 [some (.ref 1000), some (.ref 0), some (.ref 81), some (.int (nI (6 * k)))] [] (kJ K) Q) : Wd E 100 mL_law C S C S 991 [some (.ref 1000), some (.ref 0), some (.ref 81), some (.int (nI (6 * k)))] [] (kJ I) Q := by
  obtain ⟨P, hP, h2⟩ := a_parts (E := E) hI (sc E (6 * k + 1))
  refine al1 (n := 992) dL_law_991 rfl ?_
  refine al0 (n := 993) dL_law_992 rfl ?_
  refine il3 (n := 994) dL_law_993 rfl ?_
  refine k_iconst (a := 1) (n := 995) dL_law_994 rfl rfl ?_
  refine k_iadd (n := 996) dL_law_995 rfl ?_
  refine k_iald (j := 6 * k + 1) (n := 997) dL_law_996 rfl sR (show nI (6 * k) + 1 = nI (6 * k + 1) from nI_add (6 * k) 1) (by omega) (by omega) ?_
  refine qL_121 (n := 1000) dL_law_997 rfl rfl (Nat.le_of_ble_eq_true rfl) (by decide) (Nat.le_refl _) (Nat.le_refl _) rfl hP (fun v M hv => ?_)
  obtain ⟨J, a, rfl, rfl, P2, hP2, h3⟩ := h2 v M hv
  dsimp only [Option.toList, List.cons_append, List.nil_append, Nat.add_zero]
  refine al2 (n := 1001) dL_law_1000 rfl ?_
  refine al0 (n := 1002) dL_law_1001 rfl ?_
  refine il3 (n := 1003) dL_law_1002 rfl ?_
  refine k_iconst (a := 1) (n := 1004) dL_law_1003 rfl rfl ?_
  refine k_iadd (n := 1005) dL_law_1004 rfl ?_
  refine k_iald (j := 6 * k + 1) (n := 1006) dL_law_1005 rfl sR (show nI (6 * k) + 1 = nI (6 * k + 1) from nI_add (6 * k) 1) (by omega) (by omega) ?_
  refine qL_124 (n := 1009) dL_law_1006 rfl rfl (Nat.le_of_ble_eq_true rfl) (by decide) (Nat.le_refl _) (Nat.le_refl _) rfl hP2 (fun v M hv => ?_)
  obtain ⟨K, rfl, rfl, hK⟩ := h3 v M hv
  dsimp only [Option.toList, List.cons_append, List.nil_append, Nat.add_zero]
  refine k_icmp_eq (t := 1482) (n := 1012) dL_law_1009 (by decide) rfl (fun _ => hnext K hK) (fun h => absurd rfl h)
set_option maxHeartbeats 2000000 in
set_option maxRecDepth 20000 in
theorem L_26 (hlen : (kxt E 1000).1 ≤ 3072) (hk : 6 * k + 6 ≤ (kxt E 1000).1) (hI : INV k I) (hnext : ∀ K, INV (k + 1) K → Wd E 100 mL_law C S C S 1482 [some (.ref 1000), some (.ref 0), some (.ref 81), some (.int (nI (6 * k)))] [] (kJ K) Q) : Wd E 100 mL_law C S C S 1014 [some (.ref 1000), some (.ref 0), some (.ref 81), some (.int (nI (6 * k)))] [] (kJ I) Q := by
  obtain ⟨P, hP, h2⟩ := a_who (E := E) hI (sc E (6 * k + 1)) (sc E (6 * k + 2))
  refine al1 (n := 1015) dL_law_1014 rfl ?_
  refine al0 (n := 1016) dL_law_1015 rfl ?_
  refine il3 (n := 1017) dL_law_1016 rfl ?_
  refine k_iconst (a := 1) (n := 1018) dL_law_1017 rfl rfl ?_
  refine k_iadd (n := 1019) dL_law_1018 rfl ?_
  refine k_iald (j := 6 * k + 1) (n := 1020) dL_law_1019 rfl sR (show nI (6 * k) + 1 = nI (6 * k + 1) from nI_add (6 * k) 1) (by omega) (by omega) ?_
  refine al0 (n := 1021) dL_law_1020 rfl ?_
  refine il3 (n := 1022) dL_law_1021 rfl ?_
  refine k_iconst (a := 2) (n := 1023) dL_law_1022 rfl rfl ?_
  refine k_iadd (n := 1024) dL_law_1023 rfl ?_
  refine k_iald (j := 6 * k + 2) (n := 1025) dL_law_1024 rfl sR (show nI (6 * k) + 2 = nI (6 * k + 2) from nI_add (6 * k) 2) (by omega) (by omega) ?_
  refine qL_125 (n := 1028) dL_law_1025 rfl rfl (Nat.le_of_ble_eq_true rfl) (by decide) (Nat.le_refl _) (Nat.le_refl _) rfl hP (fun v M hv => ?_)
  obtain ⟨J, a, rfl, rfl, P2, hP2, h3⟩ := h2 v M hv
  dsimp only [Option.toList, List.cons_append, List.nil_append, Nat.add_zero]
  refine al2 (n := 1029) dL_law_1028 rfl ?_
  refine al0 (n := 1030) dL_law_1029 rfl ?_
  refine il3 (n := 1031) dL_law_1030 rfl ?_
  refine k_iconst (a := 1) (n := 1032) dL_law_1031 rfl rfl ?_
  refine k_iadd (n := 1033) dL_law_1032 rfl ?_
  refine k_iald (j := 6 * k + 1) (n := 1034) dL_law_1033 rfl sR (show nI (6 * k) + 1 = nI (6 * k + 1) from nI_add (6 * k) 1) (by omega) (by omega) ?_
  refine al0 (n := 1035) dL_law_1034 rfl ?_
  refine il3 (n := 1036) dL_law_1035 rfl ?_
  refine k_iconst (a := 2) (n := 1037) dL_law_1036 rfl rfl ?_
  refine k_iadd (n := 1038) dL_law_1037 rfl ?_
  refine k_iald (j := 6 * k + 2) (n := 1039) dL_law_1038 rfl sR (show nI (6 * k) + 2 = nI (6 * k + 2) from nI_add (6 * k) 2) (by omega) (by omega) ?_
  refine qL_128 (n := 1042) dL_law_1039 rfl rfl (Nat.le_of_ble_eq_true rfl) (by decide) (Nat.le_refl _) (Nat.le_refl _) rfl hP2 (fun v M hv => ?_)
  obtain ⟨K, rfl, rfl, hK⟩ := h3 v M hv
  dsimp only [Option.toList, List.cons_append, List.nil_append, Nat.add_zero]
  refine k_icmp_eq (t := 1482) (n := 1045) dL_law_1042 (by decide) rfl (fun _ => hnext K hK) (fun h => absurd rfl h)
set_option maxHeartbeats 2000000 in
set_option maxRecDepth 20000 in
theorem L_27 (hlen : (kxt E 1000).1 ≤ 3072) (hk : 6 * k + 6 ≤ (kxt E 1000).1) (hI : INV k I) (hnext : ∀ K, INV (k + 1) K → Wd E 100 mL_law C S C S 1482 [some (.ref 1000), some (.ref 0), some (.ref 81), some (.int (nI (6 * k)))] [] (kJ K) Q) : Wd E 100 mL_law C S C S 1047 [some (.ref 1000), some (.ref 0), some (.ref 81), some (.int (nI (6 * k)))] [] (kJ I) Q := by
  obtain ⟨P, hP, h2⟩ := a_odds (E := E) hI (sc E (6 * k + 1)) (sc E (6 * k + 2)) (sc E (6 * k + 3))
  refine al1 (n := 1048) dL_law_1047 rfl ?_
  refine al0 (n := 1049) dL_law_1048 rfl ?_
  refine il3 (n := 1050) dL_law_1049 rfl ?_
  refine k_iconst (a := 1) (n := 1051) dL_law_1050 rfl rfl ?_
  refine k_iadd (n := 1052) dL_law_1051 rfl ?_
  refine k_iald (j := 6 * k + 1) (n := 1053) dL_law_1052 rfl sR (show nI (6 * k) + 1 = nI (6 * k + 1) from nI_add (6 * k) 1) (by omega) (by omega) ?_
  refine al0 (n := 1054) dL_law_1053 rfl ?_
  refine il3 (n := 1055) dL_law_1054 rfl ?_
  refine k_iconst (a := 2) (n := 1056) dL_law_1055 rfl rfl ?_
  refine k_iadd (n := 1057) dL_law_1056 rfl ?_
  refine k_iald (j := 6 * k + 2) (n := 1058) dL_law_1057 rfl sR (show nI (6 * k) + 2 = nI (6 * k + 2) from nI_add (6 * k) 2) (by omega) (by omega) ?_
  refine al0 (n := 1059) dL_law_1058 rfl ?_
  refine il3 (n := 1060) dL_law_1059 rfl ?_
  refine k_iconst (a := 3) (n := 1061) dL_law_1060 rfl rfl ?_
  refine k_iadd (n := 1062) dL_law_1061 rfl ?_
  refine k_iald (j := 6 * k + 3) (n := 1063) dL_law_1062 rfl sR (show nI (6 * k) + 3 = nI (6 * k + 3) from nI_add (6 * k) 3) (by omega) (by omega) ?_
  refine qL_129 (n := 1066) dL_law_1063 rfl rfl (Nat.le_of_ble_eq_true rfl) (by decide) (Nat.le_refl _) (Nat.le_refl _) rfl hP (fun v M hv => ?_)
  obtain ⟨J, a, rfl, rfl, P2, hP2, h3⟩ := h2 v M hv
  dsimp only [Option.toList, List.cons_append, List.nil_append, Nat.add_zero]
  refine al2 (n := 1067) dL_law_1066 rfl ?_
  refine al0 (n := 1068) dL_law_1067 rfl ?_
  refine il3 (n := 1069) dL_law_1068 rfl ?_
  refine k_iconst (a := 1) (n := 1070) dL_law_1069 rfl rfl ?_
  refine k_iadd (n := 1071) dL_law_1070 rfl ?_
  refine k_iald (j := 6 * k + 1) (n := 1072) dL_law_1071 rfl sR (show nI (6 * k) + 1 = nI (6 * k + 1) from nI_add (6 * k) 1) (by omega) (by omega) ?_
  refine al0 (n := 1073) dL_law_1072 rfl ?_
  refine il3 (n := 1074) dL_law_1073 rfl ?_
  refine k_iconst (a := 2) (n := 1075) dL_law_1074 rfl rfl ?_
  refine k_iadd (n := 1076) dL_law_1075 rfl ?_
  refine k_iald (j := 6 * k + 2) (n := 1077) dL_law_1076 rfl sR (show nI (6 * k) + 2 = nI (6 * k + 2) from nI_add (6 * k) 2) (by omega) (by omega) ?_
  refine al0 (n := 1078) dL_law_1077 rfl ?_
  refine il3 (n := 1079) dL_law_1078 rfl ?_
  refine k_iconst (a := 3) (n := 1080) dL_law_1079 rfl rfl ?_
  refine k_iadd (n := 1081) dL_law_1080 rfl ?_
  refine k_iald (j := 6 * k + 3) (n := 1082) dL_law_1081 rfl sR (show nI (6 * k) + 3 = nI (6 * k + 3) from nI_add (6 * k) 3) (by omega) (by omega) ?_
  refine qL_132 (n := 1085) dL_law_1082 rfl rfl (Nat.le_of_ble_eq_true rfl) (by decide) (Nat.le_refl _) (Nat.le_refl _) rfl hP2 (fun v M hv => ?_)
  obtain ⟨K, rfl, rfl, hK⟩ := h3 v M hv
  dsimp only [Option.toList, List.cons_append, List.nil_append, Nat.add_zero]
  refine k_icmp_eq (t := 1482) (n := 1088) dL_law_1085 (by decide) rfl (fun _ => hnext K hK) (fun h => absurd rfl h)
set_option maxHeartbeats 2000000 in
set_option maxRecDepth 20000 in
theorem L_28 (hlen : (kxt E 1000).1 ≤ 3072) (hk : 6 * k + 6 ≤ (kxt E 1000).1) (hI : INV k I) (hnext : ∀ K, INV (k + 1) K → Wd E 100 mL_law C S C S 1482 [some (.ref 1000), some (.ref 0), some (.ref 81), some (.int (nI (6 * k)))] [] (kJ K) Q) : Wd E 100 mL_law C S C S 1090 [some (.ref 1000), some (.ref 0), some (.ref 81), some (.int (nI (6 * k)))] [] (kJ I) Q := by
  obtain ⟨P, hP, h2⟩ := a_seed (E := E) hI (sc E (6 * k + 1))
  refine al1 (n := 1091) dL_law_1090 rfl ?_
  refine al0 (n := 1092) dL_law_1091 rfl ?_
  refine il3 (n := 1093) dL_law_1092 rfl ?_
  refine k_iconst (a := 1) (n := 1094) dL_law_1093 rfl rfl ?_
  refine k_iadd (n := 1095) dL_law_1094 rfl ?_
  refine k_iald (j := 6 * k + 1) (n := 1096) dL_law_1095 rfl sR (show nI (6 * k) + 1 = nI (6 * k + 1) from nI_add (6 * k) 1) (by omega) (by omega) ?_
  refine qL_133 (n := 1099) dL_law_1096 rfl rfl (Nat.le_of_ble_eq_true rfl) (by decide) (Nat.le_refl _) (Nat.le_refl _) rfl hP (fun v M hv => ?_)
  obtain ⟨J, a, rfl, rfl, P2, hP2, h3⟩ := h2 v M hv
  dsimp only [Option.toList, List.cons_append, List.nil_append, Nat.add_zero]
  refine al2 (n := 1100) dL_law_1099 rfl ?_
  refine al0 (n := 1101) dL_law_1100 rfl ?_
  refine il3 (n := 1102) dL_law_1101 rfl ?_
  refine k_iconst (a := 1) (n := 1103) dL_law_1102 rfl rfl ?_
  refine k_iadd (n := 1104) dL_law_1103 rfl ?_
  refine k_iald (j := 6 * k + 1) (n := 1105) dL_law_1104 rfl sR (show nI (6 * k) + 1 = nI (6 * k + 1) from nI_add (6 * k) 1) (by omega) (by omega) ?_
  refine qL_136 (n := 1108) dL_law_1105 rfl rfl (Nat.le_of_ble_eq_true rfl) (by decide) (Nat.le_refl _) (Nat.le_refl _) rfl hP2 (fun v M hv => ?_)
  obtain ⟨K, rfl, rfl, hK⟩ := h3 v M hv
  dsimp only [Option.toList, List.cons_append, List.nil_append, Nat.add_zero]
  refine k_icmp_eq (t := 1482) (n := 1111) dL_law_1108 (by decide) rfl (fun _ => hnext K hK) (fun h => absurd rfl h)
set_option maxHeartbeats 2000000 in
set_option maxRecDepth 20000 in
theorem L_29 (hlen : (kxt E 1000).1 ≤ 3072) (hk : 6 * k + 6 ≤ (kxt E 1000).1) (hI : INV k I) (hnext : ∀ K, INV (k + 1) K → Wd E 100 mL_law C S C S 1482 [some (.ref 1000), some (.ref 0), some (.ref 81), some (.int (nI (6 * k)))] [] (kJ K) Q) : Wd E 100 mL_law C S C S 1113 [some (.ref 1000), some (.ref 0), some (.ref 81), some (.int (nI (6 * k)))] [] (kJ I) Q := by
  obtain ⟨P, hP, h2⟩ := a_voice (E := E) hI (sc E (6 * k + 1)) (sc E (6 * k + 2)) (sc E (6 * k + 3))
  refine al1 (n := 1114) dL_law_1113 rfl ?_
  refine al0 (n := 1115) dL_law_1114 rfl ?_
  refine il3 (n := 1116) dL_law_1115 rfl ?_
  refine k_iconst (a := 1) (n := 1117) dL_law_1116 rfl rfl ?_
  refine k_iadd (n := 1118) dL_law_1117 rfl ?_
  refine k_iald (j := 6 * k + 1) (n := 1119) dL_law_1118 rfl sR (show nI (6 * k) + 1 = nI (6 * k + 1) from nI_add (6 * k) 1) (by omega) (by omega) ?_
  refine al0 (n := 1120) dL_law_1119 rfl ?_
  refine il3 (n := 1121) dL_law_1120 rfl ?_
  refine k_iconst (a := 2) (n := 1122) dL_law_1121 rfl rfl ?_
  refine k_iadd (n := 1123) dL_law_1122 rfl ?_
  refine k_iald (j := 6 * k + 2) (n := 1124) dL_law_1123 rfl sR (show nI (6 * k) + 2 = nI (6 * k + 2) from nI_add (6 * k) 2) (by omega) (by omega) ?_
  refine al0 (n := 1125) dL_law_1124 rfl ?_
  refine il3 (n := 1126) dL_law_1125 rfl ?_
  refine k_iconst (a := 3) (n := 1127) dL_law_1126 rfl rfl ?_
  refine k_iadd (n := 1128) dL_law_1127 rfl ?_
  refine k_iald (j := 6 * k + 3) (n := 1129) dL_law_1128 rfl sR (show nI (6 * k) + 3 = nI (6 * k + 3) from nI_add (6 * k) 3) (by omega) (by omega) ?_
  refine qL_137 (n := 1132) dL_law_1129 rfl rfl (Nat.le_of_ble_eq_true rfl) (by decide) (Nat.le_refl _) (Nat.le_refl _) rfl hP (fun v M hv => ?_)
  obtain ⟨J, a, rfl, rfl, P2, hP2, h3⟩ := h2 v M hv
  dsimp only [Option.toList, List.cons_append, List.nil_append, Nat.add_zero]
  refine al2 (n := 1133) dL_law_1132 rfl ?_
  refine al0 (n := 1134) dL_law_1133 rfl ?_
  refine il3 (n := 1135) dL_law_1134 rfl ?_
  refine k_iconst (a := 1) (n := 1136) dL_law_1135 rfl rfl ?_
  refine k_iadd (n := 1137) dL_law_1136 rfl ?_
  refine k_iald (j := 6 * k + 1) (n := 1138) dL_law_1137 rfl sR (show nI (6 * k) + 1 = nI (6 * k + 1) from nI_add (6 * k) 1) (by omega) (by omega) ?_
  refine al0 (n := 1139) dL_law_1138 rfl ?_
  refine il3 (n := 1140) dL_law_1139 rfl ?_
  refine k_iconst (a := 2) (n := 1141) dL_law_1140 rfl rfl ?_
  refine k_iadd (n := 1142) dL_law_1141 rfl ?_
  refine k_iald (j := 6 * k + 2) (n := 1143) dL_law_1142 rfl sR (show nI (6 * k) + 2 = nI (6 * k + 2) from nI_add (6 * k) 2) (by omega) (by omega) ?_
  refine al0 (n := 1144) dL_law_1143 rfl ?_
  refine il3 (n := 1145) dL_law_1144 rfl ?_
  refine k_iconst (a := 3) (n := 1146) dL_law_1145 rfl rfl ?_
  refine k_iadd (n := 1147) dL_law_1146 rfl ?_
  refine k_iald (j := 6 * k + 3) (n := 1148) dL_law_1147 rfl sR (show nI (6 * k) + 3 = nI (6 * k + 3) from nI_add (6 * k) 3) (by omega) (by omega) ?_
  refine qL_140 (n := 1151) dL_law_1148 rfl rfl (Nat.le_of_ble_eq_true rfl) (by decide) (Nat.le_refl _) (Nat.le_refl _) rfl hP2 (fun v M hv => ?_)
  obtain ⟨K, rfl, rfl, hK⟩ := h3 v M hv
  dsimp only [Option.toList, List.cons_append, List.nil_append, Nat.add_zero]
  refine k_icmp_eq (t := 1482) (n := 1154) dL_law_1151 (by decide) rfl (fun _ => hnext K hK) (fun h => absurd rfl h)
set_option maxHeartbeats 2000000 in
set_option maxRecDepth 20000 in
theorem L_30 (hlen : (kxt E 1000).1 ≤ 3072) (hk : 6 * k + 6 ≤ (kxt E 1000).1) (hI : INV k I) (hnext : ∀ K, INV (k + 1) K → Wd E 100 mL_law C S C S 1482 [some (.ref 1000), some (.ref 0), some (.ref 81), some (.int (nI (6 * k)))] [] (kJ K) Q) : Wd E 100 mL_law C S C S 1156 [some (.ref 1000), some (.ref 0), some (.ref 81), some (.int (nI (6 * k)))] [] (kJ I) Q := by
  obtain ⟨P, hP, h2⟩ := a_trace (E := E) hI (sc E (6 * k + 1))
  refine al1 (n := 1157) dL_law_1156 rfl ?_
  refine al0 (n := 1158) dL_law_1157 rfl ?_
  refine il3 (n := 1159) dL_law_1158 rfl ?_
  refine k_iconst (a := 1) (n := 1160) dL_law_1159 rfl rfl ?_
  refine k_iadd (n := 1161) dL_law_1160 rfl ?_
  refine k_iald (j := 6 * k + 1) (n := 1162) dL_law_1161 rfl sR (show nI (6 * k) + 1 = nI (6 * k + 1) from nI_add (6 * k) 1) (by omega) (by omega) ?_
  refine qL_141 (n := 1165) dL_law_1162 rfl rfl (Nat.le_of_ble_eq_true rfl) (by decide) (Nat.le_refl _) (Nat.le_refl _) rfl hP (fun v M hv => ?_)
  obtain ⟨J, a, rfl, rfl, P2, hP2, h3⟩ := h2 v M hv
  dsimp only [Option.toList, List.cons_append, List.nil_append, Nat.add_zero]
  refine al2 (n := 1166) dL_law_1165 rfl ?_
  refine al0 (n := 1167) dL_law_1166 rfl ?_
  refine il3 (n := 1168) dL_law_1167 rfl ?_
  refine k_iconst (a := 1) (n := 1169) dL_law_1168 rfl rfl ?_
  refine k_iadd (n := 1170) dL_law_1169 rfl ?_
  refine k_iald (j := 6 * k + 1) (n := 1171) dL_law_1170 rfl sR (show nI (6 * k) + 1 = nI (6 * k + 1) from nI_add (6 * k) 1) (by omega) (by omega) ?_
  refine qL_144 (n := 1174) dL_law_1171 rfl rfl (Nat.le_of_ble_eq_true rfl) (by decide) (Nat.le_refl _) (Nat.le_refl _) rfl hP2 (fun v M hv => ?_)
  obtain ⟨K, rfl, rfl, hK⟩ := h3 v M hv
  dsimp only [Option.toList, List.cons_append, List.nil_append, Nat.add_zero]
  refine k_icmp_eq (t := 1482) (n := 1177) dL_law_1174 (by decide) rfl (fun _ => hnext K hK) (fun h => absurd rfl h)
set_option maxHeartbeats 2000000 in
set_option maxRecDepth 20000 in
theorem L_31 (hlen : (kxt E 1000).1 ≤ 3072) (hk : 6 * k + 6 ≤ (kxt E 1000).1) (hI : INV k I) (hnext : ∀ K, INV (k + 1) K → Wd E 100 mL_law C S C S 1482 [some (.ref 1000), some (.ref 0), some (.ref 81), some (.int (nI (6 * k)))] [] (kJ K) Q) : Wd E 100 mL_law C S C S 1179 [some (.ref 1000), some (.ref 0), some (.ref 81), some (.int (nI (6 * k)))] [] (kJ I) Q := by
  obtain ⟨P, hP, h2⟩ := a_sheet (E := E) hI (sc E (6 * k + 1)) (sc E (6 * k + 2)) (sc E (6 * k + 3))
  refine al1 (n := 1180) dL_law_1179 rfl ?_
  refine al0 (n := 1181) dL_law_1180 rfl ?_
  refine il3 (n := 1182) dL_law_1181 rfl ?_
  refine k_iconst (a := 1) (n := 1183) dL_law_1182 rfl rfl ?_
  refine k_iadd (n := 1184) dL_law_1183 rfl ?_
  refine k_iald (j := 6 * k + 1) (n := 1185) dL_law_1184 rfl sR (show nI (6 * k) + 1 = nI (6 * k + 1) from nI_add (6 * k) 1) (by omega) (by omega) ?_
  refine al0 (n := 1186) dL_law_1185 rfl ?_
  refine il3 (n := 1187) dL_law_1186 rfl ?_
  refine k_iconst (a := 2) (n := 1188) dL_law_1187 rfl rfl ?_
  refine k_iadd (n := 1189) dL_law_1188 rfl ?_
  refine k_iald (j := 6 * k + 2) (n := 1190) dL_law_1189 rfl sR (show nI (6 * k) + 2 = nI (6 * k + 2) from nI_add (6 * k) 2) (by omega) (by omega) ?_
  refine al0 (n := 1191) dL_law_1190 rfl ?_
  refine il3 (n := 1192) dL_law_1191 rfl ?_
  refine k_iconst (a := 3) (n := 1193) dL_law_1192 rfl rfl ?_
  refine k_iadd (n := 1194) dL_law_1193 rfl ?_
  refine k_iald (j := 6 * k + 3) (n := 1195) dL_law_1194 rfl sR (show nI (6 * k) + 3 = nI (6 * k + 3) from nI_add (6 * k) 3) (by omega) (by omega) ?_
  refine qL_145 (n := 1198) dL_law_1195 rfl rfl (Nat.le_of_ble_eq_true rfl) (by decide) (Nat.le_refl _) (Nat.le_refl _) rfl hP (fun v M hv => ?_)
  obtain ⟨J, a, rfl, rfl, P2, hP2, h3⟩ := h2 v M hv
  dsimp only [Option.toList, List.cons_append, List.nil_append, Nat.add_zero]
  refine al2 (n := 1199) dL_law_1198 rfl ?_
  refine al0 (n := 1200) dL_law_1199 rfl ?_
  refine il3 (n := 1201) dL_law_1200 rfl ?_
  refine k_iconst (a := 1) (n := 1202) dL_law_1201 rfl rfl ?_
  refine k_iadd (n := 1203) dL_law_1202 rfl ?_
  refine k_iald (j := 6 * k + 1) (n := 1204) dL_law_1203 rfl sR (show nI (6 * k) + 1 = nI (6 * k + 1) from nI_add (6 * k) 1) (by omega) (by omega) ?_
  refine al0 (n := 1205) dL_law_1204 rfl ?_
  refine il3 (n := 1206) dL_law_1205 rfl ?_
  refine k_iconst (a := 2) (n := 1207) dL_law_1206 rfl rfl ?_
  refine k_iadd (n := 1208) dL_law_1207 rfl ?_
  refine k_iald (j := 6 * k + 2) (n := 1209) dL_law_1208 rfl sR (show nI (6 * k) + 2 = nI (6 * k + 2) from nI_add (6 * k) 2) (by omega) (by omega) ?_
  refine al0 (n := 1210) dL_law_1209 rfl ?_
  refine il3 (n := 1211) dL_law_1210 rfl ?_
  refine k_iconst (a := 3) (n := 1212) dL_law_1211 rfl rfl ?_
  refine k_iadd (n := 1213) dL_law_1212 rfl ?_
  refine k_iald (j := 6 * k + 3) (n := 1214) dL_law_1213 rfl sR (show nI (6 * k) + 3 = nI (6 * k + 3) from nI_add (6 * k) 3) (by omega) (by omega) ?_
  refine qL_148 (n := 1217) dL_law_1214 rfl rfl (Nat.le_of_ble_eq_true rfl) (by decide) (Nat.le_refl _) (Nat.le_refl _) rfl hP2 (fun v M hv => ?_)
  obtain ⟨K, rfl, rfl, hK⟩ := h3 v M hv
  dsimp only [Option.toList, List.cons_append, List.nil_append, Nat.add_zero]
  refine k_icmp_eq (t := 1482) (n := 1220) dL_law_1217 (by decide) rfl (fun _ => hnext K hK) (fun h => absurd rfl h)
set_option maxHeartbeats 2000000 in
set_option maxRecDepth 20000 in
theorem L_32 (hlen : (kxt E 1000).1 ≤ 3072) (hk : 6 * k + 6 ≤ (kxt E 1000).1) (hI : INV k I) (hnext : ∀ K, INV (k + 1) K → Wd E 100 mL_law C S C S 1482 [some (.ref 1000), some (.ref 0), some (.ref 81), some (.int (nI (6 * k)))] [] (kJ K) Q) : Wd E 100 mL_law C S C S 1222 [some (.ref 1000), some (.ref 0), some (.ref 81), some (.int (nI (6 * k)))] [] (kJ I) Q := by
  obtain ⟨P, hP, h2⟩ := a_put (E := E) hI (sc E (6 * k + 1)) (sc E (6 * k + 2)) (sc E (6 * k + 3))
  refine al1 (n := 1223) dL_law_1222 rfl ?_
  refine al0 (n := 1224) dL_law_1223 rfl ?_
  refine il3 (n := 1225) dL_law_1224 rfl ?_
  refine k_iconst (a := 1) (n := 1226) dL_law_1225 rfl rfl ?_
  refine k_iadd (n := 1227) dL_law_1226 rfl ?_
  refine k_iald (j := 6 * k + 1) (n := 1228) dL_law_1227 rfl sR (show nI (6 * k) + 1 = nI (6 * k + 1) from nI_add (6 * k) 1) (by omega) (by omega) ?_
  refine al0 (n := 1229) dL_law_1228 rfl ?_
  refine il3 (n := 1230) dL_law_1229 rfl ?_
  refine k_iconst (a := 2) (n := 1231) dL_law_1230 rfl rfl ?_
  refine k_iadd (n := 1232) dL_law_1231 rfl ?_
  refine k_iald (j := 6 * k + 2) (n := 1233) dL_law_1232 rfl sR (show nI (6 * k) + 2 = nI (6 * k + 2) from nI_add (6 * k) 2) (by omega) (by omega) ?_
  refine al0 (n := 1234) dL_law_1233 rfl ?_
  refine il3 (n := 1235) dL_law_1234 rfl ?_
  refine k_iconst (a := 3) (n := 1236) dL_law_1235 rfl rfl ?_
  refine k_iadd (n := 1237) dL_law_1236 rfl ?_
  refine k_iald (j := 6 * k + 3) (n := 1238) dL_law_1237 rfl sR (show nI (6 * k) + 3 = nI (6 * k + 3) from nI_add (6 * k) 3) (by omega) (by omega) ?_
  refine qL_149 (n := 1241) dL_law_1238 rfl rfl (Nat.le_of_ble_eq_true rfl) (by decide) (Nat.le_refl _) (Nat.le_refl _) rfl hP (fun v M hv => ?_)
  obtain ⟨J, a, rfl, rfl, P2, hP2, h3⟩ := h2 v M hv
  dsimp only [Option.toList, List.cons_append, List.nil_append, Nat.add_zero]
  refine al2 (n := 1242) dL_law_1241 rfl ?_
  refine al0 (n := 1243) dL_law_1242 rfl ?_
  refine il3 (n := 1244) dL_law_1243 rfl ?_
  refine k_iconst (a := 1) (n := 1245) dL_law_1244 rfl rfl ?_
  refine k_iadd (n := 1246) dL_law_1245 rfl ?_
  refine k_iald (j := 6 * k + 1) (n := 1247) dL_law_1246 rfl sR (show nI (6 * k) + 1 = nI (6 * k + 1) from nI_add (6 * k) 1) (by omega) (by omega) ?_
  refine al0 (n := 1248) dL_law_1247 rfl ?_
  refine il3 (n := 1249) dL_law_1248 rfl ?_
  refine k_iconst (a := 2) (n := 1250) dL_law_1249 rfl rfl ?_
  refine k_iadd (n := 1251) dL_law_1250 rfl ?_
  refine k_iald (j := 6 * k + 2) (n := 1252) dL_law_1251 rfl sR (show nI (6 * k) + 2 = nI (6 * k + 2) from nI_add (6 * k) 2) (by omega) (by omega) ?_
  refine al0 (n := 1253) dL_law_1252 rfl ?_
  refine il3 (n := 1254) dL_law_1253 rfl ?_
  refine k_iconst (a := 3) (n := 1255) dL_law_1254 rfl rfl ?_
  refine k_iadd (n := 1256) dL_law_1255 rfl ?_
  refine k_iald (j := 6 * k + 3) (n := 1257) dL_law_1256 rfl sR (show nI (6 * k) + 3 = nI (6 * k + 3) from nI_add (6 * k) 3) (by omega) (by omega) ?_
  refine qL_152 (n := 1260) dL_law_1257 rfl rfl (Nat.le_of_ble_eq_true rfl) (by decide) (Nat.le_refl _) (Nat.le_refl _) rfl hP2 (fun v M hv => ?_)
  obtain ⟨K, rfl, rfl, hK⟩ := h3 v M hv
  dsimp only [Option.toList, List.cons_append, List.nil_append, Nat.add_zero]
  refine k_icmp_eq (t := 1482) (n := 1263) dL_law_1260 (by decide) rfl (fun _ => hnext K hK) (fun h => absurd rfl h)
set_option maxHeartbeats 2000000 in
set_option maxRecDepth 20000 in
theorem L_33 (hlen : (kxt E 1000).1 ≤ 3072) (hk : 6 * k + 6 ≤ (kxt E 1000).1) (hI : INV k I) (hnext : ∀ K, INV (k + 1) K → Wd E 100 mL_law C S C S 1482 [some (.ref 1000), some (.ref 0), some (.ref 81), some (.int (nI (6 * k)))] [] (kJ K) Q) : Wd E 100 mL_law C S C S 1265 [some (.ref 1000), some (.ref 0), some (.ref 81), some (.int (nI (6 * k)))] [] (kJ I) Q := by
  obtain ⟨P, hP, h2⟩ := a_move (E := E) hI (sc E (6 * k + 1)) (sc E (6 * k + 2)) (sc E (6 * k + 3)) (sc E (6 * k + 4)) (sc E (6 * k + 5))
  refine al1 (n := 1266) dL_law_1265 rfl ?_
  refine al0 (n := 1267) dL_law_1266 rfl ?_
  refine il3 (n := 1268) dL_law_1267 rfl ?_
  refine k_iconst (a := 1) (n := 1269) dL_law_1268 rfl rfl ?_
  refine k_iadd (n := 1270) dL_law_1269 rfl ?_
  refine k_iald (j := 6 * k + 1) (n := 1271) dL_law_1270 rfl sR (show nI (6 * k) + 1 = nI (6 * k + 1) from nI_add (6 * k) 1) (by omega) (by omega) ?_
  refine al0 (n := 1272) dL_law_1271 rfl ?_
  refine il3 (n := 1273) dL_law_1272 rfl ?_
  refine k_iconst (a := 2) (n := 1274) dL_law_1273 rfl rfl ?_
  refine k_iadd (n := 1275) dL_law_1274 rfl ?_
  refine k_iald (j := 6 * k + 2) (n := 1276) dL_law_1275 rfl sR (show nI (6 * k) + 2 = nI (6 * k + 2) from nI_add (6 * k) 2) (by omega) (by omega) ?_
  refine al0 (n := 1277) dL_law_1276 rfl ?_
  refine il3 (n := 1278) dL_law_1277 rfl ?_
  refine k_iconst (a := 3) (n := 1279) dL_law_1278 rfl rfl ?_
  refine k_iadd (n := 1280) dL_law_1279 rfl ?_
  refine k_iald (j := 6 * k + 3) (n := 1281) dL_law_1280 rfl sR (show nI (6 * k) + 3 = nI (6 * k + 3) from nI_add (6 * k) 3) (by omega) (by omega) ?_
  refine al0 (n := 1282) dL_law_1281 rfl ?_
  refine il3 (n := 1283) dL_law_1282 rfl ?_
  refine k_iconst (a := 4) (n := 1284) dL_law_1283 rfl rfl ?_
  refine k_iadd (n := 1285) dL_law_1284 rfl ?_
  refine k_iald (j := 6 * k + 4) (n := 1286) dL_law_1285 rfl sR (show nI (6 * k) + 4 = nI (6 * k + 4) from nI_add (6 * k) 4) (by omega) (by omega) ?_
  refine al0 (n := 1287) dL_law_1286 rfl ?_
  refine il3 (n := 1288) dL_law_1287 rfl ?_
  refine k_iconst (a := 5) (n := 1289) dL_law_1288 rfl rfl ?_
  refine k_iadd (n := 1290) dL_law_1289 rfl ?_
  refine k_iald (j := 6 * k + 5) (n := 1291) dL_law_1290 rfl sR (show nI (6 * k) + 5 = nI (6 * k + 5) from nI_add (6 * k) 5) (by omega) (by omega) ?_
  refine qL_153 (n := 1294) dL_law_1291 rfl rfl (Nat.le_of_ble_eq_true rfl) (by decide) (Nat.le_refl _) (Nat.le_refl _) rfl hP (fun v M hv => ?_)
  obtain ⟨J, a, rfl, rfl, P2, hP2, h3⟩ := h2 v M hv
  dsimp only [Option.toList, List.cons_append, List.nil_append, Nat.add_zero]
  refine al2 (n := 1295) dL_law_1294 rfl ?_
  refine al0 (n := 1296) dL_law_1295 rfl ?_
  refine il3 (n := 1297) dL_law_1296 rfl ?_
  refine k_iconst (a := 1) (n := 1298) dL_law_1297 rfl rfl ?_
  refine k_iadd (n := 1299) dL_law_1298 rfl ?_
  refine k_iald (j := 6 * k + 1) (n := 1300) dL_law_1299 rfl sR (show nI (6 * k) + 1 = nI (6 * k + 1) from nI_add (6 * k) 1) (by omega) (by omega) ?_
  refine al0 (n := 1301) dL_law_1300 rfl ?_
  refine il3 (n := 1302) dL_law_1301 rfl ?_
  refine k_iconst (a := 2) (n := 1303) dL_law_1302 rfl rfl ?_
  refine k_iadd (n := 1304) dL_law_1303 rfl ?_
  refine k_iald (j := 6 * k + 2) (n := 1305) dL_law_1304 rfl sR (show nI (6 * k) + 2 = nI (6 * k + 2) from nI_add (6 * k) 2) (by omega) (by omega) ?_
  refine al0 (n := 1306) dL_law_1305 rfl ?_
  refine il3 (n := 1307) dL_law_1306 rfl ?_
  refine k_iconst (a := 3) (n := 1308) dL_law_1307 rfl rfl ?_
  refine k_iadd (n := 1309) dL_law_1308 rfl ?_
  refine k_iald (j := 6 * k + 3) (n := 1310) dL_law_1309 rfl sR (show nI (6 * k) + 3 = nI (6 * k + 3) from nI_add (6 * k) 3) (by omega) (by omega) ?_
  refine al0 (n := 1311) dL_law_1310 rfl ?_
  refine il3 (n := 1312) dL_law_1311 rfl ?_
  refine k_iconst (a := 4) (n := 1313) dL_law_1312 rfl rfl ?_
  refine k_iadd (n := 1314) dL_law_1313 rfl ?_
  refine k_iald (j := 6 * k + 4) (n := 1315) dL_law_1314 rfl sR (show nI (6 * k) + 4 = nI (6 * k + 4) from nI_add (6 * k) 4) (by omega) (by omega) ?_
  refine al0 (n := 1316) dL_law_1315 rfl ?_
  refine il3 (n := 1317) dL_law_1316 rfl ?_
  refine k_iconst (a := 5) (n := 1318) dL_law_1317 rfl rfl ?_
  refine k_iadd (n := 1319) dL_law_1318 rfl ?_
  refine k_iald (j := 6 * k + 5) (n := 1320) dL_law_1319 rfl sR (show nI (6 * k) + 5 = nI (6 * k + 5) from nI_add (6 * k) 5) (by omega) (by omega) ?_
  refine qL_157 (n := 1323) dL_law_1320 rfl rfl (Nat.le_of_ble_eq_true rfl) (by decide) (Nat.le_refl _) (Nat.le_refl _) rfl hP2 (fun v M hv => ?_)
  obtain ⟨K, rfl, rfl, hK⟩ := h3 v M hv
  dsimp only [Option.toList, List.cons_append, List.nil_append, Nat.add_zero]
  refine k_icmp_eq (t := 1482) (n := 1326) dL_law_1323 (by decide) rfl (fun _ => hnext K hK) (fun h => absurd rfl h)
set_option maxHeartbeats 2000000 in
set_option maxRecDepth 20000 in
theorem L_34 (hlen : (kxt E 1000).1 ≤ 3072) (hk : 6 * k + 6 ≤ (kxt E 1000).1) (hI : INV k I) (hnext : ∀ K, INV (k + 1) K → Wd E 100 mL_law C S C S 1482 [some (.ref 1000), some (.ref 0), some (.ref 81), some (.int (nI (6 * k)))] [] (kJ K) Q) : Wd E 100 mL_law C S C S 1328 [some (.ref 1000), some (.ref 0), some (.ref 81), some (.int (nI (6 * k)))] [] (kJ I) Q := by
  obtain ⟨P, hP, h2⟩ := a_loads (E := E) hI (sc E (6 * k + 1))
  refine al1 (n := 1329) dL_law_1328 rfl ?_
  refine al0 (n := 1330) dL_law_1329 rfl ?_
  refine il3 (n := 1331) dL_law_1330 rfl ?_
  refine k_iconst (a := 1) (n := 1332) dL_law_1331 rfl rfl ?_
  refine k_iadd (n := 1333) dL_law_1332 rfl ?_
  refine k_iald (j := 6 * k + 1) (n := 1334) dL_law_1333 rfl sR (show nI (6 * k) + 1 = nI (6 * k + 1) from nI_add (6 * k) 1) (by omega) (by omega) ?_
  refine qL_158 (n := 1337) dL_law_1334 rfl rfl (Nat.le_of_ble_eq_true rfl) (by decide) (Nat.le_refl _) (Nat.le_refl _) rfl hP (fun v M hv => ?_)
  obtain ⟨J, a, rfl, rfl, P2, hP2, h3⟩ := h2 v M hv
  dsimp only [Option.toList, List.cons_append, List.nil_append, Nat.add_zero]
  refine al2 (n := 1338) dL_law_1337 rfl ?_
  refine al0 (n := 1339) dL_law_1338 rfl ?_
  refine il3 (n := 1340) dL_law_1339 rfl ?_
  refine k_iconst (a := 1) (n := 1341) dL_law_1340 rfl rfl ?_
  refine k_iadd (n := 1342) dL_law_1341 rfl ?_
  refine k_iald (j := 6 * k + 1) (n := 1343) dL_law_1342 rfl sR (show nI (6 * k) + 1 = nI (6 * k + 1) from nI_add (6 * k) 1) (by omega) (by omega) ?_
  refine qL_161 (n := 1346) dL_law_1343 rfl rfl (Nat.le_of_ble_eq_true rfl) (by decide) (Nat.le_refl _) (Nat.le_refl _) rfl hP2 (fun v M hv => ?_)
  obtain ⟨K, rfl, rfl, hK⟩ := h3 v M hv
  dsimp only [Option.toList, List.cons_append, List.nil_append, Nat.add_zero]
  refine k_icmp_eq (t := 1482) (n := 1349) dL_law_1346 (by decide) rfl (fun _ => hnext K hK) (fun h => absurd rfl h)
set_option maxHeartbeats 2000000 in
set_option maxRecDepth 20000 in
theorem L_35 (hlen : (kxt E 1000).1 ≤ 3072) (hk : 6 * k + 6 ≤ (kxt E 1000).1) (hI : INV k I) (hnext : ∀ K, INV (k + 1) K → Wd E 100 mL_law C S C S 1482 [some (.ref 1000), some (.ref 0), some (.ref 81), some (.int (nI (6 * k)))] [] (kJ K) Q) : Wd E 100 mL_law C S C S 1351 [some (.ref 1000), some (.ref 0), some (.ref 81), some (.int (nI (6 * k)))] [] (kJ I) Q := by
  obtain ⟨P, hP, h2⟩ := a_judge (E := E) hI (sc E (6 * k + 1))
  refine al1 (n := 1352) dL_law_1351 rfl ?_
  refine al0 (n := 1353) dL_law_1352 rfl ?_
  refine il3 (n := 1354) dL_law_1353 rfl ?_
  refine k_iconst (a := 1) (n := 1355) dL_law_1354 rfl rfl ?_
  refine k_iadd (n := 1356) dL_law_1355 rfl ?_
  refine k_iald (j := 6 * k + 1) (n := 1357) dL_law_1356 rfl sR (show nI (6 * k) + 1 = nI (6 * k + 1) from nI_add (6 * k) 1) (by omega) (by omega) ?_
  refine qL_162 (n := 1360) dL_law_1357 rfl rfl (Nat.le_of_ble_eq_true rfl) (by decide) (Nat.le_refl _) (Nat.le_refl _) rfl hP (fun v M hv => ?_)
  obtain ⟨J, a, rfl, rfl, P2, hP2, h3⟩ := h2 v M hv
  dsimp only [Option.toList, List.cons_append, List.nil_append, Nat.add_zero]
  refine al2 (n := 1361) dL_law_1360 rfl ?_
  refine al0 (n := 1362) dL_law_1361 rfl ?_
  refine il3 (n := 1363) dL_law_1362 rfl ?_
  refine k_iconst (a := 1) (n := 1364) dL_law_1363 rfl rfl ?_
  refine k_iadd (n := 1365) dL_law_1364 rfl ?_
  refine k_iald (j := 6 * k + 1) (n := 1366) dL_law_1365 rfl sR (show nI (6 * k) + 1 = nI (6 * k + 1) from nI_add (6 * k) 1) (by omega) (by omega) ?_
  refine qL_165 (n := 1369) dL_law_1366 rfl rfl (Nat.le_of_ble_eq_true rfl) (by decide) (Nat.le_refl _) (Nat.le_refl _) rfl hP2 (fun v M hv => ?_)
  obtain ⟨K, rfl, rfl, hK⟩ := h3 v M hv
  dsimp only [Option.toList, List.cons_append, List.nil_append, Nat.add_zero]
  refine k_icmp_eq (t := 1482) (n := 1372) dL_law_1369 (by decide) rfl (fun _ => hnext K hK) (fun h => absurd rfl h)
set_option maxHeartbeats 2000000 in
set_option maxRecDepth 20000 in
theorem L_36 (hlen : (kxt E 1000).1 ≤ 3072) (hk : 6 * k + 6 ≤ (kxt E 1000).1) (hI : INV k I) (hnext : ∀ K, INV (k + 1) K → Wd E 100 mL_law C S C S 1482 [some (.ref 1000), some (.ref 0), some (.ref 81), some (.int (nI (6 * k)))] [] (kJ K) Q) : Wd E 100 mL_law C S C S 1374 [some (.ref 1000), some (.ref 0), some (.ref 81), some (.int (nI (6 * k)))] [] (kJ I) Q := by
  obtain ⟨P, hP, h2⟩ := a_image (E := E) (by omega) hI 
  refine al1 (n := 1375) dL_law_1374 rfl ?_
  refine qL_166 (n := 1378) dL_law_1375 rfl rfl (Nat.le_of_ble_eq_true rfl) (by decide) (Nat.le_refl _) (Nat.le_refl _) rfl hP (fun v M hv => ?_)
  obtain ⟨J, a, rfl, rfl, P2, hP2, h3⟩ := h2 v M hv
  dsimp only [Option.toList, List.cons_append, List.nil_append, Nat.add_zero]
  refine al2 (n := 1379) dL_law_1378 rfl ?_
  refine qL_169 (n := 1382) dL_law_1379 rfl rfl (Nat.le_of_ble_eq_true rfl) (by decide) (Nat.le_refl _) (Nat.le_refl _) rfl hP2 (fun v M hv => ?_)
  obtain ⟨K, rfl, rfl, hK⟩ := h3 v M hv
  dsimp only [Option.toList, List.cons_append, List.nil_append, Nat.add_zero]
  refine k_icmp_eq (t := 1482) (n := 1385) dL_law_1382 (by decide) rfl (fun _ => hnext K hK) (fun h => absurd rfl h)
set_option maxHeartbeats 2000000 in
set_option maxRecDepth 20000 in
theorem L_37 (hlen : (kxt E 1000).1 ≤ 3072) (hk : 6 * k + 6 ≤ (kxt E 1000).1) (hI : INV k I) (hnext : ∀ K, INV (k + 1) K → Wd E 100 mL_law C S C S 1482 [some (.ref 1000), some (.ref 0), some (.ref 81), some (.int (nI (6 * k)))] [] (kJ K) Q) : Wd E 100 mL_law C S C S 1387 [some (.ref 1000), some (.ref 0), some (.ref 81), some (.int (nI (6 * k)))] [] (kJ I) Q := by
  obtain ⟨P, hP, h2⟩ := a_restore (E := E) (by omega) hI 
  refine al1 (n := 1388) dL_law_1387 rfl ?_
  refine qL_170 (n := 1391) dL_law_1388 rfl rfl (Nat.le_of_ble_eq_true rfl) (by decide) (Nat.le_refl _) (Nat.le_refl _) rfl hP (fun v M hv => ?_)
  obtain ⟨J, a, rfl, rfl, P2, hP2, h3⟩ := h2 v M hv
  dsimp only [Option.toList, List.cons_append, List.nil_append, Nat.add_zero]
  refine al2 (n := 1392) dL_law_1391 rfl ?_
  refine qL_173 (n := 1395) dL_law_1392 rfl rfl (Nat.le_of_ble_eq_true rfl) (by decide) (Nat.le_refl _) (Nat.le_refl _) rfl hP2 (fun v M hv => ?_)
  obtain ⟨K, rfl, rfl, hK⟩ := h3 v M hv
  dsimp only [Option.toList, List.cons_append, List.nil_append, Nat.add_zero]
  refine k_icmp_eq (t := 1482) (n := 1398) dL_law_1395 (by decide) rfl (fun _ => hnext K hK) (fun h => absurd rfl h)
set_option maxHeartbeats 2000000 in
set_option maxRecDepth 20000 in
theorem L_38 (hlen : (kxt E 1000).1 ≤ 3072) (hk : 6 * k + 6 ≤ (kxt E 1000).1) (hI : INV k I) (hnext : ∀ K, INV (k + 1) K → Wd E 100 mL_law C S C S 1482 [some (.ref 1000), some (.ref 0), some (.ref 81), some (.int (nI (6 * k)))] [] (kJ K) Q) : Wd E 100 mL_law C S C S 1400 [some (.ref 1000), some (.ref 0), some (.ref 81), some (.int (nI (6 * k)))] [] (kJ I) Q := by
  obtain ⟨P, hP, h2⟩ := a_tell (E := E) hI (sc E (6 * k + 1))
  refine al1 (n := 1401) dL_law_1400 rfl ?_
  refine al0 (n := 1402) dL_law_1401 rfl ?_
  refine il3 (n := 1403) dL_law_1402 rfl ?_
  refine k_iconst (a := 1) (n := 1404) dL_law_1403 rfl rfl ?_
  refine k_iadd (n := 1405) dL_law_1404 rfl ?_
  refine k_iald (j := 6 * k + 1) (n := 1406) dL_law_1405 rfl sR (show nI (6 * k) + 1 = nI (6 * k + 1) from nI_add (6 * k) 1) (by omega) (by omega) ?_
  refine qL_174 (n := 1409) dL_law_1406 rfl rfl (Nat.le_of_ble_eq_true rfl) (by decide) (Nat.le_refl _) (Nat.le_refl _) rfl hP (fun v M hv => ?_)
  obtain ⟨J, a, rfl, rfl, P2, hP2, h3⟩ := h2 v M hv
  dsimp only [Option.toList, List.cons_append, List.nil_append, Nat.add_zero]
  refine al2 (n := 1410) dL_law_1409 rfl ?_
  refine al0 (n := 1411) dL_law_1410 rfl ?_
  refine il3 (n := 1412) dL_law_1411 rfl ?_
  refine k_iconst (a := 1) (n := 1413) dL_law_1412 rfl rfl ?_
  refine k_iadd (n := 1414) dL_law_1413 rfl ?_
  refine k_iald (j := 6 * k + 1) (n := 1415) dL_law_1414 rfl sR (show nI (6 * k) + 1 = nI (6 * k + 1) from nI_add (6 * k) 1) (by omega) (by omega) ?_
  refine qL_177 (n := 1418) dL_law_1415 rfl rfl (Nat.le_of_ble_eq_true rfl) (by decide) (Nat.le_refl _) (Nat.le_refl _) rfl hP2 (fun v M hv => ?_)
  obtain ⟨K, rfl, rfl, hK⟩ := h3 v M hv
  dsimp only [Option.toList, List.cons_append, List.nil_append, Nat.add_zero]
  refine k_icmp_eq (t := 1482) (n := 1421) dL_law_1418 (by decide) rfl (fun _ => hnext K hK) (fun h => absurd rfl h)
set_option maxHeartbeats 2000000 in
set_option maxRecDepth 20000 in
theorem L_39 (hlen : (kxt E 1000).1 ≤ 3072) (hk : 6 * k + 6 ≤ (kxt E 1000).1) (hI : INV k I) (hnext : ∀ K, INV (k + 1) K → Wd E 100 mL_law C S C S 1482 [some (.ref 1000), some (.ref 0), some (.ref 81), some (.int (nI (6 * k)))] [] (kJ K) Q) : Wd E 100 mL_law C S C S 1423 [some (.ref 1000), some (.ref 0), some (.ref 81), some (.int (nI (6 * k)))] [] (kJ I) Q := by
  obtain ⟨P, hP, h2⟩ := a_check (E := E) hI 
  refine al1 (n := 1424) dL_law_1423 rfl ?_
  refine qL_178 (n := 1427) dL_law_1424 rfl rfl (Nat.le_of_ble_eq_true rfl) (by decide) (Nat.le_refl _) (Nat.le_refl _) rfl hP (fun v M hv => ?_)
  obtain ⟨J, a, rfl, rfl, P2, hP2, h3⟩ := h2 v M hv
  dsimp only [Option.toList, List.cons_append, List.nil_append, Nat.add_zero]
  refine al2 (n := 1428) dL_law_1427 rfl ?_
  refine qL_181 (n := 1431) dL_law_1428 rfl rfl (Nat.le_of_ble_eq_true rfl) (by decide) (Nat.le_refl _) (Nat.le_refl _) rfl hP2 (fun v M hv => ?_)
  obtain ⟨K, rfl, rfl, hK⟩ := h3 v M hv
  dsimp only [Option.toList, List.cons_append, List.nil_append, Nat.add_zero]
  refine k_icmp_eq (t := 1482) (n := 1434) dL_law_1431 (by decide) rfl (fun _ => hnext K hK) (fun h => absurd rfl h)
set_option maxHeartbeats 2000000 in
set_option maxRecDepth 20000 in
theorem L_40 (hlen : (kxt E 1000).1 ≤ 3072) (hk : 6 * k + 6 ≤ (kxt E 1000).1) (hI : INV k I) (hnext : ∀ K, INV (k + 1) K → Wd E 100 mL_law C S C S 1482 [some (.ref 1000), some (.ref 0), some (.ref 81), some (.int (nI (6 * k)))] [] (kJ K) Q) : Wd E 100 mL_law C S C S 1436 [some (.ref 1000), some (.ref 0), some (.ref 81), some (.int (nI (6 * k)))] [] (kJ I) Q := by
  obtain ⟨P, hP, h2⟩ := a_count (E := E) hI (sc E (6 * k + 1))
  refine al1 (n := 1437) dL_law_1436 rfl ?_
  refine al0 (n := 1438) dL_law_1437 rfl ?_
  refine il3 (n := 1439) dL_law_1438 rfl ?_
  refine k_iconst (a := 1) (n := 1440) dL_law_1439 rfl rfl ?_
  refine k_iadd (n := 1441) dL_law_1440 rfl ?_
  refine k_iald (j := 6 * k + 1) (n := 1442) dL_law_1441 rfl sR (show nI (6 * k) + 1 = nI (6 * k + 1) from nI_add (6 * k) 1) (by omega) (by omega) ?_
  refine qL_182 (n := 1445) dL_law_1442 rfl rfl (Nat.le_of_ble_eq_true rfl) (by decide) (Nat.le_refl _) (Nat.le_refl _) rfl hP (fun v M hv => ?_)
  obtain ⟨J, a, rfl, rfl, P2, hP2, h3⟩ := h2 v M hv
  dsimp only [Option.toList, List.cons_append, List.nil_append, Nat.add_zero]
  refine al2 (n := 1446) dL_law_1445 rfl ?_
  refine al0 (n := 1447) dL_law_1446 rfl ?_
  refine il3 (n := 1448) dL_law_1447 rfl ?_
  refine k_iconst (a := 1) (n := 1449) dL_law_1448 rfl rfl ?_
  refine k_iadd (n := 1450) dL_law_1449 rfl ?_
  refine k_iald (j := 6 * k + 1) (n := 1451) dL_law_1450 rfl sR (show nI (6 * k) + 1 = nI (6 * k + 1) from nI_add (6 * k) 1) (by omega) (by omega) ?_
  refine qL_185 (n := 1454) dL_law_1451 rfl rfl (Nat.le_of_ble_eq_true rfl) (by decide) (Nat.le_refl _) (Nat.le_refl _) rfl hP2 (fun v M hv => ?_)
  obtain ⟨K, rfl, rfl, hK⟩ := h3 v M hv
  dsimp only [Option.toList, List.cons_append, List.nil_append, Nat.add_zero]
  refine k_icmp_eq (t := 1482) (n := 1457) dL_law_1454 (by decide) rfl (fun _ => hnext K hK) (fun h => absurd rfl h)
set_option maxHeartbeats 2000000 in
set_option maxRecDepth 20000 in
theorem L_41 (hlen : (kxt E 1000).1 ≤ 3072) (hk : 6 * k + 6 ≤ (kxt E 1000).1) (hI : INV k I) (hnext : ∀ K, INV (k + 1) K → Wd E 100 mL_law C S C S 1482 [some (.ref 1000), some (.ref 0), some (.ref 81), some (.int (nI (6 * k)))] [] (kJ K) Q) : Wd E 100 mL_law C S C S 1459 [some (.ref 1000), some (.ref 0), some (.ref 81), some (.int (nI (6 * k)))] [] (kJ I) Q := by
  obtain ⟨P, hP, h2⟩ := a_told (E := E) hI (sc E (6 * k + 1))
  refine al1 (n := 1460) dL_law_1459 rfl ?_
  refine al0 (n := 1461) dL_law_1460 rfl ?_
  refine il3 (n := 1462) dL_law_1461 rfl ?_
  refine k_iconst (a := 1) (n := 1463) dL_law_1462 rfl rfl ?_
  refine k_iadd (n := 1464) dL_law_1463 rfl ?_
  refine k_iald (j := 6 * k + 1) (n := 1465) dL_law_1464 rfl sR (show nI (6 * k) + 1 = nI (6 * k + 1) from nI_add (6 * k) 1) (by omega) (by omega) ?_
  refine qL_186 (n := 1468) dL_law_1465 rfl rfl (Nat.le_of_ble_eq_true rfl) (by decide) (Nat.le_refl _) (Nat.le_refl _) rfl hP (fun v M hv => ?_)
  obtain ⟨J, a, rfl, rfl, P2, hP2, h3⟩ := h2 v M hv
  dsimp only [Option.toList, List.cons_append, List.nil_append, Nat.add_zero]
  refine al2 (n := 1469) dL_law_1468 rfl ?_
  refine al0 (n := 1470) dL_law_1469 rfl ?_
  refine il3 (n := 1471) dL_law_1470 rfl ?_
  refine k_iconst (a := 1) (n := 1472) dL_law_1471 rfl rfl ?_
  refine k_iadd (n := 1473) dL_law_1472 rfl ?_
  refine k_iald (j := 6 * k + 1) (n := 1474) dL_law_1473 rfl sR (show nI (6 * k) + 1 = nI (6 * k + 1) from nI_add (6 * k) 1) (by omega) (by omega) ?_
  refine qL_189 (n := 1477) dL_law_1474 rfl rfl (Nat.le_of_ble_eq_true rfl) (by decide) (Nat.le_refl _) (Nat.le_refl _) rfl hP2 (fun v M hv => ?_)
  obtain ⟨K, rfl, rfl, hK⟩ := h3 v M hv
  dsimp only [Option.toList, List.cons_append, List.nil_append, Nat.add_zero]
  refine k_icmp_eq (t := 1482) (n := 1480) dL_law_1477 (by decide) rfl (fun _ => hnext K hK) (fun h => absurd rfl h)
theorem len_lt {l j : Nat} (hl : l ≤ 3072) (hj : j ≤ 4000) : (nI l - 6 < nI j) ↔ l < j + 6 := by
  have e : (nI l - nI 6).toInt = (l : Int) - 6 := pk_sub_toInt (a := l) (b := 6) (by omega) (by omega)
  rw [Int32.lt_iff_toInt_lt, nI_toInt (by omega)]
  rw [show nI l - 6 = nI l - nI 6 from rfl, e]
  omega
set_option maxHeartbeats 2000000 in
set_option maxRecDepth 20000 in
theorem law_l (hlen : (kxt E 1000).1 ≤ 3072) (hQ : ∀ K, Q (some (.int 1)) (kJ K)) (m : Nat) : ∀ (k : Nat) (I : Nat → Nat → Int32), k + m = 520 → INV k I → 6 * k ≤ 3072 → Wd E 100 mL_law C S C S 18 [some (.ref 1000), some (.ref 0), some (.ref 81), some (.int (nI (6 * k)))] [] (kJ I) Q := by
  induction m with
  | zero => intro k I hk hI h6; omega
  | succ m ih =>
    intro k I hk hI h6
    have hnext : ∀ K, 6 * k + 6 ≤ (kxt E 1000).1 → INV (k + 1) K → Wd E 100 mL_law C S C S 1482 [some (.ref 1000), some (.ref 0), some (.ref 81), some (.int (nI (6 * k)))] [] (kJ K) Q := by
      intro K hl hK
      refine ii3 (n := 1485) dL_law_1482 rfl (ki6 _) trivial ?_
      rw [show nI (6 * k) + 6 = nI (6 * (k + 1)) from nI_add (6 * k) 6]
      refine k_goto (n := 18) dL_law_1485 (by decide) ?_
      exact ih (k + 1) K (by omega) hK (by omega)
    refine il3 (n := 19) dL_law_18 rfl ?_
    refine al0 (n := 20) dL_law_19 rfl ?_
    refine k_alen (n := 21) dL_law_20 rfl sR ?_
    refine k_bipush (a := 6) (n := 23) dL_law_21 rfl rfl ?_
    refine k_isub (n := 24) dL_law_23 rfl ?_
    refine k_icmp_gt (t := 1488) (n := 27) dL_law_24 (by decide) rfl (fun h24 => ?_) (fun h24 => ?_)
    · refine k_iconst (a := 1) (n := 1489) dL_law_1488 rfl rfl ?_
      refine k_ireturn (ty := .boolean) dL_law_1489 rfl rfl (Nat.le_refl _) (Nat.le_refl _) ?_
      exact hQ I
    · have hl : 6 * k + 6 ≤ (kxt E 1000).1 := Nat.le_of_not_lt fun z => h24 ((len_lt hlen (by omega)).mpr z)
      refine al0 (n := 28) dL_law_27 rfl ?_
      refine il3 (n := 29) dL_law_28 rfl ?_
      refine k_iald (j := 6 * k) (n := 30) dL_law_29 rfl sR rfl (by omega) (by omega) ?_
      refine k_bipush (a := 63) (n := 32) dL_law_30 rfl rfl ?_
      refine k_iand (n := 33) dL_law_32 rfl ?_
      rcases ksw ((kxt E 1000).2 (6 * k) &&& 63) 41 (by decide) with hq | ⟨j, hj, hq⟩
      · refine k_swOut (t := 1482) dL_law_33 hq (by decide) ?_
        exact hnext I hl hI.mono
      · rw [hq]
        rcases (show j = 0 ∨ j = 1 ∨ j = 2 ∨ j = 3 ∨ j = 4 ∨ j = 5 ∨ j = 6 ∨ j = 7 ∨ j = 8 ∨ j = 9 ∨ j = 10 ∨ j = 11 ∨ j = 12 ∨ j = 13 ∨ j = 14 ∨ j = 15 ∨ j = 16 ∨ j = 17 ∨ j = 18 ∨ j = 19 ∨ j = 20 ∨ j = 21 ∨ j = 22 ∨ j = 23 ∨ j = 24 ∨ j = 25 ∨ j = 26 ∨ j = 27 ∨ j = 28 ∨ j = 29 ∨ j = 30 ∨ j = 31 ∨ j = 32 ∨ j = 33 ∨ j = 34 ∨ j = 35 ∨ j = 36 ∨ j = 37 ∨ j = 38 ∨ j = 39 ∨ j = 40 ∨ j = 41 by omega) with rfl | rfl | rfl | rfl | rfl | rfl | rfl | rfl | rfl | rfl | rfl | rfl | rfl | rfl | rfl | rfl | rfl | rfl | rfl | rfl | rfl | rfl | rfl | rfl | rfl | rfl | rfl | rfl | rfl | rfl | rfl | rfl | rfl | rfl | rfl | rfl | rfl | rfl | rfl | rfl | rfl | rfl
        · refine k_swIn (t := 216) (off := 183) dL_law_33 (by decide) (by decide) (by decide) (by decide) ?_
          exact L_0 hlen hl hI (fun K hK => hnext K hl hK)
        · refine k_swIn (t := 239) (off := 206) dL_law_33 (by decide) (by decide) (by decide) (by decide) ?_
          exact L_1 hlen hl hI (fun K hK => hnext K hl hK)
        · refine k_swIn (t := 272) (off := 239) dL_law_33 (by decide) (by decide) (by decide) (by decide) ?_
          exact L_2 hlen hl hI (fun K hK => hnext K hl hK)
        · refine k_swIn (t := 295) (off := 262) dL_law_33 (by decide) (by decide) (by decide) (by decide) ?_
          exact L_3 hlen hl hI (fun K hK => hnext K hl hK)
        · refine k_swIn (t := 328) (off := 295) dL_law_33 (by decide) (by decide) (by decide) (by decide) ?_
          exact L_4 hlen hl hI (fun K hK => hnext K hl hK)
        · refine k_swIn (t := 351) (off := 318) dL_law_33 (by decide) (by decide) (by decide) (by decide) ?_
          exact L_5 hlen hl hI (fun K hK => hnext K hl hK)
        · refine k_swIn (t := 394) (off := 361) dL_law_33 (by decide) (by decide) (by decide) (by decide) ?_
          exact L_6 hlen hl hI (fun K hK => hnext K hl hK)
        · refine k_swIn (t := 427) (off := 394) dL_law_33 (by decide) (by decide) (by decide) (by decide) ?_
          exact L_7 hlen hl hI (fun K hK => hnext K hl hK)
        · refine k_swIn (t := 470) (off := 437) dL_law_33 (by decide) (by decide) (by decide) (by decide) ?_
          exact L_8 hlen hl hI (fun K hK => hnext K hl hK)
        · refine k_swIn (t := 503) (off := 470) dL_law_33 (by decide) (by decide) (by decide) (by decide) ?_
          exact L_9 hlen hl hI (fun K hK => hnext K hl hK)
        · refine k_swIn (t := 536) (off := 503) dL_law_33 (by decide) (by decide) (by decide) (by decide) ?_
          exact L_10 hlen hl hI (fun K hK => hnext K hl hK)
        · refine k_swIn (t := 559) (off := 526) dL_law_33 (by decide) (by decide) (by decide) (by decide) ?_
          exact L_11 hlen hl hI (fun K hK => hnext K hl hK)
        · refine k_swIn (t := 592) (off := 559) dL_law_33 (by decide) (by decide) (by decide) (by decide) ?_
          exact L_12 hlen hl hI (fun K hK => hnext K hl hK)
        · refine k_swIn (t := 655) (off := 622) dL_law_33 (by decide) (by decide) (by decide) (by decide) ?_
          exact L_13 hlen hl hI (fun K hK => hnext K hl hK)
        · refine k_swIn (t := 678) (off := 645) dL_law_33 (by decide) (by decide) (by decide) (by decide) ?_
          exact L_14 hlen hl hI (fun K hK => hnext K hl hK)
        · refine k_swIn (t := 731) (off := 698) dL_law_33 (by decide) (by decide) (by decide) (by decide) ?_
          exact L_15 hlen hl hI (fun K hK => hnext K hl hK)
        · refine k_swIn (t := 754) (off := 721) dL_law_33 (by decide) (by decide) (by decide) (by decide) ?_
          exact L_16 hlen hl hI (fun K hK => hnext K hl hK)
        · refine k_swIn (t := 777) (off := 744) dL_law_33 (by decide) (by decide) (by decide) (by decide) ?_
          exact L_17 hlen hl hI (fun K hK => hnext K hl hK)
        · refine k_swIn (t := 800) (off := 767) dL_law_33 (by decide) (by decide) (by decide) (by decide) ?_
          exact L_18 hlen hl hI (fun K hK => hnext K hl hK)
        · refine k_swIn (t := 843) (off := 810) dL_law_33 (by decide) (by decide) (by decide) (by decide) ?_
          exact L_19 hlen hl hI (fun K hK => hnext K hl hK)
        · refine k_swIn (t := 866) (off := 833) dL_law_33 (by decide) (by decide) (by decide) (by decide) ?_
          exact L_20 hlen hl hI (fun K hK => hnext K hl hK)
        · refine k_swIn (t := 889) (off := 856) dL_law_33 (by decide) (by decide) (by decide) (by decide) ?_
          exact L_21 hlen hl hI (fun K hK => hnext K hl hK)
        · refine k_swIn (t := 942) (off := 909) dL_law_33 (by decide) (by decide) (by decide) (by decide) ?_
          exact L_22 hlen hl hI (fun K hK => hnext K hl hK)
        · refine k_swIn (t := 965) (off := 932) dL_law_33 (by decide) (by decide) (by decide) (by decide) ?_
          exact L_23 hlen hl hI (fun K hK => hnext K hl hK)
        · refine k_swIn (t := 978) (off := 945) dL_law_33 (by decide) (by decide) (by decide) (by decide) ?_
          exact L_24 hlen hl hI (fun K hK => hnext K hl hK)
        · refine k_swIn (t := 991) (off := 958) dL_law_33 (by decide) (by decide) (by decide) (by decide) ?_
          exact L_25 hlen hl hI (fun K hK => hnext K hl hK)
        · refine k_swIn (t := 1014) (off := 981) dL_law_33 (by decide) (by decide) (by decide) (by decide) ?_
          exact L_26 hlen hl hI (fun K hK => hnext K hl hK)
        · refine k_swIn (t := 1047) (off := 1014) dL_law_33 (by decide) (by decide) (by decide) (by decide) ?_
          exact L_27 hlen hl hI (fun K hK => hnext K hl hK)
        · refine k_swIn (t := 1090) (off := 1057) dL_law_33 (by decide) (by decide) (by decide) (by decide) ?_
          exact L_28 hlen hl hI (fun K hK => hnext K hl hK)
        · refine k_swIn (t := 1113) (off := 1080) dL_law_33 (by decide) (by decide) (by decide) (by decide) ?_
          exact L_29 hlen hl hI (fun K hK => hnext K hl hK)
        · refine k_swIn (t := 1156) (off := 1123) dL_law_33 (by decide) (by decide) (by decide) (by decide) ?_
          exact L_30 hlen hl hI (fun K hK => hnext K hl hK)
        · refine k_swIn (t := 1179) (off := 1146) dL_law_33 (by decide) (by decide) (by decide) (by decide) ?_
          exact L_31 hlen hl hI (fun K hK => hnext K hl hK)
        · refine k_swIn (t := 1222) (off := 1189) dL_law_33 (by decide) (by decide) (by decide) (by decide) ?_
          exact L_32 hlen hl hI (fun K hK => hnext K hl hK)
        · refine k_swIn (t := 1265) (off := 1232) dL_law_33 (by decide) (by decide) (by decide) (by decide) ?_
          exact L_33 hlen hl hI (fun K hK => hnext K hl hK)
        · refine k_swIn (t := 1328) (off := 1295) dL_law_33 (by decide) (by decide) (by decide) (by decide) ?_
          exact L_34 hlen hl hI (fun K hK => hnext K hl hK)
        · refine k_swIn (t := 1351) (off := 1318) dL_law_33 (by decide) (by decide) (by decide) (by decide) ?_
          exact L_35 hlen hl hI (fun K hK => hnext K hl hK)
        · refine k_swIn (t := 1374) (off := 1341) dL_law_33 (by decide) (by decide) (by decide) (by decide) ?_
          exact L_36 hlen hl hI (fun K hK => hnext K hl hK)
        · refine k_swIn (t := 1387) (off := 1354) dL_law_33 (by decide) (by decide) (by decide) (by decide) ?_
          exact L_37 hlen hl hI (fun K hK => hnext K hl hK)
        · refine k_swIn (t := 1400) (off := 1367) dL_law_33 (by decide) (by decide) (by decide) (by decide) ?_
          exact L_38 hlen hl hI (fun K hK => hnext K hl hK)
        · refine k_swIn (t := 1423) (off := 1390) dL_law_33 (by decide) (by decide) (by decide) (by decide) ?_
          exact L_39 hlen hl hI (fun K hK => hnext K hl hK)
        · refine k_swIn (t := 1436) (off := 1403) dL_law_33 (by decide) (by decide) (by decide) (by decide) ?_
          exact L_40 hlen hl hI (fun K hK => hnext K hl hK)
        · refine k_swIn (t := 1459) (off := 1426) dL_law_33 (by decide) (by decide) (by decide) (by decide) ?_
          exact L_41 hlen hl hI (fun K hK => hnext K hl hK)
end C24
