/-! THE LAW: its cases -/
theorem W2_0 (S : SG) (M : Mod) : W2 S M 0 = .inr (6, wxO) := rfl
theorem W2_51 (S : SG) (M : Mod) : W2 S M 51 = .inr (7, wm_obj 51 M) := rfl
theorem lc_gold {p : Program} {l : Launch} {e : Env} {s : State} {m : MethodId} {below : List Frame} {meth : Method} {c : Code} {D : va_G} {ck : Nat → ClassId} {ad : Nat → Nat} {b L i : Nat} {xs : Nat → Int32} {S : SG} {M : Mod} (X : LX p s m c D ck ad b L xs) (hR : RR S M) (hi : i + 5 ≤ L) (k : ∀ S2 M2, RR S2 M2 → LW p l e s m below meth c D ck ad b i 1112 [] (W2 S2 M2)) : LW p l e s m below meth c D ck ad b i 176 [] (W2 S M) := by
  obtain ⟨v, S2, M2, hR2, c6, c7⟩ := pr_gold hR (xs (i + 1)) (xs (i + 2))
  refine k_aload (pc := 176) (j := 2) X.1 dL_law_176 rfl rfl ?_
  refine l_arg (pc := 177) 1 X dL_law_177 dL_law_178 dL_law_179 dL_law_180 dL_law_181 (by decide) hi (by decide) ?_
  refine l_arg (pc := 182) 2 X dL_law_182 dL_law_183 dL_law_184 dL_law_185 dL_law_186 (by decide) hi (by decide) ?_
  refine l_call (pc := 187) (cj := 6) (fs := wxO) (st := []) X c6 cv_X6_gold ⟨(Nat.le_of_ble_eq_true rfl), (Nat.le_of_ble_eq_true rfl)⟩ ml_L_13 dL_law_187 (by decide) (W2_0 _ _) rfl rfl rfl (Nat.le_of_ble_eq_true rfl) ?_
  refine k_aload (pc := 190) (j := 1) X.1 dL_law_190 rfl rfl ?_
  refine l_arg (pc := 191) 1 X dL_law_191 dL_law_192 dL_law_193 dL_law_194 dL_law_195 (by decide) hi (by decide) ?_
  refine l_arg (pc := 196) 2 X dL_law_196 dL_law_197 dL_law_198 dL_law_199 dL_law_200 (by decide) hi (by decide) ?_
  refine l_call (pc := 201) (cj := 7) (fs := wm_obj 51 M) (st := [.int v]) X c7 cv_X7_gold ⟨(Nat.le_of_ble_eq_true rfl), (Nat.le_of_ble_eq_true rfl)⟩ ml_L_17 dL_law_201 (by decide) (W2_51 _ _) rfl rfl rfl (Nat.le_of_ble_eq_true rfl) ?_
  refine l_eqI (pc := 204) 1112 X dL_law_204 (by decide) ?_
  exact k S2 M2 hR2
theorem lc_man {p : Program} {l : Launch} {e : Env} {s : State} {m : MethodId} {below : List Frame} {meth : Method} {c : Code} {D : va_G} {ck : Nat → ClassId} {ad : Nat → Nat} {b L i : Nat} {xs : Nat → Int32} {S : SG} {M : Mod} (X : LX p s m c D ck ad b L xs) (hR : RR S M) (hi : i + 5 ≤ L) (k : ∀ S2 M2, RR S2 M2 → LW p l e s m below meth c D ck ad b i 1112 [] (W2 S2 M2)) : LW p l e s m below meth c D ck ad b i 209 [] (W2 S M) := by
  obtain ⟨v, S2, M2, hR2, c6, c7⟩ := pr_man hR (xs (i + 1)) (xs (i + 2))
  refine k_aload (pc := 209) (j := 2) X.1 dL_law_209 rfl rfl ?_
  refine l_arg (pc := 210) 1 X dL_law_210 dL_law_211 dL_law_212 dL_law_213 dL_law_214 (by decide) hi (by decide) ?_
  refine l_arg (pc := 215) 2 X dL_law_215 dL_law_216 dL_law_217 dL_law_218 dL_law_219 (by decide) hi (by decide) ?_
  refine l_call (pc := 220) (cj := 6) (fs := wxO) (st := []) X c6 cv_X6_man ⟨(Nat.le_of_ble_eq_true rfl), (Nat.le_of_ble_eq_true rfl)⟩ ml_L_18 dL_law_220 (by decide) (W2_0 _ _) rfl rfl rfl (Nat.le_of_ble_eq_true rfl) ?_
  refine k_aload (pc := 223) (j := 1) X.1 dL_law_223 rfl rfl ?_
  refine l_arg (pc := 224) 1 X dL_law_224 dL_law_225 dL_law_226 dL_law_227 dL_law_228 (by decide) hi (by decide) ?_
  refine l_arg (pc := 229) 2 X dL_law_229 dL_law_230 dL_law_231 dL_law_232 dL_law_233 (by decide) hi (by decide) ?_
  refine l_call (pc := 234) (cj := 7) (fs := wm_obj 51 M) (st := [.int v]) X c7 cv_X7_man ⟨(Nat.le_of_ble_eq_true rfl), (Nat.le_of_ble_eq_true rfl)⟩ ml_L_21 dL_law_234 (by decide) (W2_51 _ _) rfl rfl rfl (Nat.le_of_ble_eq_true rfl) ?_
  refine l_eqI (pc := 237) 1112 X dL_law_237 (by decide) ?_
  exact k S2 M2 hR2
theorem lc_leave {p : Program} {l : Launch} {e : Env} {s : State} {m : MethodId} {below : List Frame} {meth : Method} {c : Code} {D : va_G} {ck : Nat → ClassId} {ad : Nat → Nat} {b L i : Nat} {xs : Nat → Int32} {S : SG} {M : Mod} (X : LX p s m c D ck ad b L xs) (hR : RR S M) (hi : i + 5 ≤ L) (k : ∀ S2 M2, RR S2 M2 → LW p l e s m below meth c D ck ad b i 1112 [] (W2 S2 M2)) : LW p l e s m below meth c D ck ad b i 242 [] (W2 S M) := by
  obtain ⟨v, S2, M2, hR2, c6, c7⟩ := pr_leave hR (xs (i + 1))
  refine k_aload (pc := 242) (j := 2) X.1 dL_law_242 rfl rfl ?_
  refine l_arg (pc := 243) 1 X dL_law_243 dL_law_244 dL_law_245 dL_law_246 dL_law_247 (by decide) hi (by decide) ?_
  refine l_call (pc := 248) (cj := 6) (fs := wxO) (st := []) X c6 cv_X6_leave ⟨(Nat.le_of_ble_eq_true rfl), (Nat.le_of_ble_eq_true rfl)⟩ ml_L_22 dL_law_248 (by decide) (W2_0 _ _) rfl rfl rfl (Nat.le_of_ble_eq_true rfl) ?_
  refine k_aload (pc := 251) (j := 1) X.1 dL_law_251 rfl rfl ?_
  refine l_arg (pc := 252) 1 X dL_law_252 dL_law_253 dL_law_254 dL_law_255 dL_law_256 (by decide) hi (by decide) ?_
  refine l_call (pc := 257) (cj := 7) (fs := wm_obj 51 M) (st := [.int v]) X c7 cv_X7_leave ⟨(Nat.le_of_ble_eq_true rfl), (Nat.le_of_ble_eq_true rfl)⟩ ml_L_26 dL_law_257 (by decide) (W2_51 _ _) rfl rfl rfl (Nat.le_of_ble_eq_true rfl) ?_
  refine l_eqI (pc := 260) 1112 X dL_law_260 (by decide) ?_
  exact k S2 M2 hR2
theorem lc_know {p : Program} {l : Launch} {e : Env} {s : State} {m : MethodId} {below : List Frame} {meth : Method} {c : Code} {D : va_G} {ck : Nat → ClassId} {ad : Nat → Nat} {b L i : Nat} {xs : Nat → Int32} {S : SG} {M : Mod} (X : LX p s m c D ck ad b L xs) (hR : RR S M) (hi : i + 5 ≤ L) (k : ∀ S2 M2, RR S2 M2 → LW p l e s m below meth c D ck ad b i 1112 [] (W2 S2 M2)) : LW p l e s m below meth c D ck ad b i 265 [] (W2 S M) := by
  obtain ⟨v, S2, M2, hR2, c6, c7⟩ := pr_know hR (xs (i + 1)) (xs (i + 2)) (tf (xs (i + 3)))
  refine k_aload (pc := 265) (j := 2) X.1 dL_law_265 rfl rfl ?_
  refine l_arg (pc := 266) 1 X dL_law_266 dL_law_267 dL_law_268 dL_law_269 dL_law_270 (by decide) hi (by decide) ?_
  refine l_arg (pc := 271) 2 X dL_law_271 dL_law_272 dL_law_273 dL_law_274 dL_law_275 (by decide) hi (by decide) ?_
  refine l_argB (pc := 276) 3 X dL_law_276 dL_law_277 dL_law_278 dL_law_279 dL_law_280 dL_law_281 (by decide) dL_law_284 dL_law_285 (by decide) dL_law_288 (by decide) hi (by decide) ?_
  refine l_call (pc := 289) (cj := 6) (fs := wxO) (st := []) X c6 cv_X6_know ⟨(Nat.le_of_ble_eq_true rfl), (Nat.le_of_ble_eq_true rfl)⟩ ml_L_27 dL_law_289 (by decide) (W2_0 _ _) rfl rfl rfl (Nat.le_of_ble_eq_true rfl) ?_
  refine k_aload (pc := 292) (j := 1) X.1 dL_law_292 rfl rfl ?_
  refine l_arg (pc := 293) 1 X dL_law_293 dL_law_294 dL_law_295 dL_law_296 dL_law_297 (by decide) hi (by decide) ?_
  refine l_arg (pc := 298) 2 X dL_law_298 dL_law_299 dL_law_300 dL_law_301 dL_law_302 (by decide) hi (by decide) ?_
  refine l_argB (pc := 303) 3 X dL_law_303 dL_law_304 dL_law_305 dL_law_306 dL_law_307 dL_law_308 (by decide) dL_law_311 dL_law_312 (by decide) dL_law_315 (by decide) hi (by decide) ?_
  refine l_call (pc := 316) (cj := 7) (fs := wm_obj 51 M) (st := [.int v]) X c7 cv_X7_know ⟨(Nat.le_of_ble_eq_true rfl), (Nat.le_of_ble_eq_true rfl)⟩ ml_L_31 dL_law_316 (by decide) (W2_51 _ _) rfl rfl rfl (Nat.le_of_ble_eq_true rfl) ?_
  refine l_eqI (pc := 319) 1112 X dL_law_319 (by decide) ?_
  exact k S2 M2 hR2
theorem lc_claim {p : Program} {l : Launch} {e : Env} {s : State} {m : MethodId} {below : List Frame} {meth : Method} {c : Code} {D : va_G} {ck : Nat → ClassId} {ad : Nat → Nat} {b L i : Nat} {xs : Nat → Int32} {S : SG} {M : Mod} (X : LX p s m c D ck ad b L xs) (hR : RR S M) (hi : i + 5 ≤ L) (k : ∀ S2 M2, RR S2 M2 → LW p l e s m below meth c D ck ad b i 1112 [] (W2 S2 M2)) : LW p l e s m below meth c D ck ad b i 324 [] (W2 S M) := by
  obtain ⟨v, S2, M2, hR2, c6, c7⟩ := pr_claim hR (xs (i + 1)) (xs (i + 2))
  refine k_aload (pc := 324) (j := 2) X.1 dL_law_324 rfl rfl ?_
  refine l_arg (pc := 325) 1 X dL_law_325 dL_law_326 dL_law_327 dL_law_328 dL_law_329 (by decide) hi (by decide) ?_
  refine l_arg (pc := 330) 2 X dL_law_330 dL_law_331 dL_law_332 dL_law_333 dL_law_334 (by decide) hi (by decide) ?_
  refine l_call (pc := 335) (cj := 6) (fs := wxO) (st := []) X c6 cv_X6_claim ⟨(Nat.le_of_ble_eq_true rfl), (Nat.le_of_ble_eq_true rfl)⟩ ml_L_32 dL_law_335 (by decide) (W2_0 _ _) rfl rfl rfl (Nat.le_of_ble_eq_true rfl) ?_
  refine k_aload (pc := 338) (j := 1) X.1 dL_law_338 rfl rfl ?_
  refine l_arg (pc := 339) 1 X dL_law_339 dL_law_340 dL_law_341 dL_law_342 dL_law_343 (by decide) hi (by decide) ?_
  refine l_arg (pc := 344) 2 X dL_law_344 dL_law_345 dL_law_346 dL_law_347 dL_law_348 (by decide) hi (by decide) ?_
  refine l_call (pc := 349) (cj := 7) (fs := wm_obj 51 M) (st := [.int v]) X c7 cv_X7_claim ⟨(Nat.le_of_ble_eq_true rfl), (Nat.le_of_ble_eq_true rfl)⟩ ml_L_35 dL_law_349 (by decide) (W2_51 _ _) rfl rfl rfl (Nat.le_of_ble_eq_true rfl) ?_
  refine l_eqI (pc := 352) 1112 X dL_law_352 (by decide) ?_
  exact k S2 M2 hR2
theorem lc_say {p : Program} {l : Launch} {e : Env} {s : State} {m : MethodId} {below : List Frame} {meth : Method} {c : Code} {D : va_G} {ck : Nat → ClassId} {ad : Nat → Nat} {b L i : Nat} {xs : Nat → Int32} {S : SG} {M : Mod} (X : LX p s m c D ck ad b L xs) (hR : RR S M) (hi : i + 5 ≤ L) (k : ∀ S2 M2, RR S2 M2 → LW p l e s m below meth c D ck ad b i 1112 [] (W2 S2 M2)) : LW p l e s m below meth c D ck ad b i 357 [] (W2 S M) := by
  obtain ⟨v, S2, M2, hR2, c6, c7⟩ := pr_say hR (xs (i + 1))
  refine k_aload (pc := 357) (j := 2) X.1 dL_law_357 rfl rfl ?_
  refine l_arg (pc := 358) 1 X dL_law_358 dL_law_359 dL_law_360 dL_law_361 dL_law_362 (by decide) hi (by decide) ?_
  refine l_call (pc := 363) (cj := 6) (fs := wxO) (st := []) X c6 cv_X6_say ⟨(Nat.le_of_ble_eq_true rfl), (Nat.le_of_ble_eq_true rfl)⟩ ml_L_36 dL_law_363 (by decide) (W2_0 _ _) rfl rfl rfl (Nat.le_of_ble_eq_true rfl) ?_
  refine k_aload (pc := 366) (j := 1) X.1 dL_law_366 rfl rfl ?_
  refine l_arg (pc := 367) 1 X dL_law_367 dL_law_368 dL_law_369 dL_law_370 dL_law_371 (by decide) hi (by decide) ?_
  refine l_call (pc := 372) (cj := 7) (fs := wm_obj 51 M) (st := [.int v]) X c7 cv_X7_say ⟨(Nat.le_of_ble_eq_true rfl), (Nat.le_of_ble_eq_true rfl)⟩ ml_L_39 dL_law_372 (by decide) (W2_51 _ _) rfl rfl rfl (Nat.le_of_ble_eq_true rfl) ?_
  refine l_eqI (pc := 375) 1112 X dL_law_375 (by decide) ?_
  exact k S2 M2 hR2
theorem lc_wipe {p : Program} {l : Launch} {e : Env} {s : State} {m : MethodId} {below : List Frame} {meth : Method} {c : Code} {D : va_G} {ck : Nat → ClassId} {ad : Nat → Nat} {b L i : Nat} {xs : Nat → Int32} {S : SG} {M : Mod} (X : LX p s m c D ck ad b L xs) (hR : RR S M) (hi : i + 5 ≤ L) (k : ∀ S2 M2, RR S2 M2 → LW p l e s m below meth c D ck ad b i 1112 [] (W2 S2 M2)) : LW p l e s m below meth c D ck ad b i 380 [] (W2 S M) := by
  obtain ⟨v, S2, M2, hR2, c6, c7⟩ := pr_wipe hR 
  refine k_aload (pc := 380) (j := 2) X.1 dL_law_380 rfl rfl ?_
  refine l_call (pc := 381) (cj := 6) (fs := wxO) (st := []) X c6 cv_X6_wipe ⟨(Nat.le_of_ble_eq_true rfl), (Nat.le_of_ble_eq_true rfl)⟩ ml_L_40 dL_law_381 (by decide) (W2_0 _ _) rfl rfl rfl (Nat.le_of_ble_eq_true rfl) ?_
  refine k_aload (pc := 384) (j := 1) X.1 dL_law_384 rfl rfl ?_
  refine l_call (pc := 385) (cj := 7) (fs := wm_obj 51 M) (st := [.int v]) X c7 cv_X7_wipe ⟨(Nat.le_of_ble_eq_true rfl), (Nat.le_of_ble_eq_true rfl)⟩ ml_L_44 dL_law_385 (by decide) (W2_51 _ _) rfl rfl rfl (Nat.le_of_ble_eq_true rfl) ?_
  refine l_eqI (pc := 388) 1112 X dL_law_388 (by decide) ?_
  exact k S2 M2 hR2
theorem lc_fault {p : Program} {l : Launch} {e : Env} {s : State} {m : MethodId} {below : List Frame} {meth : Method} {c : Code} {D : va_G} {ck : Nat → ClassId} {ad : Nat → Nat} {b L i : Nat} {xs : Nat → Int32} {S : SG} {M : Mod} (X : LX p s m c D ck ad b L xs) (hR : RR S M) (hi : i + 5 ≤ L) (k : ∀ S2 M2, RR S2 M2 → LW p l e s m below meth c D ck ad b i 1112 [] (W2 S2 M2)) : LW p l e s m below meth c D ck ad b i 393 [] (W2 S M) := by
  obtain ⟨v, S2, M2, hR2, c6, c7⟩ := pr_fault hR 
  refine k_aload (pc := 393) (j := 2) X.1 dL_law_393 rfl rfl ?_
  refine l_call (pc := 394) (cj := 6) (fs := wxO) (st := []) X c6 cv_X6_fault ⟨(Nat.le_of_ble_eq_true rfl), (Nat.le_of_ble_eq_true rfl)⟩ ml_L_45 dL_law_394 (by decide) (W2_0 _ _) rfl rfl rfl (Nat.le_of_ble_eq_true rfl) ?_
  refine k_aload (pc := 397) (j := 1) X.1 dL_law_397 rfl rfl ?_
  refine l_call (pc := 398) (cj := 7) (fs := wm_obj 51 M) (st := [.int v]) X c7 cv_X7_fault ⟨(Nat.le_of_ble_eq_true rfl), (Nat.le_of_ble_eq_true rfl)⟩ ml_L_48 dL_law_398 (by decide) (W2_51 _ _) rfl rfl rfl (Nat.le_of_ble_eq_true rfl) ?_
  refine l_eqI (pc := 401) 1112 X dL_law_401 (by decide) ?_
  exact k S2 M2 hR2
theorem lc_judge {p : Program} {l : Launch} {e : Env} {s : State} {m : MethodId} {below : List Frame} {meth : Method} {c : Code} {D : va_G} {ck : Nat → ClassId} {ad : Nat → Nat} {b L i : Nat} {xs : Nat → Int32} {S : SG} {M : Mod} (X : LX p s m c D ck ad b L xs) (hR : RR S M) (hi : i + 5 ≤ L) (k : ∀ S2 M2, RR S2 M2 → LW p l e s m below meth c D ck ad b i 1112 [] (W2 S2 M2)) : LW p l e s m below meth c D ck ad b i 406 [] (W2 S M) := by
  obtain ⟨v, S2, M2, hR2, c6, c7⟩ := pr_judge hR (xs (i + 1))
  refine k_aload (pc := 406) (j := 2) X.1 dL_law_406 rfl rfl ?_
  refine l_arg (pc := 407) 1 X dL_law_407 dL_law_408 dL_law_409 dL_law_410 dL_law_411 (by decide) hi (by decide) ?_
  refine l_call (pc := 412) (cj := 6) (fs := wxO) (st := []) X c6 cv_X6_judge ⟨(Nat.le_of_ble_eq_true rfl), (Nat.le_of_ble_eq_true rfl)⟩ ml_L_49 dL_law_412 (by decide) (W2_0 _ _) rfl rfl rfl (Nat.le_of_ble_eq_true rfl) ?_
  refine k_aload (pc := 415) (j := 1) X.1 dL_law_415 rfl rfl ?_
  refine l_arg (pc := 416) 1 X dL_law_416 dL_law_417 dL_law_418 dL_law_419 dL_law_420 (by decide) hi (by decide) ?_
  refine l_call (pc := 421) (cj := 7) (fs := wm_obj 51 M) (st := [.int v]) X c7 cv_X7_judge ⟨(Nat.le_of_ble_eq_true rfl), (Nat.le_of_ble_eq_true rfl)⟩ ml_L_52 dL_law_421 (by decide) (W2_51 _ _) rfl rfl rfl (Nat.le_of_ble_eq_true rfl) ?_
  refine l_eqI (pc := 424) 1112 X dL_law_424 (by decide) ?_
  exact k S2 M2 hR2
theorem lc_behind {p : Program} {l : Launch} {e : Env} {s : State} {m : MethodId} {below : List Frame} {meth : Method} {c : Code} {D : va_G} {ck : Nat → ClassId} {ad : Nat → Nat} {b L i : Nat} {xs : Nat → Int32} {S : SG} {M : Mod} (X : LX p s m c D ck ad b L xs) (hR : RR S M) (hi : i + 5 ≤ L) (k : ∀ S2 M2, RR S2 M2 → LW p l e s m below meth c D ck ad b i 1112 [] (W2 S2 M2)) : LW p l e s m below meth c D ck ad b i 429 [] (W2 S M) := by
  obtain ⟨v, S2, M2, hR2, c6, c7⟩ := pr_behind hR (xs (i + 1)) (xs (i + 2))
  refine k_aload (pc := 429) (j := 2) X.1 dL_law_429 rfl rfl ?_
  refine l_arg (pc := 430) 1 X dL_law_430 dL_law_431 dL_law_432 dL_law_433 dL_law_434 (by decide) hi (by decide) ?_
  refine l_arg (pc := 435) 2 X dL_law_435 dL_law_436 dL_law_437 dL_law_438 dL_law_439 (by decide) hi (by decide) ?_
  refine l_call (pc := 440) (cj := 6) (fs := wxO) (st := []) X c6 cv_X6_behind ⟨(Nat.le_of_ble_eq_true rfl), (Nat.le_of_ble_eq_true rfl)⟩ ml_L_53 dL_law_440 (by decide) (W2_0 _ _) rfl rfl rfl (Nat.le_of_ble_eq_true rfl) ?_
  refine k_aload (pc := 443) (j := 1) X.1 dL_law_443 rfl rfl ?_
  refine l_arg (pc := 444) 1 X dL_law_444 dL_law_445 dL_law_446 dL_law_447 dL_law_448 (by decide) hi (by decide) ?_
  refine l_arg (pc := 449) 2 X dL_law_449 dL_law_450 dL_law_451 dL_law_452 dL_law_453 (by decide) hi (by decide) ?_
  refine l_call (pc := 454) (cj := 7) (fs := wm_obj 51 M) (st := [.int v]) X c7 cv_X7_behind ⟨(Nat.le_of_ble_eq_true rfl), (Nat.le_of_ble_eq_true rfl)⟩ ml_L_56 dL_law_454 (by decide) (W2_51 _ _) rfl rfl rfl (Nat.le_of_ble_eq_true rfl) ?_
  refine l_eqI (pc := 457) 1112 X dL_law_457 (by decide) ?_
  exact k S2 M2 hR2
theorem lc_heard {p : Program} {l : Launch} {e : Env} {s : State} {m : MethodId} {below : List Frame} {meth : Method} {c : Code} {D : va_G} {ck : Nat → ClassId} {ad : Nat → Nat} {b L i : Nat} {xs : Nat → Int32} {S : SG} {M : Mod} (X : LX p s m c D ck ad b L xs) (hR : RR S M) (hi : i + 5 ≤ L) (k : ∀ S2 M2, RR S2 M2 → LW p l e s m below meth c D ck ad b i 1112 [] (W2 S2 M2)) : LW p l e s m below meth c D ck ad b i 462 [] (W2 S M) := by
  obtain ⟨v, S2, M2, hR2, c6, c7⟩ := pr_heard hR (xs (i + 1))
  refine k_aload (pc := 462) (j := 2) X.1 dL_law_462 rfl rfl ?_
  refine l_arg (pc := 463) 1 X dL_law_463 dL_law_464 dL_law_465 dL_law_466 dL_law_467 (by decide) hi (by decide) ?_
  refine l_call (pc := 468) (cj := 6) (fs := wxO) (st := []) X c6 cv_X6_heard ⟨(Nat.le_of_ble_eq_true rfl), (Nat.le_of_ble_eq_true rfl)⟩ ml_L_57 dL_law_468 (by decide) (W2_0 _ _) rfl rfl rfl (Nat.le_of_ble_eq_true rfl) ?_
  refine k_aload (pc := 471) (j := 1) X.1 dL_law_471 rfl rfl ?_
  refine l_arg (pc := 472) 1 X dL_law_472 dL_law_473 dL_law_474 dL_law_475 dL_law_476 (by decide) hi (by decide) ?_
  refine l_call (pc := 477) (cj := 7) (fs := wm_obj 51 M) (st := [.int v]) X c7 cv_X7_heard ⟨(Nat.le_of_ble_eq_true rfl), (Nat.le_of_ble_eq_true rfl)⟩ ml_L_60 dL_law_477 (by decide) (W2_51 _ _) rfl rfl rfl (Nat.le_of_ble_eq_true rfl) ?_
  refine l_eqI (pc := 480) 1112 X dL_law_480 (by decide) ?_
  exact k S2 M2 hR2
theorem lc_whose {p : Program} {l : Launch} {e : Env} {s : State} {m : MethodId} {below : List Frame} {meth : Method} {c : Code} {D : va_G} {ck : Nat → ClassId} {ad : Nat → Nat} {b L i : Nat} {xs : Nat → Int32} {S : SG} {M : Mod} (X : LX p s m c D ck ad b L xs) (hR : RR S M) (hi : i + 5 ≤ L) (k : ∀ S2 M2, RR S2 M2 → LW p l e s m below meth c D ck ad b i 1112 [] (W2 S2 M2)) : LW p l e s m below meth c D ck ad b i 485 [] (W2 S M) := by
  obtain ⟨v, S2, M2, hR2, c6, c7⟩ := pr_whose hR (xs (i + 1))
  refine k_aload (pc := 485) (j := 2) X.1 dL_law_485 rfl rfl ?_
  refine l_arg (pc := 486) 1 X dL_law_486 dL_law_487 dL_law_488 dL_law_489 dL_law_490 (by decide) hi (by decide) ?_
  refine l_call (pc := 491) (cj := 6) (fs := wxO) (st := []) X c6 cv_X6_whose ⟨(Nat.le_of_ble_eq_true rfl), (Nat.le_of_ble_eq_true rfl)⟩ ml_L_61 dL_law_491 (by decide) (W2_0 _ _) rfl rfl rfl (Nat.le_of_ble_eq_true rfl) ?_
  refine k_aload (pc := 494) (j := 1) X.1 dL_law_494 rfl rfl ?_
  refine l_arg (pc := 495) 1 X dL_law_495 dL_law_496 dL_law_497 dL_law_498 dL_law_499 (by decide) hi (by decide) ?_
  refine l_call (pc := 500) (cj := 7) (fs := wm_obj 51 M) (st := [.int v]) X c7 cv_X7_whose ⟨(Nat.le_of_ble_eq_true rfl), (Nat.le_of_ble_eq_true rfl)⟩ ml_L_64 dL_law_500 (by decide) (W2_51 _ _) rfl rfl rfl (Nat.le_of_ble_eq_true rfl) ?_
  refine l_eqI (pc := 503) 1112 X dL_law_503 (by decide) ?_
  exact k S2 M2 hR2
theorem lc_nothing {p : Program} {l : Launch} {e : Env} {s : State} {m : MethodId} {below : List Frame} {meth : Method} {c : Code} {D : va_G} {ck : Nat → ClassId} {ad : Nat → Nat} {b L i : Nat} {xs : Nat → Int32} {S : SG} {M : Mod} (X : LX p s m c D ck ad b L xs) (hR : RR S M) (hi : i + 5 ≤ L) (k : ∀ S2 M2, RR S2 M2 → LW p l e s m below meth c D ck ad b i 1112 [] (W2 S2 M2)) : LW p l e s m below meth c D ck ad b i 508 [] (W2 S M) := by
  obtain ⟨v, S2, M2, hR2, c6, c7⟩ := pr_nothing hR (xs (i + 1))
  refine k_aload (pc := 508) (j := 2) X.1 dL_law_508 rfl rfl ?_
  refine l_arg (pc := 509) 1 X dL_law_509 dL_law_510 dL_law_511 dL_law_512 dL_law_513 (by decide) hi (by decide) ?_
  refine l_call (pc := 514) (cj := 6) (fs := wxO) (st := []) X c6 cv_X6_nothing ⟨(Nat.le_of_ble_eq_true rfl), (Nat.le_of_ble_eq_true rfl)⟩ ml_L_65 dL_law_514 (by decide) (W2_0 _ _) rfl rfl rfl (Nat.le_of_ble_eq_true rfl) ?_
  refine k_aload (pc := 517) (j := 1) X.1 dL_law_517 rfl rfl ?_
  refine l_arg (pc := 518) 1 X dL_law_518 dL_law_519 dL_law_520 dL_law_521 dL_law_522 (by decide) hi (by decide) ?_
  refine l_call (pc := 523) (cj := 7) (fs := wm_obj 51 M) (st := [.int v]) X c7 cv_X7_nothing ⟨(Nat.le_of_ble_eq_true rfl), (Nat.le_of_ble_eq_true rfl)⟩ ml_L_68 dL_law_523 (by decide) (W2_51 _ _) rfl rfl rfl (Nat.le_of_ble_eq_true rfl) ?_
  refine l_eqI (pc := 526) 1112 X dL_law_526 (by decide) ?_
  exact k S2 M2 hR2
theorem lc_done {p : Program} {l : Launch} {e : Env} {s : State} {m : MethodId} {below : List Frame} {meth : Method} {c : Code} {D : va_G} {ck : Nat → ClassId} {ad : Nat → Nat} {b L i : Nat} {xs : Nat → Int32} {S : SG} {M : Mod} (X : LX p s m c D ck ad b L xs) (hR : RR S M) (hi : i + 5 ≤ L) (k : ∀ S2 M2, RR S2 M2 → LW p l e s m below meth c D ck ad b i 1112 [] (W2 S2 M2)) : LW p l e s m below meth c D ck ad b i 531 [] (W2 S M) := by
  obtain ⟨v, S2, M2, hR2, c6, c7⟩ := pr_done hR 
  refine k_aload (pc := 531) (j := 2) X.1 dL_law_531 rfl rfl ?_
  refine l_call (pc := 532) (cj := 6) (fs := wxO) (st := []) X c6 cv_X6_done ⟨(Nat.le_of_ble_eq_true rfl), (Nat.le_of_ble_eq_true rfl)⟩ ml_L_69 dL_law_532 (by decide) (W2_0 _ _) rfl rfl rfl (Nat.le_of_ble_eq_true rfl) ?_
  refine k_aload (pc := 535) (j := 1) X.1 dL_law_535 rfl rfl ?_
  refine l_call (pc := 536) (cj := 7) (fs := wm_obj 51 M) (st := [.int v]) X c7 cv_X7_done ⟨(Nat.le_of_ble_eq_true rfl), (Nat.le_of_ble_eq_true rfl)⟩ ml_L_72 dL_law_536 (by decide) (W2_51 _ _) rfl rfl rfl (Nat.le_of_ble_eq_true rfl) ?_
  refine l_eqI (pc := 539) 1112 X dL_law_539 (by decide) ?_
  exact k S2 M2 hR2
theorem lc_loudest {p : Program} {l : Launch} {e : Env} {s : State} {m : MethodId} {below : List Frame} {meth : Method} {c : Code} {D : va_G} {ck : Nat → ClassId} {ad : Nat → Nat} {b L i : Nat} {xs : Nat → Int32} {S : SG} {M : Mod} (X : LX p s m c D ck ad b L xs) (hR : RR S M) (hi : i + 5 ≤ L) (k : ∀ S2 M2, RR S2 M2 → LW p l e s m below meth c D ck ad b i 1112 [] (W2 S2 M2)) : LW p l e s m below meth c D ck ad b i 544 [] (W2 S M) := by
  obtain ⟨v, S2, M2, hR2, c6, c7⟩ := pr_loudest hR (xs (i + 1))
  refine k_aload (pc := 544) (j := 2) X.1 dL_law_544 rfl rfl ?_
  refine l_arg (pc := 545) 1 X dL_law_545 dL_law_546 dL_law_547 dL_law_548 dL_law_549 (by decide) hi (by decide) ?_
  refine l_call (pc := 550) (cj := 6) (fs := wxO) (st := []) X c6 cv_X6_loudest ⟨(Nat.le_of_ble_eq_true rfl), (Nat.le_of_ble_eq_true rfl)⟩ ml_L_73 dL_law_550 (by decide) (W2_0 _ _) rfl rfl rfl (Nat.le_of_ble_eq_true rfl) ?_
  refine k_aload (pc := 553) (j := 1) X.1 dL_law_553 rfl rfl ?_
  refine l_arg (pc := 554) 1 X dL_law_554 dL_law_555 dL_law_556 dL_law_557 dL_law_558 (by decide) hi (by decide) ?_
  refine l_call (pc := 559) (cj := 7) (fs := wm_obj 51 M) (st := [.int v]) X c7 cv_X7_loudest ⟨(Nat.le_of_ble_eq_true rfl), (Nat.le_of_ble_eq_true rfl)⟩ ml_L_76 dL_law_559 (by decide) (W2_51 _ _) rfl rfl rfl (Nat.le_of_ble_eq_true rfl) ?_
  refine l_eqI (pc := 562) 1112 X dL_law_562 (by decide) ?_
  exact k S2 M2 hR2
theorem lc_sleep {p : Program} {l : Launch} {e : Env} {s : State} {m : MethodId} {below : List Frame} {meth : Method} {c : Code} {D : va_G} {ck : Nat → ClassId} {ad : Nat → Nat} {b L i : Nat} {xs : Nat → Int32} {S : SG} {M : Mod} (X : LX p s m c D ck ad b L xs) (hR : RR S M) (hi : i + 5 ≤ L) (k : ∀ S2 M2, RR S2 M2 → LW p l e s m below meth c D ck ad b i 1112 [] (W2 S2 M2)) : LW p l e s m below meth c D ck ad b i 567 [] (W2 S M) := by
  obtain ⟨v, S2, M2, hR2, c6, c7⟩ := pr_sleep hR (xs (i + 1)) (xs (i + 2)) (xs (i + 3))
  refine k_aload (pc := 567) (j := 2) X.1 dL_law_567 rfl rfl ?_
  refine l_arg (pc := 568) 1 X dL_law_568 dL_law_569 dL_law_570 dL_law_571 dL_law_572 (by decide) hi (by decide) ?_
  refine l_arg (pc := 573) 2 X dL_law_573 dL_law_574 dL_law_575 dL_law_576 dL_law_577 (by decide) hi (by decide) ?_
  refine l_arg (pc := 578) 3 X dL_law_578 dL_law_579 dL_law_580 dL_law_581 dL_law_582 (by decide) hi (by decide) ?_
  refine l_call (pc := 583) (cj := 6) (fs := wxO) (st := []) X c6 cv_X6_sleep ⟨(Nat.le_of_ble_eq_true rfl), (Nat.le_of_ble_eq_true rfl)⟩ ml_L_77 dL_law_583 (by decide) (W2_0 _ _) rfl rfl rfl (Nat.le_of_ble_eq_true rfl) ?_
  refine k_aload (pc := 586) (j := 1) X.1 dL_law_586 rfl rfl ?_
  refine l_arg (pc := 587) 1 X dL_law_587 dL_law_588 dL_law_589 dL_law_590 dL_law_591 (by decide) hi (by decide) ?_
  refine l_arg (pc := 592) 2 X dL_law_592 dL_law_593 dL_law_594 dL_law_595 dL_law_596 (by decide) hi (by decide) ?_
  refine l_arg (pc := 597) 3 X dL_law_597 dL_law_598 dL_law_599 dL_law_600 dL_law_601 (by decide) hi (by decide) ?_
  refine l_call (pc := 602) (cj := 7) (fs := wm_obj 51 M) (st := [.int v]) X c7 cv_X7_sleep ⟨(Nat.le_of_ble_eq_true rfl), (Nat.le_of_ble_eq_true rfl)⟩ ml_L_81 dL_law_602 (by decide) (W2_51 _ _) rfl rfl rfl (Nat.le_of_ble_eq_true rfl) ?_
  refine l_eqI (pc := 605) 1112 X dL_law_605 (by decide) ?_
  exact k S2 M2 hR2
theorem lc_hide {p : Program} {l : Launch} {e : Env} {s : State} {m : MethodId} {below : List Frame} {meth : Method} {c : Code} {D : va_G} {ck : Nat → ClassId} {ad : Nat → Nat} {b L i : Nat} {xs : Nat → Int32} {S : SG} {M : Mod} (X : LX p s m c D ck ad b L xs) (hR : RR S M) (hi : i + 5 ≤ L) (k : ∀ S2 M2, RR S2 M2 → LW p l e s m below meth c D ck ad b i 1112 [] (W2 S2 M2)) : LW p l e s m below meth c D ck ad b i 610 [] (W2 S M) := by
  obtain ⟨v, S2, M2, hR2, c6, c7⟩ := pr_hide hR (xs (i + 1)) (xs (i + 2)) (xs (i + 3))
  refine k_aload (pc := 610) (j := 2) X.1 dL_law_610 rfl rfl ?_
  refine l_arg (pc := 611) 1 X dL_law_611 dL_law_612 dL_law_613 dL_law_614 dL_law_615 (by decide) hi (by decide) ?_
  refine l_arg (pc := 616) 2 X dL_law_616 dL_law_617 dL_law_618 dL_law_619 dL_law_620 (by decide) hi (by decide) ?_
  refine l_arg (pc := 621) 3 X dL_law_621 dL_law_622 dL_law_623 dL_law_624 dL_law_625 (by decide) hi (by decide) ?_
  refine l_call (pc := 626) (cj := 6) (fs := wxO) (st := []) X c6 cv_X6_hide ⟨(Nat.le_of_ble_eq_true rfl), (Nat.le_of_ble_eq_true rfl)⟩ ml_L_82 dL_law_626 (by decide) (W2_0 _ _) rfl rfl rfl (Nat.le_of_ble_eq_true rfl) ?_
  refine k_aload (pc := 629) (j := 1) X.1 dL_law_629 rfl rfl ?_
  refine l_arg (pc := 630) 1 X dL_law_630 dL_law_631 dL_law_632 dL_law_633 dL_law_634 (by decide) hi (by decide) ?_
  refine l_arg (pc := 635) 2 X dL_law_635 dL_law_636 dL_law_637 dL_law_638 dL_law_639 (by decide) hi (by decide) ?_
  refine l_arg (pc := 640) 3 X dL_law_640 dL_law_641 dL_law_642 dL_law_643 dL_law_644 (by decide) hi (by decide) ?_
  refine l_call (pc := 645) (cj := 7) (fs := wm_obj 51 M) (st := [.int v]) X c7 cv_X7_hide ⟨(Nat.le_of_ble_eq_true rfl), (Nat.le_of_ble_eq_true rfl)⟩ ml_L_85 dL_law_645 (by decide) (W2_51 _ _) rfl rfl rfl (Nat.le_of_ble_eq_true rfl) ?_
  refine l_eqI (pc := 648) 1112 X dL_law_648 (by decide) ?_
  exact k S2 M2 hR2
theorem lc_tale {p : Program} {l : Launch} {e : Env} {s : State} {m : MethodId} {below : List Frame} {meth : Method} {c : Code} {D : va_G} {ck : Nat → ClassId} {ad : Nat → Nat} {b L i : Nat} {xs : Nat → Int32} {S : SG} {M : Mod} (X : LX p s m c D ck ad b L xs) (hR : RR S M) (hi : i + 5 ≤ L) (k : ∀ S2 M2, RR S2 M2 → LW p l e s m below meth c D ck ad b i 1112 [] (W2 S2 M2)) : LW p l e s m below meth c D ck ad b i 653 [] (W2 S M) := by
  obtain ⟨v, S2, M2, hR2, c6, c7⟩ := pr_tale hR (xs (i + 1)) (xs (i + 2)) (tf (xs (i + 3)))
  refine k_aload (pc := 653) (j := 2) X.1 dL_law_653 rfl rfl ?_
  refine l_arg (pc := 654) 1 X dL_law_654 dL_law_655 dL_law_656 dL_law_657 dL_law_658 (by decide) hi (by decide) ?_
  refine l_arg (pc := 659) 2 X dL_law_659 dL_law_660 dL_law_661 dL_law_662 dL_law_663 (by decide) hi (by decide) ?_
  refine l_argB (pc := 664) 3 X dL_law_664 dL_law_665 dL_law_666 dL_law_667 dL_law_668 dL_law_669 (by decide) dL_law_672 dL_law_673 (by decide) dL_law_676 (by decide) hi (by decide) ?_
  refine l_call (pc := 677) (cj := 6) (fs := wxO) (st := []) X c6 cv_X6_tale ⟨(Nat.le_of_ble_eq_true rfl), (Nat.le_of_ble_eq_true rfl)⟩ ml_L_86 dL_law_677 (by decide) (W2_0 _ _) rfl rfl rfl (Nat.le_of_ble_eq_true rfl) ?_
  refine k_aload (pc := 680) (j := 1) X.1 dL_law_680 rfl rfl ?_
  refine l_arg (pc := 681) 1 X dL_law_681 dL_law_682 dL_law_683 dL_law_684 dL_law_685 (by decide) hi (by decide) ?_
  refine l_arg (pc := 686) 2 X dL_law_686 dL_law_687 dL_law_688 dL_law_689 dL_law_690 (by decide) hi (by decide) ?_
  refine l_argB (pc := 691) 3 X dL_law_691 dL_law_692 dL_law_693 dL_law_694 dL_law_695 dL_law_696 (by decide) dL_law_699 dL_law_700 (by decide) dL_law_703 (by decide) hi (by decide) ?_
  refine l_call (pc := 704) (cj := 7) (fs := wm_obj 51 M) (st := [.int v]) X c7 cv_X7_tale ⟨(Nat.le_of_ble_eq_true rfl), (Nat.le_of_ble_eq_true rfl)⟩ ml_L_89 dL_law_704 (by decide) (W2_51 _ _) rfl rfl rfl (Nat.le_of_ble_eq_true rfl) ?_
  refine l_eqI (pc := 707) 1112 X dL_law_707 (by decide) ?_
  exact k S2 M2 hR2
theorem lc_hush {p : Program} {l : Launch} {e : Env} {s : State} {m : MethodId} {below : List Frame} {meth : Method} {c : Code} {D : va_G} {ck : Nat → ClassId} {ad : Nat → Nat} {b L i : Nat} {xs : Nat → Int32} {S : SG} {M : Mod} (X : LX p s m c D ck ad b L xs) (hR : RR S M) (hi : i + 5 ≤ L) (k : ∀ S2 M2, RR S2 M2 → LW p l e s m below meth c D ck ad b i 1112 [] (W2 S2 M2)) : LW p l e s m below meth c D ck ad b i 712 [] (W2 S M) := by
  obtain ⟨v, S2, M2, hR2, c6, c7⟩ := pr_hush hR 
  refine k_aload (pc := 712) (j := 2) X.1 dL_law_712 rfl rfl ?_
  refine l_call (pc := 713) (cj := 6) (fs := wxO) (st := []) X c6 cv_X6_hush ⟨(Nat.le_of_ble_eq_true rfl), (Nat.le_of_ble_eq_true rfl)⟩ ml_L_90 dL_law_713 (by decide) (W2_0 _ _) rfl rfl rfl (Nat.le_of_ble_eq_true rfl) ?_
  refine k_aload (pc := 716) (j := 1) X.1 dL_law_716 rfl rfl ?_
  refine l_call (pc := 717) (cj := 7) (fs := wm_obj 51 M) (st := [.int v]) X c7 cv_X7_hush ⟨(Nat.le_of_ble_eq_true rfl), (Nat.le_of_ble_eq_true rfl)⟩ ml_L_93 dL_law_717 (by decide) (W2_51 _ _) rfl rfl rfl (Nat.le_of_ble_eq_true rfl) ?_
  refine l_eqI (pc := 720) 1112 X dL_law_720 (by decide) ?_
  exact k S2 M2 hR2
theorem lc_liars {p : Program} {l : Launch} {e : Env} {s : State} {m : MethodId} {below : List Frame} {meth : Method} {c : Code} {D : va_G} {ck : Nat → ClassId} {ad : Nat → Nat} {b L i : Nat} {xs : Nat → Int32} {S : SG} {M : Mod} (X : LX p s m c D ck ad b L xs) (hR : RR S M) (hi : i + 5 ≤ L) (k : ∀ S2 M2, RR S2 M2 → LW p l e s m below meth c D ck ad b i 1112 [] (W2 S2 M2)) : LW p l e s m below meth c D ck ad b i 725 [] (W2 S M) := by
  obtain ⟨v, S2, M2, hR2, c6, c7⟩ := pr_liars hR (xs (i + 1))
  refine k_aload (pc := 725) (j := 2) X.1 dL_law_725 rfl rfl ?_
  refine l_arg (pc := 726) 1 X dL_law_726 dL_law_727 dL_law_728 dL_law_729 dL_law_730 (by decide) hi (by decide) ?_
  refine l_call (pc := 731) (cj := 6) (fs := wxO) (st := []) X c6 cv_X6_liars ⟨(Nat.le_of_ble_eq_true rfl), (Nat.le_of_ble_eq_true rfl)⟩ ml_L_94 dL_law_731 (by decide) (W2_0 _ _) rfl rfl rfl (Nat.le_of_ble_eq_true rfl) ?_
  refine k_aload (pc := 734) (j := 1) X.1 dL_law_734 rfl rfl ?_
  refine l_arg (pc := 735) 1 X dL_law_735 dL_law_736 dL_law_737 dL_law_738 dL_law_739 (by decide) hi (by decide) ?_
  refine l_call (pc := 740) (cj := 7) (fs := wm_obj 51 M) (st := [.int v]) X c7 cv_X7_liars ⟨(Nat.le_of_ble_eq_true rfl), (Nat.le_of_ble_eq_true rfl)⟩ ml_L_97 dL_law_740 (by decide) (W2_51 _ _) rfl rfl rfl (Nat.le_of_ble_eq_true rfl) ?_
  refine l_eqI (pc := 743) 1112 X dL_law_743 (by decide) ?_
  exact k S2 M2 hR2
theorem lc_leaves {p : Program} {l : Launch} {e : Env} {s : State} {m : MethodId} {below : List Frame} {meth : Method} {c : Code} {D : va_G} {ck : Nat → ClassId} {ad : Nat → Nat} {b L i : Nat} {xs : Nat → Int32} {S : SG} {M : Mod} (X : LX p s m c D ck ad b L xs) (hR : RR S M) (hi : i + 5 ≤ L) (k : ∀ S2 M2, RR S2 M2 → LW p l e s m below meth c D ck ad b i 1112 [] (W2 S2 M2)) : LW p l e s m below meth c D ck ad b i 748 [] (W2 S M) := by
  obtain ⟨v, S2, M2, hR2, c6, c7⟩ := pr_leaves hR (xs (i + 1))
  refine k_aload (pc := 748) (j := 2) X.1 dL_law_748 rfl rfl ?_
  refine l_arg (pc := 749) 1 X dL_law_749 dL_law_750 dL_law_751 dL_law_752 dL_law_753 (by decide) hi (by decide) ?_
  refine l_call (pc := 754) (cj := 6) (fs := wxO) (st := []) X c6 cv_X6_leaves ⟨(Nat.le_of_ble_eq_true rfl), (Nat.le_of_ble_eq_true rfl)⟩ ml_L_98 dL_law_754 (by decide) (W2_0 _ _) rfl rfl rfl (Nat.le_of_ble_eq_true rfl) ?_
  refine k_aload (pc := 757) (j := 1) X.1 dL_law_757 rfl rfl ?_
  refine l_arg (pc := 758) 1 X dL_law_758 dL_law_759 dL_law_760 dL_law_761 dL_law_762 (by decide) hi (by decide) ?_
  refine l_call (pc := 763) (cj := 7) (fs := wm_obj 51 M) (st := [.int v]) X c7 cv_X7_leaves ⟨(Nat.le_of_ble_eq_true rfl), (Nat.le_of_ble_eq_true rfl)⟩ ml_L_101 dL_law_763 (by decide) (W2_51 _ _) rfl rfl rfl (Nat.le_of_ble_eq_true rfl) ?_
  refine l_eqI (pc := 766) 1112 X dL_law_766 (by decide) ?_
  exact k S2 M2 hR2
theorem lc_seen {p : Program} {l : Launch} {e : Env} {s : State} {m : MethodId} {below : List Frame} {meth : Method} {c : Code} {D : va_G} {ck : Nat → ClassId} {ad : Nat → Nat} {b L i : Nat} {xs : Nat → Int32} {S : SG} {M : Mod} (X : LX p s m c D ck ad b L xs) (hR : RR S M) (hi : i + 5 ≤ L) (k : ∀ S2 M2, RR S2 M2 → LW p l e s m below meth c D ck ad b i 1112 [] (W2 S2 M2)) : LW p l e s m below meth c D ck ad b i 771 [] (W2 S M) := by
  obtain ⟨v, S2, M2, hR2, c6, c7⟩ := pr_seen hR (xs (i + 1)) (tf (xs (i + 2)))
  refine k_aload (pc := 771) (j := 2) X.1 dL_law_771 rfl rfl ?_
  refine l_arg (pc := 772) 1 X dL_law_772 dL_law_773 dL_law_774 dL_law_775 dL_law_776 (by decide) hi (by decide) ?_
  refine l_argB (pc := 777) 2 X dL_law_777 dL_law_778 dL_law_779 dL_law_780 dL_law_781 dL_law_782 (by decide) dL_law_785 dL_law_786 (by decide) dL_law_789 (by decide) hi (by decide) ?_
  refine l_call (pc := 790) (cj := 6) (fs := wxO) (st := []) X c6 cv_X6_seen ⟨(Nat.le_of_ble_eq_true rfl), (Nat.le_of_ble_eq_true rfl)⟩ ml_L_102 dL_law_790 (by decide) (W2_0 _ _) rfl rfl rfl (Nat.le_of_ble_eq_true rfl) ?_
  refine k_aload (pc := 793) (j := 1) X.1 dL_law_793 rfl rfl ?_
  refine l_arg (pc := 794) 1 X dL_law_794 dL_law_795 dL_law_796 dL_law_797 dL_law_798 (by decide) hi (by decide) ?_
  refine l_argB (pc := 799) 2 X dL_law_799 dL_law_800 dL_law_801 dL_law_802 dL_law_803 dL_law_804 (by decide) dL_law_807 dL_law_808 (by decide) dL_law_811 (by decide) hi (by decide) ?_
  refine l_call (pc := 812) (cj := 7) (fs := wm_obj 51 M) (st := [.int v]) X c7 cv_X7_seen ⟨(Nat.le_of_ble_eq_true rfl), (Nat.le_of_ble_eq_true rfl)⟩ ml_L_106 dL_law_812 (by decide) (W2_51 _ _) rfl rfl rfl (Nat.le_of_ble_eq_true rfl) ?_
  refine l_eqI (pc := 815) 1112 X dL_law_815 (by decide) ?_
  exact k S2 M2 hR2
theorem lc_forget {p : Program} {l : Launch} {e : Env} {s : State} {m : MethodId} {below : List Frame} {meth : Method} {c : Code} {D : va_G} {ck : Nat → ClassId} {ad : Nat → Nat} {b L i : Nat} {xs : Nat → Int32} {S : SG} {M : Mod} (X : LX p s m c D ck ad b L xs) (hR : RR S M) (hi : i + 5 ≤ L) (k : ∀ S2 M2, RR S2 M2 → LW p l e s m below meth c D ck ad b i 1112 [] (W2 S2 M2)) : LW p l e s m below meth c D ck ad b i 820 [] (W2 S M) := by
  obtain ⟨v, S2, M2, hR2, c6, c7⟩ := pr_forget hR 
  refine k_aload (pc := 820) (j := 2) X.1 dL_law_820 rfl rfl ?_
  refine l_call (pc := 821) (cj := 6) (fs := wxO) (st := []) X c6 cv_X6_forget ⟨(Nat.le_of_ble_eq_true rfl), (Nat.le_of_ble_eq_true rfl)⟩ ml_L_107 dL_law_821 (by decide) (W2_0 _ _) rfl rfl rfl (Nat.le_of_ble_eq_true rfl) ?_
  refine k_aload (pc := 824) (j := 1) X.1 dL_law_824 rfl rfl ?_
  refine l_call (pc := 825) (cj := 7) (fs := wm_obj 51 M) (st := [.int v]) X c7 cv_X7_forget ⟨(Nat.le_of_ble_eq_true rfl), (Nat.le_of_ble_eq_true rfl)⟩ ml_L_110 dL_law_825 (by decide) (W2_51 _ _) rfl rfl rfl (Nat.le_of_ble_eq_true rfl) ?_
  refine l_eqI (pc := 828) 1112 X dL_law_828 (by decide) ?_
  exact k S2 M2 hR2
theorem lc_lodes {p : Program} {l : Launch} {e : Env} {s : State} {m : MethodId} {below : List Frame} {meth : Method} {c : Code} {D : va_G} {ck : Nat → ClassId} {ad : Nat → Nat} {b L i : Nat} {xs : Nat → Int32} {S : SG} {M : Mod} (X : LX p s m c D ck ad b L xs) (hR : RR S M) (hi : i + 5 ≤ L) (k : ∀ S2 M2, RR S2 M2 → LW p l e s m below meth c D ck ad b i 1112 [] (W2 S2 M2)) : LW p l e s m below meth c D ck ad b i 833 [] (W2 S M) := by
  obtain ⟨v, S2, M2, hR2, c6, c7⟩ := pr_lodes hR (xs (i + 1))
  refine k_aload (pc := 833) (j := 2) X.1 dL_law_833 rfl rfl ?_
  refine l_arg (pc := 834) 1 X dL_law_834 dL_law_835 dL_law_836 dL_law_837 dL_law_838 (by decide) hi (by decide) ?_
  refine l_call (pc := 839) (cj := 6) (fs := wxO) (st := []) X c6 cv_X6_lodes ⟨(Nat.le_of_ble_eq_true rfl), (Nat.le_of_ble_eq_true rfl)⟩ ml_L_111 dL_law_839 (by decide) (W2_0 _ _) rfl rfl rfl (Nat.le_of_ble_eq_true rfl) ?_
  refine k_aload (pc := 842) (j := 1) X.1 dL_law_842 rfl rfl ?_
  refine l_arg (pc := 843) 1 X dL_law_843 dL_law_844 dL_law_845 dL_law_846 dL_law_847 (by decide) hi (by decide) ?_
  refine l_call (pc := 848) (cj := 7) (fs := wm_obj 51 M) (st := [.int v]) X c7 cv_X7_lodes ⟨(Nat.le_of_ble_eq_true rfl), (Nat.le_of_ble_eq_true rfl)⟩ ml_L_114 dL_law_848 (by decide) (W2_51 _ _) rfl rfl rfl (Nat.le_of_ble_eq_true rfl) ?_
  refine l_eqI (pc := 851) 1112 X dL_law_851 (by decide) ?_
  exact k S2 M2 hR2
theorem lc_odds {p : Program} {l : Launch} {e : Env} {s : State} {m : MethodId} {below : List Frame} {meth : Method} {c : Code} {D : va_G} {ck : Nat → ClassId} {ad : Nat → Nat} {b L i : Nat} {xs : Nat → Int32} {S : SG} {M : Mod} (X : LX p s m c D ck ad b L xs) (hR : RR S M) (hi : i + 5 ≤ L) (k : ∀ S2 M2, RR S2 M2 → LW p l e s m below meth c D ck ad b i 1112 [] (W2 S2 M2)) : LW p l e s m below meth c D ck ad b i 856 [] (W2 S M) := by
  obtain ⟨v, S2, M2, hR2, c6, c7⟩ := pr_odds hR (xs (i + 1)) (xs (i + 2))
  refine k_aload (pc := 856) (j := 2) X.1 dL_law_856 rfl rfl ?_
  refine l_arg (pc := 857) 1 X dL_law_857 dL_law_858 dL_law_859 dL_law_860 dL_law_861 (by decide) hi (by decide) ?_
  refine l_arg (pc := 862) 2 X dL_law_862 dL_law_863 dL_law_864 dL_law_865 dL_law_866 (by decide) hi (by decide) ?_
  refine l_call (pc := 867) (cj := 6) (fs := wxO) (st := []) X c6 cv_X6_odds ⟨(Nat.le_of_ble_eq_true rfl), (Nat.le_of_ble_eq_true rfl)⟩ ml_L_115 dL_law_867 (by decide) (W2_0 _ _) rfl rfl rfl (Nat.le_of_ble_eq_true rfl) ?_
  refine k_aload (pc := 870) (j := 1) X.1 dL_law_870 rfl rfl ?_
  refine l_arg (pc := 871) 1 X dL_law_871 dL_law_872 dL_law_873 dL_law_874 dL_law_875 (by decide) hi (by decide) ?_
  refine l_arg (pc := 876) 2 X dL_law_876 dL_law_877 dL_law_878 dL_law_879 dL_law_880 (by decide) hi (by decide) ?_
  refine l_call (pc := 881) (cj := 7) (fs := wm_obj 51 M) (st := [.long v]) X c7 cv_X7_odds ⟨(Nat.le_of_ble_eq_true rfl), (Nat.le_of_ble_eq_true rfl)⟩ ml_L_119 dL_law_881 (by decide) (W2_51 _ _) rfl rfl rfl (Nat.le_of_ble_eq_true rfl) ?_
  refine l_eqL (pc := 884) 1112 X dL_law_884 dL_law_885 (by decide) ?_
  exact k S2 M2 hR2
theorem lc_next {p : Program} {l : Launch} {e : Env} {s : State} {m : MethodId} {below : List Frame} {meth : Method} {c : Code} {D : va_G} {ck : Nat → ClassId} {ad : Nat → Nat} {b L i : Nat} {xs : Nat → Int32} {S : SG} {M : Mod} (X : LX p s m c D ck ad b L xs) (hR : RR S M) (hi : i + 5 ≤ L) (k : ∀ S2 M2, RR S2 M2 → LW p l e s m below meth c D ck ad b i 1112 [] (W2 S2 M2)) : LW p l e s m below meth c D ck ad b i 890 [] (W2 S M) := by
  obtain ⟨v, S2, M2, hR2, c6, c7⟩ := pr_next hR (xs (i + 1))
  refine k_aload (pc := 890) (j := 2) X.1 dL_law_890 rfl rfl ?_
  refine l_arg (pc := 891) 1 X dL_law_891 dL_law_892 dL_law_893 dL_law_894 dL_law_895 (by decide) hi (by decide) ?_
  refine l_call (pc := 896) (cj := 6) (fs := wxO) (st := []) X c6 cv_X6_next ⟨(Nat.le_of_ble_eq_true rfl), (Nat.le_of_ble_eq_true rfl)⟩ ml_L_120 dL_law_896 (by decide) (W2_0 _ _) rfl rfl rfl (Nat.le_of_ble_eq_true rfl) ?_
  refine k_aload (pc := 899) (j := 1) X.1 dL_law_899 rfl rfl ?_
  refine l_arg (pc := 900) 1 X dL_law_900 dL_law_901 dL_law_902 dL_law_903 dL_law_904 (by decide) hi (by decide) ?_
  refine l_call (pc := 905) (cj := 7) (fs := wm_obj 51 M) (st := [.int v]) X c7 cv_X7_next ⟨(Nat.le_of_ble_eq_true rfl), (Nat.le_of_ble_eq_true rfl)⟩ ml_L_123 dL_law_905 (by decide) (W2_51 _ _) rfl rfl rfl (Nat.le_of_ble_eq_true rfl) ?_
  refine l_eqI (pc := 908) 1112 X dL_law_908 (by decide) ?_
  exact k S2 M2 hR2
theorem lc_turns {p : Program} {l : Launch} {e : Env} {s : State} {m : MethodId} {below : List Frame} {meth : Method} {c : Code} {D : va_G} {ck : Nat → ClassId} {ad : Nat → Nat} {b L i : Nat} {xs : Nat → Int32} {S : SG} {M : Mod} (X : LX p s m c D ck ad b L xs) (hR : RR S M) (hi : i + 5 ≤ L) (k : ∀ S2 M2, RR S2 M2 → LW p l e s m below meth c D ck ad b i 1112 [] (W2 S2 M2)) : LW p l e s m below meth c D ck ad b i 913 [] (W2 S M) := by
  obtain ⟨v, S2, M2, hR2, c6, c7⟩ := pr_turns hR (xs (i + 1)) (xs (i + 2))
  refine k_aload (pc := 913) (j := 2) X.1 dL_law_913 rfl rfl ?_
  refine l_arg (pc := 914) 1 X dL_law_914 dL_law_915 dL_law_916 dL_law_917 dL_law_918 (by decide) hi (by decide) ?_
  refine l_arg (pc := 919) 2 X dL_law_919 dL_law_920 dL_law_921 dL_law_922 dL_law_923 (by decide) hi (by decide) ?_
  refine l_call (pc := 924) (cj := 6) (fs := wxO) (st := []) X c6 cv_X6_turns ⟨(Nat.le_of_ble_eq_true rfl), (Nat.le_of_ble_eq_true rfl)⟩ ml_L_124 dL_law_924 (by decide) (W2_0 _ _) rfl rfl rfl (Nat.le_of_ble_eq_true rfl) ?_
  refine k_aload (pc := 927) (j := 1) X.1 dL_law_927 rfl rfl ?_
  refine l_arg (pc := 928) 1 X dL_law_928 dL_law_929 dL_law_930 dL_law_931 dL_law_932 (by decide) hi (by decide) ?_
  refine l_arg (pc := 933) 2 X dL_law_933 dL_law_934 dL_law_935 dL_law_936 dL_law_937 (by decide) hi (by decide) ?_
  refine l_call (pc := 938) (cj := 7) (fs := wm_obj 51 M) (st := [.int v]) X c7 cv_X7_turns ⟨(Nat.le_of_ble_eq_true rfl), (Nat.le_of_ble_eq_true rfl)⟩ ml_L_127 dL_law_938 (by decide) (W2_51 _ _) rfl rfl rfl (Nat.le_of_ble_eq_true rfl) ?_
  refine l_eqI (pc := 941) 1112 X dL_law_941 (by decide) ?_
  exact k S2 M2 hR2
theorem lc_colds {p : Program} {l : Launch} {e : Env} {s : State} {m : MethodId} {below : List Frame} {meth : Method} {c : Code} {D : va_G} {ck : Nat → ClassId} {ad : Nat → Nat} {b L i : Nat} {xs : Nat → Int32} {S : SG} {M : Mod} (X : LX p s m c D ck ad b L xs) (hR : RR S M) (hi : i + 5 ≤ L) (k : ∀ S2 M2, RR S2 M2 → LW p l e s m below meth c D ck ad b i 1112 [] (W2 S2 M2)) : LW p l e s m below meth c D ck ad b i 946 [] (W2 S M) := by
  obtain ⟨v, S2, M2, hR2, c6, c7⟩ := pr_colds hR (xs (i + 1)) (xs (i + 2)) (xs (i + 3)) (xs (i + 4))
  refine k_aload (pc := 946) (j := 2) X.1 dL_law_946 rfl rfl ?_
  refine l_arg (pc := 947) 1 X dL_law_947 dL_law_948 dL_law_949 dL_law_950 dL_law_951 (by decide) hi (by decide) ?_
  refine l_arg (pc := 952) 2 X dL_law_952 dL_law_953 dL_law_954 dL_law_955 dL_law_956 (by decide) hi (by decide) ?_
  refine l_arg (pc := 957) 3 X dL_law_957 dL_law_958 dL_law_959 dL_law_960 dL_law_961 (by decide) hi (by decide) ?_
  refine l_arg (pc := 962) 4 X dL_law_962 dL_law_963 dL_law_964 dL_law_965 dL_law_966 (by decide) hi (by decide) ?_
  refine l_call (pc := 967) (cj := 6) (fs := wxO) (st := []) X c6 cv_X6_colds ⟨(Nat.le_of_ble_eq_true rfl), (Nat.le_of_ble_eq_true rfl)⟩ ml_L_128 dL_law_967 (by decide) (W2_0 _ _) rfl rfl rfl (Nat.le_of_ble_eq_true rfl) ?_
  refine k_aload (pc := 970) (j := 1) X.1 dL_law_970 rfl rfl ?_
  refine l_arg (pc := 971) 1 X dL_law_971 dL_law_972 dL_law_973 dL_law_974 dL_law_975 (by decide) hi (by decide) ?_
  refine l_arg (pc := 976) 2 X dL_law_976 dL_law_977 dL_law_978 dL_law_979 dL_law_980 (by decide) hi (by decide) ?_
  refine l_arg (pc := 981) 3 X dL_law_981 dL_law_982 dL_law_983 dL_law_984 dL_law_985 (by decide) hi (by decide) ?_
  refine l_arg (pc := 986) 4 X dL_law_986 dL_law_987 dL_law_988 dL_law_989 dL_law_990 (by decide) hi (by decide) ?_
  refine l_call (pc := 991) (cj := 7) (fs := wm_obj 51 M) (st := [.long v]) X c7 cv_X7_colds ⟨(Nat.le_of_ble_eq_true rfl), (Nat.le_of_ble_eq_true rfl)⟩ ml_L_132 dL_law_991 (by decide) (W2_51 _ _) rfl rfl rfl (Nat.le_of_ble_eq_true rfl) ?_
  refine l_eqL (pc := 994) 1112 X dL_law_994 dL_law_995 (by decide) ?_
  exact k S2 M2 hR2
theorem lc_year {p : Program} {l : Launch} {e : Env} {s : State} {m : MethodId} {below : List Frame} {meth : Method} {c : Code} {D : va_G} {ck : Nat → ClassId} {ad : Nat → Nat} {b L i : Nat} {xs : Nat → Int32} {S : SG} {M : Mod} (X : LX p s m c D ck ad b L xs) (hR : RR S M) (hi : i + 5 ≤ L) (k : ∀ S2 M2, RR S2 M2 → LW p l e s m below meth c D ck ad b i 1112 [] (W2 S2 M2)) : LW p l e s m below meth c D ck ad b i 1000 [] (W2 S M) := by
  obtain ⟨v, S2, M2, hR2, c6, c7⟩ := pr_year hR (xs (i + 1)) (xs (i + 2)) (xs (i + 3))
  refine k_aload (pc := 1000) (j := 2) X.1 dL_law_1000 rfl rfl ?_
  refine l_arg (pc := 1001) 1 X dL_law_1001 dL_law_1002 dL_law_1003 dL_law_1004 dL_law_1005 (by decide) hi (by decide) ?_
  refine l_arg (pc := 1006) 2 X dL_law_1006 dL_law_1007 dL_law_1008 dL_law_1009 dL_law_1010 (by decide) hi (by decide) ?_
  refine l_arg (pc := 1011) 3 X dL_law_1011 dL_law_1012 dL_law_1013 dL_law_1014 dL_law_1015 (by decide) hi (by decide) ?_
  refine l_call (pc := 1016) (cj := 6) (fs := wxO) (st := []) X c6 cv_X6_year ⟨(Nat.le_of_ble_eq_true rfl), (Nat.le_of_ble_eq_true rfl)⟩ ml_L_133 dL_law_1016 (by decide) (W2_0 _ _) rfl rfl rfl (Nat.le_of_ble_eq_true rfl) ?_
  refine k_aload (pc := 1019) (j := 1) X.1 dL_law_1019 rfl rfl ?_
  refine l_arg (pc := 1020) 1 X dL_law_1020 dL_law_1021 dL_law_1022 dL_law_1023 dL_law_1024 (by decide) hi (by decide) ?_
  refine l_arg (pc := 1025) 2 X dL_law_1025 dL_law_1026 dL_law_1027 dL_law_1028 dL_law_1029 (by decide) hi (by decide) ?_
  refine l_arg (pc := 1030) 3 X dL_law_1030 dL_law_1031 dL_law_1032 dL_law_1033 dL_law_1034 (by decide) hi (by decide) ?_
  refine l_call (pc := 1035) (cj := 7) (fs := wm_obj 51 M) (st := [.int v]) X c7 cv_X7_year ⟨(Nat.le_of_ble_eq_true rfl), (Nat.le_of_ble_eq_true rfl)⟩ ml_L_136 dL_law_1035 (by decide) (W2_51 _ _) rfl rfl rfl (Nat.le_of_ble_eq_true rfl) ?_
  refine l_eqI (pc := 1038) 1112 X dL_law_1038 (by decide) ?_
  exact k S2 M2 hR2
theorem lc_image {p : Program} {l : Launch} {e : Env} {s : State} {m : MethodId} {below : List Frame} {meth : Method} {c : Code} {D : va_G} {ck : Nat → ClassId} {ad : Nat → Nat} {b L i : Nat} {xs : Nat → Int32} {S : SG} {M : Mod} (X : LX p s m c D ck ad b L xs) (hR : RR S M) (hi : i + 5 ≤ L) (k : ∀ S2 M2, RR S2 M2 → LW p l e s m below meth c D ck ad b i 1112 [] (W2 S2 M2)) : LW p l e s m below meth c D ck ad b i 1043 [] (W2 S M) := by
  obtain ⟨v, S2, M2, hR2, c6, c7⟩ := pr_image hR (xs (i + 1))
  refine k_aload (pc := 1043) (j := 2) X.1 dL_law_1043 rfl rfl ?_
  refine l_arg (pc := 1044) 1 X dL_law_1044 dL_law_1045 dL_law_1046 dL_law_1047 dL_law_1048 (by decide) hi (by decide) ?_
  refine l_call (pc := 1049) (cj := 6) (fs := wxO) (st := []) X c6 cv_X6_image ⟨(Nat.le_of_ble_eq_true rfl), (Nat.le_of_ble_eq_true rfl)⟩ ml_L_137 dL_law_1049 (by decide) (W2_0 _ _) rfl rfl rfl (Nat.le_of_ble_eq_true rfl) ?_
  refine k_aload (pc := 1052) (j := 1) X.1 dL_law_1052 rfl rfl ?_
  refine l_arg (pc := 1053) 1 X dL_law_1053 dL_law_1054 dL_law_1055 dL_law_1056 dL_law_1057 (by decide) hi (by decide) ?_
  refine l_call (pc := 1058) (cj := 7) (fs := wm_obj 51 M) (st := [.int v]) X c7 cv_X7_image ⟨(Nat.le_of_ble_eq_true rfl), (Nat.le_of_ble_eq_true rfl)⟩ ml_L_140 dL_law_1058 (by decide) (W2_51 _ _) rfl rfl rfl (Nat.le_of_ble_eq_true rfl) ?_
  refine l_eqI (pc := 1061) 1112 X dL_law_1061 (by decide) ?_
  exact k S2 M2 hR2
theorem lc_restore {p : Program} {l : Launch} {e : Env} {s : State} {m : MethodId} {below : List Frame} {meth : Method} {c : Code} {D : va_G} {ck : Nat → ClassId} {ad : Nat → Nat} {b L i : Nat} {xs : Nat → Int32} {S : SG} {M : Mod} (X : LX p s m c D ck ad b L xs) (hR : RR S M) (hi : i + 5 ≤ L) (k : ∀ S2 M2, RR S2 M2 → LW p l e s m below meth c D ck ad b i 1112 [] (W2 S2 M2)) : LW p l e s m below meth c D ck ad b i 1066 [] (W2 S M) := by
  obtain ⟨v, S2, M2, hR2, c6, c7⟩ := pr_restore hR (xs (i + 1))
  refine k_aload (pc := 1066) (j := 2) X.1 dL_law_1066 rfl rfl ?_
  refine l_arg (pc := 1067) 1 X dL_law_1067 dL_law_1068 dL_law_1069 dL_law_1070 dL_law_1071 (by decide) hi (by decide) ?_
  refine l_call (pc := 1072) (cj := 6) (fs := wxO) (st := []) X c6 cv_X6_restore ⟨(Nat.le_of_ble_eq_true rfl), (Nat.le_of_ble_eq_true rfl)⟩ ml_L_141 dL_law_1072 (by decide) (W2_0 _ _) rfl rfl rfl (Nat.le_of_ble_eq_true rfl) ?_
  refine k_aload (pc := 1075) (j := 1) X.1 dL_law_1075 rfl rfl ?_
  refine l_arg (pc := 1076) 1 X dL_law_1076 dL_law_1077 dL_law_1078 dL_law_1079 dL_law_1080 (by decide) hi (by decide) ?_
  refine l_call (pc := 1081) (cj := 7) (fs := wm_obj 51 M) (st := [.int v]) X c7 cv_X7_restore ⟨(Nat.le_of_ble_eq_true rfl), (Nat.le_of_ble_eq_true rfl)⟩ ml_L_144 dL_law_1081 (by decide) (W2_51 _ _) rfl rfl rfl (Nat.le_of_ble_eq_true rfl) ?_
  refine l_eqI (pc := 1084) 1112 X dL_law_1084 (by decide) ?_
  exact k S2 M2 hR2
theorem lc_told {p : Program} {l : Launch} {e : Env} {s : State} {m : MethodId} {below : List Frame} {meth : Method} {c : Code} {D : va_G} {ck : Nat → ClassId} {ad : Nat → Nat} {b L i : Nat} {xs : Nat → Int32} {S : SG} {M : Mod} (X : LX p s m c D ck ad b L xs) (hR : RR S M) (hi : i + 5 ≤ L) (k : ∀ S2 M2, RR S2 M2 → LW p l e s m below meth c D ck ad b i 1112 [] (W2 S2 M2)) : LW p l e s m below meth c D ck ad b i 1089 [] (W2 S M) := by
  obtain ⟨v, S2, M2, hR2, c6, c7⟩ := pr_told hR (xs (i + 1))
  refine k_aload (pc := 1089) (j := 2) X.1 dL_law_1089 rfl rfl ?_
  refine l_arg (pc := 1090) 1 X dL_law_1090 dL_law_1091 dL_law_1092 dL_law_1093 dL_law_1094 (by decide) hi (by decide) ?_
  refine l_call (pc := 1095) (cj := 6) (fs := wxO) (st := []) X c6 cv_X6_told ⟨(Nat.le_of_ble_eq_true rfl), (Nat.le_of_ble_eq_true rfl)⟩ ml_L_145 dL_law_1095 (by decide) (W2_0 _ _) rfl rfl rfl (Nat.le_of_ble_eq_true rfl) ?_
  refine k_aload (pc := 1098) (j := 1) X.1 dL_law_1098 rfl rfl ?_
  refine l_arg (pc := 1099) 1 X dL_law_1099 dL_law_1100 dL_law_1101 dL_law_1102 dL_law_1103 (by decide) hi (by decide) ?_
  refine l_call (pc := 1104) (cj := 7) (fs := wm_obj 51 M) (st := [.int v]) X c7 cv_X7_told ⟨(Nat.le_of_ble_eq_true rfl), (Nat.le_of_ble_eq_true rfl)⟩ ml_L_148 dL_law_1104 (by decide) (W2_51 _ _) rfl rfl rfl (Nat.le_of_ble_eq_true rfl) ?_
  refine l_eqI (pc := 1107) 1112 X dL_law_1107 (by decide) ?_
  exact k S2 M2 hR2
