/-! ===== printed: the law, call by call ===== -/
section LL
variable {tb : List (Nat × Nat × Nat × Nat)} {g : GP} {adr : Nat → Nat} {b L i k n : Nat} {xs : Nat → Int32} {Q : QT} {μ : Mem} {α : A7}
set_option maxRecDepth 100000 in
set_option maxHeartbeats 4000000 in
theorem law_0 (hb : b < g.1) (hL : L ≤ 2048) (hi : i + 4 ≤ L) (hC : CR μ α) (hM : MR μ α) (hk : k + 1 ≤ 601024) (hn : n + 6 ≤ 7293034) (K : LK tb g adr b L xs Q i (k + 1) (n + 6)) : J g (mL_law tb) room_1 (QX b L xs Q) k n (WM g adr μ) 208 [some (.ref b), some (.ref (adr 0)), some (.ref (adr 237)), some (.ref (adr 247)), some (.int (nI i)), none, none, none, none] [] := by
  obtain ⟨c, v, v2, α1, ψ, hc10, hv, hz, hψ, hw, hm⟩ := k_turn (g := g) (adr := adr) (xs (i + 1)) (xs (i + 2)) hC hM
  refine J.al1 dL_law_208 ?_
  refine J.al0 dL_law_209 ?_
  refine J.il4 dL_law_210 ?_
  refine J.iconst dL_law_212 kI_1 ?_
  refine J.iaddN dL_law_213 ?_
  refine J.sld hb (by omega) (by omega) dL_law_214 ?_
  refine J.al0 dL_law_215 ?_
  refine J.il4 dL_law_216 ?_
  refine J.iconst dL_law_218 kI_2 ?_
  refine J.iaddN dL_law_219 ?_
  refine J.sld hb (by omega) (by omega) dL_law_220 ?_
  refine J.al3 dL_law_221 ?_
  refine cl_L_132 rfl (k' := k + 1) (n' := n + 6) hw ⟨⟨by decide, by decide⟩, ⟨rfl, rfl⟩, hk, hn⟩ rfl dL_law_222 (fun μ1 h1 => ?_)
  obtain ⟨hC1, hM1, hout⟩ := hψ μ1 h1
  refine J.is5 dL_law_225 (Nat.le_of_ble_eq_true rfl) rfl ?_
  refine J.al2 dL_law_227 ?_
  refine J.al0 dL_law_228 ?_
  refine J.il4 dL_law_229 ?_
  refine J.iconst dL_law_231 kI_1 ?_
  refine J.iaddN dL_law_232 ?_
  refine J.sld hb (by omega) (by omega) dL_law_233 ?_
  refine J.al0 dL_law_234 ?_
  refine J.il4 dL_law_235 ?_
  refine J.iconst dL_law_237 kI_2 ?_
  refine J.iaddN dL_law_238 ?_
  refine J.sld hb (by omega) (by omega) dL_law_239 ?_
  refine cl_L_137 rfl (by decide) (k' := k + 1) (n' := n + 6) (hm μ1 hM1) ⟨⟨by decide, by decide⟩, ⟨rfl, rfl⟩, hk, hn⟩ rfl dL_law_240 (fun μ2 h2 => ?_)
  obtain ⟨hM2, ht, hf⟩ := h2
  refine J.is6 dL_law_243 (Nat.le_of_ble_eq_true rfl) rfl ?_
  refine J.al2 dL_law_245 ?_
  refine cl_L_138 rfl (by decide) (k' := k + 1) (n' := n + 6) (c_m_thrown _ ht) ⟨⟨by decide, by decide⟩, ⟨rfl, rfl⟩, hk, hn⟩ rfl dL_law_246 (fun μ3 h3 => ?_)
  rw [h3]; clear h3
  refine J.il5 dL_law_249 ?_
  refine J.icmp_eqN (tgt := 256) dL_law_251 (by decide) (by omega) (by omega) (fun _ => ?_) (fun q => absurd rfl q)
  refine J.il5 dL_law_256 ?_
  have fin : J g (mL_law tb) room_1 (QX b L xs Q) (k + 1) (n + 6) (WM g adr μ2) 273 [some (.ref b), some (.ref (adr 0)), some (.ref (adr 237)), some (.ref (adr 247)), some (.int (nI i)), some (.int (nI c)), some (.int v2), none, none] [] := by
    refine J.goto (tgt := 2391) dL_law_273 (by decide) ?_
    exact J.subR (K μ2 α1 (hC1.fm hf) hM2) ⟨rfl, ⟨rfl, ⟨rfl, ⟨rfl, ⟨rfl, trivial⟩⟩⟩⟩⟩
  refine J.if_neN (tgt := 273) dL_law_258 (by decide) (by omega) (fun _ => fin) (fun hc0 => ?_)
  have hvv := hv hc0
  subst hvv
  refine J.al3 dL_law_261 ?_
  refine J.iconst dL_law_262 kI_0 ?_
  refine J.lald (x := v2) (by decide) (by decide) ((congrFun (hf 247 (Or.inr rfl)) 0).trans (hout hc0)) dL_law_263 ?_
  refine J.il6 dL_law_264 ?_
  refine J.i2l dL_law_266 ?_
  refine J.lcmpE dL_law_267 ?_
  exact J.if_eq (tgt := 273) dL_law_268 (by decide) (fun _ => fin) (fun q => absurd rfl q)

set_option maxRecDepth 100000 in
set_option maxHeartbeats 4000000 in
theorem law_1 (hb : b < g.1) (hL : L ≤ 2048) (hi : i + 4 ≤ L) (hC : CR μ α) (hM : MR μ α) (hk : k + 1 ≤ 601024) (hn : n + 6 ≤ 7293034) (K : LK tb g adr b L xs Q i (k + 1) (n + 6)) : J g (mL_law tb) room_1 (QX b L xs Q) k n (WM g adr μ) 276 [some (.ref b), some (.ref (adr 0)), some (.ref (adr 237)), some (.ref (adr 247)), some (.int (nI i)), none, none, none, none] [] := by
  obtain ⟨c, v, v2, α1, ψ, hc10, hv, hz, hψ, hw, hm⟩ := k_shift (g := g) (adr := adr) (xs (i + 1)) (xs (i + 2)) hC hM
  refine J.al1 dL_law_276 ?_
  refine J.al0 dL_law_277 ?_
  refine J.il4 dL_law_278 ?_
  refine J.iconst dL_law_280 kI_1 ?_
  refine J.iaddN dL_law_281 ?_
  refine J.sld hb (by omega) (by omega) dL_law_282 ?_
  refine J.al0 dL_law_283 ?_
  refine J.il4 dL_law_284 ?_
  refine J.iconst dL_law_286 kI_2 ?_
  refine J.iaddN dL_law_287 ?_
  refine J.sld hb (by omega) (by omega) dL_law_288 ?_
  refine J.al3 dL_law_289 ?_
  refine cl_L_141 rfl (k' := k + 1) (n' := n + 6) hw ⟨⟨by decide, by decide⟩, ⟨rfl, rfl⟩, hk, hn⟩ rfl dL_law_290 (fun μ1 h1 => ?_)
  obtain ⟨hC1, hM1, hout⟩ := hψ μ1 h1
  refine J.is5 dL_law_293 (Nat.le_of_ble_eq_true rfl) rfl ?_
  refine J.al2 dL_law_295 ?_
  refine J.al0 dL_law_296 ?_
  refine J.il4 dL_law_297 ?_
  refine J.iconst dL_law_299 kI_1 ?_
  refine J.iaddN dL_law_300 ?_
  refine J.sld hb (by omega) (by omega) dL_law_301 ?_
  refine J.al0 dL_law_302 ?_
  refine J.il4 dL_law_303 ?_
  refine J.iconst dL_law_305 kI_2 ?_
  refine J.iaddN dL_law_306 ?_
  refine J.sld hb (by omega) (by omega) dL_law_307 ?_
  refine cl_L_143 rfl (by decide) (k' := k + 1) (n' := n + 6) (hm μ1 hM1) ⟨⟨by decide, by decide⟩, ⟨rfl, rfl⟩, hk, hn⟩ rfl dL_law_308 (fun μ2 h2 => ?_)
  obtain ⟨hM2, ht, hf⟩ := h2
  refine J.is6 dL_law_311 (Nat.le_of_ble_eq_true rfl) rfl ?_
  refine J.al2 dL_law_313 ?_
  refine cl_L_138 rfl (by decide) (k' := k + 1) (n' := n + 6) (c_m_thrown _ ht) ⟨⟨by decide, by decide⟩, ⟨rfl, rfl⟩, hk, hn⟩ rfl dL_law_314 (fun μ3 h3 => ?_)
  rw [h3]; clear h3
  refine J.il5 dL_law_317 ?_
  refine J.icmp_eqN (tgt := 324) dL_law_319 (by decide) (by omega) (by omega) (fun _ => ?_) (fun q => absurd rfl q)
  refine J.il5 dL_law_324 ?_
  have fin : J g (mL_law tb) room_1 (QX b L xs Q) (k + 1) (n + 6) (WM g adr μ2) 341 [some (.ref b), some (.ref (adr 0)), some (.ref (adr 237)), some (.ref (adr 247)), some (.int (nI i)), some (.int (nI c)), some (.int v2), none, none] [] := by
    refine J.goto (tgt := 2391) dL_law_341 (by decide) ?_
    exact J.subR (K μ2 α1 (hC1.fm hf) hM2) ⟨rfl, ⟨rfl, ⟨rfl, ⟨rfl, ⟨rfl, trivial⟩⟩⟩⟩⟩
  refine J.if_neN (tgt := 341) dL_law_326 (by decide) (by omega) (fun _ => fin) (fun hc0 => ?_)
  have hvv := hv hc0
  subst hvv
  refine J.al3 dL_law_329 ?_
  refine J.iconst dL_law_330 kI_0 ?_
  refine J.lald (x := v2) (by decide) (by decide) ((congrFun (hf 247 (Or.inr rfl)) 0).trans (hout hc0)) dL_law_331 ?_
  refine J.il6 dL_law_332 ?_
  refine J.i2l dL_law_334 ?_
  refine J.lcmpE dL_law_335 ?_
  exact J.if_eq (tgt := 341) dL_law_336 (by decide) (fun _ => fin) (fun q => absurd rfl q)

set_option maxRecDepth 100000 in
set_option maxHeartbeats 4000000 in
theorem law_2 (hb : b < g.1) (hL : L ≤ 2048) (hi : i + 4 ≤ L) (hC : CR μ α) (hM : MR μ α) (hk : k + 1 ≤ 601024) (hn : n + 6 ≤ 7293034) (K : LK tb g adr b L xs Q i (k + 1) (n + 6)) : J g (mL_law tb) room_1 (QX b L xs Q) k n (WM g adr μ) 344 [some (.ref b), some (.ref (adr 0)), some (.ref (adr 237)), some (.ref (adr 247)), some (.int (nI i)), none, none, none, none] [] := by
  obtain ⟨c, v, v2, α1, ψ, hc10, hv, hz, hψ, hw, hm⟩ := k_back (g := g) (adr := adr)  hC hM
  refine J.al1 dL_law_344 ?_
  refine J.al3 dL_law_345 ?_
  refine cl_L_144 rfl (k' := k + 1) (n' := n + 6) hw ⟨⟨by decide, by decide⟩, ⟨rfl, rfl⟩, hk, hn⟩ rfl dL_law_346 (fun μ1 h1 => ?_)
  obtain ⟨hC1, hM1, hout⟩ := hψ μ1 h1
  refine J.is5 dL_law_349 (Nat.le_of_ble_eq_true rfl) rfl ?_
  refine J.al2 dL_law_351 ?_
  refine cl_L_147 rfl (by decide) (k' := k + 1) (n' := n + 6) (hm μ1 hM1) ⟨⟨by decide, by decide⟩, ⟨rfl, rfl⟩, hk, hn⟩ rfl dL_law_352 (fun μ2 h2 => ?_)
  obtain ⟨hM2, ht, hf⟩ := h2
  refine J.is6 dL_law_355 (Nat.le_of_ble_eq_true rfl) rfl ?_
  refine J.al2 dL_law_357 ?_
  refine cl_L_138 rfl (by decide) (k' := k + 1) (n' := n + 6) (c_m_thrown _ ht) ⟨⟨by decide, by decide⟩, ⟨rfl, rfl⟩, hk, hn⟩ rfl dL_law_358 (fun μ3 h3 => ?_)
  rw [h3]; clear h3
  refine J.il5 dL_law_361 ?_
  refine J.icmp_eqN (tgt := 368) dL_law_363 (by decide) (by omega) (by omega) (fun _ => ?_) (fun q => absurd rfl q)
  refine J.il5 dL_law_368 ?_
  have fin : J g (mL_law tb) room_1 (QX b L xs Q) (k + 1) (n + 6) (WM g adr μ2) 385 [some (.ref b), some (.ref (adr 0)), some (.ref (adr 237)), some (.ref (adr 247)), some (.int (nI i)), some (.int (nI c)), some (.int v2), none, none] [] := by
    refine J.goto (tgt := 2391) dL_law_385 (by decide) ?_
    exact J.subR (K μ2 α1 (hC1.fm hf) hM2) ⟨rfl, ⟨rfl, ⟨rfl, ⟨rfl, ⟨rfl, trivial⟩⟩⟩⟩⟩
  refine J.if_neN (tgt := 385) dL_law_370 (by decide) (by omega) (fun _ => fin) (fun hc0 => ?_)
  have hvv := hv hc0
  subst hvv
  refine J.al3 dL_law_373 ?_
  refine J.iconst dL_law_374 kI_0 ?_
  refine J.lald (x := v2) (by decide) (by decide) ((congrFun (hf 247 (Or.inr rfl)) 0).trans (hout hc0)) dL_law_375 ?_
  refine J.il6 dL_law_376 ?_
  refine J.i2l dL_law_378 ?_
  refine J.lcmpE dL_law_379 ?_
  exact J.if_eq (tgt := 385) dL_law_380 (by decide) (fun _ => fin) (fun q => absurd rfl q)

set_option maxRecDepth 100000 in
set_option maxHeartbeats 4000000 in
theorem law_3 (hb : b < g.1) (hL : L ≤ 2048) (hi : i + 4 ≤ L) (hC : CR μ α) (hM : MR μ α) (hk : k + 1 ≤ 601024) (hn : n + 6 ≤ 7293034) (K : LK tb g adr b L xs Q i (k + 1) (n + 6)) : J g (mL_law tb) room_1 (QX b L xs Q) k n (WM g adr μ) 388 [some (.ref b), some (.ref (adr 0)), some (.ref (adr 237)), some (.ref (adr 247)), some (.int (nI i)), none, none, none, none] [] := by
  obtain ⟨c, v, v2, α1, ψ, hc10, hv, hz, hψ, hw, hm⟩ := k_scramble (g := g) (adr := adr) (xs (i + 1)) (xs (i + 2)) hC hM
  refine J.al1 dL_law_388 ?_
  refine J.al0 dL_law_389 ?_
  refine J.il4 dL_law_390 ?_
  refine J.iconst dL_law_392 kI_1 ?_
  refine J.iaddN dL_law_393 ?_
  refine J.sld hb (by omega) (by omega) dL_law_394 ?_
  refine J.al0 dL_law_395 ?_
  refine J.il4 dL_law_396 ?_
  refine J.iconst dL_law_398 kI_2 ?_
  refine J.iaddN dL_law_399 ?_
  refine J.sld hb (by omega) (by omega) dL_law_400 ?_
  refine J.al3 dL_law_401 ?_
  refine cl_L_148 rfl (k' := k + 1) (n' := n + 6) hw ⟨⟨by decide, by decide⟩, ⟨rfl, rfl⟩, hk, hn⟩ rfl dL_law_402 (fun μ1 h1 => ?_)
  obtain ⟨hC1, hM1, hout⟩ := hψ μ1 h1
  refine J.is5 dL_law_405 (Nat.le_of_ble_eq_true rfl) rfl ?_
  refine J.al2 dL_law_407 ?_
  refine J.al0 dL_law_408 ?_
  refine J.il4 dL_law_409 ?_
  refine J.iconst dL_law_411 kI_1 ?_
  refine J.iaddN dL_law_412 ?_
  refine J.sld hb (by omega) (by omega) dL_law_413 ?_
  refine J.al0 dL_law_414 ?_
  refine J.il4 dL_law_415 ?_
  refine J.iconst dL_law_417 kI_2 ?_
  refine J.iaddN dL_law_418 ?_
  refine J.sld hb (by omega) (by omega) dL_law_419 ?_
  refine cl_L_150 rfl (by decide) (k' := k + 1) (n' := n + 6) (hm μ1 hM1) ⟨⟨by decide, by decide⟩, ⟨rfl, rfl⟩, hk, hn⟩ rfl dL_law_420 (fun μ2 h2 => ?_)
  obtain ⟨hM2, ht, hf⟩ := h2
  refine J.is6 dL_law_423 (Nat.le_of_ble_eq_true rfl) rfl ?_
  refine J.al2 dL_law_425 ?_
  refine cl_L_138 rfl (by decide) (k' := k + 1) (n' := n + 6) (c_m_thrown _ ht) ⟨⟨by decide, by decide⟩, ⟨rfl, rfl⟩, hk, hn⟩ rfl dL_law_426 (fun μ3 h3 => ?_)
  rw [h3]; clear h3
  refine J.il5 dL_law_429 ?_
  refine J.icmp_eqN (tgt := 436) dL_law_431 (by decide) (by omega) (by omega) (fun _ => ?_) (fun q => absurd rfl q)
  refine J.il5 dL_law_436 ?_
  have fin : J g (mL_law tb) room_1 (QX b L xs Q) (k + 1) (n + 6) (WM g adr μ2) 453 [some (.ref b), some (.ref (adr 0)), some (.ref (adr 237)), some (.ref (adr 247)), some (.int (nI i)), some (.int (nI c)), some (.int v2), none, none] [] := by
    refine J.goto (tgt := 2391) dL_law_453 (by decide) ?_
    exact J.subR (K μ2 α1 (hC1.fm hf) hM2) ⟨rfl, ⟨rfl, ⟨rfl, ⟨rfl, ⟨rfl, trivial⟩⟩⟩⟩⟩
  refine J.if_neN (tgt := 453) dL_law_438 (by decide) (by omega) (fun _ => fin) (fun hc0 => ?_)
  have hvv := hv hc0
  subst hvv
  refine J.al3 dL_law_441 ?_
  refine J.iconst dL_law_442 kI_0 ?_
  refine J.lald (x := v2) (by decide) (by decide) ((congrFun (hf 247 (Or.inr rfl)) 0).trans (hout hc0)) dL_law_443 ?_
  refine J.il6 dL_law_444 ?_
  refine J.i2l dL_law_446 ?_
  refine J.lcmpE dL_law_447 ?_
  exact J.if_eq (tgt := 453) dL_law_448 (by decide) (fun _ => fin) (fun q => absurd rfl q)

set_option maxRecDepth 100000 in
set_option maxHeartbeats 4000000 in
theorem law_4 (hb : b < g.1) (hL : L ≤ 2048) (hi : i + 4 ≤ L) (hC : CR μ α) (hM : MR μ α) (hk : k + 1 ≤ 601024) (hn : n + 6 ≤ 7293034) (K : LK tb g adr b L xs Q i (k + 1) (n + 6)) : J g (mL_law tb) room_1 (QX b L xs Q) k n (WM g adr μ) 456 [some (.ref b), some (.ref (adr 0)), some (.ref (adr 237)), some (.ref (adr 247)), some (.int (nI i)), none, none, none, none] [] := by
  obtain ⟨c, v, v2, α1, ψ, hc10, hv, hz, hψ, hw, hm⟩ := k_logOf (g := g) (adr := adr) (xs (i + 1)) (xs (i + 2)) hC hM
  refine J.al1 dL_law_456 ?_
  refine J.al0 dL_law_457 ?_
  refine J.il4 dL_law_458 ?_
  refine J.iconst dL_law_460 kI_1 ?_
  refine J.iaddN dL_law_461 ?_
  refine J.sld hb (by omega) (by omega) dL_law_462 ?_
  refine J.al0 dL_law_463 ?_
  refine J.il4 dL_law_464 ?_
  refine J.iconst dL_law_466 kI_2 ?_
  refine J.iaddN dL_law_467 ?_
  refine J.sld hb (by omega) (by omega) dL_law_468 ?_
  refine J.al3 dL_law_469 ?_
  refine cl_L_151 rfl (k' := k + 1) (n' := n + 6) hw ⟨⟨by decide, by decide⟩, ⟨rfl, rfl⟩, hk, hn⟩ rfl dL_law_470 (fun μ1 h1 => ?_)
  obtain ⟨hC1, hM1, hout⟩ := hψ μ1 h1
  refine J.is5 dL_law_473 (Nat.le_of_ble_eq_true rfl) rfl ?_
  refine J.al2 dL_law_475 ?_
  refine J.al0 dL_law_476 ?_
  refine J.il4 dL_law_477 ?_
  refine J.iconst dL_law_479 kI_1 ?_
  refine J.iaddN dL_law_480 ?_
  refine J.sld hb (by omega) (by omega) dL_law_481 ?_
  refine J.al0 dL_law_482 ?_
  refine J.il4 dL_law_483 ?_
  refine J.iconst dL_law_485 kI_2 ?_
  refine J.iaddN dL_law_486 ?_
  refine J.sld hb (by omega) (by omega) dL_law_487 ?_
  refine cl_L_153 rfl (by decide) (k' := k + 1) (n' := n + 6) (hm μ1 hM1) ⟨⟨by decide, by decide⟩, ⟨rfl, rfl⟩, hk, hn⟩ rfl dL_law_488 (fun μ2 h2 => ?_)
  obtain ⟨hM2, ht, hf⟩ := h2
  refine J.is6 dL_law_491 (Nat.le_of_ble_eq_true rfl) rfl ?_
  refine J.al2 dL_law_493 ?_
  refine cl_L_138 rfl (by decide) (k' := k + 1) (n' := n + 6) (c_m_thrown _ ht) ⟨⟨by decide, by decide⟩, ⟨rfl, rfl⟩, hk, hn⟩ rfl dL_law_494 (fun μ3 h3 => ?_)
  rw [h3]; clear h3
  refine J.il5 dL_law_497 ?_
  refine J.icmp_eqN (tgt := 504) dL_law_499 (by decide) (by omega) (by omega) (fun _ => ?_) (fun q => absurd rfl q)
  refine J.il5 dL_law_504 ?_
  have fin : J g (mL_law tb) room_1 (QX b L xs Q) (k + 1) (n + 6) (WM g adr μ2) 521 [some (.ref b), some (.ref (adr 0)), some (.ref (adr 237)), some (.ref (adr 247)), some (.int (nI i)), some (.int (nI c)), some (.int v2), none, none] [] := by
    refine J.goto (tgt := 2391) dL_law_521 (by decide) ?_
    exact J.subR (K μ2 α1 (hC1.fm hf) hM2) ⟨rfl, ⟨rfl, ⟨rfl, ⟨rfl, ⟨rfl, trivial⟩⟩⟩⟩⟩
  refine J.if_neN (tgt := 521) dL_law_506 (by decide) (by omega) (fun _ => fin) (fun hc0 => ?_)
  have hvv := hv hc0
  subst hvv
  refine J.al3 dL_law_509 ?_
  refine J.iconst dL_law_510 kI_0 ?_
  refine J.lald (x := v2) (by decide) (by decide) ((congrFun (hf 247 (Or.inr rfl)) 0).trans (hout hc0)) dL_law_511 ?_
  refine J.il6 dL_law_512 ?_
  refine J.i2l dL_law_514 ?_
  refine J.lcmpE dL_law_515 ?_
  exact J.if_eq (tgt := 521) dL_law_516 (by decide) (fun _ => fin) (fun q => absurd rfl q)

set_option maxRecDepth 100000 in
set_option maxHeartbeats 4000000 in
theorem law_5 (hb : b < g.1) (hL : L ≤ 2048) (hi : i + 4 ≤ L) (hC : CR μ α) (hM : MR μ α) (hk : k + 1 ≤ 601024) (hn : n + 6 ≤ 7293034) (K : LK tb g adr b L xs Q i (k + 1) (n + 6)) : J g (mL_law tb) room_1 (QX b L xs Q) k n (WM g adr μ) 524 [some (.ref b), some (.ref (adr 0)), some (.ref (adr 237)), some (.ref (adr 247)), some (.int (nI i)), none, none, none, none] [] := by
  obtain ⟨c, v, v2, α1, ψ, hc10, hv, hz, hψ, hw, hm⟩ := k_at (g := g) (adr := adr) (xs (i + 1)) hC hM
  refine J.al1 dL_law_524 ?_
  refine J.al0 dL_law_525 ?_
  refine J.il4 dL_law_526 ?_
  refine J.iconst dL_law_528 kI_1 ?_
  refine J.iaddN dL_law_529 ?_
  refine J.sld hb (by omega) (by omega) dL_law_530 ?_
  refine J.al3 dL_law_531 ?_
  refine cl_L_154 rfl (k' := k + 1) (n' := n + 6) hw ⟨⟨by decide, by decide⟩, ⟨rfl, rfl⟩, hk, hn⟩ rfl dL_law_532 (fun μ1 h1 => ?_)
  obtain ⟨hC1, hM1, hout⟩ := hψ μ1 h1
  refine J.is5 dL_law_535 (Nat.le_of_ble_eq_true rfl) rfl ?_
  refine J.al2 dL_law_537 ?_
  refine J.al0 dL_law_538 ?_
  refine J.il4 dL_law_539 ?_
  refine J.iconst dL_law_541 kI_1 ?_
  refine J.iaddN dL_law_542 ?_
  refine J.sld hb (by omega) (by omega) dL_law_543 ?_
  refine cl_L_157 rfl (by decide) (k' := k + 1) (n' := n + 6) (hm μ1 hM1) ⟨⟨by decide, by decide⟩, ⟨rfl, rfl⟩, hk, hn⟩ rfl dL_law_544 (fun μ2 h2 => ?_)
  obtain ⟨hM2, ht, hf⟩ := h2
  refine J.is6 dL_law_547 (Nat.le_of_ble_eq_true rfl) rfl ?_
  refine J.al2 dL_law_549 ?_
  refine cl_L_138 rfl (by decide) (k' := k + 1) (n' := n + 6) (c_m_thrown _ ht) ⟨⟨by decide, by decide⟩, ⟨rfl, rfl⟩, hk, hn⟩ rfl dL_law_550 (fun μ3 h3 => ?_)
  rw [h3]; clear h3
  refine J.il5 dL_law_553 ?_
  refine J.icmp_eqN (tgt := 560) dL_law_555 (by decide) (by omega) (by omega) (fun _ => ?_) (fun q => absurd rfl q)
  refine J.il5 dL_law_560 ?_
  have fin : J g (mL_law tb) room_1 (QX b L xs Q) (k + 1) (n + 6) (WM g adr μ2) 577 [some (.ref b), some (.ref (adr 0)), some (.ref (adr 237)), some (.ref (adr 247)), some (.int (nI i)), some (.int (nI c)), some (.int v2), none, none] [] := by
    refine J.goto (tgt := 2391) dL_law_577 (by decide) ?_
    exact J.subR (K μ2 α1 (hC1.fm hf) hM2) ⟨rfl, ⟨rfl, ⟨rfl, ⟨rfl, ⟨rfl, trivial⟩⟩⟩⟩⟩
  refine J.if_neN (tgt := 577) dL_law_562 (by decide) (by omega) (fun _ => fin) (fun hc0 => ?_)
  have hvv := hv hc0
  subst hvv
  refine J.al3 dL_law_565 ?_
  refine J.iconst dL_law_566 kI_0 ?_
  refine J.lald (x := v2) (by decide) (by decide) ((congrFun (hf 247 (Or.inr rfl)) 0).trans (hout hc0)) dL_law_567 ?_
  refine J.il6 dL_law_568 ?_
  refine J.i2l dL_law_570 ?_
  refine J.lcmpE dL_law_571 ?_
  exact J.if_eq (tgt := 577) dL_law_572 (by decide) (fun _ => fin) (fun q => absurd rfl q)

set_option maxRecDepth 100000 in
set_option maxHeartbeats 4000000 in
theorem law_6 (hb : b < g.1) (hL : L ≤ 2048) (hi : i + 4 ≤ L) (hC : CR μ α) (hM : MR μ α) (hk : k + 1 ≤ 601024) (hn : n + 6 ≤ 7293034) (K : LK tb g adr b L xs Q i (k + 1) (n + 6)) : J g (mL_law tb) room_1 (QX b L xs Q) k n (WM g adr μ) 580 [some (.ref b), some (.ref (adr 0)), some (.ref (adr 237)), some (.ref (adr 247)), some (.int (nI i)), none, none, none, none] [] := by
  obtain ⟨c, v, v2, α1, ψ, hc10, hv, hz, hψ, hw, hm⟩ := k_where (g := g) (adr := adr) (xs (i + 1)) hC hM
  refine J.al1 dL_law_580 ?_
  refine J.al0 dL_law_581 ?_
  refine J.il4 dL_law_582 ?_
  refine J.iconst dL_law_584 kI_1 ?_
  refine J.iaddN dL_law_585 ?_
  refine J.sld hb (by omega) (by omega) dL_law_586 ?_
  refine J.al3 dL_law_587 ?_
  refine cl_L_158 rfl (k' := k + 1) (n' := n + 6) hw ⟨⟨by decide, by decide⟩, ⟨rfl, rfl⟩, hk, hn⟩ rfl dL_law_588 (fun μ1 h1 => ?_)
  obtain ⟨hC1, hM1, hout⟩ := hψ μ1 h1
  refine J.is5 dL_law_591 (Nat.le_of_ble_eq_true rfl) rfl ?_
  refine J.al2 dL_law_593 ?_
  refine J.al0 dL_law_594 ?_
  refine J.il4 dL_law_595 ?_
  refine J.iconst dL_law_597 kI_1 ?_
  refine J.iaddN dL_law_598 ?_
  refine J.sld hb (by omega) (by omega) dL_law_599 ?_
  refine cl_L_160 rfl (by decide) (k' := k + 1) (n' := n + 6) (hm μ1 hM1) ⟨⟨by decide, by decide⟩, ⟨rfl, rfl⟩, hk, hn⟩ rfl dL_law_600 (fun μ2 h2 => ?_)
  obtain ⟨hM2, ht, hf⟩ := h2
  refine J.is6 dL_law_603 (Nat.le_of_ble_eq_true rfl) rfl ?_
  refine J.al2 dL_law_605 ?_
  refine cl_L_138 rfl (by decide) (k' := k + 1) (n' := n + 6) (c_m_thrown _ ht) ⟨⟨by decide, by decide⟩, ⟨rfl, rfl⟩, hk, hn⟩ rfl dL_law_606 (fun μ3 h3 => ?_)
  rw [h3]; clear h3
  refine J.il5 dL_law_609 ?_
  refine J.icmp_eqN (tgt := 616) dL_law_611 (by decide) (by omega) (by omega) (fun _ => ?_) (fun q => absurd rfl q)
  refine J.il5 dL_law_616 ?_
  have fin : J g (mL_law tb) room_1 (QX b L xs Q) (k + 1) (n + 6) (WM g adr μ2) 633 [some (.ref b), some (.ref (adr 0)), some (.ref (adr 237)), some (.ref (adr 247)), some (.int (nI i)), some (.int (nI c)), some (.int v2), none, none] [] := by
    refine J.goto (tgt := 2391) dL_law_633 (by decide) ?_
    exact J.subR (K μ2 α1 (hC1.fm hf) hM2) ⟨rfl, ⟨rfl, ⟨rfl, ⟨rfl, ⟨rfl, trivial⟩⟩⟩⟩⟩
  refine J.if_neN (tgt := 633) dL_law_618 (by decide) (by omega) (fun _ => fin) (fun hc0 => ?_)
  have hvv := hv hc0
  subst hvv
  refine J.al3 dL_law_621 ?_
  refine J.iconst dL_law_622 kI_0 ?_
  refine J.lald (x := v2) (by decide) (by decide) ((congrFun (hf 247 (Or.inr rfl)) 0).trans (hout hc0)) dL_law_623 ?_
  refine J.il6 dL_law_624 ?_
  refine J.i2l dL_law_626 ?_
  refine J.lcmpE dL_law_627 ?_
  exact J.if_eq (tgt := 633) dL_law_628 (by decide) (fun _ => fin) (fun q => absurd rfl q)
end LL
