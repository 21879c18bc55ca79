/-! THE LAW: the calls, one by one (but crop) -/
theorem lc_L_97 : Cond.constantLong RL 97 (4294967295) ∈ m_T := m_T_8 79 (by decide +kernel) (by decide +kernel)
/-- the seven ints of a call lie in the script -/
def sevenI (N : Nat) (x : Int32) : Prop := vp_in x N ∧ vp_in (x + 1) N ∧ vp_in (x + 2) N ∧ vp_in (x + 3) N ∧ vp_in (x + 4) N ∧ vp_in (x + 5) N ∧ vp_in (x + 6) N
theorem lwc_0 {cells slots b N : Nat} {xs : Nat → Int32} {x : Int32} {l5 l6 : Option Value} {A : Nat → Nat → Int32} {L : Nat → Nat → Int64} {I : Nat → Nat → Int32} {X : Nat → Int64} (hI : INV A I) (hc : cells ≤ 601024) (hs : slots ≤ 7293034) (h7 : sevenI N x) (hE : ∀ (A : Nat → Nat → Int32) (L : Nat → Nat → Int64) (I : Nat → Nat → Int32) (X : Nat → Int64), INV A I → GL cells slots b N xs 1693 [some (.ref 5000), some (.ref 0), some (.ref 46), some (.ref 77), some (.int x), l5, l6] [] (hp A L I X)) : GL cells slots b N xs 232 [some (.ref 5000), some (.ref 0), some (.ref 46), some (.ref 77), some (.int x), l5, l6] [] (hp A L I X) := by
  obtain ⟨h0, h1, h2, h3, h4, h5, h6⟩ := h7
  refine l_aload_n dL_232 rfl rfl ?_
  refine l_aload_n dL_233 rfl rfl ?_
  refine l_iload dL_234 rfl ?_
  refine l_ic_1 dL_236 ?_
  refine l_iadd dL_237 ?_
  refine l_sld dL_238 h1 ?_
  refine l_aload_n dL_239 rfl rfl ?_
  refine l_iload dL_240 rfl ?_
  refine l_ic_2 dL_242 ?_
  refine l_iadd dL_243 ?_
  refine l_sld dL_244 h2 ?_
  refine l_aload_n dL_245 rfl rfl ?_
  refine l_iload dL_246 rfl ?_
  refine l_ic_3 dL_248 ?_
  refine l_iadd dL_249 ?_
  refine l_sld dL_250 h3 ?_
  refine l_aload_n dL_251 rfl rfl ?_
  refine l_iload dL_252 rfl ?_
  refine l_ic_4 dL_254 ?_
  refine l_iadd dL_255 ?_
  refine l_sld dL_256 h4 ?_
  refine l_aload_n dL_257 rfl rfl ?_
  refine l_iload dL_258 rfl ?_
  refine l_ic_5 dL_260 ?_
  refine l_iadd dL_261 ?_
  refine l_sld dL_262 h5 ?_
  refine l_callV dL_263 cv_L_19 (as' := [_, _, _, _, _]) hp_0 rfl (step_feed hI) (by decide) hc hs rfl rfl (Nat.le_of_ble_eq_true rfl) ?_
  rintro _ _ ⟨⟨v, rfl, hR⟩, A1, L1, I1, X1, rfl⟩
  refine l_aload_n dL_266 rfl rfl ?_
  refine l_aload_n dL_267 rfl rfl ?_
  refine l_iload dL_268 rfl ?_
  refine l_ic_1 dL_270 ?_
  refine l_iadd dL_271 ?_
  refine l_sld dL_272 h1 ?_
  refine l_aload_n dL_273 rfl rfl ?_
  refine l_iload dL_274 rfl ?_
  refine l_ic_2 dL_276 ?_
  refine l_iadd dL_277 ?_
  refine l_sld dL_278 h2 ?_
  refine l_aload_n dL_279 rfl rfl ?_
  refine l_iload dL_280 rfl ?_
  refine l_ic_3 dL_282 ?_
  refine l_iadd dL_283 ?_
  refine l_sld dL_284 h3 ?_
  refine l_aload_n dL_285 rfl rfl ?_
  refine l_iload dL_286 rfl ?_
  refine l_ic_4 dL_288 ?_
  refine l_iadd dL_289 ?_
  refine l_sld dL_290 h4 ?_
  refine l_aload_n dL_291 rfl rfl ?_
  refine l_iload dL_292 rfl ?_
  refine l_ic_5 dL_294 ?_
  refine l_iadd dL_295 ?_
  refine l_sld dL_296 h5 ?_
  refine l_callV dL_297 cv_L_23 (as' := [_, _, _, _, _]) hp_46 rfl hR (by decide) hc hs rfl rfl (Nat.le_of_ble_eq_true rfl) ?_
  rintro _ _ ⟨rfl, A2, L2, I2, X2, rfl, hI2⟩
  exact l_icmp_eq (tgt := 1693) dL_300 (by decide) (fun _ => hE A2 L2 I2 X2 hI2) (fun c => absurd rfl c)
theorem lwc_1 {cells slots b N : Nat} {xs : Nat → Int32} {x : Int32} {l5 l6 : Option Value} {A : Nat → Nat → Int32} {L : Nat → Nat → Int64} {I : Nat → Nat → Int32} {X : Nat → Int64} (hI : INV A I) (hc : cells ≤ 601024) (hs : slots ≤ 7293034) (h7 : sevenI N x) (hE : ∀ (A : Nat → Nat → Int32) (L : Nat → Nat → Int64) (I : Nat → Nat → Int32) (X : Nat → Int64), INV A I → GL cells slots b N xs 1693 [some (.ref 5000), some (.ref 0), some (.ref 46), some (.ref 77), some (.int x), l5, l6] [] (hp A L I X)) : GL cells slots b N xs 305 [some (.ref 5000), some (.ref 0), some (.ref 46), some (.ref 77), some (.int x), l5, l6] [] (hp A L I X) := by
  obtain ⟨h0, h1, h2, h3, h4, h5, h6⟩ := h7
  refine l_aload_n dL_305 rfl rfl ?_
  refine l_aload_n dL_306 rfl rfl ?_
  refine l_iload dL_307 rfl ?_
  refine l_ic_1 dL_309 ?_
  refine l_iadd dL_310 ?_
  refine l_sld dL_311 h1 ?_
  refine l_callV dL_312 cv_L_24 (as' := [_]) hp_0 rfl (step_end hI) (by decide) hc hs rfl rfl (Nat.le_of_ble_eq_true rfl) ?_
  rintro _ _ ⟨⟨v, rfl, hR⟩, A1, L1, I1, X1, rfl⟩
  refine l_aload_n dL_315 rfl rfl ?_
  refine l_aload_n dL_316 rfl rfl ?_
  refine l_iload dL_317 rfl ?_
  refine l_ic_1 dL_319 ?_
  refine l_iadd dL_320 ?_
  refine l_sld dL_321 h1 ?_
  refine l_callV dL_322 cv_L_28 (as' := [_]) hp_46 rfl hR (by decide) hc hs rfl rfl (Nat.le_of_ble_eq_true rfl) ?_
  rintro _ _ ⟨rfl, A2, L2, I2, X2, rfl, hI2⟩
  exact l_icmp_eq (tgt := 1693) dL_325 (by decide) (fun _ => hE A2 L2 I2 X2 hI2) (fun c => absurd rfl c)
theorem lwc_2 {cells slots b N : Nat} {xs : Nat → Int32} {x : Int32} {l5 l6 : Option Value} {A : Nat → Nat → Int32} {L : Nat → Nat → Int64} {I : Nat → Nat → Int32} {X : Nat → Int64} (hI : INV A I) (hc : cells ≤ 601024) (hs : slots ≤ 7293034) (h7 : sevenI N x) (hE : ∀ (A : Nat → Nat → Int32) (L : Nat → Nat → Int64) (I : Nat → Nat → Int32) (X : Nat → Int64), INV A I → GL cells slots b N xs 1693 [some (.ref 5000), some (.ref 0), some (.ref 46), some (.ref 77), some (.int x), l5, l6] [] (hp A L I X)) : GL cells slots b N xs 330 [some (.ref 5000), some (.ref 0), some (.ref 46), some (.ref 77), some (.int x), l5, l6] [] (hp A L I X) := by
  obtain ⟨h0, h1, h2, h3, h4, h5, h6⟩ := h7
  refine l_aload_n dL_330 rfl rfl ?_
  refine l_aload_n dL_331 rfl rfl ?_
  refine l_iload dL_332 rfl ?_
  refine l_ic_1 dL_334 ?_
  refine l_iadd dL_335 ?_
  refine l_sld dL_336 h1 ?_
  refine l_callV dL_337 cv_L_29 (as' := [_]) hp_0 rfl (step_fault hI) (by decide) hc hs rfl rfl (Nat.le_of_ble_eq_true rfl) ?_
  rintro _ _ ⟨⟨v, rfl, hR⟩, A1, L1, I1, X1, rfl⟩
  refine l_aload_n dL_340 rfl rfl ?_
  refine l_aload_n dL_341 rfl rfl ?_
  refine l_iload dL_342 rfl ?_
  refine l_ic_1 dL_344 ?_
  refine l_iadd dL_345 ?_
  refine l_sld dL_346 h1 ?_
  refine l_callV dL_347 cv_L_33 (as' := [_]) hp_46 rfl hR (by decide) hc hs rfl rfl (Nat.le_of_ble_eq_true rfl) ?_
  rintro _ _ ⟨rfl, A2, L2, I2, X2, rfl, hI2⟩
  exact l_icmp_eq (tgt := 1693) dL_350 (by decide) (fun _ => hE A2 L2 I2 X2 hI2) (fun c => absurd rfl c)
theorem lwc_3 {cells slots b N : Nat} {xs : Nat → Int32} {x : Int32} {l5 l6 : Option Value} {A : Nat → Nat → Int32} {L : Nat → Nat → Int64} {I : Nat → Nat → Int32} {X : Nat → Int64} (hI : INV A I) (hc : cells ≤ 601024) (hs : slots ≤ 7293034) (h7 : sevenI N x) (hE : ∀ (A : Nat → Nat → Int32) (L : Nat → Nat → Int64) (I : Nat → Nat → Int32) (X : Nat → Int64), INV A I → GL cells slots b N xs 1693 [some (.ref 5000), some (.ref 0), some (.ref 46), some (.ref 77), some (.int x), l5, l6] [] (hp A L I X)) : GL cells slots b N xs 355 [some (.ref 5000), some (.ref 0), some (.ref 46), some (.ref 77), some (.int x), l5, l6] [] (hp A L I X) := by
  obtain ⟨h0, h1, h2, h3, h4, h5, h6⟩ := h7
  refine l_aload_n dL_355 rfl rfl ?_
  refine l_aload_n dL_356 rfl rfl ?_
  refine l_iload dL_357 rfl ?_
  refine l_ic_1 dL_359 ?_
  refine l_iadd dL_360 ?_
  refine l_sld dL_361 h1 ?_
  refine l_callV dL_362 cv_L_34 (as' := [_]) hp_0 rfl (step_text hI) (by decide) hc hs rfl rfl (Nat.le_of_ble_eq_true rfl) ?_
  rintro _ _ ⟨⟨v, rfl, hR⟩, A1, L1, I1, X1, rfl⟩
  refine l_aload_n dL_365 rfl rfl ?_
  refine l_aload_n dL_366 rfl rfl ?_
  refine l_iload dL_367 rfl ?_
  refine l_ic_1 dL_369 ?_
  refine l_iadd dL_370 ?_
  refine l_sld dL_371 h1 ?_
  refine l_callV dL_372 cv_L_37 (as' := [_]) hp_46 rfl hR (by decide) hc hs rfl rfl (Nat.le_of_ble_eq_true rfl) ?_
  rintro _ _ ⟨rfl, A2, L2, I2, X2, rfl, hI2⟩
  exact l_icmp_eq (tgt := 1693) dL_375 (by decide) (fun _ => hE A2 L2 I2 X2 hI2) (fun c => absurd rfl c)
theorem lwc_4 {cells slots b N : Nat} {xs : Nat → Int32} {x : Int32} {l5 l6 : Option Value} {A : Nat → Nat → Int32} {L : Nat → Nat → Int64} {I : Nat → Nat → Int32} {X : Nat → Int64} (hI : INV A I) (hc : cells ≤ 601024) (hs : slots ≤ 7293034) (h7 : sevenI N x) (hE : ∀ (A : Nat → Nat → Int32) (L : Nat → Nat → Int64) (I : Nat → Nat → Int32) (X : Nat → Int64), INV A I → GL cells slots b N xs 1693 [some (.ref 5000), some (.ref 0), some (.ref 46), some (.ref 77), some (.int x), l5, l6] [] (hp A L I X)) : GL cells slots b N xs 380 [some (.ref 5000), some (.ref 0), some (.ref 46), some (.ref 77), some (.int x), l5, l6] [] (hp A L I X) := by
  obtain ⟨h0, h1, h2, h3, h4, h5, h6⟩ := h7
  refine l_aload_n dL_380 rfl rfl ?_
  refine l_aload_n dL_381 rfl rfl ?_
  refine l_iload dL_382 rfl ?_
  refine l_ic_1 dL_384 ?_
  refine l_iadd dL_385 ?_
  refine l_sld dL_386 h1 ?_
  refine l_callV dL_387 cv_L_38 (as' := [_]) hp_0 rfl (step_rule hI) (by decide) hc hs rfl rfl (Nat.le_of_ble_eq_true rfl) ?_
  rintro _ _ ⟨⟨v, rfl, hR⟩, A1, L1, I1, X1, rfl⟩
  refine l_aload_n dL_390 rfl rfl ?_
  refine l_aload_n dL_391 rfl rfl ?_
  refine l_iload dL_392 rfl ?_
  refine l_ic_1 dL_394 ?_
  refine l_iadd dL_395 ?_
  refine l_sld dL_396 h1 ?_
  refine l_callV dL_397 cv_L_41 (as' := [_]) hp_46 rfl hR (by decide) hc hs rfl rfl (Nat.le_of_ble_eq_true rfl) ?_
  rintro _ _ ⟨rfl, A2, L2, I2, X2, rfl, hI2⟩
  exact l_icmp_eq (tgt := 1693) dL_400 (by decide) (fun _ => hE A2 L2 I2 X2 hI2) (fun c => absurd rfl c)
theorem lwc_5 {cells slots b N : Nat} {xs : Nat → Int32} {x : Int32} {l5 l6 : Option Value} {A : Nat → Nat → Int32} {L : Nat → Nat → Int64} {I : Nat → Nat → Int32} {X : Nat → Int64} (hI : INV A I) (hc : cells ≤ 601024) (hs : slots ≤ 7293034) (h7 : sevenI N x) (hE : ∀ (A : Nat → Nat → Int32) (L : Nat → Nat → Int64) (I : Nat → Nat → Int32) (X : Nat → Int64), INV A I → GL cells slots b N xs 1693 [some (.ref 5000), some (.ref 0), some (.ref 46), some (.ref 77), some (.int x), l5, l6] [] (hp A L I X)) : GL cells slots b N xs 405 [some (.ref 5000), some (.ref 0), some (.ref 46), some (.ref 77), some (.int x), l5, l6] [] (hp A L I X) := by
  obtain ⟨h0, h1, h2, h3, h4, h5, h6⟩ := h7
  refine l_aload_n dL_405 rfl rfl ?_
  refine l_aload_n dL_406 rfl rfl ?_
  refine l_iload dL_407 rfl ?_
  refine l_ic_1 dL_409 ?_
  refine l_iadd dL_410 ?_
  refine l_sld dL_411 h1 ?_
  refine l_aload_n dL_412 rfl rfl ?_
  refine l_iload dL_413 rfl ?_
  refine l_ic_2 dL_415 ?_
  refine l_iadd dL_416 ?_
  refine l_sld dL_417 h2 ?_
  refine l_callV dL_418 cv_L_42 (as' := [_, _]) hp_0 rfl (step_month hI) (by decide) hc hs rfl rfl (Nat.le_of_ble_eq_true rfl) ?_
  rintro _ _ ⟨⟨v, rfl, hR⟩, A1, L1, I1, X1, rfl⟩
  refine l_aload_n dL_421 rfl rfl ?_
  refine l_aload_n dL_422 rfl rfl ?_
  refine l_iload dL_423 rfl ?_
  refine l_ic_1 dL_425 ?_
  refine l_iadd dL_426 ?_
  refine l_sld dL_427 h1 ?_
  refine l_aload_n dL_428 rfl rfl ?_
  refine l_iload dL_429 rfl ?_
  refine l_ic_2 dL_431 ?_
  refine l_iadd dL_432 ?_
  refine l_sld dL_433 h2 ?_
  refine l_callV dL_434 cv_L_45 (as' := [_, _]) hp_46 rfl hR (by decide) hc hs rfl rfl (Nat.le_of_ble_eq_true rfl) ?_
  rintro _ _ ⟨rfl, A2, L2, I2, X2, rfl, hI2⟩
  exact l_icmp_eq (tgt := 1693) dL_437 (by decide) (fun _ => hE A2 L2 I2 X2 hI2) (fun c => absurd rfl c)
theorem lwc_7 {cells slots b N : Nat} {xs : Nat → Int32} {x : Int32} {l5 l6 : Option Value} {A : Nat → Nat → Int32} {L : Nat → Nat → Int64} {I : Nat → Nat → Int32} {X : Nat → Int64} (hI : INV A I) (hc : cells ≤ 601024) (hs : slots ≤ 7293034) (h7 : sevenI N x) (hE : ∀ (A : Nat → Nat → Int32) (L : Nat → Nat → Int64) (I : Nat → Nat → Int32) (X : Nat → Int64), INV A I → GL cells slots b N xs 1693 [some (.ref 5000), some (.ref 0), some (.ref 46), some (.ref 77), some (.int x), l5, l6] [] (hp A L I X)) : GL cells slots b N xs 510 [some (.ref 5000), some (.ref 0), some (.ref 46), some (.ref 77), some (.int x), l5, l6] [] (hp A L I X) := by
  obtain ⟨h0, h1, h2, h3, h4, h5, h6⟩ := h7
  refine l_aload_n dL_510 rfl rfl ?_
  refine l_aload_n dL_511 rfl rfl ?_
  refine l_iload dL_512 rfl ?_
  refine l_ic_1 dL_514 ?_
  refine l_iadd dL_515 ?_
  refine l_sld dL_516 h1 ?_
  refine l_callV dL_517 cv_L_56 (as' := [_]) hp_0 rfl (step_law hI) (by decide) hc hs rfl rfl (Nat.le_of_ble_eq_true rfl) ?_
  rintro _ _ ⟨⟨v, rfl, hR⟩, A1, L1, I1, X1, rfl⟩
  refine l_aload_n dL_520 rfl rfl ?_
  refine l_aload_n dL_521 rfl rfl ?_
  refine l_iload dL_522 rfl ?_
  refine l_ic_1 dL_524 ?_
  refine l_iadd dL_525 ?_
  refine l_sld dL_526 h1 ?_
  refine l_callV dL_527 cv_L_59 (as' := [_]) hp_46 rfl hR (by decide) hc hs rfl rfl (Nat.le_of_ble_eq_true rfl) ?_
  rintro _ _ ⟨rfl, A2, L2, I2, X2, rfl, hI2⟩
  exact l_icmp_eq (tgt := 1693) dL_530 (by decide) (fun _ => hE A2 L2 I2 X2 hI2) (fun c => absurd rfl c)
theorem lwc_8 {cells slots b N : Nat} {xs : Nat → Int32} {x : Int32} {l5 l6 : Option Value} {A : Nat → Nat → Int32} {L : Nat → Nat → Int64} {I : Nat → Nat → Int32} {X : Nat → Int64} (hI : INV A I) (hc : cells ≤ 601024) (hs : slots ≤ 7293034) (h7 : sevenI N x) (hE : ∀ (A : Nat → Nat → Int32) (L : Nat → Nat → Int64) (I : Nat → Nat → Int32) (X : Nat → Int64), INV A I → GL cells slots b N xs 1693 [some (.ref 5000), some (.ref 0), some (.ref 46), some (.ref 77), some (.int x), l5, l6] [] (hp A L I X)) : GL cells slots b N xs 535 [some (.ref 5000), some (.ref 0), some (.ref 46), some (.ref 77), some (.int x), l5, l6] [] (hp A L I X) := by
  obtain ⟨h0, h1, h2, h3, h4, h5, h6⟩ := h7
  refine l_aload_n dL_535 rfl rfl ?_
  refine l_callV dL_536 cv_L_60 (as' := []) hp_0 rfl (step_pull hI) (by decide) hc hs rfl rfl (Nat.le_of_ble_eq_true rfl) ?_
  rintro _ _ ⟨⟨v, rfl, hR⟩, A1, L1, I1, X1, rfl⟩
  refine l_aload_n dL_539 rfl rfl ?_
  refine l_callV dL_540 cv_L_63 (as' := []) hp_46 rfl hR (by decide) hc hs rfl rfl (Nat.le_of_ble_eq_true rfl) ?_
  rintro _ _ ⟨rfl, A2, L2, I2, X2, rfl, hI2⟩
  exact l_icmp_eq (tgt := 1693) dL_543 (by decide) (fun _ => hE A2 L2 I2 X2 hI2) (fun c => absurd rfl c)
theorem lwc_9 {cells slots b N : Nat} {xs : Nat → Int32} {x : Int32} {l5 l6 : Option Value} {A : Nat → Nat → Int32} {L : Nat → Nat → Int64} {I : Nat → Nat → Int32} {X : Nat → Int64} (hI : INV A I) (hc : cells ≤ 601024) (hs : slots ≤ 7293034) (h7 : sevenI N x) (hE : ∀ (A : Nat → Nat → Int32) (L : Nat → Nat → Int64) (I : Nat → Nat → Int32) (X : Nat → Int64), INV A I → GL cells slots b N xs 1693 [some (.ref 5000), some (.ref 0), some (.ref 46), some (.ref 77), some (.int x), l5, l6] [] (hp A L I X)) : GL cells slots b N xs 548 [some (.ref 5000), some (.ref 0), some (.ref 46), some (.ref 77), some (.int x), l5, l6] [] (hp A L I X) := by
  obtain ⟨h0, h1, h2, h3, h4, h5, h6⟩ := h7
  refine l_aload_n dL_548 rfl rfl ?_
  refine l_aload_n dL_549 rfl rfl ?_
  refine l_iload dL_550 rfl ?_
  refine l_ic_1 dL_552 ?_
  refine l_iadd dL_553 ?_
  refine l_sld dL_554 h1 ?_
  refine l_callV dL_555 cv_L_64 (as' := [_]) hp_0 rfl (step_turn hI) (by decide) hc hs rfl rfl (Nat.le_of_ble_eq_true rfl) ?_
  rintro _ _ ⟨⟨v, rfl, hR⟩, A1, L1, I1, X1, rfl⟩
  refine l_aload_n dL_558 rfl rfl ?_
  refine l_aload_n dL_559 rfl rfl ?_
  refine l_iload dL_560 rfl ?_
  refine l_ic_1 dL_562 ?_
  refine l_iadd dL_563 ?_
  refine l_sld dL_564 h1 ?_
  refine l_callV dL_565 cv_L_67 (as' := [_]) hp_46 rfl hR (by decide) hc hs rfl rfl (Nat.le_of_ble_eq_true rfl) ?_
  rintro _ _ ⟨rfl, A2, L2, I2, X2, rfl, hI2⟩
  exact l_icmp_eq (tgt := 1693) dL_568 (by decide) (fun _ => hE A2 L2 I2 X2 hI2) (fun c => absurd rfl c)
theorem lwc_10 {cells slots b N : Nat} {xs : Nat → Int32} {x : Int32} {l5 l6 : Option Value} {A : Nat → Nat → Int32} {L : Nat → Nat → Int64} {I : Nat → Nat → Int32} {X : Nat → Int64} (hI : INV A I) (hc : cells ≤ 601024) (hs : slots ≤ 7293034) (h7 : sevenI N x) (hE : ∀ (A : Nat → Nat → Int32) (L : Nat → Nat → Int64) (I : Nat → Nat → Int32) (X : Nat → Int64), INV A I → GL cells slots b N xs 1693 [some (.ref 5000), some (.ref 0), some (.ref 46), some (.ref 77), some (.int x), l5, l6] [] (hp A L I X)) : GL cells slots b N xs 573 [some (.ref 5000), some (.ref 0), some (.ref 46), some (.ref 77), some (.int x), l5, l6] [] (hp A L I X) := by
  obtain ⟨h0, h1, h2, h3, h4, h5, h6⟩ := h7
  refine l_aload_n dL_573 rfl rfl ?_
  refine l_aload_n dL_574 rfl rfl ?_
  refine l_iload dL_575 rfl ?_
  refine l_ic_1 dL_577 ?_
  refine l_iadd dL_578 ?_
  refine l_sld dL_579 h1 ?_
  refine l_callV dL_580 cv_L_68 (as' := [_]) hp_0 rfl (step_hay hI) (by decide) hc hs rfl rfl (Nat.le_of_ble_eq_true rfl) ?_
  rintro _ _ ⟨⟨v, rfl, hR⟩, A1, L1, I1, X1, rfl⟩
  refine l_aload_n dL_583 rfl rfl ?_
  refine l_aload_n dL_584 rfl rfl ?_
  refine l_iload dL_585 rfl ?_
  refine l_ic_1 dL_587 ?_
  refine l_iadd dL_588 ?_
  refine l_sld dL_589 h1 ?_
  refine l_callV dL_590 cv_L_71 (as' := [_]) hp_46 rfl hR (by decide) hc hs rfl rfl (Nat.le_of_ble_eq_true rfl) ?_
  rintro _ _ ⟨rfl, A2, L2, I2, X2, rfl, hI2⟩
  exact l_icmp_eq (tgt := 1693) dL_593 (by decide) (fun _ => hE A2 L2 I2 X2 hI2) (fun c => absurd rfl c)
theorem lwc_11 {cells slots b N : Nat} {xs : Nat → Int32} {x : Int32} {l5 l6 : Option Value} {A : Nat → Nat → Int32} {L : Nat → Nat → Int64} {I : Nat → Nat → Int32} {X : Nat → Int64} (hI : INV A I) (hc : cells ≤ 601024) (hs : slots ≤ 7293034) (h7 : sevenI N x) (hE : ∀ (A : Nat → Nat → Int32) (L : Nat → Nat → Int64) (I : Nat → Nat → Int32) (X : Nat → Int64), INV A I → GL cells slots b N xs 1693 [some (.ref 5000), some (.ref 0), some (.ref 46), some (.ref 77), some (.int x), l5, l6] [] (hp A L I X)) : GL cells slots b N xs 598 [some (.ref 5000), some (.ref 0), some (.ref 46), some (.ref 77), some (.int x), l5, l6] [] (hp A L I X) := by
  obtain ⟨h0, h1, h2, h3, h4, h5, h6⟩ := h7
  refine l_aload_n dL_598 rfl rfl ?_
  refine l_aload_n dL_599 rfl rfl ?_
  refine l_iload dL_600 rfl ?_
  refine l_ic_1 dL_602 ?_
  refine l_iadd dL_603 ?_
  refine l_sld dL_604 h1 ?_
  refine l_callV dL_605 cv_L_72 (as' := [_]) hp_0 rfl (step_grease hI) (by decide) hc hs rfl rfl (Nat.le_of_ble_eq_true rfl) ?_
  rintro _ _ ⟨⟨v, rfl, hR⟩, A1, L1, I1, X1, rfl⟩
  refine l_aload_n dL_608 rfl rfl ?_
  refine l_aload_n dL_609 rfl rfl ?_
  refine l_iload dL_610 rfl ?_
  refine l_ic_1 dL_612 ?_
  refine l_iadd dL_613 ?_
  refine l_sld dL_614 h1 ?_
  refine l_callV dL_615 cv_L_75 (as' := [_]) hp_46 rfl hR (by decide) hc hs rfl rfl (Nat.le_of_ble_eq_true rfl) ?_
  rintro _ _ ⟨rfl, A2, L2, I2, X2, rfl, hI2⟩
  exact l_icmp_eq (tgt := 1693) dL_618 (by decide) (fun _ => hE A2 L2 I2 X2 hI2) (fun c => absurd rfl c)
theorem lwc_12 {cells slots b N : Nat} {xs : Nat → Int32} {x : Int32} {l5 l6 : Option Value} {A : Nat → Nat → Int32} {L : Nat → Nat → Int64} {I : Nat → Nat → Int32} {X : Nat → Int64} (hI : INV A I) (hc : cells ≤ 601024) (hs : slots ≤ 7293034) (h7 : sevenI N x) (hE : ∀ (A : Nat → Nat → Int32) (L : Nat → Nat → Int64) (I : Nat → Nat → Int32) (X : Nat → Int64), INV A I → GL cells slots b N xs 1693 [some (.ref 5000), some (.ref 0), some (.ref 46), some (.ref 77), some (.int x), l5, l6] [] (hp A L I X)) : GL cells slots b N xs 623 [some (.ref 5000), some (.ref 0), some (.ref 46), some (.ref 77), some (.int x), l5, l6] [] (hp A L I X) := by
  obtain ⟨h0, h1, h2, h3, h4, h5, h6⟩ := h7
  refine l_aload_n dL_623 rfl rfl ?_
  refine l_aload_n dL_624 rfl rfl ?_
  refine l_iload dL_625 rfl ?_
  refine l_ic_1 dL_627 ?_
  refine l_iadd dL_628 ?_
  refine l_sld dL_629 h1 ?_
  refine l_callV dL_630 cv_L_76 (as' := [_]) hp_0 rfl (step_chip hI) (by decide) hc hs rfl rfl (Nat.le_of_ble_eq_true rfl) ?_
  rintro _ _ ⟨⟨v, rfl, hR⟩, A1, L1, I1, X1, rfl⟩
  refine l_aload_n dL_633 rfl rfl ?_
  refine l_aload_n dL_634 rfl rfl ?_
  refine l_iload dL_635 rfl ?_
  refine l_ic_1 dL_637 ?_
  refine l_iadd dL_638 ?_
  refine l_sld dL_639 h1 ?_
  refine l_callV dL_640 cv_L_79 (as' := [_]) hp_46 rfl hR (by decide) hc hs rfl rfl (Nat.le_of_ble_eq_true rfl) ?_
  rintro _ _ ⟨rfl, A2, L2, I2, X2, rfl, hI2⟩
  exact l_icmp_eq (tgt := 1693) dL_643 (by decide) (fun _ => hE A2 L2 I2 X2 hI2) (fun c => absurd rfl c)
theorem lwc_13 {cells slots b N : Nat} {xs : Nat → Int32} {x : Int32} {l5 l6 : Option Value} {A : Nat → Nat → Int32} {L : Nat → Nat → Int64} {I : Nat → Nat → Int32} {X : Nat → Int64} (hI : INV A I) (hc : cells ≤ 601024) (hs : slots ≤ 7293034) (h7 : sevenI N x) (hE : ∀ (A : Nat → Nat → Int32) (L : Nat → Nat → Int64) (I : Nat → Nat → Int32) (X : Nat → Int64), INV A I → GL cells slots b N xs 1693 [some (.ref 5000), some (.ref 0), some (.ref 46), some (.ref 77), some (.int x), l5, l6] [] (hp A L I X)) : GL cells slots b N xs 648 [some (.ref 5000), some (.ref 0), some (.ref 46), some (.ref 77), some (.int x), l5, l6] [] (hp A L I X) := by
  obtain ⟨h0, h1, h2, h3, h4, h5, h6⟩ := h7
  refine l_aload_n dL_648 rfl rfl ?_
  refine l_callV dL_649 cv_L_80 (as' := []) hp_0 rfl (step_reverse hI) (by decide) hc hs rfl rfl (Nat.le_of_ble_eq_true rfl) ?_
  rintro _ _ ⟨⟨v, rfl, hR⟩, A1, L1, I1, X1, rfl⟩
  refine l_aload_n dL_652 rfl rfl ?_
  refine l_callV dL_653 cv_L_83 (as' := []) hp_46 rfl hR (by decide) hc hs rfl rfl (Nat.le_of_ble_eq_true rfl) ?_
  rintro _ _ ⟨rfl, A2, L2, I2, X2, rfl, hI2⟩
  exact l_icmp_eq (tgt := 1693) dL_656 (by decide) (fun _ => hE A2 L2 I2 X2 hI2) (fun c => absurd rfl c)
theorem lwc_14 {cells slots b N : Nat} {xs : Nat → Int32} {x : Int32} {l5 l6 : Option Value} {A : Nat → Nat → Int32} {L : Nat → Nat → Int64} {I : Nat → Nat → Int32} {X : Nat → Int64} (hI : INV A I) (hc : cells ≤ 601024) (hs : slots ≤ 7293034) (h7 : sevenI N x) (hE : ∀ (A : Nat → Nat → Int32) (L : Nat → Nat → Int64) (I : Nat → Nat → Int32) (X : Nat → Int64), INV A I → GL cells slots b N xs 1693 [some (.ref 5000), some (.ref 0), some (.ref 46), some (.ref 77), some (.int x), l5, l6] [] (hp A L I X)) : GL cells slots b N xs 661 [some (.ref 5000), some (.ref 0), some (.ref 46), some (.ref 77), some (.int x), l5, l6] [] (hp A L I X) := by
  obtain ⟨h0, h1, h2, h3, h4, h5, h6⟩ := h7
  refine l_aload_n dL_661 rfl rfl ?_
  refine l_callV dL_662 cv_L_84 (as' := []) hp_0 rfl (step_buy hI) (by decide) hc hs rfl rfl (Nat.le_of_ble_eq_true rfl) ?_
  rintro _ _ ⟨⟨v, rfl, hR⟩, A1, L1, I1, X1, rfl⟩
  refine l_aload_n dL_665 rfl rfl ?_
  refine l_callV dL_666 cv_L_87 (as' := []) hp_46 rfl hR (by decide) hc hs rfl rfl (Nat.le_of_ble_eq_true rfl) ?_
  rintro _ _ ⟨rfl, A2, L2, I2, X2, rfl, hI2⟩
  exact l_icmp_eq (tgt := 1693) dL_669 (by decide) (fun _ => hE A2 L2 I2 X2 hI2) (fun c => absurd rfl c)
theorem lwc_15 {cells slots b N : Nat} {xs : Nat → Int32} {x : Int32} {l5 l6 : Option Value} {A : Nat → Nat → Int32} {L : Nat → Nat → Int64} {I : Nat → Nat → Int32} {X : Nat → Int64} (hI : INV A I) (hc : cells ≤ 601024) (hs : slots ≤ 7293034) (h7 : sevenI N x) (hE : ∀ (A : Nat → Nat → Int32) (L : Nat → Nat → Int64) (I : Nat → Nat → Int32) (X : Nat → Int64), INV A I → GL cells slots b N xs 1693 [some (.ref 5000), some (.ref 0), some (.ref 46), some (.ref 77), some (.int x), l5, l6] [] (hp A L I X)) : GL cells slots b N xs 674 [some (.ref 5000), some (.ref 0), some (.ref 46), some (.ref 77), some (.int x), l5, l6] [] (hp A L I X) := by
  obtain ⟨h0, h1, h2, h3, h4, h5, h6⟩ := h7
  refine l_aload_n dL_674 rfl rfl ?_
  refine l_aload_n dL_675 rfl rfl ?_
  refine l_iload dL_676 rfl ?_
  refine l_ic_1 dL_678 ?_
  refine l_iadd dL_679 ?_
  refine l_sld dL_680 h1 ?_
  refine l_callV dL_681 cv_L_88 (as' := [_]) hp_0 rfl (step_sow hI) (by decide) hc hs rfl rfl (Nat.le_of_ble_eq_true rfl) ?_
  rintro _ _ ⟨⟨v, rfl, hR⟩, A1, L1, I1, X1, rfl⟩
  refine l_aload_n dL_684 rfl rfl ?_
  refine l_aload_n dL_685 rfl rfl ?_
  refine l_iload dL_686 rfl ?_
  refine l_ic_1 dL_688 ?_
  refine l_iadd dL_689 ?_
  refine l_sld dL_690 h1 ?_
  refine l_callV dL_691 cv_L_91 (as' := [_]) hp_46 rfl hR (by decide) hc hs rfl rfl (Nat.le_of_ble_eq_true rfl) ?_
  rintro _ _ ⟨rfl, A2, L2, I2, X2, rfl, hI2⟩
  exact l_icmp_eq (tgt := 1693) dL_694 (by decide) (fun _ => hE A2 L2 I2 X2 hI2) (fun c => absurd rfl c)
theorem lwc_16 {cells slots b N : Nat} {xs : Nat → Int32} {x : Int32} {l5 l6 : Option Value} {A : Nat → Nat → Int32} {L : Nat → Nat → Int64} {I : Nat → Nat → Int32} {X : Nat → Int64} (hI : INV A I) (hc : cells ≤ 601024) (hs : slots ≤ 7293034) (h7 : sevenI N x) (hE : ∀ (A : Nat → Nat → Int32) (L : Nat → Nat → Int64) (I : Nat → Nat → Int32) (X : Nat → Int64), INV A I → GL cells slots b N xs 1693 [some (.ref 5000), some (.ref 0), some (.ref 46), some (.ref 77), some (.int x), l5, l6] [] (hp A L I X)) : GL cells slots b N xs 699 [some (.ref 5000), some (.ref 0), some (.ref 46), some (.ref 77), some (.int x), l5, l6] [] (hp A L I X) := by
  obtain ⟨h0, h1, h2, h3, h4, h5, h6⟩ := h7
  refine l_aload_n dL_699 rfl rfl ?_
  refine l_aload_n dL_700 rfl rfl ?_
  refine l_iload dL_701 rfl ?_
  refine l_ic_1 dL_703 ?_
  refine l_iadd dL_704 ?_
  refine l_sld dL_705 h1 ?_
  refine l_aload_n dL_706 rfl rfl ?_
  refine l_iload dL_707 rfl ?_
  refine l_ic_2 dL_709 ?_
  refine l_iadd dL_710 ?_
  refine l_sld dL_711 h2 ?_
  refine l_callV dL_712 cv_L_92 (as' := [_, _]) hp_0 rfl (step_set hI) (by decide) hc hs rfl rfl (Nat.le_of_ble_eq_true rfl) ?_
  rintro _ _ ⟨⟨v, rfl, hR⟩, A1, L1, I1, X1, rfl⟩
  refine l_aload_n dL_715 rfl rfl ?_
  refine l_aload_n dL_716 rfl rfl ?_
  refine l_iload dL_717 rfl ?_
  refine l_ic_1 dL_719 ?_
  refine l_iadd dL_720 ?_
  refine l_sld dL_721 h1 ?_
  refine l_aload_n dL_722 rfl rfl ?_
  refine l_iload dL_723 rfl ?_
  refine l_ic_2 dL_725 ?_
  refine l_iadd dL_726 ?_
  refine l_sld dL_727 h2 ?_
  refine l_callV dL_728 cv_L_96 (as' := [_, _]) hp_46 rfl hR (by decide) hc hs rfl rfl (Nat.le_of_ble_eq_true rfl) ?_
  rintro _ _ ⟨rfl, A2, L2, I2, X2, rfl, hI2⟩
  exact l_icmp_eq (tgt := 1693) dL_731 (by decide) (fun _ => hE A2 L2 I2 X2 hI2) (fun c => absurd rfl c)
theorem lwc_17 {cells slots b N : Nat} {xs : Nat → Int32} {x : Int32} {l5 l6 : Option Value} {A : Nat → Nat → Int32} {L : Nat → Nat → Int64} {I : Nat → Nat → Int32} {X : Nat → Int64} (hI : INV A I) (hc : cells ≤ 601024) (hs : slots ≤ 7293034) (h7 : sevenI N x) (hE : ∀ (A : Nat → Nat → Int32) (L : Nat → Nat → Int64) (I : Nat → Nat → Int32) (X : Nat → Int64), INV A I → GL cells slots b N xs 1693 [some (.ref 5000), some (.ref 0), some (.ref 46), some (.ref 77), some (.int x), l5, l6] [] (hp A L I X)) : GL cells slots b N xs 736 [some (.ref 5000), some (.ref 0), some (.ref 46), some (.ref 77), some (.int x), l5, l6] [] (hp A L I X) := by
  obtain ⟨h0, h1, h2, h3, h4, h5, h6⟩ := h7
  refine l_aload_n dL_736 rfl rfl ?_
  refine l_aload_n dL_737 rfl rfl ?_
  refine l_iload dL_738 rfl ?_
  refine l_ic_1 dL_740 ?_
  refine l_iadd dL_741 ?_
  refine l_sld dL_742 h1 ?_
  refine l_aload_n dL_743 rfl rfl ?_
  refine l_iload dL_744 rfl ?_
  refine l_ic_2 dL_746 ?_
  refine l_iadd dL_747 ?_
  refine l_sld dL_748 h2 ?_
  refine l_i2l dL_749 ?_
  refine l_bipush (v := 32) dL_750 (by decide) ?_
  refine l_lshl dL_752 ?_
  refine l_aload_n dL_753 rfl rfl ?_
  refine l_iload dL_754 rfl ?_
  refine l_ic_3 dL_756 ?_
  refine l_iadd dL_757 ?_
  refine l_sld dL_758 h3 ?_
  refine l_i2l dL_759 ?_
  refine l_ldc2 dL_760 lc_L_97 ?_
  refine l_land dL_763 ?_
  refine l_lor dL_764 ?_
  refine l_callV dL_765 cv_L_99 (as' := [_, _]) hp_0 rfl (step_decades hI) (by decide) hc hs rfl rfl (Nat.le_of_ble_eq_true rfl) ?_
  rintro _ _ ⟨⟨v, rfl, hR⟩, A1, L1, I1, X1, rfl⟩
  refine l_aload_n dL_768 rfl rfl ?_
  refine l_aload_n dL_769 rfl rfl ?_
  refine l_iload dL_770 rfl ?_
  refine l_ic_1 dL_772 ?_
  refine l_iadd dL_773 ?_
  refine l_sld dL_774 h1 ?_
  refine l_aload_n dL_775 rfl rfl ?_
  refine l_iload dL_776 rfl ?_
  refine l_ic_2 dL_778 ?_
  refine l_iadd dL_779 ?_
  refine l_sld dL_780 h2 ?_
  refine l_i2l dL_781 ?_
  refine l_bipush (v := 32) dL_782 (by decide) ?_
  refine l_lshl dL_784 ?_
  refine l_aload_n dL_785 rfl rfl ?_
  refine l_iload dL_786 rfl ?_
  refine l_ic_3 dL_788 ?_
  refine l_iadd dL_789 ?_
  refine l_sld dL_790 h3 ?_
  refine l_i2l dL_791 ?_
  refine l_ldc2 dL_792 lc_L_97 ?_
  refine l_land dL_795 ?_
  refine l_lor dL_796 ?_
  refine l_callV dL_797 cv_L_103 (as' := [_, _]) hp_46 rfl hR (by decide) hc hs rfl rfl (Nat.le_of_ble_eq_true rfl) ?_
  rintro _ _ ⟨rfl, A2, L2, I2, X2, rfl, hI2⟩
  exact l_icmp_eq (tgt := 1693) dL_800 (by decide) (fun _ => hE A2 L2 I2 X2 hI2) (fun c => absurd rfl c)
theorem lwc_18 {cells slots b N : Nat} {xs : Nat → Int32} {x : Int32} {l5 l6 : Option Value} {A : Nat → Nat → Int32} {L : Nat → Nat → Int64} {I : Nat → Nat → Int32} {X : Nat → Int64} (hI : INV A I) (hc : cells ≤ 601024) (hs : slots ≤ 7293034) (h7 : sevenI N x) (hE : ∀ (A : Nat → Nat → Int32) (L : Nat → Nat → Int64) (I : Nat → Nat → Int32) (X : Nat → Int64), INV A I → GL cells slots b N xs 1693 [some (.ref 5000), some (.ref 0), some (.ref 46), some (.ref 77), some (.int x), l5, l6] [] (hp A L I X)) : GL cells slots b N xs 805 [some (.ref 5000), some (.ref 0), some (.ref 46), some (.ref 77), some (.int x), l5, l6] [] (hp A L I X) := by
  obtain ⟨h0, h1, h2, h3, h4, h5, h6⟩ := h7
  refine l_aload_n dL_805 rfl rfl ?_
  refine l_aload_n dL_806 rfl rfl ?_
  refine l_iload dL_807 rfl ?_
  refine l_ic_1 dL_809 ?_
  refine l_iadd dL_810 ?_
  refine l_sld dL_811 h1 ?_
  refine l_callV dL_812 cv_L_104 (as' := [_]) hp_0 rfl (step_status hI) (by decide) hc hs rfl rfl (Nat.le_of_ble_eq_true rfl) ?_
  rintro _ _ ⟨⟨v, rfl, hR⟩, A1, L1, I1, X1, rfl⟩
  refine l_aload_n dL_815 rfl rfl ?_
  refine l_aload_n dL_816 rfl rfl ?_
  refine l_iload dL_817 rfl ?_
  refine l_ic_1 dL_819 ?_
  refine l_iadd dL_820 ?_
  refine l_sld dL_821 h1 ?_
  refine l_callV dL_822 cv_L_107 (as' := [_]) hp_46 rfl hR (by decide) hc hs rfl rfl (Nat.le_of_ble_eq_true rfl) ?_
  rintro _ _ ⟨rfl, A2, L2, I2, X2, rfl, hI2⟩
  exact l_icmp_eq (tgt := 1693) dL_825 (by decide) (fun _ => hE A2 L2 I2 X2 hI2) (fun c => absurd rfl c)
theorem lwc_19 {cells slots b N : Nat} {xs : Nat → Int32} {x : Int32} {l5 l6 : Option Value} {A : Nat → Nat → Int32} {L : Nat → Nat → Int64} {I : Nat → Nat → Int32} {X : Nat → Int64} (hI : INV A I) (hc : cells ≤ 601024) (hs : slots ≤ 7293034) (h7 : sevenI N x) (hE : ∀ (A : Nat → Nat → Int32) (L : Nat → Nat → Int64) (I : Nat → Nat → Int32) (X : Nat → Int64), INV A I → GL cells slots b N xs 1693 [some (.ref 5000), some (.ref 0), some (.ref 46), some (.ref 77), some (.int x), l5, l6] [] (hp A L I X)) : GL cells slots b N xs 830 [some (.ref 5000), some (.ref 0), some (.ref 46), some (.ref 77), some (.int x), l5, l6] [] (hp A L I X) := by
  obtain ⟨h0, h1, h2, h3, h4, h5, h6⟩ := h7
  refine l_aload_n dL_830 rfl rfl ?_
  refine l_callV dL_831 cv_L_108 (as' := []) hp_0 rfl (step_undo hI) (by decide) hc hs rfl rfl (Nat.le_of_ble_eq_true rfl) ?_
  rintro _ _ ⟨⟨v, rfl, hR⟩, A1, L1, I1, X1, rfl⟩
  refine l_aload_n dL_834 rfl rfl ?_
  refine l_callV dL_835 cv_L_111 (as' := []) hp_46 rfl hR (by decide) hc hs rfl rfl (Nat.le_of_ble_eq_true rfl) ?_
  rintro _ _ ⟨rfl, A2, L2, I2, X2, rfl, hI2⟩
  exact l_icmp_eq (tgt := 1693) dL_838 (by decide) (fun _ => hE A2 L2 I2 X2 hI2) (fun c => absurd rfl c)
theorem lwc_20 {cells slots b N : Nat} {xs : Nat → Int32} {x : Int32} {l5 l6 : Option Value} {A : Nat → Nat → Int32} {L : Nat → Nat → Int64} {I : Nat → Nat → Int32} {X : Nat → Int64} (hI : INV A I) (hc : cells ≤ 601024) (hs : slots ≤ 7293034) (h7 : sevenI N x) (hE : ∀ (A : Nat → Nat → Int32) (L : Nat → Nat → Int64) (I : Nat → Nat → Int32) (X : Nat → Int64), INV A I → GL cells slots b N xs 1693 [some (.ref 5000), some (.ref 0), some (.ref 46), some (.ref 77), some (.int x), l5, l6] [] (hp A L I X)) : GL cells slots b N xs 843 [some (.ref 5000), some (.ref 0), some (.ref 46), some (.ref 77), some (.int x), l5, l6] [] (hp A L I X) := by
  obtain ⟨h0, h1, h2, h3, h4, h5, h6⟩ := h7
  refine l_aload_n dL_843 rfl rfl ?_
  refine l_aload_n dL_844 rfl rfl ?_
  refine l_iload dL_845 rfl ?_
  refine l_ic_1 dL_847 ?_
  refine l_iadd dL_848 ?_
  refine l_sld dL_849 h1 ?_
  refine l_aload_n dL_850 rfl rfl ?_
  refine l_iload dL_851 rfl ?_
  refine l_ic_2 dL_853 ?_
  refine l_iadd dL_854 ?_
  refine l_sld dL_855 h2 ?_
  refine l_callV dL_856 cv_L_112 (as' := [_, _]) hp_0 rfl (step_log hI) (by decide) hc hs rfl rfl (Nat.le_of_ble_eq_true rfl) ?_
  rintro _ _ ⟨⟨v, rfl, hR⟩, A1, L1, I1, X1, rfl⟩
  refine l_aload_n dL_859 rfl rfl ?_
  refine l_aload_n dL_860 rfl rfl ?_
  refine l_iload dL_861 rfl ?_
  refine l_ic_1 dL_863 ?_
  refine l_iadd dL_864 ?_
  refine l_sld dL_865 h1 ?_
  refine l_aload_n dL_866 rfl rfl ?_
  refine l_iload dL_867 rfl ?_
  refine l_ic_2 dL_869 ?_
  refine l_iadd dL_870 ?_
  refine l_sld dL_871 h2 ?_
  refine l_callV dL_872 cv_L_115 (as' := [_, _]) hp_46 rfl hR (by decide) hc hs rfl rfl (Nat.le_of_ble_eq_true rfl) ?_
  rintro _ _ ⟨rfl, A2, L2, I2, X2, rfl, hI2⟩
  exact l_icmp_eq (tgt := 1693) dL_875 (by decide) (fun _ => hE A2 L2 I2 X2 hI2) (fun c => absurd rfl c)
theorem lwc_21 {cells slots b N : Nat} {xs : Nat → Int32} {x : Int32} {l5 l6 : Option Value} {A : Nat → Nat → Int32} {L : Nat → Nat → Int64} {I : Nat → Nat → Int32} {X : Nat → Int64} (hI : INV A I) (hc : cells ≤ 601024) (hs : slots ≤ 7293034) (h7 : sevenI N x) (hE : ∀ (A : Nat → Nat → Int32) (L : Nat → Nat → Int64) (I : Nat → Nat → Int32) (X : Nat → Int64), INV A I → GL cells slots b N xs 1693 [some (.ref 5000), some (.ref 0), some (.ref 46), some (.ref 77), some (.int x), l5, l6] [] (hp A L I X)) : GL cells slots b N xs 880 [some (.ref 5000), some (.ref 0), some (.ref 46), some (.ref 77), some (.int x), l5, l6] [] (hp A L I X) := by
  obtain ⟨h0, h1, h2, h3, h4, h5, h6⟩ := h7
  refine l_aload_n dL_880 rfl rfl ?_
  refine l_aload_n dL_881 rfl rfl ?_
  refine l_iload dL_882 rfl ?_
  refine l_ic_1 dL_884 ?_
  refine l_iadd dL_885 ?_
  refine l_sld dL_886 h1 ?_
  refine l_aload_n dL_887 rfl rfl ?_
  refine l_iload dL_888 rfl ?_
  refine l_ic_2 dL_890 ?_
  refine l_iadd dL_891 ?_
  refine l_sld dL_892 h2 ?_
  refine l_if_eq (tgt := 900) dL_893 (by decide) (fun z_893 => ?_) (fun z_893 => ?_)
  · refine l_ic_0 dL_900 ?_
    refine l_aload_n dL_901 rfl rfl ?_
    refine l_iload dL_902 rfl ?_
    refine l_ic_3 dL_904 ?_
    refine l_iadd dL_905 ?_
    refine l_sld dL_906 h3 ?_
    refine l_callV dL_907 cv_L_116 (as' := [_, _, _]) hp_0 rfl (step_ahead hI) (by decide) hc hs rfl rfl (Nat.le_of_ble_eq_true rfl) ?_
    rintro _ _ ⟨⟨v, rfl, hR⟩, A1, L1, I1, X1, rfl⟩
    refine l_aload_n dL_910 rfl rfl ?_
    refine l_aload_n dL_911 rfl rfl ?_
    refine l_iload dL_912 rfl ?_
    refine l_ic_1 dL_914 ?_
    refine l_iadd dL_915 ?_
    refine l_sld dL_916 h1 ?_
    refine l_aload_n dL_917 rfl rfl ?_
    refine l_iload dL_918 rfl ?_
    refine l_ic_2 dL_920 ?_
    refine l_iadd dL_921 ?_
    refine l_sld dL_922 h2 ?_
    refine l_if_eq (tgt := 930) dL_923 (by decide) (fun z_923 => ?_) (fun z_923 => ?_)
    · refine l_ic_0 dL_930 ?_
      refine l_aload_n dL_931 rfl rfl ?_
      refine l_iload dL_932 rfl ?_
      refine l_ic_3 dL_934 ?_
      refine l_iadd dL_935 ?_
      refine l_sld dL_936 h3 ?_
      refine l_callV dL_937 cv_L_120 (as' := [_, _, _]) hp_46 rfl hR (by decide) hc hs rfl rfl (Nat.le_of_ble_eq_true rfl) ?_
      rintro _ _ ⟨rfl, A2, L2, I2, X2, rfl, hI2⟩
      exact l_icmp_eq (tgt := 1693) dL_940 (by decide) (fun _ => hE A2 L2 I2 X2 hI2) (fun c => absurd rfl c)
    · exact absurd z_893 z_923
  · refine l_ic_1 dL_896 ?_
    refine l_goto (tgt := 901) dL_897 (by decide) ?_
    refine l_aload_n dL_901 rfl rfl ?_
    refine l_iload dL_902 rfl ?_
    refine l_ic_3 dL_904 ?_
    refine l_iadd dL_905 ?_
    refine l_sld dL_906 h3 ?_
    refine l_callV dL_907 cv_L_116 (as' := [_, _, _]) hp_0 rfl (step_ahead hI) (by decide) hc hs rfl rfl (Nat.le_of_ble_eq_true rfl) ?_
    rintro _ _ ⟨⟨v, rfl, hR⟩, A1, L1, I1, X1, rfl⟩
    refine l_aload_n dL_910 rfl rfl ?_
    refine l_aload_n dL_911 rfl rfl ?_
    refine l_iload dL_912 rfl ?_
    refine l_ic_1 dL_914 ?_
    refine l_iadd dL_915 ?_
    refine l_sld dL_916 h1 ?_
    refine l_aload_n dL_917 rfl rfl ?_
    refine l_iload dL_918 rfl ?_
    refine l_ic_2 dL_920 ?_
    refine l_iadd dL_921 ?_
    refine l_sld dL_922 h2 ?_
    refine l_if_eq (tgt := 930) dL_923 (by decide) (fun z_923 => ?_) (fun z_923 => ?_)
    · exact absurd z_923 z_893
    · refine l_ic_1 dL_926 ?_
      refine l_goto (tgt := 931) dL_927 (by decide) ?_
      refine l_aload_n dL_931 rfl rfl ?_
      refine l_iload dL_932 rfl ?_
      refine l_ic_3 dL_934 ?_
      refine l_iadd dL_935 ?_
      refine l_sld dL_936 h3 ?_
      refine l_callV dL_937 cv_L_120 (as' := [_, _, _]) hp_46 rfl hR (by decide) hc hs rfl rfl (Nat.le_of_ble_eq_true rfl) ?_
      rintro _ _ ⟨rfl, A2, L2, I2, X2, rfl, hI2⟩
      exact l_icmp_eq (tgt := 1693) dL_940 (by decide) (fun _ => hE A2 L2 I2 X2 hI2) (fun c => absurd rfl c)
theorem lwc_22 {cells slots b N : Nat} {xs : Nat → Int32} {x : Int32} {l5 l6 : Option Value} {A : Nat → Nat → Int32} {L : Nat → Nat → Int64} {I : Nat → Nat → Int32} {X : Nat → Int64} (hI : INV A I) (hc : cells ≤ 601024) (hs : slots ≤ 7293034) (h7 : sevenI N x) (hE : ∀ (A : Nat → Nat → Int32) (L : Nat → Nat → Int64) (I : Nat → Nat → Int32) (X : Nat → Int64), INV A I → GL cells slots b N xs 1693 [some (.ref 5000), some (.ref 0), some (.ref 46), some (.ref 77), some (.int x), l5, l6] [] (hp A L I X)) : GL cells slots b N xs 945 [some (.ref 5000), some (.ref 0), some (.ref 46), some (.ref 77), some (.int x), l5, l6] [] (hp A L I X) := by
  obtain ⟨h0, h1, h2, h3, h4, h5, h6⟩ := h7
  refine l_aload_n dL_945 rfl rfl ?_
  refine l_aload_n dL_946 rfl rfl ?_
  refine l_iload dL_947 rfl ?_
  refine l_ic_1 dL_949 ?_
  refine l_iadd dL_950 ?_
  refine l_sld dL_951 h1 ?_
  refine l_callV dL_952 cv_L_121 (as' := [_]) hp_0 rfl (step_soonest hI) (by decide) hc hs rfl rfl (Nat.le_of_ble_eq_true rfl) ?_
  rintro _ _ ⟨⟨v, rfl, hR⟩, A1, L1, I1, X1, rfl⟩
  refine l_aload_n dL_955 rfl rfl ?_
  refine l_aload_n dL_956 rfl rfl ?_
  refine l_iload dL_957 rfl ?_
  refine l_ic_1 dL_959 ?_
  refine l_iadd dL_960 ?_
  refine l_sld dL_961 h1 ?_
  refine l_callV dL_962 cv_L_124 (as' := [_]) hp_46 rfl hR (by decide) hc hs rfl rfl (Nat.le_of_ble_eq_true rfl) ?_
  rintro _ _ ⟨rfl, A2, L2, I2, X2, rfl, hI2⟩
  exact l_icmp_eq (tgt := 1693) dL_965 (by decide) (fun _ => hE A2 L2 I2 X2 hI2) (fun c => absurd rfl c)
theorem lwc_23 {cells slots b N : Nat} {xs : Nat → Int32} {x : Int32} {l5 l6 : Option Value} {A : Nat → Nat → Int32} {L : Nat → Nat → Int64} {I : Nat → Nat → Int32} {X : Nat → Int64} (hI : INV A I) (hc : cells ≤ 601024) (hs : slots ≤ 7293034) (h7 : sevenI N x) (hE : ∀ (A : Nat → Nat → Int32) (L : Nat → Nat → Int64) (I : Nat → Nat → Int32) (X : Nat → Int64), INV A I → GL cells slots b N xs 1693 [some (.ref 5000), some (.ref 0), some (.ref 46), some (.ref 77), some (.int x), l5, l6] [] (hp A L I X)) : GL cells slots b N xs 970 [some (.ref 5000), some (.ref 0), some (.ref 46), some (.ref 77), some (.int x), l5, l6] [] (hp A L I X) := by
  obtain ⟨h0, h1, h2, h3, h4, h5, h6⟩ := h7
  refine l_aload_n dL_970 rfl rfl ?_
  refine l_aload_n dL_971 rfl rfl ?_
  refine l_iload dL_972 rfl ?_
  refine l_ic_1 dL_974 ?_
  refine l_iadd dL_975 ?_
  refine l_sld dL_976 h1 ?_
  refine l_callV dL_977 cv_L_125 (as' := [_]) hp_0 rfl (step_least hI) (by decide) hc hs rfl rfl (Nat.le_of_ble_eq_true rfl) ?_
  rintro _ _ ⟨⟨v, rfl, hR⟩, A1, L1, I1, X1, rfl⟩
  refine l_aload_n dL_980 rfl rfl ?_
  refine l_aload_n dL_981 rfl rfl ?_
  refine l_iload dL_982 rfl ?_
  refine l_ic_1 dL_984 ?_
  refine l_iadd dL_985 ?_
  refine l_sld dL_986 h1 ?_
  refine l_callV dL_987 cv_L_128 (as' := [_]) hp_46 rfl hR (by decide) hc hs rfl rfl (Nat.le_of_ble_eq_true rfl) ?_
  rintro _ _ ⟨rfl, A2, L2, I2, X2, rfl, hI2⟩
  exact l_icmp_eq (tgt := 1693) dL_990 (by decide) (fun _ => hE A2 L2 I2 X2 hI2) (fun c => absurd rfl c)
theorem lwc_24 {cells slots b N : Nat} {xs : Nat → Int32} {x : Int32} {l5 l6 : Option Value} {A : Nat → Nat → Int32} {L : Nat → Nat → Int64} {I : Nat → Nat → Int32} {X : Nat → Int64} (hI : INV A I) (hc : cells ≤ 601024) (hs : slots ≤ 7293034) (h7 : sevenI N x) (hE : ∀ (A : Nat → Nat → Int32) (L : Nat → Nat → Int64) (I : Nat → Nat → Int32) (X : Nat → Int64), INV A I → GL cells slots b N xs 1693 [some (.ref 5000), some (.ref 0), some (.ref 46), some (.ref 77), some (.int x), l5, l6] [] (hp A L I X)) : GL cells slots b N xs 995 [some (.ref 5000), some (.ref 0), some (.ref 46), some (.ref 77), some (.int x), l5, l6] [] (hp A L I X) := by
  obtain ⟨h0, h1, h2, h3, h4, h5, h6⟩ := h7
  refine l_aload_n dL_995 rfl rfl ?_
  refine l_aload_n dL_996 rfl rfl ?_
  refine l_iload dL_997 rfl ?_
  refine l_ic_1 dL_999 ?_
  refine l_iadd dL_1000 ?_
  refine l_sld dL_1001 h1 ?_
  refine l_callV dL_1002 cv_L_129 (as' := [_]) hp_0 rfl (step_ripens hI) (by decide) hc hs rfl rfl (Nat.le_of_ble_eq_true rfl) ?_
  rintro _ _ ⟨⟨v, rfl, hR⟩, A1, L1, I1, X1, rfl⟩
  refine l_aload_n dL_1005 rfl rfl ?_
  refine l_aload_n dL_1006 rfl rfl ?_
  refine l_iload dL_1007 rfl ?_
  refine l_ic_1 dL_1009 ?_
  refine l_iadd dL_1010 ?_
  refine l_sld dL_1011 h1 ?_
  refine l_callV dL_1012 cv_L_132 (as' := [_]) hp_46 rfl hR (by decide) hc hs rfl rfl (Nat.le_of_ble_eq_true rfl) ?_
  rintro _ _ ⟨rfl, A2, L2, I2, X2, rfl, hI2⟩
  exact l_icmp_eq (tgt := 1693) dL_1015 (by decide) (fun _ => hE A2 L2 I2 X2 hI2) (fun c => absurd rfl c)
theorem lwc_25 {cells slots b N : Nat} {xs : Nat → Int32} {x : Int32} {l5 l6 : Option Value} {A : Nat → Nat → Int32} {L : Nat → Nat → Int64} {I : Nat → Nat → Int32} {X : Nat → Int64} (hI : INV A I) (hc : cells ≤ 601024) (hs : slots ≤ 7293034) (h7 : sevenI N x) (hE : ∀ (A : Nat → Nat → Int32) (L : Nat → Nat → Int64) (I : Nat → Nat → Int32) (X : Nat → Int64), INV A I → GL cells slots b N xs 1693 [some (.ref 5000), some (.ref 0), some (.ref 46), some (.ref 77), some (.int x), l5, l6] [] (hp A L I X)) : GL cells slots b N xs 1020 [some (.ref 5000), some (.ref 0), some (.ref 46), some (.ref 77), some (.int x), l5, l6] [] (hp A L I X) := by
  obtain ⟨h0, h1, h2, h3, h4, h5, h6⟩ := h7
  refine l_aload_n dL_1020 rfl rfl ?_
  refine l_aload_n dL_1021 rfl rfl ?_
  refine l_iload dL_1022 rfl ?_
  refine l_ic_1 dL_1024 ?_
  refine l_iadd dL_1025 ?_
  refine l_sld dL_1026 h1 ?_
  refine l_aload_n dL_1027 rfl rfl ?_
  refine l_iload dL_1028 rfl ?_
  refine l_ic_2 dL_1030 ?_
  refine l_iadd dL_1031 ?_
  refine l_sld dL_1032 h2 ?_
  refine l_aload_n dL_1033 rfl rfl ?_
  refine l_iload dL_1034 rfl ?_
  refine l_ic_3 dL_1036 ?_
  refine l_iadd dL_1037 ?_
  refine l_sld dL_1038 h3 ?_
  refine l_callV dL_1039 cv_L_133 (as' := [_, _, _]) hp_0 rfl (step_oil hI) (by decide) hc hs rfl rfl (Nat.le_of_ble_eq_true rfl) ?_
  rintro _ _ ⟨⟨v, rfl, hR⟩, A1, L1, I1, X1, rfl⟩
  refine l_aload_n dL_1042 rfl rfl ?_
  refine l_aload_n dL_1043 rfl rfl ?_
  refine l_iload dL_1044 rfl ?_
  refine l_ic_1 dL_1046 ?_
  refine l_iadd dL_1047 ?_
  refine l_sld dL_1048 h1 ?_
  refine l_aload_n dL_1049 rfl rfl ?_
  refine l_iload dL_1050 rfl ?_
  refine l_ic_2 dL_1052 ?_
  refine l_iadd dL_1053 ?_
  refine l_sld dL_1054 h2 ?_
  refine l_aload_n dL_1055 rfl rfl ?_
  refine l_iload dL_1056 rfl ?_
  refine l_ic_3 dL_1058 ?_
  refine l_iadd dL_1059 ?_
  refine l_sld dL_1060 h3 ?_
  refine l_callV dL_1061 cv_L_137 (as' := [_, _, _]) hp_46 rfl hR (by decide) hc hs rfl rfl (Nat.le_of_ble_eq_true rfl) ?_
  rintro _ _ ⟨rfl, A2, L2, I2, X2, rfl, hI2⟩
  exact l_icmp_eq (tgt := 1693) dL_1064 (by decide) (fun _ => hE A2 L2 I2 X2 hI2) (fun c => absurd rfl c)
theorem lwc_26 {cells slots b N : Nat} {xs : Nat → Int32} {x : Int32} {l5 l6 : Option Value} {A : Nat → Nat → Int32} {L : Nat → Nat → Int64} {I : Nat → Nat → Int32} {X : Nat → Int64} (hI : INV A I) (hc : cells ≤ 601024) (hs : slots ≤ 7293034) (h7 : sevenI N x) (hE : ∀ (A : Nat → Nat → Int32) (L : Nat → Nat → Int64) (I : Nat → Nat → Int32) (X : Nat → Int64), INV A I → GL cells slots b N xs 1693 [some (.ref 5000), some (.ref 0), some (.ref 46), some (.ref 77), some (.int x), l5, l6] [] (hp A L I X)) : GL cells slots b N xs 1069 [some (.ref 5000), some (.ref 0), some (.ref 46), some (.ref 77), some (.int x), l5, l6] [] (hp A L I X) := by
  obtain ⟨h0, h1, h2, h3, h4, h5, h6⟩ := h7
  refine l_aload_n dL_1069 rfl rfl ?_
  refine l_aload_n dL_1070 rfl rfl ?_
  refine l_iload dL_1071 rfl ?_
  refine l_ic_1 dL_1073 ?_
  refine l_iadd dL_1074 ?_
  refine l_sld dL_1075 h1 ?_
  refine l_aload_n dL_1076 rfl rfl ?_
  refine l_iload dL_1077 rfl ?_
  refine l_ic_2 dL_1079 ?_
  refine l_iadd dL_1080 ?_
  refine l_sld dL_1081 h2 ?_
  refine l_aload_n dL_1082 rfl rfl ?_
  refine l_iload dL_1083 rfl ?_
  refine l_ic_3 dL_1085 ?_
  refine l_iadd dL_1086 ?_
  refine l_sld dL_1087 h3 ?_
  refine l_aload_n dL_1088 rfl rfl ?_
  refine l_iload dL_1089 rfl ?_
  refine l_ic_4 dL_1091 ?_
  refine l_iadd dL_1092 ?_
  refine l_sld dL_1093 h4 ?_
  refine l_aload_n dL_1094 rfl rfl ?_
  refine l_iload dL_1095 rfl ?_
  refine l_ic_5 dL_1097 ?_
  refine l_iadd dL_1098 ?_
  refine l_sld dL_1099 h5 ?_
  refine l_aload_n dL_1100 rfl rfl ?_
  refine l_iload dL_1101 rfl ?_
  refine l_bipush (v := 6) dL_1103 (by decide) ?_
  refine l_iadd dL_1105 ?_
  refine l_sld dL_1106 h6 ?_
  refine l_callV dL_1107 cv_L_138 (as' := [_, _, _, _, _, _]) hp_0 rfl (step_game hI) (by decide) hc hs rfl rfl (Nat.le_of_ble_eq_true rfl) ?_
  rintro _ _ ⟨⟨v, rfl, hR⟩, A1, L1, I1, X1, rfl⟩
  refine l_aload_n dL_1110 rfl rfl ?_
  refine l_aload_n dL_1111 rfl rfl ?_
  refine l_iload dL_1112 rfl ?_
  refine l_ic_1 dL_1114 ?_
  refine l_iadd dL_1115 ?_
  refine l_sld dL_1116 h1 ?_
  refine l_aload_n dL_1117 rfl rfl ?_
  refine l_iload dL_1118 rfl ?_
  refine l_ic_2 dL_1120 ?_
  refine l_iadd dL_1121 ?_
  refine l_sld dL_1122 h2 ?_
  refine l_aload_n dL_1123 rfl rfl ?_
  refine l_iload dL_1124 rfl ?_
  refine l_ic_3 dL_1126 ?_
  refine l_iadd dL_1127 ?_
  refine l_sld dL_1128 h3 ?_
  refine l_aload_n dL_1129 rfl rfl ?_
  refine l_iload dL_1130 rfl ?_
  refine l_ic_4 dL_1132 ?_
  refine l_iadd dL_1133 ?_
  refine l_sld dL_1134 h4 ?_
  refine l_aload_n dL_1135 rfl rfl ?_
  refine l_iload dL_1136 rfl ?_
  refine l_ic_5 dL_1138 ?_
  refine l_iadd dL_1139 ?_
  refine l_sld dL_1140 h5 ?_
  refine l_aload_n dL_1141 rfl rfl ?_
  refine l_iload dL_1142 rfl ?_
  refine l_bipush (v := 6) dL_1144 (by decide) ?_
  refine l_iadd dL_1146 ?_
  refine l_sld dL_1147 h6 ?_
  refine l_callV dL_1148 cv_L_142 (as' := [_, _, _, _, _, _]) hp_46 rfl hR (by decide) hc hs rfl rfl (Nat.le_of_ble_eq_true rfl) ?_
  rintro _ _ ⟨rfl, A2, L2, I2, X2, rfl, hI2⟩
  exact l_icmp_eq (tgt := 1693) dL_1151 (by decide) (fun _ => hE A2 L2 I2 X2 hI2) (fun c => absurd rfl c)
theorem lwc_27 {cells slots b N : Nat} {xs : Nat → Int32} {x : Int32} {l5 l6 : Option Value} {A : Nat → Nat → Int32} {L : Nat → Nat → Int64} {I : Nat → Nat → Int32} {X : Nat → Int64} (hI : INV A I) (hc : cells ≤ 601024) (hs : slots ≤ 7293034) (h7 : sevenI N x) (hE : ∀ (A : Nat → Nat → Int32) (L : Nat → Nat → Int64) (I : Nat → Nat → Int32) (X : Nat → Int64), INV A I → GL cells slots b N xs 1693 [some (.ref 5000), some (.ref 0), some (.ref 46), some (.ref 77), some (.int x), l5, l6] [] (hp A L I X)) : GL cells slots b N xs 1156 [some (.ref 5000), some (.ref 0), some (.ref 46), some (.ref 77), some (.int x), l5, l6] [] (hp A L I X) := by
  obtain ⟨h0, h1, h2, h3, h4, h5, h6⟩ := h7
  refine l_aload_n dL_1156 rfl rfl ?_
  refine l_aload_n dL_1157 rfl rfl ?_
  refine l_iload dL_1158 rfl ?_
  refine l_ic_1 dL_1160 ?_
  refine l_iadd dL_1161 ?_
  refine l_sld dL_1162 h1 ?_
  refine l_aload_n dL_1163 rfl rfl ?_
  refine l_iload dL_1164 rfl ?_
  refine l_ic_2 dL_1166 ?_
  refine l_iadd dL_1167 ?_
  refine l_sld dL_1168 h2 ?_
  refine l_aload_n dL_1169 rfl rfl ?_
  refine l_iload dL_1170 rfl ?_
  refine l_ic_3 dL_1172 ?_
  refine l_iadd dL_1173 ?_
  refine l_sld dL_1174 h3 ?_
  refine l_aload_n dL_1175 rfl rfl ?_
  refine l_iload dL_1176 rfl ?_
  refine l_ic_4 dL_1178 ?_
  refine l_iadd dL_1179 ?_
  refine l_sld dL_1180 h4 ?_
  refine l_callV dL_1181 cv_L_143 (as' := [_, _, _, _]) hp_0 rfl (step_rests hI) (by decide) hc hs rfl rfl (Nat.le_of_ble_eq_true rfl) ?_
  rintro _ _ ⟨⟨v, rfl, hR⟩, A1, L1, I1, X1, rfl⟩
  refine l_aload_n dL_1184 rfl rfl ?_
  refine l_aload_n dL_1185 rfl rfl ?_
  refine l_iload dL_1186 rfl ?_
  refine l_ic_1 dL_1188 ?_
  refine l_iadd dL_1189 ?_
  refine l_sld dL_1190 h1 ?_
  refine l_aload_n dL_1191 rfl rfl ?_
  refine l_iload dL_1192 rfl ?_
  refine l_ic_2 dL_1194 ?_
  refine l_iadd dL_1195 ?_
  refine l_sld dL_1196 h2 ?_
  refine l_aload_n dL_1197 rfl rfl ?_
  refine l_iload dL_1198 rfl ?_
  refine l_ic_3 dL_1200 ?_
  refine l_iadd dL_1201 ?_
  refine l_sld dL_1202 h3 ?_
  refine l_aload_n dL_1203 rfl rfl ?_
  refine l_iload dL_1204 rfl ?_
  refine l_ic_4 dL_1206 ?_
  refine l_iadd dL_1207 ?_
  refine l_sld dL_1208 h4 ?_
  refine l_callV dL_1209 cv_L_147 (as' := [_, _, _, _]) hp_46 rfl hR (by decide) hc hs rfl rfl (Nat.le_of_ble_eq_true rfl) ?_
  rintro _ _ ⟨rfl, A2, L2, I2, X2, rfl, hI2⟩
  exact l_icmp_eq (tgt := 1693) dL_1212 (by decide) (fun _ => hE A2 L2 I2 X2 hI2) (fun c => absurd rfl c)
theorem lwc_28 {cells slots b N : Nat} {xs : Nat → Int32} {x : Int32} {l5 l6 : Option Value} {A : Nat → Nat → Int32} {L : Nat → Nat → Int64} {I : Nat → Nat → Int32} {X : Nat → Int64} (hI : INV A I) (hc : cells ≤ 601024) (hs : slots ≤ 7293034) (h7 : sevenI N x) (hE : ∀ (A : Nat → Nat → Int32) (L : Nat → Nat → Int64) (I : Nat → Nat → Int32) (X : Nat → Int64), INV A I → GL cells slots b N xs 1693 [some (.ref 5000), some (.ref 0), some (.ref 46), some (.ref 77), some (.int x), l5, l6] [] (hp A L I X)) : GL cells slots b N xs 1217 [some (.ref 5000), some (.ref 0), some (.ref 46), some (.ref 77), some (.int x), l5, l6] [] (hp A L I X) := by
  obtain ⟨h0, h1, h2, h3, h4, h5, h6⟩ := h7
  refine l_aload_n dL_1217 rfl rfl ?_
  refine l_aload_n dL_1218 rfl rfl ?_
  refine l_iload dL_1219 rfl ?_
  refine l_ic_1 dL_1221 ?_
  refine l_iadd dL_1222 ?_
  refine l_sld dL_1223 h1 ?_
  refine l_aload_n dL_1224 rfl rfl ?_
  refine l_iload dL_1225 rfl ?_
  refine l_ic_2 dL_1227 ?_
  refine l_iadd dL_1228 ?_
  refine l_sld dL_1229 h2 ?_
  refine l_aload_n dL_1230 rfl rfl ?_
  refine l_iload dL_1231 rfl ?_
  refine l_ic_3 dL_1233 ?_
  refine l_iadd dL_1234 ?_
  refine l_sld dL_1235 h3 ?_
  refine l_callV dL_1236 cv_L_148 (as' := [_, _, _]) hp_0 rfl (step_shares hI) (by decide) hc hs rfl rfl (Nat.le_of_ble_eq_true rfl) ?_
  rintro _ _ ⟨⟨v, rfl, hR⟩, A1, L1, I1, X1, rfl⟩
  refine l_aload_n dL_1239 rfl rfl ?_
  refine l_aload_n dL_1240 rfl rfl ?_
  refine l_iload dL_1241 rfl ?_
  refine l_ic_1 dL_1243 ?_
  refine l_iadd dL_1244 ?_
  refine l_sld dL_1245 h1 ?_
  refine l_aload_n dL_1246 rfl rfl ?_
  refine l_iload dL_1247 rfl ?_
  refine l_ic_2 dL_1249 ?_
  refine l_iadd dL_1250 ?_
  refine l_sld dL_1251 h2 ?_
  refine l_aload_n dL_1252 rfl rfl ?_
  refine l_iload dL_1253 rfl ?_
  refine l_ic_3 dL_1255 ?_
  refine l_iadd dL_1256 ?_
  refine l_sld dL_1257 h3 ?_
  refine l_callV dL_1258 cv_L_151 (as' := [_, _, _]) hp_46 rfl hR (by decide) hc hs rfl rfl (Nat.le_of_ble_eq_true rfl) ?_
  rintro _ _ ⟨rfl, A2, L2, I2, X2, rfl, hI2⟩
  exact l_icmp_eq (tgt := 1693) dL_1261 (by decide) (fun _ => hE A2 L2 I2 X2 hI2) (fun c => absurd rfl c)
theorem lwc_29 {cells slots b N : Nat} {xs : Nat → Int32} {x : Int32} {l5 l6 : Option Value} {A : Nat → Nat → Int32} {L : Nat → Nat → Int64} {I : Nat → Nat → Int32} {X : Nat → Int64} (hI : INV A I) (hc : cells ≤ 601024) (hs : slots ≤ 7293034) (h7 : sevenI N x) (hE : ∀ (A : Nat → Nat → Int32) (L : Nat → Nat → Int64) (I : Nat → Nat → Int32) (X : Nat → Int64), INV A I → GL cells slots b N xs 1693 [some (.ref 5000), some (.ref 0), some (.ref 46), some (.ref 77), some (.int x), l5, l6] [] (hp A L I X)) : GL cells slots b N xs 1266 [some (.ref 5000), some (.ref 0), some (.ref 46), some (.ref 77), some (.int x), l5, l6] [] (hp A L I X) := by
  obtain ⟨h0, h1, h2, h3, h4, h5, h6⟩ := h7
  refine l_aload_n dL_1266 rfl rfl ?_
  refine l_aload_n dL_1267 rfl rfl ?_
  refine l_iload dL_1268 rfl ?_
  refine l_ic_1 dL_1270 ?_
  refine l_iadd dL_1271 ?_
  refine l_sld dL_1272 h1 ?_
  refine l_aload_n dL_1273 rfl rfl ?_
  refine l_iload dL_1274 rfl ?_
  refine l_ic_2 dL_1276 ?_
  refine l_iadd dL_1277 ?_
  refine l_sld dL_1278 h2 ?_
  refine l_callV dL_1279 cv_L_152 (as' := [_, _]) hp_0 rfl (step_ride hI) (by decide) hc hs rfl rfl (Nat.le_of_ble_eq_true rfl) ?_
  rintro _ _ ⟨⟨v, rfl, hR⟩, A1, L1, I1, X1, rfl⟩
  refine l_aload_n dL_1282 rfl rfl ?_
  refine l_aload_n dL_1283 rfl rfl ?_
  refine l_iload dL_1284 rfl ?_
  refine l_ic_1 dL_1286 ?_
  refine l_iadd dL_1287 ?_
  refine l_sld dL_1288 h1 ?_
  refine l_aload_n dL_1289 rfl rfl ?_
  refine l_iload dL_1290 rfl ?_
  refine l_ic_2 dL_1292 ?_
  refine l_iadd dL_1293 ?_
  refine l_sld dL_1294 h2 ?_
  refine l_callV dL_1295 cv_L_155 (as' := [_, _]) hp_46 rfl hR (by decide) hc hs rfl rfl (Nat.le_of_ble_eq_true rfl) ?_
  rintro _ _ ⟨rfl, A2, L2, I2, X2, rfl, hI2⟩
  exact l_icmp_eq (tgt := 1693) dL_1298 (by decide) (fun _ => hE A2 L2 I2 X2 hI2) (fun c => absurd rfl c)
theorem lwc_30 {cells slots b N : Nat} {xs : Nat → Int32} {x : Int32} {l5 l6 : Option Value} {A : Nat → Nat → Int32} {L : Nat → Nat → Int64} {I : Nat → Nat → Int32} {X : Nat → Int64} (hI : INV A I) (hc : cells ≤ 601024) (hs : slots ≤ 7293034) (h7 : sevenI N x) (hE : ∀ (A : Nat → Nat → Int32) (L : Nat → Nat → Int64) (I : Nat → Nat → Int32) (X : Nat → Int64), INV A I → GL cells slots b N xs 1693 [some (.ref 5000), some (.ref 0), some (.ref 46), some (.ref 77), some (.int x), l5, l6] [] (hp A L I X)) : GL cells slots b N xs 1303 [some (.ref 5000), some (.ref 0), some (.ref 46), some (.ref 77), some (.int x), l5, l6] [] (hp A L I X) := by
  obtain ⟨h0, h1, h2, h3, h4, h5, h6⟩ := h7
  refine l_aload_n dL_1303 rfl rfl ?_
  refine l_aload_n dL_1304 rfl rfl ?_
  refine l_iload dL_1305 rfl ?_
  refine l_ic_1 dL_1307 ?_
  refine l_iadd dL_1308 ?_
  refine l_sld dL_1309 h1 ?_
  refine l_aload_n dL_1310 rfl rfl ?_
  refine l_iload dL_1311 rfl ?_
  refine l_ic_2 dL_1313 ?_
  refine l_iadd dL_1314 ?_
  refine l_sld dL_1315 h2 ?_
  refine l_callV dL_1316 cv_L_156 (as' := [_, _]) hp_0 rfl (step_level hI) (by decide) hc hs rfl rfl (Nat.le_of_ble_eq_true rfl) ?_
  rintro _ _ ⟨⟨v, rfl, hR⟩, A1, L1, I1, X1, rfl⟩
  refine l_aload_n dL_1319 rfl rfl ?_
  refine l_aload_n dL_1320 rfl rfl ?_
  refine l_iload dL_1321 rfl ?_
  refine l_ic_1 dL_1323 ?_
  refine l_iadd dL_1324 ?_
  refine l_sld dL_1325 h1 ?_
  refine l_aload_n dL_1326 rfl rfl ?_
  refine l_iload dL_1327 rfl ?_
  refine l_ic_2 dL_1329 ?_
  refine l_iadd dL_1330 ?_
  refine l_sld dL_1331 h2 ?_
  refine l_callV dL_1332 cv_L_159 (as' := [_, _]) hp_46 rfl hR (by decide) hc hs rfl rfl (Nat.le_of_ble_eq_true rfl) ?_
  rintro _ _ ⟨rfl, A2, L2, I2, X2, rfl, hI2⟩
  exact l_icmp_eq (tgt := 1693) dL_1335 (by decide) (fun _ => hE A2 L2 I2 X2 hI2) (fun c => absurd rfl c)
theorem lwc_31 {cells slots b N : Nat} {xs : Nat → Int32} {x : Int32} {l5 l6 : Option Value} {A : Nat → Nat → Int32} {L : Nat → Nat → Int64} {I : Nat → Nat → Int32} {X : Nat → Int64} (hI : INV A I) (hc : cells ≤ 601024) (hs : slots ≤ 7293034) (h7 : sevenI N x) (hE : ∀ (A : Nat → Nat → Int32) (L : Nat → Nat → Int64) (I : Nat → Nat → Int32) (X : Nat → Int64), INV A I → GL cells slots b N xs 1693 [some (.ref 5000), some (.ref 0), some (.ref 46), some (.ref 77), some (.int x), l5, l6] [] (hp A L I X)) : GL cells slots b N xs 1340 [some (.ref 5000), some (.ref 0), some (.ref 46), some (.ref 77), some (.int x), l5, l6] [] (hp A L I X) := by
  obtain ⟨h0, h1, h2, h3, h4, h5, h6⟩ := h7
  refine l_aload_n dL_1340 rfl rfl ?_
  refine l_callV dL_1341 cv_L_160 (as' := []) hp_0 rfl (step_year hI) (by decide) hc hs rfl rfl (Nat.le_of_ble_eq_true rfl) ?_
  rintro _ _ ⟨⟨v, rfl, hR⟩, A1, L1, I1, X1, rfl⟩
  refine l_aload_n dL_1344 rfl rfl ?_
  refine l_callV dL_1345 cv_L_163 (as' := []) hp_46 rfl hR (by decide) hc hs rfl rfl (Nat.le_of_ble_eq_true rfl) ?_
  rintro _ _ ⟨rfl, A2, L2, I2, X2, rfl, hI2⟩
  exact l_icmp_eq (tgt := 1693) dL_1348 (by decide) (fun _ => hE A2 L2 I2 X2 hI2) (fun c => absurd rfl c)
theorem lwc_32 {cells slots b N : Nat} {xs : Nat → Int32} {x : Int32} {l5 l6 : Option Value} {A : Nat → Nat → Int32} {L : Nat → Nat → Int64} {I : Nat → Nat → Int32} {X : Nat → Int64} (hI : INV A I) (hc : cells ≤ 601024) (hs : slots ≤ 7293034) (h7 : sevenI N x) (hE : ∀ (A : Nat → Nat → Int32) (L : Nat → Nat → Int64) (I : Nat → Nat → Int32) (X : Nat → Int64), INV A I → GL cells slots b N xs 1693 [some (.ref 5000), some (.ref 0), some (.ref 46), some (.ref 77), some (.int x), l5, l6] [] (hp A L I X)) : GL cells slots b N xs 1353 [some (.ref 5000), some (.ref 0), some (.ref 46), some (.ref 77), some (.int x), l5, l6] [] (hp A L I X) := by
  obtain ⟨h0, h1, h2, h3, h4, h5, h6⟩ := h7
  refine l_aload_n dL_1353 rfl rfl ?_
  refine l_aload_n dL_1354 rfl rfl ?_
  refine l_iload dL_1355 rfl ?_
  refine l_ic_1 dL_1357 ?_
  refine l_iadd dL_1358 ?_
  refine l_sld dL_1359 h1 ?_
  refine l_callV dL_1360 cv_L_164 (as' := [_]) hp_0 rfl (step_never hI) (by decide) hc hs rfl rfl (Nat.le_of_ble_eq_true rfl) ?_
  rintro _ _ ⟨⟨v, rfl, hR⟩, A1, L1, I1, X1, rfl⟩
  refine l_aload_n dL_1363 rfl rfl ?_
  refine l_aload_n dL_1364 rfl rfl ?_
  refine l_iload dL_1365 rfl ?_
  refine l_ic_1 dL_1367 ?_
  refine l_iadd dL_1368 ?_
  refine l_sld dL_1369 h1 ?_
  refine l_callV dL_1370 cv_L_167 (as' := [_]) hp_46 rfl hR (by decide) hc hs rfl rfl (Nat.le_of_ble_eq_true rfl) ?_
  rintro _ _ ⟨rfl, A2, L2, I2, X2, rfl, hI2⟩
  exact l_icmp_eq (tgt := 1693) dL_1373 (by decide) (fun _ => hE A2 L2 I2 X2 hI2) (fun c => absurd rfl c)
theorem lwc_33 {cells slots b N : Nat} {xs : Nat → Int32} {x : Int32} {l5 l6 : Option Value} {A : Nat → Nat → Int32} {L : Nat → Nat → Int64} {I : Nat → Nat → Int32} {X : Nat → Int64} (hI : INV A I) (hc : cells ≤ 601024) (hs : slots ≤ 7293034) (h7 : sevenI N x) (hE : ∀ (A : Nat → Nat → Int32) (L : Nat → Nat → Int64) (I : Nat → Nat → Int32) (X : Nat → Int64), INV A I → GL cells slots b N xs 1693 [some (.ref 5000), some (.ref 0), some (.ref 46), some (.ref 77), some (.int x), l5, l6] [] (hp A L I X)) : GL cells slots b N xs 1378 [some (.ref 5000), some (.ref 0), some (.ref 46), some (.ref 77), some (.int x), l5, l6] [] (hp A L I X) := by
  obtain ⟨h0, h1, h2, h3, h4, h5, h6⟩ := h7
  refine l_aload_n dL_1378 rfl rfl ?_
  refine l_aload_n dL_1379 rfl rfl ?_
  refine l_iload dL_1380 rfl ?_
  refine l_ic_1 dL_1382 ?_
  refine l_iadd dL_1383 ?_
  refine l_sld dL_1384 h1 ?_
  refine l_aload_n dL_1385 rfl rfl ?_
  refine l_iload dL_1386 rfl ?_
  refine l_ic_2 dL_1388 ?_
  refine l_iadd dL_1389 ?_
  refine l_sld dL_1390 h2 ?_
  refine l_aload_n dL_1391 rfl rfl ?_
  refine l_iload dL_1392 rfl ?_
  refine l_ic_3 dL_1394 ?_
  refine l_iadd dL_1395 ?_
  refine l_sld dL_1396 h3 ?_
  refine l_if_eq (tgt := 1404) dL_1397 (by decide) (fun z_1397 => ?_) (fun z_1397 => ?_)
  · refine l_ic_0 dL_1404 ?_
    refine l_callV dL_1405 cv_L_168 (as' := [_, _, _]) hp_0 rfl (step_seen hI (Or.inl rfl)) (by decide) hc hs rfl rfl (Nat.le_of_ble_eq_true rfl) ?_
    rintro _ _ ⟨⟨v, rfl, hR⟩, A1, L1, I1, X1, rfl⟩
    refine l_aload_n dL_1408 rfl rfl ?_
    refine l_aload_n dL_1409 rfl rfl ?_
    refine l_iload dL_1410 rfl ?_
    refine l_ic_1 dL_1412 ?_
    refine l_iadd dL_1413 ?_
    refine l_sld dL_1414 h1 ?_
    refine l_aload_n dL_1415 rfl rfl ?_
    refine l_iload dL_1416 rfl ?_
    refine l_ic_2 dL_1418 ?_
    refine l_iadd dL_1419 ?_
    refine l_sld dL_1420 h2 ?_
    refine l_aload_n dL_1421 rfl rfl ?_
    refine l_iload dL_1422 rfl ?_
    refine l_ic_3 dL_1424 ?_
    refine l_iadd dL_1425 ?_
    refine l_sld dL_1426 h3 ?_
    refine l_if_eq (tgt := 1434) dL_1427 (by decide) (fun z_1427 => ?_) (fun z_1427 => ?_)
    · refine l_ic_0 dL_1434 ?_
      refine l_callV dL_1435 cv_L_172 (as' := [_, _, _]) hp_46 rfl hR (by decide) hc hs rfl rfl (Nat.le_of_ble_eq_true rfl) ?_
      rintro _ _ ⟨rfl, A2, L2, I2, X2, rfl, hI2⟩
      exact l_icmp_eq (tgt := 1693) dL_1438 (by decide) (fun _ => hE A2 L2 I2 X2 hI2) (fun c => absurd rfl c)
    · exact absurd z_1397 z_1427
  · refine l_ic_1 dL_1400 ?_
    refine l_goto (tgt := 1405) dL_1401 (by decide) ?_
    refine l_callV dL_1405 cv_L_168 (as' := [_, _, _]) hp_0 rfl (step_seen hI (Or.inr rfl)) (by decide) hc hs rfl rfl (Nat.le_of_ble_eq_true rfl) ?_
    rintro _ _ ⟨⟨v, rfl, hR⟩, A1, L1, I1, X1, rfl⟩
    refine l_aload_n dL_1408 rfl rfl ?_
    refine l_aload_n dL_1409 rfl rfl ?_
    refine l_iload dL_1410 rfl ?_
    refine l_ic_1 dL_1412 ?_
    refine l_iadd dL_1413 ?_
    refine l_sld dL_1414 h1 ?_
    refine l_aload_n dL_1415 rfl rfl ?_
    refine l_iload dL_1416 rfl ?_
    refine l_ic_2 dL_1418 ?_
    refine l_iadd dL_1419 ?_
    refine l_sld dL_1420 h2 ?_
    refine l_aload_n dL_1421 rfl rfl ?_
    refine l_iload dL_1422 rfl ?_
    refine l_ic_3 dL_1424 ?_
    refine l_iadd dL_1425 ?_
    refine l_sld dL_1426 h3 ?_
    refine l_if_eq (tgt := 1434) dL_1427 (by decide) (fun z_1427 => ?_) (fun z_1427 => ?_)
    · exact absurd z_1427 z_1397
    · refine l_ic_1 dL_1430 ?_
      refine l_goto (tgt := 1435) dL_1431 (by decide) ?_
      refine l_callV dL_1435 cv_L_172 (as' := [_, _, _]) hp_46 rfl hR (by decide) hc hs rfl rfl (Nat.le_of_ble_eq_true rfl) ?_
      rintro _ _ ⟨rfl, A2, L2, I2, X2, rfl, hI2⟩
      exact l_icmp_eq (tgt := 1693) dL_1438 (by decide) (fun _ => hE A2 L2 I2 X2 hI2) (fun c => absurd rfl c)
theorem lwc_34 {cells slots b N : Nat} {xs : Nat → Int32} {x : Int32} {l5 l6 : Option Value} {A : Nat → Nat → Int32} {L : Nat → Nat → Int64} {I : Nat → Nat → Int32} {X : Nat → Int64} (hI : INV A I) (hc : cells ≤ 601024) (hs : slots ≤ 7293034) (h7 : sevenI N x) (hE : ∀ (A : Nat → Nat → Int32) (L : Nat → Nat → Int64) (I : Nat → Nat → Int32) (X : Nat → Int64), INV A I → GL cells slots b N xs 1693 [some (.ref 5000), some (.ref 0), some (.ref 46), some (.ref 77), some (.int x), l5, l6] [] (hp A L I X)) : GL cells slots b N xs 1443 [some (.ref 5000), some (.ref 0), some (.ref 46), some (.ref 77), some (.int x), l5, l6] [] (hp A L I X) := by
  obtain ⟨h0, h1, h2, h3, h4, h5, h6⟩ := h7
  refine l_aload_n dL_1443 rfl rfl ?_
  refine l_aload_n dL_1444 rfl rfl ?_
  refine l_iload dL_1445 rfl ?_
  refine l_ic_1 dL_1447 ?_
  refine l_iadd dL_1448 ?_
  refine l_sld dL_1449 h1 ?_
  refine l_aload_n dL_1450 rfl rfl ?_
  refine l_iload dL_1451 rfl ?_
  refine l_ic_2 dL_1453 ?_
  refine l_iadd dL_1454 ?_
  refine l_sld dL_1455 h2 ?_
  refine l_callV dL_1456 cv_L_173 (as' := [_, _]) hp_0 rfl (step_who hI) (by decide) hc hs rfl rfl (Nat.le_of_ble_eq_true rfl) ?_
  rintro _ _ ⟨⟨v, rfl, hR⟩, A1, L1, I1, X1, rfl⟩
  refine l_aload_n dL_1459 rfl rfl ?_
  refine l_aload_n dL_1460 rfl rfl ?_
  refine l_iload dL_1461 rfl ?_
  refine l_ic_1 dL_1463 ?_
  refine l_iadd dL_1464 ?_
  refine l_sld dL_1465 h1 ?_
  refine l_aload_n dL_1466 rfl rfl ?_
  refine l_iload dL_1467 rfl ?_
  refine l_ic_2 dL_1469 ?_
  refine l_iadd dL_1470 ?_
  refine l_sld dL_1471 h2 ?_
  refine l_callV dL_1472 cv_L_176 (as' := [_, _]) hp_46 rfl hR (by decide) hc hs rfl rfl (Nat.le_of_ble_eq_true rfl) ?_
  rintro _ _ ⟨rfl, A2, L2, I2, X2, rfl, hI2⟩
  exact l_icmp_eq (tgt := 1693) dL_1475 (by decide) (fun _ => hE A2 L2 I2 X2 hI2) (fun c => absurd rfl c)
theorem lwc_35 {cells slots b N : Nat} {xs : Nat → Int32} {x : Int32} {l5 l6 : Option Value} {A : Nat → Nat → Int32} {L : Nat → Nat → Int64} {I : Nat → Nat → Int32} {X : Nat → Int64} (hI : INV A I) (hc : cells ≤ 601024) (hs : slots ≤ 7293034) (h7 : sevenI N x) (hE : ∀ (A : Nat → Nat → Int32) (L : Nat → Nat → Int64) (I : Nat → Nat → Int32) (X : Nat → Int64), INV A I → GL cells slots b N xs 1693 [some (.ref 5000), some (.ref 0), some (.ref 46), some (.ref 77), some (.int x), l5, l6] [] (hp A L I X)) : GL cells slots b N xs 1480 [some (.ref 5000), some (.ref 0), some (.ref 46), some (.ref 77), some (.int x), l5, l6] [] (hp A L I X) := by
  obtain ⟨h0, h1, h2, h3, h4, h5, h6⟩ := h7
  refine l_aload_n dL_1480 rfl rfl ?_
  refine l_aload_n dL_1481 rfl rfl ?_
  refine l_iload dL_1482 rfl ?_
  refine l_ic_1 dL_1484 ?_
  refine l_iadd dL_1485 ?_
  refine l_sld dL_1486 h1 ?_
  refine l_callV dL_1487 cv_L_177 (as' := [_]) hp_0 rfl (step_best hI) (by decide) hc hs rfl rfl (Nat.le_of_ble_eq_true rfl) ?_
  rintro _ _ ⟨⟨v, rfl, hR⟩, A1, L1, I1, X1, rfl⟩
  refine l_aload_n dL_1490 rfl rfl ?_
  refine l_aload_n dL_1491 rfl rfl ?_
  refine l_iload dL_1492 rfl ?_
  refine l_ic_1 dL_1494 ?_
  refine l_iadd dL_1495 ?_
  refine l_sld dL_1496 h1 ?_
  refine l_callV dL_1497 cv_L_180 (as' := [_]) hp_46 rfl hR (by decide) hc hs rfl rfl (Nat.le_of_ble_eq_true rfl) ?_
  rintro _ _ ⟨rfl, A2, L2, I2, X2, rfl, hI2⟩
  exact l_icmp_eq (tgt := 1693) dL_1500 (by decide) (fun _ => hE A2 L2 I2 X2 hI2) (fun c => absurd rfl c)
theorem lwc_36 {cells slots b N : Nat} {xs : Nat → Int32} {x : Int32} {l5 l6 : Option Value} {A : Nat → Nat → Int32} {L : Nat → Nat → Int64} {I : Nat → Nat → Int32} {X : Nat → Int64} (hI : INV A I) (hc : cells ≤ 601024) (hs : slots ≤ 7293034) (h7 : sevenI N x) (hE : ∀ (A : Nat → Nat → Int32) (L : Nat → Nat → Int64) (I : Nat → Nat → Int32) (X : Nat → Int64), INV A I → GL cells slots b N xs 1693 [some (.ref 5000), some (.ref 0), some (.ref 46), some (.ref 77), some (.int x), l5, l6] [] (hp A L I X)) : GL cells slots b N xs 1505 [some (.ref 5000), some (.ref 0), some (.ref 46), some (.ref 77), some (.int x), l5, l6] [] (hp A L I X) := by
  obtain ⟨h0, h1, h2, h3, h4, h5, h6⟩ := h7
  refine l_aload_n dL_1505 rfl rfl ?_
  refine l_aload_n dL_1506 rfl rfl ?_
  refine l_iload dL_1507 rfl ?_
  refine l_ic_1 dL_1509 ?_
  refine l_iadd dL_1510 ?_
  refine l_sld dL_1511 h1 ?_
  refine l_aload_n dL_1512 rfl rfl ?_
  refine l_iload dL_1513 rfl ?_
  refine l_ic_2 dL_1515 ?_
  refine l_iadd dL_1516 ?_
  refine l_sld dL_1517 h2 ?_
  refine l_callV dL_1518 cv_L_181 (as' := [_, _]) hp_0 rfl (step_odds hI) (by decide) hc hs rfl rfl (Nat.le_of_ble_eq_true rfl) ?_
  rintro _ _ ⟨⟨v, rfl, hR⟩, A1, L1, I1, X1, rfl⟩
  refine l_aload_n dL_1521 rfl rfl ?_
  refine l_aload_n dL_1522 rfl rfl ?_
  refine l_iload dL_1523 rfl ?_
  refine l_ic_1 dL_1525 ?_
  refine l_iadd dL_1526 ?_
  refine l_sld dL_1527 h1 ?_
  refine l_aload_n dL_1528 rfl rfl ?_
  refine l_iload dL_1529 rfl ?_
  refine l_ic_2 dL_1531 ?_
  refine l_iadd dL_1532 ?_
  refine l_sld dL_1533 h2 ?_
  refine l_callV dL_1534 cv_L_184 (as' := [_, _]) hp_46 rfl hR (by decide) hc hs rfl rfl (Nat.le_of_ble_eq_true rfl) ?_
  rintro _ _ ⟨rfl, A2, L2, I2, X2, rfl, hI2⟩
  exact l_icmp_eq (tgt := 1693) dL_1537 (by decide) (fun _ => hE A2 L2 I2 X2 hI2) (fun c => absurd rfl c)
theorem lwc_37 {cells slots b N : Nat} {xs : Nat → Int32} {x : Int32} {l5 l6 : Option Value} {A : Nat → Nat → Int32} {L : Nat → Nat → Int64} {I : Nat → Nat → Int32} {X : Nat → Int64} (hI : INV A I) (hc : cells ≤ 601024) (hs : slots ≤ 7293034) (h7 : sevenI N x) (hE : ∀ (A : Nat → Nat → Int32) (L : Nat → Nat → Int64) (I : Nat → Nat → Int32) (X : Nat → Int64), INV A I → GL cells slots b N xs 1693 [some (.ref 5000), some (.ref 0), some (.ref 46), some (.ref 77), some (.int x), l5, l6] [] (hp A L I X)) : GL cells slots b N xs 1542 [some (.ref 5000), some (.ref 0), some (.ref 46), some (.ref 77), some (.int x), l5, l6] [] (hp A L I X) := by
  obtain ⟨h0, h1, h2, h3, h4, h5, h6⟩ := h7
  refine l_aload_n dL_1542 rfl rfl ?_
  refine l_aload_n dL_1543 rfl rfl ?_
  refine l_iload dL_1544 rfl ?_
  refine l_ic_1 dL_1546 ?_
  refine l_iadd dL_1547 ?_
  refine l_sld dL_1548 h1 ?_
  refine l_aload_n dL_1549 rfl rfl ?_
  refine l_iload dL_1550 rfl ?_
  refine l_ic_2 dL_1552 ?_
  refine l_iadd dL_1553 ?_
  refine l_sld dL_1554 h2 ?_
  refine l_aload_n dL_1555 rfl rfl ?_
  refine l_iload dL_1556 rfl ?_
  refine l_ic_3 dL_1558 ?_
  refine l_iadd dL_1559 ?_
  refine l_sld dL_1560 h3 ?_
  refine l_callV dL_1561 cv_L_185 (as' := [_, _, _]) hp_0 rfl (step_price hI) (by decide) hc hs rfl rfl (Nat.le_of_ble_eq_true rfl) ?_
  rintro _ _ ⟨⟨v, rfl, hR⟩, A1, L1, I1, X1, rfl⟩
  refine l_aload_n dL_1564 rfl rfl ?_
  refine l_aload_n dL_1565 rfl rfl ?_
  refine l_iload dL_1566 rfl ?_
  refine l_ic_1 dL_1568 ?_
  refine l_iadd dL_1569 ?_
  refine l_sld dL_1570 h1 ?_
  refine l_aload_n dL_1571 rfl rfl ?_
  refine l_iload dL_1572 rfl ?_
  refine l_ic_2 dL_1574 ?_
  refine l_iadd dL_1575 ?_
  refine l_sld dL_1576 h2 ?_
  refine l_aload_n dL_1577 rfl rfl ?_
  refine l_iload dL_1578 rfl ?_
  refine l_ic_3 dL_1580 ?_
  refine l_iadd dL_1581 ?_
  refine l_sld dL_1582 h3 ?_
  refine l_callV dL_1583 cv_L_188 (as' := [_, _, _]) hp_46 rfl hR (by decide) hc hs rfl rfl (Nat.le_of_ble_eq_true rfl) ?_
  rintro _ _ ⟨rfl, A2, L2, I2, X2, rfl, hI2⟩
  exact l_icmp_eq (tgt := 1693) dL_1586 (by decide) (fun _ => hE A2 L2 I2 X2 hI2) (fun c => absurd rfl c)
theorem lwc_38 {cells slots b N : Nat} {xs : Nat → Int32} {x : Int32} {l5 l6 : Option Value} {A : Nat → Nat → Int32} {L : Nat → Nat → Int64} {I : Nat → Nat → Int32} {X : Nat → Int64} (hI : INV A I) (hc : cells ≤ 601024) (hs : slots ≤ 7293034) (h7 : sevenI N x) (hE : ∀ (A : Nat → Nat → Int32) (L : Nat → Nat → Int64) (I : Nat → Nat → Int32) (X : Nat → Int64), INV A I → GL cells slots b N xs 1693 [some (.ref 5000), some (.ref 0), some (.ref 46), some (.ref 77), some (.int x), l5, l6] [] (hp A L I X)) : GL cells slots b N xs 1591 [some (.ref 5000), some (.ref 0), some (.ref 46), some (.ref 77), some (.int x), l5, l6] [] (hp A L I X) := by
  obtain ⟨h0, h1, h2, h3, h4, h5, h6⟩ := h7
  refine l_aload_n dL_1591 rfl rfl ?_
  refine l_aload_n dL_1592 rfl rfl ?_
  refine l_iload dL_1593 rfl ?_
  refine l_ic_1 dL_1595 ?_
  refine l_iadd dL_1596 ?_
  refine l_sld dL_1597 h1 ?_
  refine l_callV dL_1598 cv_L_189 (as' := [_]) hp_0 rfl (step_most hI) (by decide) hc hs rfl rfl (Nat.le_of_ble_eq_true rfl) ?_
  rintro _ _ ⟨⟨v, rfl, hR⟩, A1, L1, I1, X1, rfl⟩
  refine l_aload_n dL_1601 rfl rfl ?_
  refine l_aload_n dL_1602 rfl rfl ?_
  refine l_iload dL_1603 rfl ?_
  refine l_ic_1 dL_1605 ?_
  refine l_iadd dL_1606 ?_
  refine l_sld dL_1607 h1 ?_
  refine l_callV dL_1608 cv_L_192 (as' := [_]) hp_46 rfl hR (by decide) hc hs rfl rfl (Nat.le_of_ble_eq_true rfl) ?_
  rintro _ _ ⟨rfl, A2, L2, I2, X2, rfl, hI2⟩
  exact l_icmp_eq (tgt := 1693) dL_1611 (by decide) (fun _ => hE A2 L2 I2 X2 hI2) (fun c => absurd rfl c)
theorem lwc_39 {cells slots b N : Nat} {xs : Nat → Int32} {x : Int32} {l5 l6 : Option Value} {A : Nat → Nat → Int32} {L : Nat → Nat → Int64} {I : Nat → Nat → Int32} {X : Nat → Int64} (hI : INV A I) (hc : cells ≤ 601024) (hs : slots ≤ 7293034) (h7 : sevenI N x) (hE : ∀ (A : Nat → Nat → Int32) (L : Nat → Nat → Int64) (I : Nat → Nat → Int32) (X : Nat → Int64), INV A I → GL cells slots b N xs 1693 [some (.ref 5000), some (.ref 0), some (.ref 46), some (.ref 77), some (.int x), l5, l6] [] (hp A L I X)) : GL cells slots b N xs 1616 [some (.ref 5000), some (.ref 0), some (.ref 46), some (.ref 77), some (.int x), l5, l6] [] (hp A L I X) := by
  obtain ⟨h0, h1, h2, h3, h4, h5, h6⟩ := h7
  refine l_aload_n dL_1616 rfl rfl ?_
  refine l_callV dL_1617 cv_L_193 (as' := []) hp_0 rfl (step_worths hI) (by decide) hc hs rfl rfl (Nat.le_of_ble_eq_true rfl) ?_
  rintro _ _ ⟨⟨v, rfl, hR⟩, A1, L1, I1, X1, rfl⟩
  refine l_aload_n dL_1620 rfl rfl ?_
  refine l_callV dL_1621 cv_L_196 (as' := []) hp_46 rfl hR (by decide) hc hs rfl rfl (Nat.le_of_ble_eq_true rfl) ?_
  rintro _ _ ⟨rfl, A2, L2, I2, X2, rfl, hI2⟩
  exact l_icmp_eq (tgt := 1693) dL_1624 (by decide) (fun _ => hE A2 L2 I2 X2 hI2) (fun c => absurd rfl c)
theorem lwc_40 {cells slots b N : Nat} {xs : Nat → Int32} {x : Int32} {l5 l6 : Option Value} {A : Nat → Nat → Int32} {L : Nat → Nat → Int64} {I : Nat → Nat → Int32} {X : Nat → Int64} (hI : INV A I) (hc : cells ≤ 601024) (hs : slots ≤ 7293034) (h7 : sevenI N x) (hE : ∀ (A : Nat → Nat → Int32) (L : Nat → Nat → Int64) (I : Nat → Nat → Int32) (X : Nat → Int64), INV A I → GL cells slots b N xs 1693 [some (.ref 5000), some (.ref 0), some (.ref 46), some (.ref 77), some (.int x), l5, l6] [] (hp A L I X)) : GL cells slots b N xs 1629 [some (.ref 5000), some (.ref 0), some (.ref 46), some (.ref 77), some (.int x), l5, l6] [] (hp A L I X) := by
  obtain ⟨h0, h1, h2, h3, h4, h5, h6⟩ := h7
  refine l_aload_n dL_1629 rfl rfl ?_
  refine l_callV dL_1630 cv_L_197 (as' := []) hp_0 rfl (step_lasts hI) (by decide) hc hs rfl rfl (Nat.le_of_ble_eq_true rfl) ?_
  rintro _ _ ⟨⟨v, rfl, hR⟩, A1, L1, I1, X1, rfl⟩
  refine l_aload_n dL_1633 rfl rfl ?_
  refine l_callV dL_1634 cv_L_200 (as' := []) hp_46 rfl hR (by decide) hc hs rfl rfl (Nat.le_of_ble_eq_true rfl) ?_
  rintro _ _ ⟨rfl, A2, L2, I2, X2, rfl, hI2⟩
  exact l_icmp_eq (tgt := 1693) dL_1637 (by decide) (fun _ => hE A2 L2 I2 X2 hI2) (fun c => absurd rfl c)
theorem lwc_41 {cells slots b N : Nat} {xs : Nat → Int32} {x : Int32} {l5 l6 : Option Value} {A : Nat → Nat → Int32} {L : Nat → Nat → Int64} {I : Nat → Nat → Int32} {X : Nat → Int64} (hI : INV A I) (hc : cells ≤ 601024) (hs : slots ≤ 7293034) (h7 : sevenI N x) (hE : ∀ (A : Nat → Nat → Int32) (L : Nat → Nat → Int64) (I : Nat → Nat → Int32) (X : Nat → Int64), INV A I → GL cells slots b N xs 1693 [some (.ref 5000), some (.ref 0), some (.ref 46), some (.ref 77), some (.int x), l5, l6] [] (hp A L I X)) : GL cells slots b N xs 1642 [some (.ref 5000), some (.ref 0), some (.ref 46), some (.ref 77), some (.int x), l5, l6] [] (hp A L I X) := by
  obtain ⟨h0, h1, h2, h3, h4, h5, h6⟩ := h7
  refine l_aload_n dL_1642 rfl rfl ?_
  refine l_callV dL_1643 cv_L_201 (as' := []) hp_0 rfl (step_image hI) (by decide) hc hs rfl rfl (Nat.le_of_ble_eq_true rfl) ?_
  rintro _ _ ⟨⟨v, rfl, hR⟩, A1, L1, I1, X1, rfl⟩
  refine l_aload_n dL_1646 rfl rfl ?_
  refine l_callV dL_1647 cv_L_204 (as' := []) hp_46 rfl hR (by decide) hc hs rfl rfl (Nat.le_of_ble_eq_true rfl) ?_
  rintro _ _ ⟨rfl, A2, L2, I2, X2, rfl, hI2⟩
  exact l_icmp_eq (tgt := 1693) dL_1650 (by decide) (fun _ => hE A2 L2 I2 X2 hI2) (fun c => absurd rfl c)
theorem lwc_42 {cells slots b N : Nat} {xs : Nat → Int32} {x : Int32} {l5 l6 : Option Value} {A : Nat → Nat → Int32} {L : Nat → Nat → Int64} {I : Nat → Nat → Int32} {X : Nat → Int64} (hI : INV A I) (hc : cells ≤ 601024) (hs : slots ≤ 7293034) (h7 : sevenI N x) (hE : ∀ (A : Nat → Nat → Int32) (L : Nat → Nat → Int64) (I : Nat → Nat → Int32) (X : Nat → Int64), INV A I → GL cells slots b N xs 1693 [some (.ref 5000), some (.ref 0), some (.ref 46), some (.ref 77), some (.int x), l5, l6] [] (hp A L I X)) : GL cells slots b N xs 1655 [some (.ref 5000), some (.ref 0), some (.ref 46), some (.ref 77), some (.int x), l5, l6] [] (hp A L I X) := by
  obtain ⟨h0, h1, h2, h3, h4, h5, h6⟩ := h7
  refine l_aload_n dL_1655 rfl rfl ?_
  refine l_callV dL_1656 cv_L_205 (as' := []) hp_0 rfl (step_back hI) (by decide) hc hs rfl rfl (Nat.le_of_ble_eq_true rfl) ?_
  rintro _ _ ⟨⟨v, rfl, hR⟩, A1, L1, I1, X1, rfl⟩
  refine l_aload_n dL_1659 rfl rfl ?_
  refine l_callV dL_1660 cv_L_208 (as' := []) hp_46 rfl hR (by decide) hc hs rfl rfl (Nat.le_of_ble_eq_true rfl) ?_
  rintro _ _ ⟨rfl, A2, L2, I2, X2, rfl, hI2⟩
  exact l_icmp_eq (tgt := 1693) dL_1663 (by decide) (fun _ => hE A2 L2 I2 X2 hI2) (fun c => absurd rfl c)
theorem lwc_43 {cells slots b N : Nat} {xs : Nat → Int32} {x : Int32} {l5 l6 : Option Value} {A : Nat → Nat → Int32} {L : Nat → Nat → Int64} {I : Nat → Nat → Int32} {X : Nat → Int64} (hI : INV A I) (hc : cells ≤ 601024) (hs : slots ≤ 7293034) (h7 : sevenI N x) (hE : ∀ (A : Nat → Nat → Int32) (L : Nat → Nat → Int64) (I : Nat → Nat → Int32) (X : Nat → Int64), INV A I → GL cells slots b N xs 1693 [some (.ref 5000), some (.ref 0), some (.ref 46), some (.ref 77), some (.int x), l5, l6] [] (hp A L I X)) : GL cells slots b N xs 1668 [some (.ref 5000), some (.ref 0), some (.ref 46), some (.ref 77), some (.int x), l5, l6] [] (hp A L I X) := by
  obtain ⟨h0, h1, h2, h3, h4, h5, h6⟩ := h7
  refine l_aload_n dL_1668 rfl rfl ?_
  refine l_aload_n dL_1669 rfl rfl ?_
  refine l_iload dL_1670 rfl ?_
  refine l_ic_1 dL_1672 ?_
  refine l_iadd dL_1673 ?_
  refine l_sld dL_1674 h1 ?_
  refine l_callV dL_1675 cv_L_209 (as' := [_]) hp_0 rfl (step_count hI) (by decide) hc hs rfl rfl (Nat.le_of_ble_eq_true rfl) ?_
  rintro _ _ ⟨⟨v, rfl, hR⟩, A1, L1, I1, X1, rfl⟩
  refine l_aload_n dL_1678 rfl rfl ?_
  refine l_aload_n dL_1679 rfl rfl ?_
  refine l_iload dL_1680 rfl ?_
  refine l_ic_1 dL_1682 ?_
  refine l_iadd dL_1683 ?_
  refine l_sld dL_1684 h1 ?_
  refine l_callV dL_1685 cv_L_212 (as' := [_]) hp_46 rfl hR (by decide) hc hs rfl rfl (Nat.le_of_ble_eq_true rfl) ?_
  rintro _ _ ⟨rfl, A2, L2, I2, X2, rfl, hI2⟩
  exact l_icmp_eq (tgt := 1693) dL_1688 (by decide) (fun _ => hE A2 L2 I2 X2 hI2) (fun c => absurd rfl c)
