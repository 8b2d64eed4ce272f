/-- what goes on behind a call -/
def NXT (sL : Nat) (xs : Nat → Int32) (m i N0 : Nat) : Prop := ∀ (D : Dw) (P : Nat → Nat → Nat) (n : Nat) (B : Nat → Nat) (fk fp : Int32) (Sh : Nat → Option Dw) (S : am_S) (I : am_I), GO D P n B → sk S → S.1 % 2 = 0 → S.1 ≤ N0 → GX D P n B fk fp Sh S I → GM D P n B fk fp Sh I → am_Rg (am_PL sL xs) am_ZL 30 Y_L_law (2 * m, 131 * m) 844 [some (.ref (2 * am_B + 10)), some (.ref 0), some (.ref 44), some (.int (nI i))] [] S I
section OPS
variable {sL : Nat} {xs : Nat → Int32} {m i N0 : Nat} {D : Dw} {P : Nat → Nat → Nat} {n : Nat} {B : Nat → Nat} {fk fp : Int32} {Sh : Nat → Option Dw} {S : am_S} {I : am_I}
set_option maxHeartbeats 1000000 in
set_option maxRecDepth 100000 in
theorem lo_3 (hs : sk S) (he : S.1 % 2 = 0) (hN : S.1 + 2 ≤ N0) (hN9 : N0 ≤ 900000) (hO : GO D P n B) (hX : GX D P n B fk fp Sh S I) (hM : GM D P n B fk fp Sh I) (hi : i + 6 ≤ sL) (hL : sL ≤ 3074) (hNX : NXT sL xs m i N0) : am_Rg (am_PL sL xs) am_ZL 30 Y_L_law (2 * (m + 1), 131 * (m + 1)) 291 [some (.ref (2 * am_B + 10)), some (.ref 0), some (.ref 44), some (.int (nI i))] [] S I := by
  refine lr_aload_n dL_law_291 rfl rfl ?_
  refine lr_callV0 (st := []) dL_law_292 cf_9_36 (c_X7_lines hs hO.1.1.1 hO.1.1.2 hO.1.2.1.1 hO.1.2.1.2 hO.1.2.2 hX.1 ) (by decide) (sk_l hs 0 (by decide)) (sk_k0 hs) rfl rfl (Nat.le_of_ble_eq_true rfl) (fun r1 S1 I1 hq => ?_)
  obtain ⟨rfl, rfl, hk⟩ := hq
  have hX1 := hX.kw hs hk
  have hM1 := hM.kept (fun b h1 h2 => hk.1 b (by omega) (by omega) (by omega) (by omega) (by omega) (by omega))
  refine lr_aload_n dL_law_295 rfl rfl ?_
  refine lr_callV0 (st := [.int (nI (lcnt D.1 D.2.1 D.2.2))]) dL_law_296 cf_9_40 (c_X8_lines hs hO.1.1.1 hO.1.1.2 hO.1.2.1.1 hO.1.2.1.2 hO.1.2.2 hM1.1 ) (by decide) (sk_l hs 44 (by decide)) (sk_k44 hs) rfl rfl (Nat.le_of_ble_eq_true rfl) (fun r1 S1 I2 hq => ?_)
  obtain ⟨rfl, rfl, hk2⟩ := hq
  have hM2 := hM1.km hk2
  have hX2 := hX1.kept hs (fun b hb => hk2.1 b (by omega) (by omega) (by omega) (by omega) (by omega))
  refine lr_icmp_eq (tgt := 844) dL_law_299 (by decide) (fun c_299 => ?_) (fun c_299 => ?_)
  · refine lr_wide (b' := (2 * m, 131 * m)) ⟨by dsimp only; omega, by dsimp only; omega⟩ ?_
    exact hNX D P n B fk fp Sh _ _ hO hs he (by omega) hX2 hM2
  · exact absurd rfl c_299
set_option maxHeartbeats 1000000 in
set_option maxRecDepth 100000 in
theorem lo_4 (hs : sk S) (he : S.1 % 2 = 0) (hN : S.1 + 2 ≤ N0) (hN9 : N0 ≤ 900000) (hO : GO D P n B) (hX : GX D P n B fk fp Sh S I) (hM : GM D P n B fk fp Sh I) (hi : i + 6 ≤ sL) (hL : sL ≤ 3074) (hNX : NXT sL xs m i N0) : am_Rg (am_PL sL xs) am_ZL 30 Y_L_law (2 * (m + 1), 131 * (m + 1)) 304 [some (.ref (2 * am_B + 10)), some (.ref 0), some (.ref 44), some (.int (nI i))] [] S I := by
  refine lr_aload_n dL_law_304 rfl rfl ?_
  refine lr_aload_n dL_law_305 rfl rfl ?_
  refine lr_iload_n dL_law_306 rfl rfl ?_
  refine lr_iconst (v := nI 1) dL_law_307 (by decide) ?_
  refine lr_iadd dL_law_308 ?_
  refine lr_top (nI_add _ _) ?_
  refine lr_sload am_PL.sc dL_law_309 (by omega) (by omega) ?_
  refine lr_callV0 (st := []) dL_law_310 cf_9_41 (c_X7_lineOf hs hO.1.1.1 hO.1.1.2 hO.1.2.1.1 hO.1.2.1.2 hO.1.2.2 hX.1 (xs (i + 1))) (by decide) (sk_l hs 0 (by decide)) (sk_k0 hs) rfl rfl (Nat.le_of_ble_eq_true rfl) (fun r1 S1 I1 hq => ?_)
  obtain ⟨rfl, rfl, hk⟩ := hq
  have hX1 := hX.kw hs hk
  have hM1 := hM.kept (fun b h1 h2 => hk.1 b (by omega) (by omega) (by omega) (by omega) (by omega) (by omega))
  refine lr_aload_n dL_law_313 rfl rfl ?_
  refine lr_aload_n dL_law_314 rfl rfl ?_
  refine lr_iload_n dL_law_315 rfl rfl ?_
  refine lr_iconst (v := nI 1) dL_law_316 (by decide) ?_
  refine lr_iadd dL_law_317 ?_
  refine lr_top (nI_add _ _) ?_
  refine lr_sload am_PL.sc dL_law_318 (by omega) (by omega) ?_
  refine lr_callV0 (st := [.int (vLineOf D.1 D.2.1 D.2.2 (xs (i + 1)))]) dL_law_319 cf_9_45 (c_X8_lineOf hs hO.1.1.1 hO.1.1.2 hO.1.2.1.1 hO.1.2.1.2 hO.1.2.2 hM1.1 (xs (i + 1))) (by decide) (sk_l hs 44 (by decide)) (sk_k44 hs) rfl rfl (Nat.le_of_ble_eq_true rfl) (fun r1 S1 I2 hq => ?_)
  obtain ⟨rfl, rfl, hk2⟩ := hq
  have hM2 := hM1.km hk2
  have hX2 := hX1.kept hs (fun b hb => hk2.1 b (by omega) (by omega) (by omega) (by omega) (by omega))
  refine lr_icmp_eq (tgt := 844) dL_law_322 (by decide) (fun c_322 => ?_) (fun c_322 => ?_)
  · refine lr_wide (b' := (2 * m, 131 * m)) ⟨by dsimp only; omega, by dsimp only; omega⟩ ?_
    exact hNX D P n B fk fp Sh _ _ hO hs he (by omega) hX2 hM2
  · exact absurd rfl c_322
set_option maxHeartbeats 1000000 in
set_option maxRecDepth 100000 in
theorem lo_5 (hs : sk S) (he : S.1 % 2 = 0) (hN : S.1 + 2 ≤ N0) (hN9 : N0 ≤ 900000) (hO : GO D P n B) (hX : GX D P n B fk fp Sh S I) (hM : GM D P n B fk fp Sh I) (hi : i + 6 ≤ sL) (hL : sL ≤ 3074) (hNX : NXT sL xs m i N0) : am_Rg (am_PL sL xs) am_ZL 30 Y_L_law (2 * (m + 1), 131 * (m + 1)) 327 [some (.ref (2 * am_B + 10)), some (.ref 0), some (.ref 44), some (.int (nI i))] [] S I := by
  refine lr_aload_n dL_law_327 rfl rfl ?_
  refine lr_aload_n dL_law_328 rfl rfl ?_
  refine lr_iload_n dL_law_329 rfl rfl ?_
  refine lr_iconst (v := nI 1) dL_law_330 (by decide) ?_
  refine lr_iadd dL_law_331 ?_
  refine lr_top (nI_add _ _) ?_
  refine lr_sload am_PL.sc dL_law_332 (by omega) (by omega) ?_
  refine lr_aload_n dL_law_333 rfl rfl ?_
  refine lr_iload_n dL_law_334 rfl rfl ?_
  refine lr_iconst (v := nI 2) dL_law_335 (by decide) ?_
  refine lr_iadd dL_law_336 ?_
  refine lr_top (nI_add _ _) ?_
  refine lr_sload am_PL.sc dL_law_337 (by omega) (by omega) ?_
  refine lr_callV0 (st := []) dL_law_338 cf_9_46 (c_X7_line hs hO.1.1.1 hO.1.1.2 hO.1.2.1.1 hO.1.2.1.2 hO.1.2.2 hX.1 (xs (i + 1)) (xs (i + 2))) (by decide) (sk_l hs 0 (by decide)) (sk_k0 hs) rfl rfl (Nat.le_of_ble_eq_true rfl) (fun r1 S1 I1 hq => ?_)
  obtain ⟨rfl, rfl, hk⟩ := hq
  have hX1 := hX.kw hs hk
  have hM1 := hM.kept (fun b h1 h2 => hk.1 b (by omega) (by omega) (by omega) (by omega) (by omega) (by omega))
  refine lr_aload_n dL_law_341 rfl rfl ?_
  refine lr_aload_n dL_law_342 rfl rfl ?_
  refine lr_iload_n dL_law_343 rfl rfl ?_
  refine lr_iconst (v := nI 1) dL_law_344 (by decide) ?_
  refine lr_iadd dL_law_345 ?_
  refine lr_top (nI_add _ _) ?_
  refine lr_sload am_PL.sc dL_law_346 (by omega) (by omega) ?_
  refine lr_aload_n dL_law_347 rfl rfl ?_
  refine lr_iload_n dL_law_348 rfl rfl ?_
  refine lr_iconst (v := nI 2) dL_law_349 (by decide) ?_
  refine lr_iadd dL_law_350 ?_
  refine lr_top (nI_add _ _) ?_
  refine lr_sload am_PL.sc dL_law_351 (by omega) (by omega) ?_
  refine lr_callV0 (st := [.int (vLine D.1 D.2.1 D.2.2 (xs (i + 1)) (xs (i + 2)))]) dL_law_352 cf_9_49 (c_X8_line hs hO.1.1.1 hO.1.1.2 hO.1.2.1.1 hO.1.2.1.2 hO.1.2.2 hM1.1 (xs (i + 1)) (xs (i + 2))) (by decide) (sk_l hs 44 (by decide)) (sk_k44 hs) rfl rfl (Nat.le_of_ble_eq_true rfl) (fun r1 S1 I2 hq => ?_)
  obtain ⟨rfl, rfl, hk2⟩ := hq
  have hM2 := hM1.km hk2
  have hX2 := hX1.kept hs (fun b hb => hk2.1 b (by omega) (by omega) (by omega) (by omega) (by omega))
  refine lr_icmp_eq (tgt := 844) dL_law_355 (by decide) (fun c_355 => ?_) (fun c_355 => ?_)
  · refine lr_wide (b' := (2 * m, 131 * m)) ⟨by dsimp only; omega, by dsimp only; omega⟩ ?_
    exact hNX D P n B fk fp Sh _ _ hO hs he (by omega) hX2 hM2
  · exact absurd rfl c_355
set_option maxHeartbeats 1000000 in
set_option maxRecDepth 100000 in
theorem lo_6 (hs : sk S) (he : S.1 % 2 = 0) (hN : S.1 + 2 ≤ N0) (hN9 : N0 ≤ 900000) (hO : GO D P n B) (hX : GX D P n B fk fp Sh S I) (hM : GM D P n B fk fp Sh I) (hi : i + 6 ≤ sL) (hL : sL ≤ 3074) (hNX : NXT sL xs m i N0) : am_Rg (am_PL sL xs) am_ZL 30 Y_L_law (2 * (m + 1), 131 * (m + 1)) 360 [some (.ref (2 * am_B + 10)), some (.ref 0), some (.ref 44), some (.int (nI i))] [] S I := by
  refine lr_aload_n dL_law_360 rfl rfl ?_
  refine lr_aload_n dL_law_361 rfl rfl ?_
  refine lr_iload_n dL_law_362 rfl rfl ?_
  refine lr_iconst (v := nI 1) dL_law_363 (by decide) ?_
  refine lr_iadd dL_law_364 ?_
  refine lr_top (nI_add _ _) ?_
  refine lr_sload am_PL.sc dL_law_365 (by omega) (by omega) ?_
  refine lr_aload_n dL_law_366 rfl rfl ?_
  refine lr_iload_n dL_law_367 rfl rfl ?_
  refine lr_iconst (v := nI 2) dL_law_368 (by decide) ?_
  refine lr_iadd dL_law_369 ?_
  refine lr_top (nI_add _ _) ?_
  refine lr_sload am_PL.sc dL_law_370 (by omega) (by omega) ?_
  refine lr_callV0 (st := []) dL_law_371 cf_9_50 (c_X7_walk hs hO.1.1.1 hO.1.1.2 hO.1.2.1.1 hO.1.2.1.2 hO.1.2.2 hX.1 (xs (i + 1)) (xs (i + 2))) (by decide) (sk_l hs 0 (by decide)) (sk_k0 hs) rfl rfl (Nat.le_of_ble_eq_true rfl) (fun r1 S1 I1 hq => ?_)
  obtain ⟨rfl, rfl, hk⟩ := hq
  have hX1 := hX.kw hs hk
  have hM1 := hM.kept (fun b h1 h2 => hk.1 b (by omega) (by omega) (by omega) (by omega) (by omega) (by omega))
  refine lr_aload_n dL_law_374 rfl rfl ?_
  refine lr_aload_n dL_law_375 rfl rfl ?_
  refine lr_iload_n dL_law_376 rfl rfl ?_
  refine lr_iconst (v := nI 1) dL_law_377 (by decide) ?_
  refine lr_iadd dL_law_378 ?_
  refine lr_top (nI_add _ _) ?_
  refine lr_sload am_PL.sc dL_law_379 (by omega) (by omega) ?_
  refine lr_aload_n dL_law_380 rfl rfl ?_
  refine lr_iload_n dL_law_381 rfl rfl ?_
  refine lr_iconst (v := nI 2) dL_law_382 (by decide) ?_
  refine lr_iadd dL_law_383 ?_
  refine lr_top (nI_add _ _) ?_
  refine lr_sload am_PL.sc dL_law_384 (by omega) (by omega) ?_
  refine lr_callV0 (st := [.int (vWalk D.1 D.2.1 D.2.2 (xs (i + 1)) (xs (i + 2)))]) dL_law_385 cf_9_53 (c_X8_walk hs hO.1.1.1 hO.1.1.2 hO.1.2.1.1 hO.1.2.1.2 hO.1.2.2 hM1.1 (xs (i + 1)) (xs (i + 2))) (by decide) (sk_l hs 44 (by decide)) (sk_k44 hs) rfl rfl (Nat.le_of_ble_eq_true rfl) (fun r1 S1 I2 hq => ?_)
  obtain ⟨rfl, rfl, hk2⟩ := hq
  have hM2 := hM1.km hk2
  have hX2 := hX1.kept hs (fun b hb => hk2.1 b (by omega) (by omega) (by omega) (by omega) (by omega))
  refine lr_icmp_eq (tgt := 844) dL_law_388 (by decide) (fun c_388 => ?_) (fun c_388 => ?_)
  · refine lr_wide (b' := (2 * m, 131 * m)) ⟨by dsimp only; omega, by dsimp only; omega⟩ ?_
    exact hNX D P n B fk fp Sh _ _ hO hs he (by omega) hX2 hM2
  · exact absurd rfl c_388
set_option maxHeartbeats 1000000 in
set_option maxRecDepth 100000 in
theorem lo_7 (hs : sk S) (he : S.1 % 2 = 0) (hN : S.1 + 2 ≤ N0) (hN9 : N0 ≤ 900000) (hO : GO D P n B) (hX : GX D P n B fk fp Sh S I) (hM : GM D P n B fk fp Sh I) (hi : i + 6 ≤ sL) (hL : sL ≤ 3074) (hNX : NXT sL xs m i N0) : am_Rg (am_PL sL xs) am_ZL 30 Y_L_law (2 * (m + 1), 131 * (m + 1)) 393 [some (.ref (2 * am_B + 10)), some (.ref 0), some (.ref 44), some (.int (nI i))] [] S I := by
  refine lr_aload_n dL_law_393 rfl rfl ?_
  refine lr_aload_n dL_law_394 rfl rfl ?_
  refine lr_iload_n dL_law_395 rfl rfl ?_
  refine lr_iconst (v := nI 1) dL_law_396 (by decide) ?_
  refine lr_iadd dL_law_397 ?_
  refine lr_top (nI_add _ _) ?_
  refine lr_sload am_PL.sc dL_law_398 (by omega) (by omega) ?_
  refine lr_aload_n dL_law_399 rfl rfl ?_
  refine lr_iload_n dL_law_400 rfl rfl ?_
  refine lr_iconst (v := nI 2) dL_law_401 (by decide) ?_
  refine lr_iadd dL_law_402 ?_
  refine lr_top (nI_add _ _) ?_
  refine lr_sload am_PL.sc dL_law_403 (by omega) (by omega) ?_
  refine lr_aload_n dL_law_404 rfl rfl ?_
  refine lr_iload_n dL_law_405 rfl rfl ?_
  refine lr_iconst (v := nI 3) dL_law_406 (by decide) ?_
  refine lr_iadd dL_law_407 ?_
  refine lr_top (nI_add _ _) ?_
  refine lr_sload am_PL.sc dL_law_408 (by omega) (by omega) ?_
  refine lr_callV0 (st := []) dL_law_409 cf_9_54 (c_X7_holds hs hO.1.1.1 hO.1.1.2 hO.1.2.1.1 hO.1.2.1.2 hO.1.2.2 hX.1 (xs (i + 1)) (xs (i + 2)) (xs (i + 3))) (by decide) (sk_l hs 0 (by decide)) (sk_k0 hs) rfl rfl (Nat.le_of_ble_eq_true rfl) (fun r1 S1 I1 hq => ?_)
  obtain ⟨rfl, rfl, hk⟩ := hq
  have hX1 := hX.kw hs hk
  have hM1 := hM.kept (fun b h1 h2 => hk.1 b (by omega) (by omega) (by omega) (by omega) (by omega) (by omega))
  refine lr_aload_n dL_law_412 rfl rfl ?_
  refine lr_aload_n dL_law_413 rfl rfl ?_
  refine lr_iload_n dL_law_414 rfl rfl ?_
  refine lr_iconst (v := nI 1) dL_law_415 (by decide) ?_
  refine lr_iadd dL_law_416 ?_
  refine lr_top (nI_add _ _) ?_
  refine lr_sload am_PL.sc dL_law_417 (by omega) (by omega) ?_
  refine lr_aload_n dL_law_418 rfl rfl ?_
  refine lr_iload_n dL_law_419 rfl rfl ?_
  refine lr_iconst (v := nI 2) dL_law_420 (by decide) ?_
  refine lr_iadd dL_law_421 ?_
  refine lr_top (nI_add _ _) ?_
  refine lr_sload am_PL.sc dL_law_422 (by omega) (by omega) ?_
  refine lr_aload_n dL_law_423 rfl rfl ?_
  refine lr_iload_n dL_law_424 rfl rfl ?_
  refine lr_iconst (v := nI 3) dL_law_425 (by decide) ?_
  refine lr_iadd dL_law_426 ?_
  refine lr_top (nI_add _ _) ?_
  refine lr_sload am_PL.sc dL_law_427 (by omega) (by omega) ?_
  refine lr_callV0 (st := [.int (vHolds D.1 D.2.1 D.2.2 (xs (i + 1)) (xs (i + 2)) (xs (i + 3)))]) dL_law_428 cf_9_58 (c_X8_holds hs hO.1.1.1 hO.1.1.2 hO.1.2.1.1 hO.1.2.1.2 hO.1.2.2 hM1.1 (xs (i + 1)) (xs (i + 2)) (xs (i + 3))) (by decide) (sk_l hs 44 (by decide)) (sk_k44 hs) rfl rfl (Nat.le_of_ble_eq_true rfl) (fun r1 S1 I2 hq => ?_)
  obtain ⟨rfl, rfl, hk2⟩ := hq
  have hM2 := hM1.km hk2
  have hX2 := hX1.kept hs (fun b hb => hk2.1 b (by omega) (by omega) (by omega) (by omega) (by omega))
  refine lr_icmp_eq (tgt := 844) dL_law_431 (by decide) (fun c_431 => ?_) (fun c_431 => ?_)
  · refine lr_wide (b' := (2 * m, 131 * m)) ⟨by dsimp only; omega, by dsimp only; omega⟩ ?_
    exact hNX D P n B fk fp Sh _ _ hO hs he (by omega) hX2 hM2
  · exact absurd rfl c_431
set_option maxHeartbeats 1000000 in
set_option maxRecDepth 100000 in
theorem lo_8 (hs : sk S) (he : S.1 % 2 = 0) (hN : S.1 + 2 ≤ N0) (hN9 : N0 ≤ 900000) (hO : GO D P n B) (hX : GX D P n B fk fp Sh S I) (hM : GM D P n B fk fp Sh I) (hi : i + 6 ≤ sL) (hL : sL ≤ 3074) (hNX : NXT sL xs m i N0) : am_Rg (am_PL sL xs) am_ZL 30 Y_L_law (2 * (m + 1), 131 * (m + 1)) 436 [some (.ref (2 * am_B + 10)), some (.ref 0), some (.ref 44), some (.int (nI i))] [] S I := by
  refine lr_aload_n dL_law_436 rfl rfl ?_
  refine lr_aload_n dL_law_437 rfl rfl ?_
  refine lr_iload_n dL_law_438 rfl rfl ?_
  refine lr_iconst (v := nI 1) dL_law_439 (by decide) ?_
  refine lr_iadd dL_law_440 ?_
  refine lr_top (nI_add _ _) ?_
  refine lr_sload am_PL.sc dL_law_441 (by omega) (by omega) ?_
  refine lr_callV0 (st := []) dL_law_442 cf_9_59 (c_X7_colour hs hO.1.1.1 hO.1.1.2 hO.1.2.1.1 hO.1.2.1.2 hO.1.2.2 hX.1 (xs (i + 1))) (by decide) (sk_l hs 0 (by decide)) (sk_k0 hs) rfl rfl (Nat.le_of_ble_eq_true rfl) (fun r1 S1 I1 hq => ?_)
  obtain ⟨rfl, rfl, hk⟩ := hq
  have hX1 := hX.kw hs hk
  have hM1 := hM.kept (fun b h1 h2 => hk.1 b (by omega) (by omega) (by omega) (by omega) (by omega) (by omega))
  refine lr_aload_n dL_law_445 rfl rfl ?_
  refine lr_aload_n dL_law_446 rfl rfl ?_
  refine lr_iload_n dL_law_447 rfl rfl ?_
  refine lr_iconst (v := nI 1) dL_law_448 (by decide) ?_
  refine lr_iadd dL_law_449 ?_
  refine lr_top (nI_add _ _) ?_
  refine lr_sload am_PL.sc dL_law_450 (by omega) (by omega) ?_
  refine lr_callV0 (st := [.int (vColour D.1 D.2.1 D.2.2 (xs (i + 1)))]) dL_law_451 cf_9_62 (c_X8_colour hs hO.1.1.1 hO.1.1.2 hO.1.2.1.1 hO.1.2.1.2 hO.1.2.2 hM1.1 (xs (i + 1))) (by decide) (sk_l hs 44 (by decide)) (sk_k44 hs) rfl rfl (Nat.le_of_ble_eq_true rfl) (fun r1 S1 I2 hq => ?_)
  obtain ⟨rfl, rfl, hk2⟩ := hq
  have hM2 := hM1.km hk2
  have hX2 := hX1.kept hs (fun b hb => hk2.1 b (by omega) (by omega) (by omega) (by omega) (by omega))
  refine lr_icmp_eq (tgt := 844) dL_law_454 (by decide) (fun c_454 => ?_) (fun c_454 => ?_)
  · refine lr_wide (b' := (2 * m, 131 * m)) ⟨by dsimp only; omega, by dsimp only; omega⟩ ?_
    exact hNX D P n B fk fp Sh _ _ hO hs he (by omega) hX2 hM2
  · exact absurd rfl c_454
set_option maxHeartbeats 1000000 in
set_option maxRecDepth 100000 in
theorem lo_9 (hs : sk S) (he : S.1 % 2 = 0) (hN : S.1 + 2 ≤ N0) (hN9 : N0 ≤ 900000) (hO : GO D P n B) (hX : GX D P n B fk fp Sh S I) (hM : GM D P n B fk fp Sh I) (hi : i + 6 ≤ sL) (hL : sL ≤ 3074) (hNX : NXT sL xs m i N0) : am_Rg (am_PL sL xs) am_ZL 30 Y_L_law (2 * (m + 1), 131 * (m + 1)) 459 [some (.ref (2 * am_B + 10)), some (.ref 0), some (.ref 44), some (.int (nI i))] [] S I := by
  by_cases hz : xs (i + 2) = 0
  · refine lr_aload_n dL_law_459 rfl rfl ?_
    refine lr_aload_n dL_law_460 rfl rfl ?_
    refine lr_iload_n dL_law_461 rfl rfl ?_
    refine lr_iconst (v := nI 1) dL_law_462 (by decide) ?_
    refine lr_iadd dL_law_463 ?_
    refine lr_top (nI_add _ _) ?_
    refine lr_sload am_PL.sc dL_law_464 (by omega) (by omega) ?_
    refine lr_aload_n dL_law_465 rfl rfl ?_
    refine lr_iload_n dL_law_466 rfl rfl ?_
    refine lr_iconst (v := nI 2) dL_law_467 (by decide) ?_
    refine lr_iadd dL_law_468 ?_
    refine lr_top (nI_add _ _) ?_
    refine lr_sload am_PL.sc dL_law_469 (by omega) (by omega) ?_
    refine lr_if_eq (tgt := 477) dL_law_470 (by decide) (fun c_470 => ?_) (fun c_470 => ?_)
    · refine lr_iconst (v := nI 0) dL_law_477 (by decide) ?_
      refine lr_callV0 (st := []) dL_law_478 cf_9_63 (c_X7_coloured_0 hs hO.1.1.1 hO.1.1.2 hO.1.2.1.1 hO.1.2.1.2 hO.1.2.2 hX.1 (xs (i + 1))) (by decide) (sk_l hs 0 (by decide)) (sk_k0 hs) rfl rfl (Nat.le_of_ble_eq_true rfl) (fun r1 S1 I1 hq => ?_)
      obtain ⟨rfl, rfl, hk⟩ := hq
      have hX1 := hX.kw hs hk
      have hM1 := hM.kept (fun b h1 h2 => hk.1 b (by omega) (by omega) (by omega) (by omega) (by omega) (by omega))
      refine lr_aload_n dL_law_481 rfl rfl ?_
      refine lr_aload_n dL_law_482 rfl rfl ?_
      refine lr_iload_n dL_law_483 rfl rfl ?_
      refine lr_iconst (v := nI 1) dL_law_484 (by decide) ?_
      refine lr_iadd dL_law_485 ?_
      refine lr_top (nI_add _ _) ?_
      refine lr_sload am_PL.sc dL_law_486 (by omega) (by omega) ?_
      refine lr_aload_n dL_law_487 rfl rfl ?_
      refine lr_iload_n dL_law_488 rfl rfl ?_
      refine lr_iconst (v := nI 2) dL_law_489 (by decide) ?_
      refine lr_iadd dL_law_490 ?_
      refine lr_top (nI_add _ _) ?_
      refine lr_sload am_PL.sc dL_law_491 (by omega) (by omega) ?_
      refine lr_if_eq (tgt := 499) dL_law_492 (by decide) (fun c_492 => ?_) (fun c_492 => ?_)
      · refine lr_iconst (v := nI 0) dL_law_499 (by decide) ?_
        refine lr_callV0 (st := [.int (vCol D.1 D.2.1 D.2.2 (xs (i + 1)) false)]) dL_law_500 cf_9_67 (c_X8_coloured_0 hs hO.1.1.1 hO.1.1.2 hO.1.2.1.1 hO.1.2.1.2 hO.1.2.2 hM1.1 (xs (i + 1))) (by decide) (sk_l hs 44 (by decide)) (sk_k44 hs) rfl rfl (Nat.le_of_ble_eq_true rfl) (fun r1 S1 I2 hq => ?_)
        obtain ⟨rfl, rfl, hk2⟩ := hq
        have hM2 := hM1.km hk2
        have hX2 := hX1.kept hs (fun b hb => hk2.1 b (by omega) (by omega) (by omega) (by omega) (by omega))
        refine lr_icmp_eq (tgt := 844) dL_law_503 (by decide) (fun c_503 => ?_) (fun c_503 => ?_)
        · refine lr_wide (b' := (2 * m, 131 * m)) ⟨by dsimp only; omega, by dsimp only; omega⟩ ?_
          exact hNX D P n B fk fp Sh _ _ hO hs he (by omega) hX2 hM2
        · exact absurd rfl c_503
      · exact absurd hz c_492
    · exact absurd hz c_470
  · refine lr_aload_n dL_law_459 rfl rfl ?_
    refine lr_aload_n dL_law_460 rfl rfl ?_
    refine lr_iload_n dL_law_461 rfl rfl ?_
    refine lr_iconst (v := nI 1) dL_law_462 (by decide) ?_
    refine lr_iadd dL_law_463 ?_
    refine lr_top (nI_add _ _) ?_
    refine lr_sload am_PL.sc dL_law_464 (by omega) (by omega) ?_
    refine lr_aload_n dL_law_465 rfl rfl ?_
    refine lr_iload_n dL_law_466 rfl rfl ?_
    refine lr_iconst (v := nI 2) dL_law_467 (by decide) ?_
    refine lr_iadd dL_law_468 ?_
    refine lr_top (nI_add _ _) ?_
    refine lr_sload am_PL.sc dL_law_469 (by omega) (by omega) ?_
    refine lr_if_eq (tgt := 477) dL_law_470 (by decide) (fun c_470 => ?_) (fun c_470 => ?_)
    · exact absurd c_470 hz
    · refine lr_iconst (v := nI 1) dL_law_473 (by decide) ?_
      refine lr_goto (tgt := 478) dL_law_474 (by decide) ?_
      refine lr_callV0 (st := []) dL_law_478 cf_9_63 (c_X7_coloured_1 hs hO.1.1.1 hO.1.1.2 hO.1.2.1.1 hO.1.2.1.2 hO.1.2.2 hX.1 (xs (i + 1))) (by decide) (sk_l hs 0 (by decide)) (sk_k0 hs) rfl rfl (Nat.le_of_ble_eq_true rfl) (fun r1 S1 I1 hq => ?_)
      obtain ⟨rfl, rfl, hk⟩ := hq
      have hX1 := hX.kw hs hk
      have hM1 := hM.kept (fun b h1 h2 => hk.1 b (by omega) (by omega) (by omega) (by omega) (by omega) (by omega))
      refine lr_aload_n dL_law_481 rfl rfl ?_
      refine lr_aload_n dL_law_482 rfl rfl ?_
      refine lr_iload_n dL_law_483 rfl rfl ?_
      refine lr_iconst (v := nI 1) dL_law_484 (by decide) ?_
      refine lr_iadd dL_law_485 ?_
      refine lr_top (nI_add _ _) ?_
      refine lr_sload am_PL.sc dL_law_486 (by omega) (by omega) ?_
      refine lr_aload_n dL_law_487 rfl rfl ?_
      refine lr_iload_n dL_law_488 rfl rfl ?_
      refine lr_iconst (v := nI 2) dL_law_489 (by decide) ?_
      refine lr_iadd dL_law_490 ?_
      refine lr_top (nI_add _ _) ?_
      refine lr_sload am_PL.sc dL_law_491 (by omega) (by omega) ?_
      refine lr_if_eq (tgt := 499) dL_law_492 (by decide) (fun c_492 => ?_) (fun c_492 => ?_)
      · exact absurd c_492 hz
      · refine lr_iconst (v := nI 1) dL_law_495 (by decide) ?_
        refine lr_goto (tgt := 500) dL_law_496 (by decide) ?_
        refine lr_callV0 (st := [.int (vCol D.1 D.2.1 D.2.2 (xs (i + 1)) true)]) dL_law_500 cf_9_67 (c_X8_coloured_1 hs hO.1.1.1 hO.1.1.2 hO.1.2.1.1 hO.1.2.1.2 hO.1.2.2 hM1.1 (xs (i + 1))) (by decide) (sk_l hs 44 (by decide)) (sk_k44 hs) rfl rfl (Nat.le_of_ble_eq_true rfl) (fun r1 S1 I2 hq => ?_)
        obtain ⟨rfl, rfl, hk2⟩ := hq
        have hM2 := hM1.km hk2
        have hX2 := hX1.kept hs (fun b hb => hk2.1 b (by omega) (by omega) (by omega) (by omega) (by omega))
        refine lr_icmp_eq (tgt := 844) dL_law_503 (by decide) (fun c_503 => ?_) (fun c_503 => ?_)
        · refine lr_wide (b' := (2 * m, 131 * m)) ⟨by dsimp only; omega, by dsimp only; omega⟩ ?_
          exact hNX D P n B fk fp Sh _ _ hO hs he (by omega) hX2 hM2
        · exact absurd rfl c_503
set_option maxHeartbeats 1000000 in
set_option maxRecDepth 100000 in
theorem lo_10 (hs : sk S) (he : S.1 % 2 = 0) (hN : S.1 + 2 ≤ N0) (hN9 : N0 ≤ 900000) (hO : GO D P n B) (hX : GX D P n B fk fp Sh S I) (hM : GM D P n B fk fp Sh I) (hi : i + 6 ≤ sL) (hL : sL ≤ 3074) (hNX : NXT sL xs m i N0) : am_Rg (am_PL sL xs) am_ZL 30 Y_L_law (2 * (m + 1), 131 * (m + 1)) 508 [some (.ref (2 * am_B + 10)), some (.ref 0), some (.ref 44), some (.int (nI i))] [] S I := by
  refine lr_aload_n dL_law_508 rfl rfl ?_
  refine lr_aload_n dL_law_509 rfl rfl ?_
  refine lr_iload_n dL_law_510 rfl rfl ?_
  refine lr_iconst (v := nI 1) dL_law_511 (by decide) ?_
  refine lr_iadd dL_law_512 ?_
  refine lr_top (nI_add _ _) ?_
  refine lr_sload am_PL.sc dL_law_513 (by omega) (by omega) ?_
  refine lr_callV0 (st := []) dL_law_514 cf_9_68 (c_X7_joined hs hO.1.1.1 hO.1.1.2 hO.1.2.1.1 hO.1.2.1.2 hO.1.2.2 hO.p hX.1 hX.2.1 hX.2.2.1 (xs (i + 1))) (by decide) (sk_l hs 0 (by decide)) (sk_k0 hs) rfl rfl (Nat.le_of_ble_eq_true rfl) (fun r1 S1 I1 hq => ?_)
  obtain ⟨rfl, rfl, hk⟩ := hq
  have hX1 := hX.kjw hs hk
  have hM1 := hM.kept (fun b h1 h2 => hk.1 b (by omega) (by omega))
  refine lr_aload_n dL_law_517 rfl rfl ?_
  refine lr_aload_n dL_law_518 rfl rfl ?_
  refine lr_iload_n dL_law_519 rfl rfl ?_
  refine lr_iconst (v := nI 1) dL_law_520 (by decide) ?_
  refine lr_iadd dL_law_521 ?_
  refine lr_top (nI_add _ _) ?_
  refine lr_sload am_PL.sc dL_law_522 (by omega) (by omega) ?_
  refine lr_callV0 (st := [.int (vJoined D.1 D.2.1 D.2.2 P (xs (i + 1)))]) dL_law_523 cf_9_71 (c_X8_joined hs hO.1.1.1 hO.1.1.2 hO.1.2.1.1 hO.1.2.1.2 hO.1.2.2 hO.p hM1.1 hM1.2.1 (xs (i + 1))) (by decide) (sk_l hs 44 (by decide)) (sk_k44 hs) rfl rfl (Nat.le_of_ble_eq_true rfl) (fun r1 S1 I2 hq => ?_)
  obtain ⟨rfl, rfl, hk2⟩ := hq
  have hM2 := hM1.kf hk2
  have hX2 := hX1.kept hs (fun b hb => hk2.1 b (by omega) (by omega))
  refine lr_icmp_eq (tgt := 844) dL_law_526 (by decide) (fun c_526 => ?_) (fun c_526 => ?_)
  · refine lr_wide (b' := (2 * m, 131 * m)) ⟨by dsimp only; omega, by dsimp only; omega⟩ ?_
    exact hNX D P n B fk fp Sh _ _ hO hs he (by omega) hX2 hM2
  · exact absurd rfl c_526
set_option maxHeartbeats 1000000 in
set_option maxRecDepth 100000 in
theorem lo_11 (hs : sk S) (he : S.1 % 2 = 0) (hN : S.1 + 2 ≤ N0) (hN9 : N0 ≤ 900000) (hO : GO D P n B) (hX : GX D P n B fk fp Sh S I) (hM : GM D P n B fk fp Sh I) (hi : i + 6 ≤ sL) (hL : sL ≤ 3074) (hNX : NXT sL xs m i N0) : am_Rg (am_PL sL xs) am_ZL 30 Y_L_law (2 * (m + 1), 131 * (m + 1)) 531 [some (.ref (2 * am_B + 10)), some (.ref 0), some (.ref 44), some (.int (nI i))] [] S I := by
  refine lr_aload_n dL_law_531 rfl rfl ?_
  refine lr_aload_n dL_law_532 rfl rfl ?_
  refine lr_iload_n dL_law_533 rfl rfl ?_
  refine lr_iconst (v := nI 1) dL_law_534 (by decide) ?_
  refine lr_iadd dL_law_535 ?_
  refine lr_top (nI_add _ _) ?_
  refine lr_sload am_PL.sc dL_law_536 (by omega) (by omega) ?_
  refine lr_aload_n dL_law_537 rfl rfl ?_
  refine lr_iload_n dL_law_538 rfl rfl ?_
  refine lr_iconst (v := nI 2) dL_law_539 (by decide) ?_
  refine lr_iadd dL_law_540 ?_
  refine lr_top (nI_add _ _) ?_
  refine lr_sload am_PL.sc dL_law_541 (by omega) (by omega) ?_
  refine lr_callV0 (st := []) dL_law_542 cf_9_72 (c_X7_change hs hO.1.1.1 hO.1.1.2 hO.1.2.1.1 hO.1.2.1.2 hO.1.2.2 hO.p hX.1 hX.2.1 hX.2.2.1 (xs (i + 1)) (xs (i + 2))) (by decide) (sk_l hs 0 (by decide)) (sk_k0 hs) rfl rfl (Nat.le_of_ble_eq_true rfl) (fun r1 S1 I1 hq => ?_)
  obtain ⟨rfl, rfl, hk⟩ := hq
  have hX1 := hX.kjw hs hk
  have hM1 := hM.kept (fun b h1 h2 => hk.1 b (by omega) (by omega))
  refine lr_aload_n dL_law_545 rfl rfl ?_
  refine lr_aload_n dL_law_546 rfl rfl ?_
  refine lr_iload_n dL_law_547 rfl rfl ?_
  refine lr_iconst (v := nI 1) dL_law_548 (by decide) ?_
  refine lr_iadd dL_law_549 ?_
  refine lr_top (nI_add _ _) ?_
  refine lr_sload am_PL.sc dL_law_550 (by omega) (by omega) ?_
  refine lr_aload_n dL_law_551 rfl rfl ?_
  refine lr_iload_n dL_law_552 rfl rfl ?_
  refine lr_iconst (v := nI 2) dL_law_553 (by decide) ?_
  refine lr_iadd dL_law_554 ?_
  refine lr_top (nI_add _ _) ?_
  refine lr_sload am_PL.sc dL_law_555 (by omega) (by omega) ?_
  refine lr_callV0 (st := [.int (vChg D.1 D.2.1 D.2.2 P (xs (i + 1)) (xs (i + 2)))]) dL_law_556 cf_9_75 (c_X8_change hs hO.1.1.1 hO.1.1.2 hO.1.2.1.1 hO.1.2.1.2 hO.1.2.2 hO.p hM1.1 hM1.2.1 (xs (i + 1)) (xs (i + 2))) (by decide) (sk_l hs 44 (by decide)) (sk_k44 hs) rfl rfl (Nat.le_of_ble_eq_true rfl) (fun r1 S1 I2 hq => ?_)
  obtain ⟨rfl, rfl, hk2⟩ := hq
  have hM2 := hM1.kf hk2
  have hX2 := hX1.kept hs (fun b hb => hk2.1 b (by omega) (by omega))
  refine lr_icmp_eq (tgt := 844) dL_law_559 (by decide) (fun c_559 => ?_) (fun c_559 => ?_)
  · refine lr_wide (b' := (2 * m, 131 * m)) ⟨by dsimp only; omega, by dsimp only; omega⟩ ?_
    exact hNX D P n B fk fp Sh _ _ hO hs he (by omega) hX2 hM2
  · exact absurd rfl c_559
set_option maxHeartbeats 1000000 in
set_option maxRecDepth 100000 in
theorem lo_12 (hs : sk S) (he : S.1 % 2 = 0) (hN : S.1 + 2 ≤ N0) (hN9 : N0 ≤ 900000) (hO : GO D P n B) (hX : GX D P n B fk fp Sh S I) (hM : GM D P n B fk fp Sh I) (hi : i + 6 ≤ sL) (hL : sL ≤ 3074) (hNX : NXT sL xs m i N0) : am_Rg (am_PL sL xs) am_ZL 30 Y_L_law (2 * (m + 1), 131 * (m + 1)) 564 [some (.ref (2 * am_B + 10)), some (.ref 0), some (.ref 44), some (.int (nI i))] [] S I := by
  refine lr_aload_n dL_law_564 rfl rfl ?_
  refine lr_callV0 (st := []) dL_law_565 cf_9_76 (c_X7_join hs hO.1.1.1 hO.1.1.2 hO.1.2.1.1 hO.1.2.1.2 hO.1.2.2 hO.p hX.1 hX.2.1 hX.2.2.1) (by decide) (sk_l hs 0 (by decide)) (sk_k0 hs) rfl rfl (Nat.le_of_ble_eq_true rfl) (fun r1 S1 I1 hq => ?_)
  obtain ⟨rfl, rfl, hk⟩ := hq
  have hX1 := hX.ku hs hk
  have hM1 := hM.kept (fun b h1 h2 => hk.1 b (by omega) (by omega) (by omega))
  refine lr_aload_n dL_law_568 rfl rfl ?_
  refine lr_callV0 (st := [.int (nI (jC D.1 D.2.1 D.2.2 P).length)]) dL_law_569 cf_9_79 (c_X8_join hs hO.1.1.1 hO.1.1.2 hO.1.2.1.1 hO.1.2.1.2 hO.1.2.2 hO.p hM1.1 hM1.2.1) (by decide) (sk_l hs 44 (by decide)) (sk_k44 hs) rfl rfl (Nat.le_of_ble_eq_true rfl) (fun r1 S1 I2 hq => ?_)
  obtain ⟨rfl, rfl, hk2⟩ := hq
  have hM2 := hM1.kfu hk2
  have hX2 := hX1.kept hs (fun b hb => hk2.1 b (by omega) (by omega) (by omega))
  refine lr_icmp_eq (tgt := 844) dL_law_572 (by decide) (fun c_572 => ?_) (fun c_572 => ?_)
  · refine lr_wide (b' := (2 * m, 131 * m)) ⟨by dsimp only; omega, by dsimp only; omega⟩ ?_
    exact hNX (D.1, D.2.1, jM D.1 D.2.1 D.2.2 P) P n B fk fp Sh _ _ ⟨⟨hO.1.1, hO.1.2.1, okM_j hO.1.2.2⟩, hO.2⟩ hs he (by omega) hX2 hM2
  · exact absurd rfl c_572
set_option maxHeartbeats 1000000 in
set_option maxRecDepth 100000 in
theorem lo_13 (hs : sk S) (he : S.1 % 2 = 0) (hN : S.1 + 2 ≤ N0) (hN9 : N0 ≤ 900000) (hO : GO D P n B) (hX : GX D P n B fk fp Sh S I) (hM : GM D P n B fk fp Sh I) (hi : i + 6 ≤ sL) (hL : sL ≤ 3074) (hNX : NXT sL xs m i N0) : am_Rg (am_PL sL xs) am_ZL 30 Y_L_law (2 * (m + 1), 131 * (m + 1)) 577 [some (.ref (2 * am_B + 10)), some (.ref 0), some (.ref 44), some (.int (nI i))] [] S I := by
  refine lr_aload_n dL_law_577 rfl rfl ?_
  refine lr_aload_n dL_law_578 rfl rfl ?_
  refine lr_iload_n dL_law_579 rfl rfl ?_
  refine lr_iconst (v := nI 1) dL_law_580 (by decide) ?_
  refine lr_iadd dL_law_581 ?_
  refine lr_top (nI_add _ _) ?_
  refine lr_sload am_PL.sc dL_law_582 (by omega) (by omega) ?_
  refine lr_aload_n dL_law_583 rfl rfl ?_
  refine lr_iload_n dL_law_584 rfl rfl ?_
  refine lr_iconst (v := nI 2) dL_law_585 (by decide) ?_
  refine lr_iadd dL_law_586 ?_
  refine lr_top (nI_add _ _) ?_
  refine lr_sload am_PL.sc dL_law_587 (by omega) (by omega) ?_
  refine lr_aload_n dL_law_588 rfl rfl ?_
  refine lr_iload_n dL_law_589 rfl rfl ?_
  refine lr_iconst (v := nI 3) dL_law_590 (by decide) ?_
  refine lr_iadd dL_law_591 ?_
  refine lr_top (nI_add _ _) ?_
  refine lr_sload am_PL.sc dL_law_592 (by omega) (by omega) ?_
  refine lr_aload_n dL_law_593 rfl rfl ?_
  refine lr_iload_n dL_law_594 rfl rfl ?_
  refine lr_iconst (v := nI 4) dL_law_595 (by decide) ?_
  refine lr_iadd dL_law_596 ?_
  refine lr_top (nI_add _ _) ?_
  refine lr_sload am_PL.sc dL_law_597 (by omega) (by omega) ?_
  refine lr_aload_n dL_law_598 rfl rfl ?_
  refine lr_iload_n dL_law_599 rfl rfl ?_
  refine lr_iconst (v := nI 5) dL_law_600 (by decide) ?_
  refine lr_iadd dL_law_601 ?_
  refine lr_top (nI_add _ _) ?_
  refine lr_sload am_PL.sc dL_law_602 (by omega) (by omega) ?_
  refine lr_callV0 (st := []) dL_law_603 cf_9_80 (c_X7_feed hs hX.2.2.2.1 hO.2.2 (xs (i + 1)) (xs (i + 2)) (xs (i + 3)) (xs (i + 4)) (xs (i + 5))) (by decide) (sk_l hs 0 (by decide)) (sk_k0 hs) rfl rfl (Nat.le_of_ble_eq_true rfl) (fun r1 S1 I1 hq => ?_)
  obtain ⟨rfl, rfl, hk, ht⟩ := hq
  have hX1 := hX.ktx hs hk ht
  have hM1 := hM.kept (fun b h1 h2 => hk.1 b (by omega) (by omega))
  refine lr_aload_n dL_law_606 rfl rfl ?_
  refine lr_aload_n dL_law_607 rfl rfl ?_
  refine lr_iload_n dL_law_608 rfl rfl ?_
  refine lr_iconst (v := nI 1) dL_law_609 (by decide) ?_
  refine lr_iadd dL_law_610 ?_
  refine lr_top (nI_add _ _) ?_
  refine lr_sload am_PL.sc dL_law_611 (by omega) (by omega) ?_
  refine lr_aload_n dL_law_612 rfl rfl ?_
  refine lr_iload_n dL_law_613 rfl rfl ?_
  refine lr_iconst (v := nI 2) dL_law_614 (by decide) ?_
  refine lr_iadd dL_law_615 ?_
  refine lr_top (nI_add _ _) ?_
  refine lr_sload am_PL.sc dL_law_616 (by omega) (by omega) ?_
  refine lr_aload_n dL_law_617 rfl rfl ?_
  refine lr_iload_n dL_law_618 rfl rfl ?_
  refine lr_iconst (v := nI 3) dL_law_619 (by decide) ?_
  refine lr_iadd dL_law_620 ?_
  refine lr_top (nI_add _ _) ?_
  refine lr_sload am_PL.sc dL_law_621 (by omega) (by omega) ?_
  refine lr_aload_n dL_law_622 rfl rfl ?_
  refine lr_iload_n dL_law_623 rfl rfl ?_
  refine lr_iconst (v := nI 4) dL_law_624 (by decide) ?_
  refine lr_iadd dL_law_625 ?_
  refine lr_top (nI_add _ _) ?_
  refine lr_sload am_PL.sc dL_law_626 (by omega) (by omega) ?_
  refine lr_aload_n dL_law_627 rfl rfl ?_
  refine lr_iload_n dL_law_628 rfl rfl ?_
  refine lr_iconst (v := nI 5) dL_law_629 (by decide) ?_
  refine lr_iadd dL_law_630 ?_
  refine lr_top (nI_add _ _) ?_
  refine lr_sload am_PL.sc dL_law_631 (by omega) (by omega) ?_
  refine lr_callV0 (st := [.int (vFd n)]) dL_law_632 cf_9_84 (c_X8_feed hs hM1.2.2.1 hO.2.2 (xs (i + 1)) (xs (i + 2)) (xs (i + 3)) (xs (i + 4)) (xs (i + 5))) (by decide) (sk_l hs 44 (by decide)) (sk_k44 hs) rfl rfl (Nat.le_of_ble_eq_true rfl) (fun r1 S1 I2 hq => ?_)
  obtain ⟨rfl, rfl, hk2, ht2⟩ := hq
  have hM2 := hM1.ktm hk2 ht2
  have hX2 := hX1.kept hs (fun b hb => hk2.1 b (by omega) (by omega))
  refine lr_icmp_eq (tgt := 844) dL_law_635 (by decide) (fun c_635 => ?_) (fun c_635 => ?_)
  · refine lr_wide (b' := (2 * m, 131 * m)) ⟨by dsimp only; omega, by dsimp only; omega⟩ ?_
    exact hNX D P _ _ fk fp Sh _ _ ⟨hO.1, hO.2.1, okB_fd hO.2.2 _ _ _ _ _⟩ hs he (by omega) hX2 hM2
  · exact absurd rfl c_635
set_option maxHeartbeats 1000000 in
set_option maxRecDepth 100000 in
theorem lo_14 (hs : sk S) (he : S.1 % 2 = 0) (hN : S.1 + 2 ≤ N0) (hN9 : N0 ≤ 900000) (hO : GO D P n B) (hX : GX D P n B fk fp Sh S I) (hM : GM D P n B fk fp Sh I) (hi : i + 6 ≤ sL) (hL : sL ≤ 3074) (hNX : NXT sL xs m i N0) : am_Rg (am_PL sL xs) am_ZL 30 Y_L_law (2 * (m + 1), 131 * (m + 1)) 640 [some (.ref (2 * am_B + 10)), some (.ref 0), some (.ref 44), some (.int (nI i))] [] S I := by
  refine lr_aload_n dL_law_640 rfl rfl ?_
  refine lr_aload_n dL_law_641 rfl rfl ?_
  refine lr_iload_n dL_law_642 rfl rfl ?_
  refine lr_iconst (v := nI 1) dL_law_643 (by decide) ?_
  refine lr_iadd dL_law_644 ?_
  refine lr_top (nI_add _ _) ?_
  refine lr_sload am_PL.sc dL_law_645 (by omega) (by omega) ?_
  refine lr_callV0 (st := []) dL_law_646 cf_9_85 (c_X7_end hs hX.2.2.2.1 hO.2.2 (xs (i + 1))) (by decide) (sk_l hs 0 (by decide)) (sk_k0 hs) rfl rfl (Nat.le_of_ble_eq_true rfl) (fun r1 S1 I1 hq => ?_)
  obtain ⟨rfl, rfl, hk, ht⟩ := hq
  have hX1 := hX.ktx hs hk ht
  have hM1 := hM.kept (fun b h1 h2 => hk.1 b (by omega) (by omega))
  refine lr_aload_n dL_law_649 rfl rfl ?_
  refine lr_aload_n dL_law_650 rfl rfl ?_
  refine lr_iload_n dL_law_651 rfl rfl ?_
  refine lr_iconst (v := nI 1) dL_law_652 (by decide) ?_
  refine lr_iadd dL_law_653 ?_
  refine lr_top (nI_add _ _) ?_
  refine lr_sload am_PL.sc dL_law_654 (by omega) (by omega) ?_
  refine lr_callV0 (st := [.int (vEd n (xs (i + 1)))]) dL_law_655 cf_9_88 (c_X8_end hs hM1.2.2.1 hO.2.2 (xs (i + 1))) (by decide) (sk_l hs 44 (by decide)) (sk_k44 hs) rfl rfl (Nat.le_of_ble_eq_true rfl) (fun r1 S1 I2 hq => ?_)
  obtain ⟨rfl, rfl, hk2, ht2⟩ := hq
  have hM2 := hM1.ktm hk2 ht2
  have hX2 := hX1.kept hs (fun b hb => hk2.1 b (by omega) (by omega))
  refine lr_icmp_eq (tgt := 844) dL_law_658 (by decide) (fun c_658 => ?_) (fun c_658 => ?_)
  · refine lr_wide (b' := (2 * m, 131 * m)) ⟨by dsimp only; omega, by dsimp only; omega⟩ ?_
    exact hNX D P _ _ fk fp Sh _ _ ⟨hO.1, hO.2.1, okB_ed hO.2.2 _⟩ hs he (by omega) hX2 hM2
  · exact absurd rfl c_658
set_option maxHeartbeats 1000000 in
set_option maxRecDepth 100000 in
theorem lo_15 (hs : sk S) (he : S.1 % 2 = 0) (hN : S.1 + 2 ≤ N0) (hN9 : N0 ≤ 900000) (hO : GO D P n B) (hX : GX D P n B fk fp Sh S I) (hM : GM D P n B fk fp Sh I) (hi : i + 6 ≤ sL) (hL : sL ≤ 3074) (hNX : NXT sL xs m i N0) : am_Rg (am_PL sL xs) am_ZL 30 Y_L_law (2 * (m + 1), 131 * (m + 1)) 663 [some (.ref (2 * am_B + 10)), some (.ref 0), some (.ref 44), some (.int (nI i))] [] S I := by
  rcases hXX : pT n B Sh with e | D9
  · refine lr_aload_n dL_law_663 rfl rfl ?_
    refine lr_callV0 (st := []) dL_law_664 cf_9_89 (c_X7_draw hs hX.2.2.2.1 hO.2.2 hX.2.2.2.2.2) (by decide) (sk_l hs 0 (by decide)) (sk_k0 hs) rfl rfl (Nat.le_of_ble_eq_true rfl) (fun r1 S1 I1 hq => ?_)
    obtain ⟨rfl, rfl, hk⟩ := hq
    have hX1 := hX.dxl hs hk hXX
    have hM1 := hM.kept (fun b h1 h2 => hk.1 b (Or.inr (Or.inr (by omega))))
    refine lr_aload_n dL_law_667 rfl rfl ?_
    refine lr_callV0 (st := [.int (vDraw (pT n B Sh))]) dL_law_668 cf_9_92 (c_X8_draw hs hM1.2.2.1 hO.2.2 hM1.2.2.2.2) (by decide) (sk_l hs 44 (by decide)) (sk_k44 hs) rfl rfl (Nat.le_of_ble_eq_true rfl) (fun r1 S1 I2 hq => ?_)
    obtain ⟨rfl, rfl, hk2⟩ := hq
    have hM2 := hM1.mxl hk2 hXX
    have hX2 := hX1.kept hs (fun b hb => hk2.1 b (by omega))
    refine lr_icmp_eq (tgt := 844) dL_law_671 (by decide) (fun c_671 => ?_) (fun c_671 => ?_)
    · refine lr_wide (b' := (2 * m, 131 * m)) ⟨by dsimp only; omega, by dsimp only; omega⟩ ?_
      exact hNX D P 0 B _ _ Sh _ _ hO.z hs he (by omega) hX2 hM2
    · exact absurd rfl c_671
  · refine lr_aload_n dL_law_663 rfl rfl ?_
    refine lr_callV0 (st := []) dL_law_664 cf_9_89 (c_X7_draw hs hX.2.2.2.1 hO.2.2 hX.2.2.2.2.2) (by decide) (sk_l hs 0 (by decide)) (sk_k0 hs) rfl rfl (Nat.le_of_ble_eq_true rfl) (fun r1 S1 I1 hq => ?_)
    obtain ⟨rfl, rfl, hk⟩ := hq
    have hX1 := (hX.dxr hs hk hXX).2
    have hD9 := (hX.dxr hs hk hXX).1
    have hM1 := hM.kept (fun b h1 h2 => hk.1 b (Or.inr (Or.inr (by omega))))
    refine lr_aload_n dL_law_667 rfl rfl ?_
    refine lr_callV0 (st := [.int (vDraw (pT n B Sh))]) dL_law_668 cf_9_92 (c_X8_draw hs hM1.2.2.1 hO.2.2 hM1.2.2.2.2) (by decide) (sk_l hs 44 (by decide)) (sk_k44 hs) rfl rfl (Nat.le_of_ble_eq_true rfl) (fun r1 S1 I2 hq => ?_)
    obtain ⟨rfl, rfl, hk2⟩ := hq
    have hM2 := hM1.mxr hk2 hXX
    have hX2 := hX1.kept hs (fun b hb => hk2.1 b (by omega))
    refine lr_icmp_eq (tgt := 844) dL_law_671 (by decide) (fun c_671 => ?_) (fun c_671 => ?_)
    · refine lr_wide (b' := (2 * m, 131 * m)) ⟨by dsimp only; omega, by dsimp only; omega⟩ ?_
      exact hNX D9 zM 0 B _ _ Sh _ _ (hO.d hD9) hs he (by omega) hX2 hM2
    · exact absurd rfl c_671
set_option maxHeartbeats 1000000 in
set_option maxRecDepth 100000 in
theorem lo_16 (hs : sk S) (he : S.1 % 2 = 0) (hN : S.1 + 2 ≤ N0) (hN9 : N0 ≤ 900000) (hO : GO D P n B) (hX : GX D P n B fk fp Sh S I) (hM : GM D P n B fk fp Sh I) (hi : i + 6 ≤ sL) (hL : sL ≤ 3074) (hNX : NXT sL xs m i N0) : am_Rg (am_PL sL xs) am_ZL 30 Y_L_law (2 * (m + 1), 131 * (m + 1)) 676 [some (.ref (2 * am_B + 10)), some (.ref 0), some (.ref 44), some (.int (nI i))] [] S I := by
  by_cases hz : (1 ≤ (xs (i + 1)).toInt ∧ (xs (i + 1)).toInt ≤ 8) ∧ 1 ≤ (xs (i + 2)).toInt ∧ (xs (i + 2)).toInt ≤ 8
  · have ew := z_nat (x := xs (i + 1)) (by omega)
    have eh := z_nat (x := xs (i + 2)) (by omega)
    generalize hw : (xs (i + 1)).toInt.toNat = w at ew
    generalize hh : (xs (i + 2)).toInt.toNat = h at eh
    have w1 : 1 ≤ w := by omega
    have w8 : w ≤ 8 := by omega
    have h1 : 1 ≤ h := by omega
    have h8 : h ≤ 8 := by omega
    by_cases hp : pPoint w h (xs (i + 3)) (xs (i + 4)) = true
    · have hp9 := of_decide_eq_true hp
      have ei := z_nat (x := xs (i + 3)) (by omega)
      have ej := z_nat (x := xs (i + 4)) (by omega)
      generalize hi9 : (xs (i + 3)).toInt.toNat = i0 at ei
      generalize hj9 : (xs (i + 4)).toInt.toNat = j0 at ej
      have hi0 : i0 ≤ 2 * w := by omega
      have hj0 : j0 ≤ 2 * h := by omega
      have hij : (i0 + j0) % 2 = 1 := by omega
      rcases hXX : wD w h B i0 j0 n with e | D9
      · refine lr_aload_n dL_law_676 rfl rfl ?_
        refine lr_aload_n dL_law_677 rfl rfl ?_
        refine lr_iload_n dL_law_678 rfl rfl ?_
        refine lr_iconst (v := nI 1) dL_law_679 (by decide) ?_
        refine lr_iadd dL_law_680 ?_
        refine lr_top (nI_add _ _) ?_
        refine lr_sload am_PL.sc dL_law_681 (by omega) (by omega) ?_
        refine lr_top (y := nI w) (ew) ?_
        refine lr_aload_n dL_law_682 rfl rfl ?_
        refine lr_iload_n dL_law_683 rfl rfl ?_
        refine lr_iconst (v := nI 2) dL_law_684 (by decide) ?_
        refine lr_iadd dL_law_685 ?_
        refine lr_top (nI_add _ _) ?_
        refine lr_sload am_PL.sc dL_law_686 (by omega) (by omega) ?_
        refine lr_top (y := nI h) (eh) ?_
        refine lr_aload_n dL_law_687 rfl rfl ?_
        refine lr_iload_n dL_law_688 rfl rfl ?_
        refine lr_iconst (v := nI 3) dL_law_689 (by decide) ?_
        refine lr_iadd dL_law_690 ?_
        refine lr_top (nI_add _ _) ?_
        refine lr_sload am_PL.sc dL_law_691 (by omega) (by omega) ?_
        refine lr_top (y := nI i0) (ei) ?_
        refine lr_aload_n dL_law_692 rfl rfl ?_
        refine lr_iload_n dL_law_693 rfl rfl ?_
        refine lr_iconst (v := nI 4) dL_law_694 (by decide) ?_
        refine lr_iadd dL_law_695 ?_
        refine lr_top (nI_add _ _) ?_
        refine lr_sload am_PL.sc dL_law_696 (by omega) (by omega) ?_
        refine lr_top (y := nI j0) (ej) ?_
        refine lr_callV0 (st := []) dL_law_697 cf_9_93 (c_X7_back_y hs w1 w8 h1 h8 hX.2.2.2.1 hO.2.2 hi0 hj0 hij) (by decide) (sk_l hs 0 (by decide)) (sk_k0 hs) rfl rfl (Nat.le_of_ble_eq_true rfl) (fun r1 S1 I1 hq => ?_)
        obtain ⟨rfl, rfl, hk⟩ := hq
        have hX1 := hX.dxl hs hk hXX
        have hM1 := hM.kept (fun b h1 h2 => hk.1 b (Or.inr (Or.inr (by omega))))
        refine lr_aload_n dL_law_700 rfl rfl ?_
        refine lr_aload_n dL_law_701 rfl rfl ?_
        refine lr_iload_n dL_law_702 rfl rfl ?_
        refine lr_iconst (v := nI 1) dL_law_703 (by decide) ?_
        refine lr_iadd dL_law_704 ?_
        refine lr_top (nI_add _ _) ?_
        refine lr_sload am_PL.sc dL_law_705 (by omega) (by omega) ?_
        refine lr_top (y := nI w) (ew) ?_
        refine lr_aload_n dL_law_706 rfl rfl ?_
        refine lr_iload_n dL_law_707 rfl rfl ?_
        refine lr_iconst (v := nI 2) dL_law_708 (by decide) ?_
        refine lr_iadd dL_law_709 ?_
        refine lr_top (nI_add _ _) ?_
        refine lr_sload am_PL.sc dL_law_710 (by omega) (by omega) ?_
        refine lr_top (y := nI h) (eh) ?_
        refine lr_aload_n dL_law_711 rfl rfl ?_
        refine lr_iload_n dL_law_712 rfl rfl ?_
        refine lr_iconst (v := nI 3) dL_law_713 (by decide) ?_
        refine lr_iadd dL_law_714 ?_
        refine lr_top (nI_add _ _) ?_
        refine lr_sload am_PL.sc dL_law_715 (by omega) (by omega) ?_
        refine lr_top (y := nI i0) (ei) ?_
        refine lr_aload_n dL_law_716 rfl rfl ?_
        refine lr_iload_n dL_law_717 rfl rfl ?_
        refine lr_iconst (v := nI 4) dL_law_718 (by decide) ?_
        refine lr_iadd dL_law_719 ?_
        refine lr_top (nI_add _ _) ?_
        refine lr_sload am_PL.sc dL_law_720 (by omega) (by omega) ?_
        refine lr_top (y := nI j0) (ej) ?_
        refine lr_callV0 (st := [.int (vBk w h B i0 j0 n)]) dL_law_721 cf_9_97 (c_X8_back_y hs w1 w8 h1 h8 hM1.2.2.1 hO.2.2 hi0 hj0 hij) (by decide) (sk_l hs 44 (by decide)) (sk_k44 hs) rfl rfl (Nat.le_of_ble_eq_true rfl) (fun r1 S1 I2 hq => ?_)
        obtain ⟨rfl, rfl, hk2⟩ := hq
        have hM2 := hM1.mxl hk2 hXX
        have hX2 := hX1.kept hs (fun b hb => hk2.1 b (by omega))
        refine lr_icmp_eq (tgt := 844) dL_law_724 (by decide) (fun c_724 => ?_) (fun c_724 => ?_)
        · refine lr_wide (b' := (2 * m, 131 * m)) ⟨by dsimp only; omega, by dsimp only; omega⟩ ?_
          exact hNX D P 0 B _ _ Sh _ _ hO.z hs he (by omega) hX2 hM2
        · exact absurd rfl c_724
      · refine lr_aload_n dL_law_676 rfl rfl ?_
        refine lr_aload_n dL_law_677 rfl rfl ?_
        refine lr_iload_n dL_law_678 rfl rfl ?_
        refine lr_iconst (v := nI 1) dL_law_679 (by decide) ?_
        refine lr_iadd dL_law_680 ?_
        refine lr_top (nI_add _ _) ?_
        refine lr_sload am_PL.sc dL_law_681 (by omega) (by omega) ?_
        refine lr_top (y := nI w) (ew) ?_
        refine lr_aload_n dL_law_682 rfl rfl ?_
        refine lr_iload_n dL_law_683 rfl rfl ?_
        refine lr_iconst (v := nI 2) dL_law_684 (by decide) ?_
        refine lr_iadd dL_law_685 ?_
        refine lr_top (nI_add _ _) ?_
        refine lr_sload am_PL.sc dL_law_686 (by omega) (by omega) ?_
        refine lr_top (y := nI h) (eh) ?_
        refine lr_aload_n dL_law_687 rfl rfl ?_
        refine lr_iload_n dL_law_688 rfl rfl ?_
        refine lr_iconst (v := nI 3) dL_law_689 (by decide) ?_
        refine lr_iadd dL_law_690 ?_
        refine lr_top (nI_add _ _) ?_
        refine lr_sload am_PL.sc dL_law_691 (by omega) (by omega) ?_
        refine lr_top (y := nI i0) (ei) ?_
        refine lr_aload_n dL_law_692 rfl rfl ?_
        refine lr_iload_n dL_law_693 rfl rfl ?_
        refine lr_iconst (v := nI 4) dL_law_694 (by decide) ?_
        refine lr_iadd dL_law_695 ?_
        refine lr_top (nI_add _ _) ?_
        refine lr_sload am_PL.sc dL_law_696 (by omega) (by omega) ?_
        refine lr_top (y := nI j0) (ej) ?_
        refine lr_callV0 (st := []) dL_law_697 cf_9_93 (c_X7_back_y hs w1 w8 h1 h8 hX.2.2.2.1 hO.2.2 hi0 hj0 hij) (by decide) (sk_l hs 0 (by decide)) (sk_k0 hs) rfl rfl (Nat.le_of_ble_eq_true rfl) (fun r1 S1 I1 hq => ?_)
        obtain ⟨rfl, rfl, hk⟩ := hq
        have hX1 := (hX.dxr hs hk hXX).2
        have hD9 := (hX.dxr hs hk hXX).1
        have hM1 := hM.kept (fun b h1 h2 => hk.1 b (Or.inr (Or.inr (by omega))))
        refine lr_aload_n dL_law_700 rfl rfl ?_
        refine lr_aload_n dL_law_701 rfl rfl ?_
        refine lr_iload_n dL_law_702 rfl rfl ?_
        refine lr_iconst (v := nI 1) dL_law_703 (by decide) ?_
        refine lr_iadd dL_law_704 ?_
        refine lr_top (nI_add _ _) ?_
        refine lr_sload am_PL.sc dL_law_705 (by omega) (by omega) ?_
        refine lr_top (y := nI w) (ew) ?_
        refine lr_aload_n dL_law_706 rfl rfl ?_
        refine lr_iload_n dL_law_707 rfl rfl ?_
        refine lr_iconst (v := nI 2) dL_law_708 (by decide) ?_
        refine lr_iadd dL_law_709 ?_
        refine lr_top (nI_add _ _) ?_
        refine lr_sload am_PL.sc dL_law_710 (by omega) (by omega) ?_
        refine lr_top (y := nI h) (eh) ?_
        refine lr_aload_n dL_law_711 rfl rfl ?_
        refine lr_iload_n dL_law_712 rfl rfl ?_
        refine lr_iconst (v := nI 3) dL_law_713 (by decide) ?_
        refine lr_iadd dL_law_714 ?_
        refine lr_top (nI_add _ _) ?_
        refine lr_sload am_PL.sc dL_law_715 (by omega) (by omega) ?_
        refine lr_top (y := nI i0) (ei) ?_
        refine lr_aload_n dL_law_716 rfl rfl ?_
        refine lr_iload_n dL_law_717 rfl rfl ?_
        refine lr_iconst (v := nI 4) dL_law_718 (by decide) ?_
        refine lr_iadd dL_law_719 ?_
        refine lr_top (nI_add _ _) ?_
        refine lr_sload am_PL.sc dL_law_720 (by omega) (by omega) ?_
        refine lr_top (y := nI j0) (ej) ?_
        refine lr_callV0 (st := [.int (vBk w h B i0 j0 n)]) dL_law_721 cf_9_97 (c_X8_back_y hs w1 w8 h1 h8 hM1.2.2.1 hO.2.2 hi0 hj0 hij) (by decide) (sk_l hs 44 (by decide)) (sk_k44 hs) rfl rfl (Nat.le_of_ble_eq_true rfl) (fun r1 S1 I2 hq => ?_)
        obtain ⟨rfl, rfl, hk2⟩ := hq
        have hM2 := hM1.mxr hk2 hXX
        have hX2 := hX1.kept hs (fun b hb => hk2.1 b (by omega))
        refine lr_icmp_eq (tgt := 844) dL_law_724 (by decide) (fun c_724 => ?_) (fun c_724 => ?_)
        · refine lr_wide (b' := (2 * m, 131 * m)) ⟨by dsimp only; omega, by dsimp only; omega⟩ ?_
          exact hNX D9 zM 0 B _ _ Sh _ _ (hO.d hD9) hs he (by omega) hX2 hM2
        · exact absurd rfl c_724
    · refine lr_aload_n dL_law_676 rfl rfl ?_
      refine lr_aload_n dL_law_677 rfl rfl ?_
      refine lr_iload_n dL_law_678 rfl rfl ?_
      refine lr_iconst (v := nI 1) dL_law_679 (by decide) ?_
      refine lr_iadd dL_law_680 ?_
      refine lr_top (nI_add _ _) ?_
      refine lr_sload am_PL.sc dL_law_681 (by omega) (by omega) ?_
      refine lr_top (y := nI w) (ew) ?_
      refine lr_aload_n dL_law_682 rfl rfl ?_
      refine lr_iload_n dL_law_683 rfl rfl ?_
      refine lr_iconst (v := nI 2) dL_law_684 (by decide) ?_
      refine lr_iadd dL_law_685 ?_
      refine lr_top (nI_add _ _) ?_
      refine lr_sload am_PL.sc dL_law_686 (by omega) (by omega) ?_
      refine lr_top (y := nI h) (eh) ?_
      refine lr_aload_n dL_law_687 rfl rfl ?_
      refine lr_iload_n dL_law_688 rfl rfl ?_
      refine lr_iconst (v := nI 3) dL_law_689 (by decide) ?_
      refine lr_iadd dL_law_690 ?_
      refine lr_top (nI_add _ _) ?_
      refine lr_sload am_PL.sc dL_law_691 (by omega) (by omega) ?_
      refine lr_aload_n dL_law_692 rfl rfl ?_
      refine lr_iload_n dL_law_693 rfl rfl ?_
      refine lr_iconst (v := nI 4) dL_law_694 (by decide) ?_
      refine lr_iadd dL_law_695 ?_
      refine lr_top (nI_add _ _) ?_
      refine lr_sload am_PL.sc dL_law_696 (by omega) (by omega) ?_
      refine lr_callV0 (st := []) dL_law_697 cf_9_93 (c_X7_back_p hs w1 w8 h1 h8 (Bool.eq_false_iff.mpr hp)) (by decide) (sk_l hs 0 (by decide)) (sk_k0 hs) rfl rfl (Nat.le_of_ble_eq_true rfl) (fun r1 S1 I1 hq => ?_)
      obtain ⟨rfl, rfl, hk⟩ := hq
      have hM1 := hM.kept (fun b h1 h2 => hk b (by omega) (by omega))
      have hX1 : GX D P n B fk fp Sh S1 I1 := by
          obtain ⟨a1, a2, a3, a4, a5, a6⟩ := hX
          have kb := fun b (q : b ≠ 3 ∧ b ≠ 4) => hk b q.1 q.2
          exact ⟨a1.kept (by rw [kb 0 (by decide)]) (kb 1 (by decide)) (kb 2 (by decide)) (kb 7 (by decide)) (kb 8 (by decide)) (kb 9 (by decide)) (kb 10 (by decide)) (kb 11 (by decide)), a2.kept (kb 1 (by decide)) (kb 5 (by decide)), a3.kept (by rw [kb 0 (by decide)]) (kb 12 (by decide)) (kb 13 (by decide)) (kb 14 (by decide)), a4.kept (kb 16 (by decide)) (kb 17 (by decide)), a5.kept (fun k _ => by rw [kb 16 (by decide)]), a6.moved hs (fun b q => kb b (by omega))⟩
      refine lr_aload_n dL_law_700 rfl rfl ?_
      refine lr_aload_n dL_law_701 rfl rfl ?_
      refine lr_iload_n dL_law_702 rfl rfl ?_
      refine lr_iconst (v := nI 1) dL_law_703 (by decide) ?_
      refine lr_iadd dL_law_704 ?_
      refine lr_top (nI_add _ _) ?_
      refine lr_sload am_PL.sc dL_law_705 (by omega) (by omega) ?_
      refine lr_top (y := nI w) (ew) ?_
      refine lr_aload_n dL_law_706 rfl rfl ?_
      refine lr_iload_n dL_law_707 rfl rfl ?_
      refine lr_iconst (v := nI 2) dL_law_708 (by decide) ?_
      refine lr_iadd dL_law_709 ?_
      refine lr_top (nI_add _ _) ?_
      refine lr_sload am_PL.sc dL_law_710 (by omega) (by omega) ?_
      refine lr_top (y := nI h) (eh) ?_
      refine lr_aload_n dL_law_711 rfl rfl ?_
      refine lr_iload_n dL_law_712 rfl rfl ?_
      refine lr_iconst (v := nI 3) dL_law_713 (by decide) ?_
      refine lr_iadd dL_law_714 ?_
      refine lr_top (nI_add _ _) ?_
      refine lr_sload am_PL.sc dL_law_715 (by omega) (by omega) ?_
      refine lr_aload_n dL_law_716 rfl rfl ?_
      refine lr_iload_n dL_law_717 rfl rfl ?_
      refine lr_iconst (v := nI 4) dL_law_718 (by decide) ?_
      refine lr_iadd dL_law_719 ?_
      refine lr_top (nI_add _ _) ?_
      refine lr_sload am_PL.sc dL_law_720 (by omega) (by omega) ?_
      refine lr_callV0 (st := [.int (-1)]) dL_law_721 cf_9_97 (c_X8_back_p w1 w8 h1 h8 (Bool.eq_false_iff.mpr hp)) (by decide) (sk_l hs 44 (by decide)) (sk_k44 hs) rfl rfl (Nat.le_of_ble_eq_true rfl) (fun r1 S1 I2 hq => ?_)
      obtain ⟨rfl, rfl, rfl⟩ := hq
      refine lr_icmp_eq (tgt := 844) dL_law_724 (by decide) (fun c_724 => ?_) (fun c_724 => ?_)
      · refine lr_wide (b' := (2 * m, 131 * m)) ⟨by dsimp only; omega, by dsimp only; omega⟩ ?_
        exact hNX D P n B fk fp Sh _ _ hO hs he (by omega) hX1 hM1
      · exact absurd rfl c_724
  · refine lr_aload_n dL_law_676 rfl rfl ?_
    refine lr_aload_n dL_law_677 rfl rfl ?_
    refine lr_iload_n dL_law_678 rfl rfl ?_
    refine lr_iconst (v := nI 1) dL_law_679 (by decide) ?_
    refine lr_iadd dL_law_680 ?_
    refine lr_top (nI_add _ _) ?_
    refine lr_sload am_PL.sc dL_law_681 (by omega) (by omega) ?_
    refine lr_aload_n dL_law_682 rfl rfl ?_
    refine lr_iload_n dL_law_683 rfl rfl ?_
    refine lr_iconst (v := nI 2) dL_law_684 (by decide) ?_
    refine lr_iadd dL_law_685 ?_
    refine lr_top (nI_add _ _) ?_
    refine lr_sload am_PL.sc dL_law_686 (by omega) (by omega) ?_
    refine lr_aload_n dL_law_687 rfl rfl ?_
    refine lr_iload_n dL_law_688 rfl rfl ?_
    refine lr_iconst (v := nI 3) dL_law_689 (by decide) ?_
    refine lr_iadd dL_law_690 ?_
    refine lr_top (nI_add _ _) ?_
    refine lr_sload am_PL.sc dL_law_691 (by omega) (by omega) ?_
    refine lr_aload_n dL_law_692 rfl rfl ?_
    refine lr_iload_n dL_law_693 rfl rfl ?_
    refine lr_iconst (v := nI 4) dL_law_694 (by decide) ?_
    refine lr_iadd dL_law_695 ?_
    refine lr_top (nI_add _ _) ?_
    refine lr_sload am_PL.sc dL_law_696 (by omega) (by omega) ?_
    refine lr_callV0 (st := []) dL_law_697 cf_9_93 (c_X7_back_n (xs (i + 3)) (xs (i + 4)) hz) (by decide) (sk_l hs 0 (by decide)) (sk_k0 hs) rfl rfl (Nat.le_of_ble_eq_true rfl) (fun r1 S1 I1 hq => ?_)
    obtain ⟨rfl, rfl, rfl⟩ := hq
    refine lr_aload_n dL_law_700 rfl rfl ?_
    refine lr_aload_n dL_law_701 rfl rfl ?_
    refine lr_iload_n dL_law_702 rfl rfl ?_
    refine lr_iconst (v := nI 1) dL_law_703 (by decide) ?_
    refine lr_iadd dL_law_704 ?_
    refine lr_top (nI_add _ _) ?_
    refine lr_sload am_PL.sc dL_law_705 (by omega) (by omega) ?_
    refine lr_aload_n dL_law_706 rfl rfl ?_
    refine lr_iload_n dL_law_707 rfl rfl ?_
    refine lr_iconst (v := nI 2) dL_law_708 (by decide) ?_
    refine lr_iadd dL_law_709 ?_
    refine lr_top (nI_add _ _) ?_
    refine lr_sload am_PL.sc dL_law_710 (by omega) (by omega) ?_
    refine lr_aload_n dL_law_711 rfl rfl ?_
    refine lr_iload_n dL_law_712 rfl rfl ?_
    refine lr_iconst (v := nI 3) dL_law_713 (by decide) ?_
    refine lr_iadd dL_law_714 ?_
    refine lr_top (nI_add _ _) ?_
    refine lr_sload am_PL.sc dL_law_715 (by omega) (by omega) ?_
    refine lr_aload_n dL_law_716 rfl rfl ?_
    refine lr_iload_n dL_law_717 rfl rfl ?_
    refine lr_iconst (v := nI 4) dL_law_718 (by decide) ?_
    refine lr_iadd dL_law_719 ?_
    refine lr_top (nI_add _ _) ?_
    refine lr_sload am_PL.sc dL_law_720 (by omega) (by omega) ?_
    refine lr_callV0 (st := [.int (-1)]) dL_law_721 cf_9_97 (c_X8_back_n (xs (i + 3)) (xs (i + 4)) hz) (by decide) (sk_l hs 44 (by decide)) (sk_k44 hs) rfl rfl (Nat.le_of_ble_eq_true rfl) (fun r1 S1 I2 hq => ?_)
    obtain ⟨rfl, rfl, rfl⟩ := hq
    refine lr_icmp_eq (tgt := 844) dL_law_724 (by decide) (fun c_724 => ?_) (fun c_724 => ?_)
    · refine lr_wide (b' := (2 * m, 131 * m)) ⟨by dsimp only; omega, by dsimp only; omega⟩ ?_
      exact hNX D P n B fk fp Sh _ _ hO hs he (by omega) hX hM
    · exact absurd rfl c_724
set_option maxHeartbeats 1000000 in
set_option maxRecDepth 100000 in
theorem lo_17 (hs : sk S) (he : S.1 % 2 = 0) (hN : S.1 + 2 ≤ N0) (hN9 : N0 ≤ 900000) (hO : GO D P n B) (hX : GX D P n B fk fp Sh S I) (hM : GM D P n B fk fp Sh I) (hi : i + 6 ≤ sL) (hL : sL ≤ 3074) (hNX : NXT sL xs m i N0) : am_Rg (am_PL sL xs) am_ZL 30 Y_L_law (2 * (m + 1), 131 * (m + 1)) 729 [some (.ref (2 * am_B + 10)), some (.ref 0), some (.ref 44), some (.int (nI i))] [] S I := by
  refine lr_aload_n dL_law_729 rfl rfl ?_
  refine lr_aload_n dL_law_730 rfl rfl ?_
  refine lr_iload_n dL_law_731 rfl rfl ?_
  refine lr_iconst (v := nI 1) dL_law_732 (by decide) ?_
  refine lr_iadd dL_law_733 ?_
  refine lr_top (nI_add _ _) ?_
  refine lr_sload am_PL.sc dL_law_734 (by omega) (by omega) ?_
  refine lr_callV0 (st := []) dL_law_735 cf_9_98 (c_X7_fault hs hX.2.2.2.2.1 (xs (i + 1))) (by decide) (sk_l hs 0 (by decide)) (sk_k0 hs) rfl rfl (Nat.le_of_ble_eq_true rfl) (fun r1 S1 I1 hq => ?_)
  obtain ⟨rfl, rfl, rfl⟩ := hq
  refine lr_aload_n dL_law_738 rfl rfl ?_
  refine lr_aload_n dL_law_739 rfl rfl ?_
  refine lr_iload_n dL_law_740 rfl rfl ?_
  refine lr_iconst (v := nI 1) dL_law_741 (by decide) ?_
  refine lr_iadd dL_law_742 ?_
  refine lr_top (nI_add _ _) ?_
  refine lr_sload am_PL.sc dL_law_743 (by omega) (by omega) ?_
  refine lr_callV0 (st := [.int (vFt fk fp (xs (i + 1)))]) dL_law_744 cf_9_101 (c_X8_fault hs hM.2.2.2.1 (xs (i + 1))) (by decide) (sk_l hs 44 (by decide)) (sk_k44 hs) rfl rfl (Nat.le_of_ble_eq_true rfl) (fun r1 S1 I2 hq => ?_)
  obtain ⟨rfl, rfl, rfl⟩ := hq
  refine lr_icmp_eq (tgt := 844) dL_law_747 (by decide) (fun c_747 => ?_) (fun c_747 => ?_)
  · refine lr_wide (b' := (2 * m, 131 * m)) ⟨by dsimp only; omega, by dsimp only; omega⟩ ?_
    exact hNX D P n B fk fp Sh _ _ hO hs he (by omega) hX hM
  · exact absurd rfl c_747
set_option maxHeartbeats 1000000 in
set_option maxRecDepth 100000 in
theorem lo_19 (hs : sk S) (he : S.1 % 2 = 0) (hN : S.1 + 2 ≤ N0) (hN9 : N0 ≤ 900000) (hO : GO D P n B) (hX : GX D P n B fk fp Sh S I) (hM : GM D P n B fk fp Sh I) (hi : i + 6 ≤ sL) (hL : sL ≤ 3074) (hNX : NXT sL xs m i N0) : am_Rg (am_PL sL xs) am_ZL 30 Y_L_law (2 * (m + 1), 131 * (m + 1)) 775 [some (.ref (2 * am_B + 10)), some (.ref 0), some (.ref 44), some (.int (nI i))] [] S I := by
  refine lr_aload_n dL_law_775 rfl rfl ?_
  refine lr_aload_n dL_law_776 rfl rfl ?_
  refine lr_iload_n dL_law_777 rfl rfl ?_
  refine lr_iconst (v := nI 1) dL_law_778 (by decide) ?_
  refine lr_iadd dL_law_779 ?_
  refine lr_top (nI_add _ _) ?_
  refine lr_sload am_PL.sc dL_law_780 (by omega) (by omega) ?_
  refine lr_aload_n dL_law_781 rfl rfl ?_
  refine lr_iload_n dL_law_782 rfl rfl ?_
  refine lr_iconst (v := nI 2) dL_law_783 (by decide) ?_
  refine lr_iadd dL_law_784 ?_
  refine lr_top (nI_add _ _) ?_
  refine lr_sload am_PL.sc dL_law_785 (by omega) (by omega) ?_
  refine lr_callV0 (st := []) dL_law_786 cf_9_107 (c_X7_like hs hO.1 hX.1.1 hX.2.2.2.2.2 (xs (i + 1)) (xs (i + 2))) (by decide) (sk_l hs 0 (by decide)) (sk_k0 hs) rfl rfl (Nat.le_of_ble_eq_true rfl) (fun r1 S1 I1 hq => ?_)
  obtain ⟨rfl, rfl, hk⟩ := hq
  have hX1 : GX D P n B fk fp Sh S1 I1 := by
      obtain ⟨a1, a2, a3, a4, a5, a6⟩ := hX
      have kb := fun b (q : b ≠ 3 ∧ b ≠ 4) => hk b q.1 q.2
      exact ⟨a1.kept (by rw [kb 0 (by decide)]) (kb 1 (by decide)) (kb 2 (by decide)) (kb 7 (by decide)) (kb 8 (by decide)) (kb 9 (by decide)) (kb 10 (by decide)) (kb 11 (by decide)), a2.kept (kb 1 (by decide)) (kb 5 (by decide)), a3.kept (by rw [kb 0 (by decide)]) (kb 12 (by decide)) (kb 13 (by decide)) (kb 14 (by decide)), a4.kept (kb 16 (by decide)) (kb 17 (by decide)), a5.kept (fun k _ => by rw [kb 16 (by decide)]), a6.moved hs (fun b q => kb b (by omega))⟩
  have hM1 := hM.kept (fun b h1 h2 => hk b (by omega) (by omega))
  refine lr_aload_n dL_law_789 rfl rfl ?_
  refine lr_aload_n dL_law_790 rfl rfl ?_
  refine lr_iload_n dL_law_791 rfl rfl ?_
  refine lr_iconst (v := nI 1) dL_law_792 (by decide) ?_
  refine lr_iadd dL_law_793 ?_
  refine lr_top (nI_add _ _) ?_
  refine lr_sload am_PL.sc dL_law_794 (by omega) (by omega) ?_
  refine lr_aload_n dL_law_795 rfl rfl ?_
  refine lr_iload_n dL_law_796 rfl rfl ?_
  refine lr_iconst (v := nI 2) dL_law_797 (by decide) ?_
  refine lr_iadd dL_law_798 ?_
  refine lr_top (nI_add _ _) ?_
  refine lr_sload am_PL.sc dL_law_799 (by omega) (by omega) ?_
  refine lr_callV0 (st := [.int (vLk Sh D (xs (i + 1)) (xs (i + 2)))]) dL_law_800 cf_9_110 (c_X8_like hs hO.1 hM1.1 hM1.2.2.2.2 (xs (i + 1)) (xs (i + 2))) (by decide) (sk_l hs 44 (by decide)) (sk_k44 hs) rfl rfl (Nat.le_of_ble_eq_true rfl) (fun r1 S1 I2 hq => ?_)
  obtain ⟨rfl, rfl, hk2⟩ := hq
  have hM2 := hM1.gf hk2
  have hX2 := hX1.kept hs (fun b hb => hk2.1 b (by omega) (by omega) (by omega))
  refine lr_icmp_eq (tgt := 844) dL_law_803 (by decide) (fun c_803 => ?_) (fun c_803 => ?_)
  · refine lr_wide (b' := (2 * m, 131 * m)) ⟨by dsimp only; omega, by dsimp only; omega⟩ ?_
    exact hNX D P n B fk fp Sh _ _ hO hs he (by omega) hX2 hM2
  · exact absurd rfl c_803
set_option maxHeartbeats 1000000 in
set_option maxRecDepth 100000 in
theorem lo_20 (hs : sk S) (he : S.1 % 2 = 0) (hN : S.1 + 2 ≤ N0) (hN9 : N0 ≤ 900000) (hO : GO D P n B) (hX : GX D P n B fk fp Sh S I) (hM : GM D P n B fk fp Sh I) (hi : i + 6 ≤ sL) (hL : sL ≤ 3074) (hNX : NXT sL xs m i N0) : am_Rg (am_PL sL xs) am_ZL 30 Y_L_law (2 * (m + 1), 131 * (m + 1)) 808 [some (.ref (2 * am_B + 10)), some (.ref 0), some (.ref 44), some (.int (nI i))] [] S I := by
  refine lr_aload_n dL_law_808 rfl rfl ?_
  refine lr_callV0 (st := []) dL_law_809 cf_9_111 (c_X7_alike hs hO.1 hX.1.1) (by decide) (sk_l hs 0 (by decide)) (sk_k0 hs) rfl rfl (Nat.le_of_ble_eq_true rfl) (fun r1 S1 I1 hq => ?_)
  obtain ⟨rfl, rfl, hk⟩ := hq
  have hX1 : GX D P n B fk fp Sh S1 I1 := by
      obtain ⟨a1, a2, a3, a4, a5, a6⟩ := hX
      have kb := fun b (q : b ≠ 3 ∧ b ≠ 4) => hk b q.1 q.2
      exact ⟨a1.kept (by rw [kb 0 (by decide)]) (kb 1 (by decide)) (kb 2 (by decide)) (kb 7 (by decide)) (kb 8 (by decide)) (kb 9 (by decide)) (kb 10 (by decide)) (kb 11 (by decide)), a2.kept (kb 1 (by decide)) (kb 5 (by decide)), a3.kept (by rw [kb 0 (by decide)]) (kb 12 (by decide)) (kb 13 (by decide)) (kb 14 (by decide)), a4.kept (kb 16 (by decide)) (kb 17 (by decide)), a5.kept (fun k _ => by rw [kb 16 (by decide)]), a6.moved hs (fun b q => kb b (by omega))⟩
  have hM1 := hM.kept (fun b h1 h2 => hk b (by omega) (by omega))
  refine lr_aload_n dL_law_812 rfl rfl ?_
  refine lr_callV0 (st := [.int (nI (wyN D D 4))]) dL_law_813 cf_9_114 (c_X8_alike hs hO.1 hM1.1) (by decide) (sk_l hs 44 (by decide)) (sk_k44 hs) rfl rfl (Nat.le_of_ble_eq_true rfl) (fun r1 S1 I2 hq => ?_)
  obtain ⟨rfl, rfl, hk2⟩ := hq
  have hM2 := hM1.gf hk2
  have hX2 := hX1.kept hs (fun b hb => hk2.1 b (by omega) (by omega) (by omega))
  refine lr_icmp_eq (tgt := 844) dL_law_816 (by decide) (fun c_816 => ?_) (fun c_816 => ?_)
  · refine lr_wide (b' := (2 * m, 131 * m)) ⟨by dsimp only; omega, by dsimp only; omega⟩ ?_
    exact hNX D P n B fk fp Sh _ _ hO hs he (by omega) hX2 hM2
  · exact absurd rfl c_816
set_option maxHeartbeats 1000000 in
set_option maxRecDepth 100000 in
theorem lo_21 (hs : sk S) (he : S.1 % 2 = 0) (hN : S.1 + 2 ≤ N0) (hN9 : N0 ≤ 900000) (hO : GO D P n B) (hX : GX D P n B fk fp Sh S I) (hM : GM D P n B fk fp Sh I) (hi : i + 6 ≤ sL) (hL : sL ≤ 3074) (hNX : NXT sL xs m i N0) : am_Rg (am_PL sL xs) am_ZL 30 Y_L_law (2 * (m + 1), 131 * (m + 1)) 821 [some (.ref (2 * am_B + 10)), some (.ref 0), some (.ref 44), some (.int (nI i))] [] S I := by
  refine lr_aload_n dL_law_821 rfl rfl ?_
  refine lr_aload_n dL_law_822 rfl rfl ?_
  refine lr_iload_n dL_law_823 rfl rfl ?_
  refine lr_iconst (v := nI 1) dL_law_824 (by decide) ?_
  refine lr_iadd dL_law_825 ?_
  refine lr_top (nI_add _ _) ?_
  refine lr_sload am_PL.sc dL_law_826 (by omega) (by omega) ?_
  refine lr_callV0 (st := []) dL_law_827 cf_9_115 (c_X7_about hs hO.1.1.1 hO.1.1.2 hO.1.2.1.1 hO.1.2.1.2 hO.1.2.2 hO.2.1 hX.1.1 hX.2.1 hX.2.2.2.1.1 hX.2.2.2.2.2 (xs (i + 1))) (by decide) (sk_l hs 0 (by decide)) (sk_k0 hs) rfl rfl (Nat.le_of_ble_eq_true rfl) (fun r1 S1 I1 hq => ?_)
  obtain ⟨rfl, rfl, rfl⟩ := hq
  refine lr_aload_n dL_law_830 rfl rfl ?_
  refine lr_aload_n dL_law_831 rfl rfl ?_
  refine lr_iload_n dL_law_832 rfl rfl ?_
  refine lr_iconst (v := nI 1) dL_law_833 (by decide) ?_
  refine lr_iadd dL_law_834 ?_
  refine lr_top (nI_add _ _) ?_
  refine lr_sload am_PL.sc dL_law_835 (by omega) (by omega) ?_
  refine lr_callV0 (st := [.int (vAb D.1 D.2.1 D.2.2 P n Sh (xs (i + 1)))]) dL_law_836 cf_9_118 (c_X8_about hs hO.1.1.1 hO.1.1.2 hO.1.2.1.1 hO.1.2.1.2 hO.1.2.2 hO.2.1 hM.1 hM.2.1 hM.2.2.1.1 hM.2.2.2.2 (xs (i + 1))) (by decide) (sk_l hs 44 (by decide)) (sk_k44 hs) rfl rfl (Nat.le_of_ble_eq_true rfl) (fun r1 S1 I2 hq => ?_)
  obtain ⟨rfl, rfl, rfl⟩ := hq
  refine lr_icmp_eq (tgt := 844) dL_law_839 (by decide) (fun c_839 => ?_) (fun c_839 => ?_)
  · refine lr_wide (b' := (2 * m, 131 * m)) ⟨by dsimp only; omega, by dsimp only; omega⟩ ?_
    exact hNX D P n B fk fp Sh _ _ hO hs he (by omega) hX hM
  · exact absurd rfl c_839
set_option maxHeartbeats 1000000 in
set_option maxRecDepth 100000 in
theorem lo_0 (hs : sk S) (he : S.1 % 2 = 0) (hN : S.1 + 2 ≤ N0) (hN9 : N0 ≤ 900000) (hO : GO D P n B) (hX : GX D P n B fk fp Sh S I) (hM : GM D P n B fk fp Sh I) (hi : i + 6 ≤ sL) (hL : sL ≤ 3074) (hNX : NXT sL xs m i N0) : am_Rg (am_PL sL xs) am_ZL 30 Y_L_law (2 * (m + 1), 131 * (m + 1)) 156 [some (.ref (2 * am_B + 10)), some (.ref 0), some (.ref 44), some (.int (nI i))] [] S I := by
  by_cases hz : pInner D.1 D.2.1 (xs (i + 1)) (xs (i + 2)) = true ∧ 0 ≤ (xs (i + 3)).toInt ∧ (xs (i + 3)).toInt ≤ 2
  · obtain ⟨a, c, ea, ec, hb1, hb2, hb3, hb4, hb5⟩ := pInner_ex hz.1
    have hin : nInner D.1 D.2.1 a c = true := nIn.mpr ⟨hb1, hb2, hb3, hb4, hb5⟩
    have ev := z_nat hz.2.1
    generalize hv9 : (xs (i + 3)).toInt.toNat = v at ev
    have hv2 : v ≤ 2 := by omega
    refine lr_aload_n dL_law_156 rfl rfl ?_
    refine lr_aload_n dL_law_157 rfl rfl ?_
    refine lr_iload_n dL_law_158 rfl rfl ?_
    refine lr_iconst (v := nI 1) dL_law_159 (by decide) ?_
    refine lr_iadd dL_law_160 ?_
    refine lr_top (nI_add _ _) ?_
    refine lr_sload am_PL.sc dL_law_161 (by omega) (by omega) ?_
    refine lr_top (y := nI a) (ea) ?_
    refine lr_aload_n dL_law_162 rfl rfl ?_
    refine lr_iload_n dL_law_163 rfl rfl ?_
    refine lr_iconst (v := nI 2) dL_law_164 (by decide) ?_
    refine lr_iadd dL_law_165 ?_
    refine lr_top (nI_add _ _) ?_
    refine lr_sload am_PL.sc dL_law_166 (by omega) (by omega) ?_
    refine lr_top (y := nI c) (ec) ?_
    refine lr_aload_n dL_law_167 rfl rfl ?_
    refine lr_iload_n dL_law_168 rfl rfl ?_
    refine lr_iconst (v := nI 3) dL_law_169 (by decide) ?_
    refine lr_iadd dL_law_170 ?_
    refine lr_top (nI_add _ _) ?_
    refine lr_sload am_PL.sc dL_law_171 (by omega) (by omega) ?_
    refine lr_top (y := nI v) (ev) ?_
    refine lr_callV0 (st := []) dL_law_172 cf_9_21 (c_X7_set_y hs hO.1.1.1 hO.1.1.2 hO.1.2.1.1 hO.1.2.1.2 hX.1.1 hin hv2) (by decide) (sk_l hs 0 (by decide)) (sk_k0 hs) rfl rfl (Nat.le_of_ble_eq_true rfl) (fun r1 S1 I1 hq => ?_)
    obtain ⟨rfl, rfl, hI1⟩ := hq
    have hX1 := hX.set hs hO.1 hin hI1
    have hM1 : GM D P n B fk fp Sh I1 := hM.kept (fun b h1 h2 => by rw [hI1, am_up_a _ _ (by omega), am_up_a _ _ (by omega), am_up_a _ _ (by omega)])
    refine lr_aload_n dL_law_175 rfl rfl ?_
    refine lr_aload_n dL_law_176 rfl rfl ?_
    refine lr_iload_n dL_law_177 rfl rfl ?_
    refine lr_iconst (v := nI 1) dL_law_178 (by decide) ?_
    refine lr_iadd dL_law_179 ?_
    refine lr_top (nI_add _ _) ?_
    refine lr_sload am_PL.sc dL_law_180 (by omega) (by omega) ?_
    refine lr_top (y := nI a) (ea) ?_
    refine lr_aload_n dL_law_181 rfl rfl ?_
    refine lr_iload_n dL_law_182 rfl rfl ?_
    refine lr_iconst (v := nI 2) dL_law_183 (by decide) ?_
    refine lr_iadd dL_law_184 ?_
    refine lr_top (nI_add _ _) ?_
    refine lr_sload am_PL.sc dL_law_185 (by omega) (by omega) ?_
    refine lr_top (y := nI c) (ec) ?_
    refine lr_aload_n dL_law_186 rfl rfl ?_
    refine lr_iload_n dL_law_187 rfl rfl ?_
    refine lr_iconst (v := nI 3) dL_law_188 (by decide) ?_
    refine lr_iadd dL_law_189 ?_
    refine lr_top (nI_add _ _) ?_
    refine lr_sload am_PL.sc dL_law_190 (by omega) (by omega) ?_
    refine lr_top (y := nI v) (ev) ?_
    refine lr_callV0 (st := [.int (nI 1)]) dL_law_191 cf_9_25 (c_X8_set_y hs hO.1.1.1 hO.1.1.2 hO.1.2.1.1 hO.1.2.1.2 hM1.1 hin hv2) (by decide) (sk_l hs 44 (by decide)) (sk_k44 hs) rfl rfl (Nat.le_of_ble_eq_true rfl) (fun r1 S1 I2 hq => ?_)
    obtain ⟨rfl, rfl, hI2⟩ := hq
    have hM2 := hM1.set hO.1 hin hI2
    have hX2 := hX1.kept (I' := I2) hs (fun b hb => by rw [hI2, am_up_a _ _ (by omega)])
    refine lr_icmp_eq (tgt := 844) dL_law_194 (by decide) (fun c_194 => ?_) (fun c_194 => ?_)
    · refine lr_wide (b' := (2 * m, 131 * m)) ⟨by dsimp only; omega, by dsimp only; omega⟩ ?_
      exact hNX _ P n B fk fp Sh _ _ (hO.up hv2) hs he (by omega) hX2 hM2
    · exact absurd rfl c_194
  · refine lr_aload_n dL_law_156 rfl rfl ?_
    refine lr_aload_n dL_law_157 rfl rfl ?_
    refine lr_iload_n dL_law_158 rfl rfl ?_
    refine lr_iconst (v := nI 1) dL_law_159 (by decide) ?_
    refine lr_iadd dL_law_160 ?_
    refine lr_top (nI_add _ _) ?_
    refine lr_sload am_PL.sc dL_law_161 (by omega) (by omega) ?_
    refine lr_aload_n dL_law_162 rfl rfl ?_
    refine lr_iload_n dL_law_163 rfl rfl ?_
    refine lr_iconst (v := nI 2) dL_law_164 (by decide) ?_
    refine lr_iadd dL_law_165 ?_
    refine lr_top (nI_add _ _) ?_
    refine lr_sload am_PL.sc dL_law_166 (by omega) (by omega) ?_
    refine lr_aload_n dL_law_167 rfl rfl ?_
    refine lr_iload_n dL_law_168 rfl rfl ?_
    refine lr_iconst (v := nI 3) dL_law_169 (by decide) ?_
    refine lr_iadd dL_law_170 ?_
    refine lr_top (nI_add _ _) ?_
    refine lr_sload am_PL.sc dL_law_171 (by omega) (by omega) ?_
    refine lr_callV0 (st := []) dL_law_172 cf_9_21 (c_X7_set_n hs hO.1.1.1 hO.1.1.2 hO.1.2.1.1 hO.1.2.1.2 hX.1.1 hz) (by decide) (sk_l hs 0 (by decide)) (sk_k0 hs) rfl rfl (Nat.le_of_ble_eq_true rfl) (fun r1 S1 I1 hq => ?_)
    obtain ⟨rfl, rfl, rfl⟩ := hq
    refine lr_aload_n dL_law_175 rfl rfl ?_
    refine lr_aload_n dL_law_176 rfl rfl ?_
    refine lr_iload_n dL_law_177 rfl rfl ?_
    refine lr_iconst (v := nI 1) dL_law_178 (by decide) ?_
    refine lr_iadd dL_law_179 ?_
    refine lr_top (nI_add _ _) ?_
    refine lr_sload am_PL.sc dL_law_180 (by omega) (by omega) ?_
    refine lr_aload_n dL_law_181 rfl rfl ?_
    refine lr_iload_n dL_law_182 rfl rfl ?_
    refine lr_iconst (v := nI 2) dL_law_183 (by decide) ?_
    refine lr_iadd dL_law_184 ?_
    refine lr_top (nI_add _ _) ?_
    refine lr_sload am_PL.sc dL_law_185 (by omega) (by omega) ?_
    refine lr_aload_n dL_law_186 rfl rfl ?_
    refine lr_iload_n dL_law_187 rfl rfl ?_
    refine lr_iconst (v := nI 3) dL_law_188 (by decide) ?_
    refine lr_iadd dL_law_189 ?_
    refine lr_top (nI_add _ _) ?_
    refine lr_sload am_PL.sc dL_law_190 (by omega) (by omega) ?_
    refine lr_callV0 (st := [.int (nI 0)]) dL_law_191 cf_9_25 (c_X8_set_n hs hO.1.1.1 hO.1.1.2 hO.1.2.1.1 hO.1.2.1.2 hM.1 hz) (by decide) (sk_l hs 44 (by decide)) (sk_k44 hs) rfl rfl (Nat.le_of_ble_eq_true rfl) (fun r1 S1 I2 hq => ?_)
    obtain ⟨rfl, rfl, rfl⟩ := hq
    refine lr_icmp_eq (tgt := 844) dL_law_194 (by decide) (fun c_194 => ?_) (fun c_194 => ?_)
    · refine lr_wide (b' := (2 * m, 131 * m)) ⟨by dsimp only; omega, by dsimp only; omega⟩ ?_
      exact hNX D P n B fk fp Sh _ _ hO hs he (by omega) hX hM
    · exact absurd rfl c_194
set_option maxHeartbeats 1000000 in
set_option maxRecDepth 100000 in
theorem lo_1 (hs : sk S) (he : S.1 % 2 = 0) (hN : S.1 + 2 ≤ N0) (hN9 : N0 ≤ 900000) (hO : GO D P n B) (hX : GX D P n B fk fp Sh S I) (hM : GM D P n B fk fp Sh I) (hi : i + 6 ≤ sL) (hL : sL ≤ 3074) (hNX : NXT sL xs m i N0) : am_Rg (am_PL sL xs) am_ZL 30 Y_L_law (2 * (m + 1), 131 * (m + 1)) 199 [some (.ref (2 * am_B + 10)), some (.ref 0), some (.ref 44), some (.int (nI i))] [] S I := by
  by_cases hz : pInner D.1 D.2.1 (xs (i + 1)) (xs (i + 2)) = true
  · obtain ⟨a, c, ea, ec, hb1, hb2, hb3, hb4, hb5⟩ := pInner_ex hz
    have hin : nInner D.1 D.2.1 a c = true := nIn.mpr ⟨hb1, hb2, hb3, hb4, hb5⟩
    refine lr_aload_n dL_law_199 rfl rfl ?_
    refine lr_aload_n dL_law_200 rfl rfl ?_
    refine lr_iload_n dL_law_201 rfl rfl ?_
    refine lr_iconst (v := nI 1) dL_law_202 (by decide) ?_
    refine lr_iadd dL_law_203 ?_
    refine lr_top (nI_add _ _) ?_
    refine lr_sload am_PL.sc dL_law_204 (by omega) (by omega) ?_
    refine lr_top (y := nI a) (ea) ?_
    refine lr_aload_n dL_law_205 rfl rfl ?_
    refine lr_iload_n dL_law_206 rfl rfl ?_
    refine lr_iconst (v := nI 2) dL_law_207 (by decide) ?_
    refine lr_iadd dL_law_208 ?_
    refine lr_top (nI_add _ _) ?_
    refine lr_sload am_PL.sc dL_law_209 (by omega) (by omega) ?_
    refine lr_top (y := nI c) (ec) ?_
    refine lr_callV0 (st := []) dL_law_210 cf_9_26 (c_X7_mirror_y hs hO.1.1.1 hO.1.1.2 hO.1.2.1.1 hO.1.2.1.2 hX.1.1 hin) (by decide) (sk_l hs 0 (by decide)) (sk_k0 hs) rfl rfl (Nat.le_of_ble_eq_true rfl) (fun r1 S1 I1 hq => ?_)
    obtain ⟨rfl, rfl, rfl⟩ := hq
    refine lr_aload_n dL_law_213 rfl rfl ?_
    refine lr_aload_n dL_law_214 rfl rfl ?_
    refine lr_iload_n dL_law_215 rfl rfl ?_
    refine lr_iconst (v := nI 1) dL_law_216 (by decide) ?_
    refine lr_iadd dL_law_217 ?_
    refine lr_top (nI_add _ _) ?_
    refine lr_sload am_PL.sc dL_law_218 (by omega) (by omega) ?_
    refine lr_top (y := nI a) (ea) ?_
    refine lr_aload_n dL_law_219 rfl rfl ?_
    refine lr_iload_n dL_law_220 rfl rfl ?_
    refine lr_iconst (v := nI 2) dL_law_221 (by decide) ?_
    refine lr_iadd dL_law_222 ?_
    refine lr_top (nI_add _ _) ?_
    refine lr_sload am_PL.sc dL_law_223 (by omega) (by omega) ?_
    refine lr_top (y := nI c) (ec) ?_
    refine lr_callV0 (st := [.int (nI (D.2.2 a c))]) dL_law_224 cf_9_30 (c_X8_mirror_y hs hO.1.1.1 hO.1.1.2 hO.1.2.1.1 hO.1.2.1.2 hM.1 hin) (by decide) (sk_l hs 44 (by decide)) (sk_k44 hs) rfl rfl (Nat.le_of_ble_eq_true rfl) (fun r1 S1 I2 hq => ?_)
    obtain ⟨rfl, rfl, rfl⟩ := hq
    refine lr_icmp_eq (tgt := 844) dL_law_227 (by decide) (fun c_227 => ?_) (fun c_227 => ?_)
    · refine lr_wide (b' := (2 * m, 131 * m)) ⟨by dsimp only; omega, by dsimp only; omega⟩ ?_
      exact hNX D P n B fk fp Sh _ _ hO hs he (by omega) hX hM
    · exact absurd rfl c_227
  · refine lr_aload_n dL_law_199 rfl rfl ?_
    refine lr_aload_n dL_law_200 rfl rfl ?_
    refine lr_iload_n dL_law_201 rfl rfl ?_
    refine lr_iconst (v := nI 1) dL_law_202 (by decide) ?_
    refine lr_iadd dL_law_203 ?_
    refine lr_top (nI_add _ _) ?_
    refine lr_sload am_PL.sc dL_law_204 (by omega) (by omega) ?_
    refine lr_aload_n dL_law_205 rfl rfl ?_
    refine lr_iload_n dL_law_206 rfl rfl ?_
    refine lr_iconst (v := nI 2) dL_law_207 (by decide) ?_
    refine lr_iadd dL_law_208 ?_
    refine lr_top (nI_add _ _) ?_
    refine lr_sload am_PL.sc dL_law_209 (by omega) (by omega) ?_
    refine lr_callV0 (st := []) dL_law_210 cf_9_26 (c_X7_mirror_n hs hO.1.1.1 hO.1.1.2 hO.1.2.1.1 hO.1.2.1.2 hX.1.1 (Bool.eq_false_iff.mpr hz)) (by decide) (sk_l hs 0 (by decide)) (sk_k0 hs) rfl rfl (Nat.le_of_ble_eq_true rfl) (fun r1 S1 I1 hq => ?_)
    obtain ⟨rfl, rfl, rfl⟩ := hq
    refine lr_aload_n dL_law_213 rfl rfl ?_
    refine lr_aload_n dL_law_214 rfl rfl ?_
    refine lr_iload_n dL_law_215 rfl rfl ?_
    refine lr_iconst (v := nI 1) dL_law_216 (by decide) ?_
    refine lr_iadd dL_law_217 ?_
    refine lr_top (nI_add _ _) ?_
    refine lr_sload am_PL.sc dL_law_218 (by omega) (by omega) ?_
    refine lr_aload_n dL_law_219 rfl rfl ?_
    refine lr_iload_n dL_law_220 rfl rfl ?_
    refine lr_iconst (v := nI 2) dL_law_221 (by decide) ?_
    refine lr_iadd dL_law_222 ?_
    refine lr_top (nI_add _ _) ?_
    refine lr_sload am_PL.sc dL_law_223 (by omega) (by omega) ?_
    refine lr_callV0 (st := [.int (-1)]) dL_law_224 cf_9_30 (c_X8_mirror_n hs hO.1.1.1 hO.1.1.2 hO.1.2.1.1 hO.1.2.1.2 hM.1 (Bool.eq_false_iff.mpr hz)) (by decide) (sk_l hs 44 (by decide)) (sk_k44 hs) rfl rfl (Nat.le_of_ble_eq_true rfl) (fun r1 S1 I2 hq => ?_)
    obtain ⟨rfl, rfl, rfl⟩ := hq
    refine lr_icmp_eq (tgt := 844) dL_law_227 (by decide) (fun c_227 => ?_) (fun c_227 => ?_)
    · refine lr_wide (b' := (2 * m, 131 * m)) ⟨by dsimp only; omega, by dsimp only; omega⟩ ?_
      exact hNX D P n B fk fp Sh _ _ hO hs he (by omega) hX hM
    · exact absurd rfl c_227
set_option maxHeartbeats 1000000 in
set_option maxRecDepth 100000 in
theorem lo_2 (hs : sk S) (he : S.1 % 2 = 0) (hN : S.1 + 2 ≤ N0) (hN9 : N0 ≤ 900000) (hO : GO D P n B) (hX : GX D P n B fk fp Sh S I) (hM : GM D P n B fk fp Sh I) (hi : i + 6 ≤ sL) (hL : sL ≤ 3074) (hNX : NXT sL xs m i N0) : am_Rg (am_PL sL xs) am_ZL 30 Y_L_law (2 * (m + 1), 131 * (m + 1)) 232 [some (.ref (2 * am_B + 10)), some (.ref 0), some (.ref 44), some (.int (nI i))] [] S I := by
  by_cases hq3 : xs (i + 3) = 0
  · by_cases hz : pInner D.1 D.2.1 (xs (i + 1)) (xs (i + 2)) = true
    · obtain ⟨a, c, ea, ec, hb1, hb2, hb3, hb4, hb5⟩ := pInner_ex hz
      have hin : nInner D.1 D.2.1 a c = true := nIn.mpr ⟨hb1, hb2, hb3, hb4, hb5⟩
      refine lr_aload_n dL_law_232 rfl rfl ?_
      refine lr_aload_n dL_law_233 rfl rfl ?_
      refine lr_iload_n dL_law_234 rfl rfl ?_
      refine lr_iconst (v := nI 1) dL_law_235 (by decide) ?_
      refine lr_iadd dL_law_236 ?_
      refine lr_top (nI_add _ _) ?_
      refine lr_sload am_PL.sc dL_law_237 (by omega) (by omega) ?_
      refine lr_top (y := nI a) (ea) ?_
      refine lr_aload_n dL_law_238 rfl rfl ?_
      refine lr_iload_n dL_law_239 rfl rfl ?_
      refine lr_iconst (v := nI 2) dL_law_240 (by decide) ?_
      refine lr_iadd dL_law_241 ?_
      refine lr_top (nI_add _ _) ?_
      refine lr_sload am_PL.sc dL_law_242 (by omega) (by omega) ?_
      refine lr_top (y := nI c) (ec) ?_
      refine lr_aload_n dL_law_243 rfl rfl ?_
      refine lr_iload_n dL_law_244 rfl rfl ?_
      refine lr_iconst (v := nI 3) dL_law_245 (by decide) ?_
      refine lr_iadd dL_law_246 ?_
      refine lr_top (nI_add _ _) ?_
      refine lr_sload am_PL.sc dL_law_247 (by omega) (by omega) ?_
      refine lr_if_eq (tgt := 255) dL_law_248 (by decide) (fun c_248 => ?_) (fun c_248 => ?_)
      · refine lr_iconst (v := nI 0) dL_law_255 (by decide) ?_
        refine lr_callV0 (st := []) dL_law_256 cf_9_31 (c_X7_pin_y0 hs hO.1.1.1 hO.1.1.2 hO.1.2.1.1 hO.1.2.1.2 hX.1.1 hin) (by decide) (sk_l hs 0 (by decide)) (sk_k0 hs) rfl rfl (Nat.le_of_ble_eq_true rfl) (fun r1 S1 I1 hq => ?_)
        obtain ⟨rfl, rfl, hI1⟩ := hq
        have hX1 := hX.pin hs hO.1 hin hI1
        have hM1 : GM D P n B fk fp Sh I1 := hM.kept (fun b h1 h2 => by rw [hI1, am_up_a _ _ (by omega), am_up_a _ _ (by omega)])
        refine lr_aload_n dL_law_259 rfl rfl ?_
        refine lr_aload_n dL_law_260 rfl rfl ?_
        refine lr_iload_n dL_law_261 rfl rfl ?_
        refine lr_iconst (v := nI 1) dL_law_262 (by decide) ?_
        refine lr_iadd dL_law_263 ?_
        refine lr_top (nI_add _ _) ?_
        refine lr_sload am_PL.sc dL_law_264 (by omega) (by omega) ?_
        refine lr_top (y := nI a) (ea) ?_
        refine lr_aload_n dL_law_265 rfl rfl ?_
        refine lr_iload_n dL_law_266 rfl rfl ?_
        refine lr_iconst (v := nI 2) dL_law_267 (by decide) ?_
        refine lr_iadd dL_law_268 ?_
        refine lr_top (nI_add _ _) ?_
        refine lr_sload am_PL.sc dL_law_269 (by omega) (by omega) ?_
        refine lr_top (y := nI c) (ec) ?_
        refine lr_aload_n dL_law_270 rfl rfl ?_
        refine lr_iload_n dL_law_271 rfl rfl ?_
        refine lr_iconst (v := nI 3) dL_law_272 (by decide) ?_
        refine lr_iadd dL_law_273 ?_
        refine lr_top (nI_add _ _) ?_
        refine lr_sload am_PL.sc dL_law_274 (by omega) (by omega) ?_
        refine lr_if_eq (tgt := 282) dL_law_275 (by decide) (fun c_275 => ?_) (fun c_275 => ?_)
        · refine lr_iconst (v := nI 0) dL_law_282 (by decide) ?_
          refine lr_callV0 (st := [.int (nI 1)]) dL_law_283 cf_9_35 (c_X8_pin_y0 hs hO.1.1.1 hO.1.1.2 hO.1.2.1.1 hO.1.2.1.2 hM1.1 hin) (by decide) (sk_l hs 44 (by decide)) (sk_k44 hs) rfl rfl (Nat.le_of_ble_eq_true rfl) (fun r1 S1 I2 hq => ?_)
          obtain ⟨rfl, rfl, hI2⟩ := hq
          have hM2 := hM1.pin hO.1 hin hI2
          have hX2 := hX1.kept (I' := I2) hs (fun b hb => by rw [hI2, am_up_a _ _ (by omega)])
          refine lr_icmp_eq (tgt := 844) dL_law_286 (by decide) (fun c_286 => ?_) (fun c_286 => ?_)
          · refine lr_wide (b' := (2 * m, 131 * m)) ⟨by dsimp only; omega, by dsimp only; omega⟩ ?_
            exact hNX D _ n B fk fp Sh _ _ (hO.pn (by decide)) hs he (by omega) hX2 hM2
          · exact absurd rfl c_286
        · exact absurd hq3 c_275
      · exact absurd hq3 c_248
    · refine lr_aload_n dL_law_232 rfl rfl ?_
      refine lr_aload_n dL_law_233 rfl rfl ?_
      refine lr_iload_n dL_law_234 rfl rfl ?_
      refine lr_iconst (v := nI 1) dL_law_235 (by decide) ?_
      refine lr_iadd dL_law_236 ?_
      refine lr_top (nI_add _ _) ?_
      refine lr_sload am_PL.sc dL_law_237 (by omega) (by omega) ?_
      refine lr_aload_n dL_law_238 rfl rfl ?_
      refine lr_iload_n dL_law_239 rfl rfl ?_
      refine lr_iconst (v := nI 2) dL_law_240 (by decide) ?_
      refine lr_iadd dL_law_241 ?_
      refine lr_top (nI_add _ _) ?_
      refine lr_sload am_PL.sc dL_law_242 (by omega) (by omega) ?_
      refine lr_aload_n dL_law_243 rfl rfl ?_
      refine lr_iload_n dL_law_244 rfl rfl ?_
      refine lr_iconst (v := nI 3) dL_law_245 (by decide) ?_
      refine lr_iadd dL_law_246 ?_
      refine lr_top (nI_add _ _) ?_
      refine lr_sload am_PL.sc dL_law_247 (by omega) (by omega) ?_
      refine lr_if_eq (tgt := 255) dL_law_248 (by decide) (fun c_248 => ?_) (fun c_248 => ?_)
      · refine lr_iconst (v := nI 0) dL_law_255 (by decide) ?_
        refine lr_callV0 (st := []) dL_law_256 cf_9_31 (c_X7_pin_n hs hO.1.1.1 hO.1.1.2 hO.1.2.1.1 hO.1.2.1.2 hX.1.1 (Bool.eq_false_iff.mpr hz)) (by decide) (sk_l hs 0 (by decide)) (sk_k0 hs) rfl rfl (Nat.le_of_ble_eq_true rfl) (fun r1 S1 I1 hq => ?_)
        obtain ⟨rfl, rfl, rfl⟩ := hq
        refine lr_aload_n dL_law_259 rfl rfl ?_
        refine lr_aload_n dL_law_260 rfl rfl ?_
        refine lr_iload_n dL_law_261 rfl rfl ?_
        refine lr_iconst (v := nI 1) dL_law_262 (by decide) ?_
        refine lr_iadd dL_law_263 ?_
        refine lr_top (nI_add _ _) ?_
        refine lr_sload am_PL.sc dL_law_264 (by omega) (by omega) ?_
        refine lr_aload_n dL_law_265 rfl rfl ?_
        refine lr_iload_n dL_law_266 rfl rfl ?_
        refine lr_iconst (v := nI 2) dL_law_267 (by decide) ?_
        refine lr_iadd dL_law_268 ?_
        refine lr_top (nI_add _ _) ?_
        refine lr_sload am_PL.sc dL_law_269 (by omega) (by omega) ?_
        refine lr_aload_n dL_law_270 rfl rfl ?_
        refine lr_iload_n dL_law_271 rfl rfl ?_
        refine lr_iconst (v := nI 3) dL_law_272 (by decide) ?_
        refine lr_iadd dL_law_273 ?_
        refine lr_top (nI_add _ _) ?_
        refine lr_sload am_PL.sc dL_law_274 (by omega) (by omega) ?_
        refine lr_if_eq (tgt := 282) dL_law_275 (by decide) (fun c_275 => ?_) (fun c_275 => ?_)
        · refine lr_iconst (v := nI 0) dL_law_282 (by decide) ?_
          refine lr_callV0 (st := [.int (nI 0)]) dL_law_283 cf_9_35 (c_X8_pin_n hs hO.1.1.1 hO.1.1.2 hO.1.2.1.1 hO.1.2.1.2 hM.1 (Bool.eq_false_iff.mpr hz)) (by decide) (sk_l hs 44 (by decide)) (sk_k44 hs) rfl rfl (Nat.le_of_ble_eq_true rfl) (fun r1 S1 I2 hq => ?_)
          obtain ⟨rfl, rfl, rfl⟩ := hq
          refine lr_icmp_eq (tgt := 844) dL_law_286 (by decide) (fun c_286 => ?_) (fun c_286 => ?_)
          · refine lr_wide (b' := (2 * m, 131 * m)) ⟨by dsimp only; omega, by dsimp only; omega⟩ ?_
            exact hNX D P n B fk fp Sh _ _ hO hs he (by omega) hX hM
          · exact absurd rfl c_286
        · exact absurd hq3 c_275
      · exact absurd hq3 c_248
  · by_cases hz : pInner D.1 D.2.1 (xs (i + 1)) (xs (i + 2)) = true
    · obtain ⟨a, c, ea, ec, hb1, hb2, hb3, hb4, hb5⟩ := pInner_ex hz
      have hin : nInner D.1 D.2.1 a c = true := nIn.mpr ⟨hb1, hb2, hb3, hb4, hb5⟩
      refine lr_aload_n dL_law_232 rfl rfl ?_
      refine lr_aload_n dL_law_233 rfl rfl ?_
      refine lr_iload_n dL_law_234 rfl rfl ?_
      refine lr_iconst (v := nI 1) dL_law_235 (by decide) ?_
      refine lr_iadd dL_law_236 ?_
      refine lr_top (nI_add _ _) ?_
      refine lr_sload am_PL.sc dL_law_237 (by omega) (by omega) ?_
      refine lr_top (y := nI a) (ea) ?_
      refine lr_aload_n dL_law_238 rfl rfl ?_
      refine lr_iload_n dL_law_239 rfl rfl ?_
      refine lr_iconst (v := nI 2) dL_law_240 (by decide) ?_
      refine lr_iadd dL_law_241 ?_
      refine lr_top (nI_add _ _) ?_
      refine lr_sload am_PL.sc dL_law_242 (by omega) (by omega) ?_
      refine lr_top (y := nI c) (ec) ?_
      refine lr_aload_n dL_law_243 rfl rfl ?_
      refine lr_iload_n dL_law_244 rfl rfl ?_
      refine lr_iconst (v := nI 3) dL_law_245 (by decide) ?_
      refine lr_iadd dL_law_246 ?_
      refine lr_top (nI_add _ _) ?_
      refine lr_sload am_PL.sc dL_law_247 (by omega) (by omega) ?_
      refine lr_if_eq (tgt := 255) dL_law_248 (by decide) (fun c_248 => ?_) (fun c_248 => ?_)
      · exact absurd c_248 hq3
      · refine lr_iconst (v := nI 1) dL_law_251 (by decide) ?_
        refine lr_goto (tgt := 256) dL_law_252 (by decide) ?_
        refine lr_callV0 (st := []) dL_law_256 cf_9_31 (c_X7_pin_y1 hs hO.1.1.1 hO.1.1.2 hO.1.2.1.1 hO.1.2.1.2 hX.1.1 hin) (by decide) (sk_l hs 0 (by decide)) (sk_k0 hs) rfl rfl (Nat.le_of_ble_eq_true rfl) (fun r1 S1 I1 hq => ?_)
        obtain ⟨rfl, rfl, hI1⟩ := hq
        have hX1 := hX.pin hs hO.1 hin hI1
        have hM1 : GM D P n B fk fp Sh I1 := hM.kept (fun b h1 h2 => by rw [hI1, am_up_a _ _ (by omega), am_up_a _ _ (by omega)])
        refine lr_aload_n dL_law_259 rfl rfl ?_
        refine lr_aload_n dL_law_260 rfl rfl ?_
        refine lr_iload_n dL_law_261 rfl rfl ?_
        refine lr_iconst (v := nI 1) dL_law_262 (by decide) ?_
        refine lr_iadd dL_law_263 ?_
        refine lr_top (nI_add _ _) ?_
        refine lr_sload am_PL.sc dL_law_264 (by omega) (by omega) ?_
        refine lr_top (y := nI a) (ea) ?_
        refine lr_aload_n dL_law_265 rfl rfl ?_
        refine lr_iload_n dL_law_266 rfl rfl ?_
        refine lr_iconst (v := nI 2) dL_law_267 (by decide) ?_
        refine lr_iadd dL_law_268 ?_
        refine lr_top (nI_add _ _) ?_
        refine lr_sload am_PL.sc dL_law_269 (by omega) (by omega) ?_
        refine lr_top (y := nI c) (ec) ?_
        refine lr_aload_n dL_law_270 rfl rfl ?_
        refine lr_iload_n dL_law_271 rfl rfl ?_
        refine lr_iconst (v := nI 3) dL_law_272 (by decide) ?_
        refine lr_iadd dL_law_273 ?_
        refine lr_top (nI_add _ _) ?_
        refine lr_sload am_PL.sc dL_law_274 (by omega) (by omega) ?_
        refine lr_if_eq (tgt := 282) dL_law_275 (by decide) (fun c_275 => ?_) (fun c_275 => ?_)
        · exact absurd c_275 hq3
        · refine lr_iconst (v := nI 1) dL_law_278 (by decide) ?_
          refine lr_goto (tgt := 283) dL_law_279 (by decide) ?_
          refine lr_callV0 (st := [.int (nI 1)]) dL_law_283 cf_9_35 (c_X8_pin_y1 hs hO.1.1.1 hO.1.1.2 hO.1.2.1.1 hO.1.2.1.2 hM1.1 hin) (by decide) (sk_l hs 44 (by decide)) (sk_k44 hs) rfl rfl (Nat.le_of_ble_eq_true rfl) (fun r1 S1 I2 hq => ?_)
          obtain ⟨rfl, rfl, hI2⟩ := hq
          have hM2 := hM1.pin hO.1 hin hI2
          have hX2 := hX1.kept (I' := I2) hs (fun b hb => by rw [hI2, am_up_a _ _ (by omega)])
          refine lr_icmp_eq (tgt := 844) dL_law_286 (by decide) (fun c_286 => ?_) (fun c_286 => ?_)
          · refine lr_wide (b' := (2 * m, 131 * m)) ⟨by dsimp only; omega, by dsimp only; omega⟩ ?_
            exact hNX D _ n B fk fp Sh _ _ (hO.pn (by decide)) hs he (by omega) hX2 hM2
          · exact absurd rfl c_286
    · refine lr_aload_n dL_law_232 rfl rfl ?_
      refine lr_aload_n dL_law_233 rfl rfl ?_
      refine lr_iload_n dL_law_234 rfl rfl ?_
      refine lr_iconst (v := nI 1) dL_law_235 (by decide) ?_
      refine lr_iadd dL_law_236 ?_
      refine lr_top (nI_add _ _) ?_
      refine lr_sload am_PL.sc dL_law_237 (by omega) (by omega) ?_
      refine lr_aload_n dL_law_238 rfl rfl ?_
      refine lr_iload_n dL_law_239 rfl rfl ?_
      refine lr_iconst (v := nI 2) dL_law_240 (by decide) ?_
      refine lr_iadd dL_law_241 ?_
      refine lr_top (nI_add _ _) ?_
      refine lr_sload am_PL.sc dL_law_242 (by omega) (by omega) ?_
      refine lr_aload_n dL_law_243 rfl rfl ?_
      refine lr_iload_n dL_law_244 rfl rfl ?_
      refine lr_iconst (v := nI 3) dL_law_245 (by decide) ?_
      refine lr_iadd dL_law_246 ?_
      refine lr_top (nI_add _ _) ?_
      refine lr_sload am_PL.sc dL_law_247 (by omega) (by omega) ?_
      refine lr_if_eq (tgt := 255) dL_law_248 (by decide) (fun c_248 => ?_) (fun c_248 => ?_)
      · exact absurd c_248 hq3
      · refine lr_iconst (v := nI 1) dL_law_251 (by decide) ?_
        refine lr_goto (tgt := 256) dL_law_252 (by decide) ?_
        refine lr_callV0 (st := []) dL_law_256 cf_9_31 (c_X7_pin_n hs hO.1.1.1 hO.1.1.2 hO.1.2.1.1 hO.1.2.1.2 hX.1.1 (Bool.eq_false_iff.mpr hz)) (by decide) (sk_l hs 0 (by decide)) (sk_k0 hs) rfl rfl (Nat.le_of_ble_eq_true rfl) (fun r1 S1 I1 hq => ?_)
        obtain ⟨rfl, rfl, rfl⟩ := hq
        refine lr_aload_n dL_law_259 rfl rfl ?_
        refine lr_aload_n dL_law_260 rfl rfl ?_
        refine lr_iload_n dL_law_261 rfl rfl ?_
        refine lr_iconst (v := nI 1) dL_law_262 (by decide) ?_
        refine lr_iadd dL_law_263 ?_
        refine lr_top (nI_add _ _) ?_
        refine lr_sload am_PL.sc dL_law_264 (by omega) (by omega) ?_
        refine lr_aload_n dL_law_265 rfl rfl ?_
        refine lr_iload_n dL_law_266 rfl rfl ?_
        refine lr_iconst (v := nI 2) dL_law_267 (by decide) ?_
        refine lr_iadd dL_law_268 ?_
        refine lr_top (nI_add _ _) ?_
        refine lr_sload am_PL.sc dL_law_269 (by omega) (by omega) ?_
        refine lr_aload_n dL_law_270 rfl rfl ?_
        refine lr_iload_n dL_law_271 rfl rfl ?_
        refine lr_iconst (v := nI 3) dL_law_272 (by decide) ?_
        refine lr_iadd dL_law_273 ?_
        refine lr_top (nI_add _ _) ?_
        refine lr_sload am_PL.sc dL_law_274 (by omega) (by omega) ?_
        refine lr_if_eq (tgt := 282) dL_law_275 (by decide) (fun c_275 => ?_) (fun c_275 => ?_)
        · exact absurd c_275 hq3
        · refine lr_iconst (v := nI 1) dL_law_278 (by decide) ?_
          refine lr_goto (tgt := 283) dL_law_279 (by decide) ?_
          refine lr_callV0 (st := [.int (nI 0)]) dL_law_283 cf_9_35 (c_X8_pin_n hs hO.1.1.1 hO.1.1.2 hO.1.2.1.1 hO.1.2.1.2 hM.1 (Bool.eq_false_iff.mpr hz)) (by decide) (sk_l hs 44 (by decide)) (sk_k44 hs) rfl rfl (Nat.le_of_ble_eq_true rfl) (fun r1 S1 I2 hq => ?_)
          obtain ⟨rfl, rfl, rfl⟩ := hq
          refine lr_icmp_eq (tgt := 844) dL_law_286 (by decide) (fun c_286 => ?_) (fun c_286 => ?_)
          · refine lr_wide (b' := (2 * m, 131 * m)) ⟨by dsimp only; omega, by dsimp only; omega⟩ ?_
            exact hNX D P n B fk fp Sh _ _ hO hs he (by omega) hX hM
          · exact absurd rfl c_286
set_option maxHeartbeats 1000000 in
set_option maxRecDepth 100000 in
theorem lo_18 (hs : sk S) (he : S.1 % 2 = 0) (hN : S.1 + 2 ≤ N0) (hN9 : N0 ≤ 900000) (hO : GO D P n B) (hX : GX D P n B fk fp Sh S I) (hM : GM D P n B fk fp Sh I) (hi : i + 6 ≤ sL) (hL : sL ≤ 3074) (hNX : NXT sL xs m i N0) : am_Rg (am_PL sL xs) am_ZL 30 Y_L_law (2 * (m + 1), 131 * (m + 1)) 752 [some (.ref (2 * am_B + 10)), some (.ref 0), some (.ref 44), some (.int (nI i))] [] S I := by
  by_cases hz : 0 ≤ (xs (i + 1)).toInt ∧ (xs (i + 1)).toInt ≤ 7
  · have ek := z_nat hz.1
    generalize hk9 : (xs (i + 1)).toInt.toNat = k at ek
    have hk : k < 8 := by omega
    rcases h6 : S.2.2 6 k with _ | c
    · refine lr_aload_n dL_law_752 rfl rfl ?_
      refine lr_aload_n dL_law_753 rfl rfl ?_
      refine lr_iload_n dL_law_754 rfl rfl ?_
      refine lr_iconst (v := nI 1) dL_law_755 (by decide) ?_
      refine lr_iadd dL_law_756 ?_
      refine lr_top (nI_add _ _) ?_
      refine lr_sload am_PL.sc dL_law_757 (by omega) (by omega) ?_
      refine lr_top (y := nI k) (ek) ?_
      refine lr_callV (b' := (2, 131)) (st := []) dL_law_758 cf_9_102 (c_X7_keep_f hs hX.1.1 he (by show S.1 + 2 < 1000000; omega) hk h6) (by decide) ⟨by show 2 ≤ 2 * (m + 1); omega, by show 131 ≤ 131 * (m + 1); omega⟩ (sk_l hs 0 (by decide)) (sk_k0 hs) rfl rfl (Nat.le_of_ble_eq_true rfl) (fun r1 S1 I1 hq => ?_)
      obtain ⟨rfl, rfl, hD1, hF1⟩ := hq
      have hs1 := kp_sk hs he hk h6
      have hX1 := hX.keepF hs hO.1 hk h6 hD1 hF1
      have h62 := hs.1
      have hM1 := hM.kept (fun b h1 h2 => hF1 b (by omega))
      refine lr_aload_n dL_law_761 rfl rfl ?_
      refine lr_aload_n dL_law_762 rfl rfl ?_
      refine lr_iload_n dL_law_763 rfl rfl ?_
      refine lr_iconst (v := nI 1) dL_law_764 (by decide) ?_
      refine lr_iadd dL_law_765 ?_
      refine lr_top (nI_add _ _) ?_
      refine lr_sload am_PL.sc dL_law_766 (by omega) (by omega) ?_
      refine lr_top (y := nI k) (ek) ?_
      refine lr_callV0 (st := [.int (nI 1)]) dL_law_767 cf_9_106 (c_X8_keep_y hs1 hO.1 hM1.1 hk) (by decide) (sk_l hs1 44 (by decide)) (sk_k44 hs1) rfl rfl (Nat.le_of_ble_eq_true rfl) (fun r1 S1 I2 hq => ?_)
      obtain ⟨rfl, rfl, hD2, hG2⟩ := hq
      have hM2 := hM1.keep hO.1 hk hD2 hG2
      have hX2 := hX1.kept hs1 (fun b hb => hG2.1 b (by omega) (by omega) (by omega))
      refine lr_icmp_eq (tgt := 844) dL_law_770 (by decide) (fun c_770 => ?_) (fun c_770 => ?_)
      · refine lr_wide (b' := (2 * m, 131 * m)) ⟨by dsimp only; omega, by dsimp only; omega⟩ ?_
        exact hNX D P n B fk fp _ _ _ hO hs1 (by show (S.1 + 2) % 2 = 0; omega) (by show S.1 + 2 ≤ N0; omega) hX2 hM2
      · exact absurd rfl c_770
    · refine lr_aload_n dL_law_752 rfl rfl ?_
      refine lr_aload_n dL_law_753 rfl rfl ?_
      refine lr_iload_n dL_law_754 rfl rfl ?_
      refine lr_iconst (v := nI 1) dL_law_755 (by decide) ?_
      refine lr_iadd dL_law_756 ?_
      refine lr_top (nI_add _ _) ?_
      refine lr_sload am_PL.sc dL_law_757 (by omega) (by omega) ?_
      refine lr_top (y := nI k) (ek) ?_
      refine lr_callV (b' := (2, 131)) (st := []) dL_law_758 cf_9_102 (c_X7_keep_c hs hX.1.1 hk h6) (by decide) ⟨by show 2 ≤ 2 * (m + 1); omega, by show 131 ≤ 131 * (m + 1); omega⟩ (sk_l hs 0 (by decide)) (sk_k0 hs) rfl rfl (Nat.le_of_ble_eq_true rfl) (fun r1 S1 I1 hq => ?_)
      obtain ⟨rfl, rfl, hD1, hF1⟩ := hq
      have hs1 := hs
      have hc62 := (hs.2.2.2.1 k c hk h6).1
      have hX1 := hX.keepC hs hO.1 hk h6 hD1 hF1
      have hM1 := hM.kept (fun b h1 h2 => hF1 b (by omega) (by omega))
      refine lr_aload_n dL_law_761 rfl rfl ?_
      refine lr_aload_n dL_law_762 rfl rfl ?_
      refine lr_iload_n dL_law_763 rfl rfl ?_
      refine lr_iconst (v := nI 1) dL_law_764 (by decide) ?_
      refine lr_iadd dL_law_765 ?_
      refine lr_top (nI_add _ _) ?_
      refine lr_sload am_PL.sc dL_law_766 (by omega) (by omega) ?_
      refine lr_top (y := nI k) (ek) ?_
      refine lr_callV0 (st := [.int (nI 1)]) dL_law_767 cf_9_106 (c_X8_keep_y hs1 hO.1 hM1.1 hk) (by decide) (sk_l hs 44 (by decide)) (sk_k44 hs) rfl rfl (Nat.le_of_ble_eq_true rfl) (fun r1 S1 I2 hq => ?_)
      obtain ⟨rfl, rfl, hD2, hG2⟩ := hq
      have hM2 := hM1.keep hO.1 hk hD2 hG2
      have hX2 := hX1.kept hs1 (fun b hb => hG2.1 b (by omega) (by omega) (by omega))
      refine lr_icmp_eq (tgt := 844) dL_law_770 (by decide) (fun c_770 => ?_) (fun c_770 => ?_)
      · refine lr_wide (b' := (2 * m, 131 * m)) ⟨by dsimp only; omega, by dsimp only; omega⟩ ?_
        exact hNX D P n B fk fp _ _ _ hO hs he (by omega) hX2 hM2
      · exact absurd rfl c_770
  · refine lr_aload_n dL_law_752 rfl rfl ?_
    refine lr_aload_n dL_law_753 rfl rfl ?_
    refine lr_iload_n dL_law_754 rfl rfl ?_
    refine lr_iconst (v := nI 1) dL_law_755 (by decide) ?_
    refine lr_iadd dL_law_756 ?_
    refine lr_top (nI_add _ _) ?_
    refine lr_sload am_PL.sc dL_law_757 (by omega) (by omega) ?_
    refine lr_callV (b' := (2, 131)) (st := []) dL_law_758 cf_9_102 (c_X7_keep_n hz) (by decide) ⟨by show 2 ≤ 2 * (m + 1); omega, by show 131 ≤ 131 * (m + 1); omega⟩ (sk_l hs 0 (by decide)) (sk_k0 hs) rfl rfl (Nat.le_of_ble_eq_true rfl) (fun r1 S1 I1 hq => ?_)
    obtain ⟨rfl, rfl, rfl⟩ := hq
    refine lr_aload_n dL_law_761 rfl rfl ?_
    refine lr_aload_n dL_law_762 rfl rfl ?_
    refine lr_iload_n dL_law_763 rfl rfl ?_
    refine lr_iconst (v := nI 1) dL_law_764 (by decide) ?_
    refine lr_iadd dL_law_765 ?_
    refine lr_top (nI_add _ _) ?_
    refine lr_sload am_PL.sc dL_law_766 (by omega) (by omega) ?_
    refine lr_callV0 (st := [.int (nI 0)]) dL_law_767 cf_9_106 (c_X8_keep_n hz) (by decide) (sk_l hs 44 (by decide)) (sk_k44 hs) rfl rfl (Nat.le_of_ble_eq_true rfl) (fun r1 S1 I2 hq => ?_)
    obtain ⟨rfl, rfl, rfl⟩ := hq
    refine lr_icmp_eq (tgt := 844) dL_law_770 (by decide) (fun c_770 => ?_) (fun c_770 => ?_)
    · refine lr_wide (b' := (2 * m, 131 * m)) ⟨by dsimp only; omega, by dsimp only; omega⟩ ?_
      exact hNX D P n B fk fp Sh _ _ hO hs he (by omega) hX hM
    · exact absurd rfl c_770
end OPS
