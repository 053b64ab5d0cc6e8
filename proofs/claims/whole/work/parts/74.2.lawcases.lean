set_option maxRecDepth 20000 in
theorem lc_8 {fm : Value} {n : Nat} {xs : Nat → Int32} {l : Launch} {D : va_G} {Post : Option Int32 → AI → AR → Prop} {i t : Nat} {s : Nat → Nat → Nat} {I : AI} (hn : n ≤ 2048) (hi : i + 4 ≤ n) (hV : LInv t s I) (kk : ∀ (t : Nat) (s : Nat → Nat → Nat) (I : AI), LInv t s I → ZC (YL fm n xs) l D zm_L_law SH 955 (zLL i) [] I (zF t) SH Post) : ZC (YL fm n xs) l D zm_L_law SH 366 (zLL i) [] I (zF t) SH Post := by
  obtain ⟨ht, hC, hR, hA⟩ := hV
  refine C_aload_n (pc := 366) dL_law_366 rfl ?_
  refine C_aload_n (pc := 367) dL_law_367 rfl ?_
  refine C_iload_n (pc := 368) dL_law_368 rfl ?_
  refine C_iconst (pc := 369) (x := nI 1) dL_law_369 (by decide) ?_
  refine C_iadd (pc := 370) dL_law_370 ?_
  refine C_sld (pc := 371) (i + 1) dL_law_371 (nI_add i 1) (by omega) (by omega) ?_
  refine C_aload_n (pc := 372) dL_law_372 rfl ?_
  refine C_iload_n (pc := 373) dL_law_373 rfl ?_
  refine C_iconst (pc := 374) (x := nI 2) dL_law_374 (by decide) ?_
  refine C_iadd (pc := 375) dL_law_375 ?_
  refine C_sld (pc := 376) (i + 2) dL_law_376 (nI_add i 2) (by omega) (by omega) ?_
  obtain ⟨_, J, _, k1, rfl, rfl, hJ⟩ := ZP.c (Y := YL fm n xs) (s_walk (l := l) (D := D) ht hC hR (x := xs (i + 1)) (y := xs (i + 2)))
  refine C_callV (pc := 377) (S := []) (As := [_, _]) (zYo_L fm n xs) k1 dL_law_377 ok_X11_walk ml_L_48 iv_X11_walk ⟨by decide, by decide⟩ (zret_i _) rfl ⟨rfl, by decide⟩ sh_0 ⟨by decide, rfl⟩ (Nat.le_of_ble_eq_true rfl) zNew.rf ?_
  have hC1 : CR t s J := hC.sc hJ ht
  have hA1 : RefA s J := (hJ.hg ht).A hA
  refine C_aload_n (pc := 380) dL_law_380 rfl ?_
  refine C_aload_n (pc := 381) dL_law_381 rfl ?_
  refine C_iload_n (pc := 382) dL_law_382 rfl ?_
  refine C_iconst (pc := 383) (x := nI 1) dL_law_383 (by decide) ?_
  refine C_iadd (pc := 384) dL_law_384 ?_
  refine C_sld (pc := 385) (i + 1) dL_law_385 (nI_add i 1) (by omega) (by omega) ?_
  refine C_aload_n (pc := 386) dL_law_386 rfl ?_
  refine C_iload_n (pc := 387) dL_law_387 rfl ?_
  refine C_iconst (pc := 388) (x := nI 2) dL_law_388 (by decide) ?_
  refine C_iadd (pc := 389) dL_law_389 ?_
  refine C_sld (pc := 390) (i + 2) dL_law_390 (nI_add i 2) (by omega) (by omega) ?_
  obtain ⟨_, K, _, k2, rfl, rfl, hK⟩ := ZP.c (Y := YL fm n xs) (c_walk (l := l) (D := D) (tw := t) hA1.1 hR.1.1 hR.1.2.1 hR.1.2.2.1.2 (x := xs (i + 1)) (y := xs (i + 2)))
  refine C_callV (pc := 391) (S := [_]) (As := [_, _]) (zYo_L fm n xs) k2 dL_law_391 ok_X12_walk ml_L_51 iv_X12_walk ⟨by decide, by decide⟩ (zret_i _) rfl ⟨rfl, by decide⟩ sh_109 ⟨by decide, rfl⟩ (Nat.le_of_ble_eq_true rfl) zNew.rf ?_
  refine C_icmp_eqT (pc := 394) (tgt := 955) dL_law_394 (by decide) rfl ?_
  exact kk t s K ⟨ht, hC1.frm hK.frm ht, hR, hK.A hA1⟩
set_option maxRecDepth 20000 in
theorem lc_9 {fm : Value} {n : Nat} {xs : Nat → Int32} {l : Launch} {D : va_G} {Post : Option Int32 → AI → AR → Prop} {i t : Nat} {s : Nat → Nat → Nat} {I : AI} (hn : n ≤ 2048) (hi : i + 4 ≤ n) (hV : LInv t s I) (kk : ∀ (t : Nat) (s : Nat → Nat → Nat) (I : AI), LInv t s I → ZC (YL fm n xs) l D zm_L_law SH 955 (zLL i) [] I (zF t) SH Post) : ZC (YL fm n xs) l D zm_L_law SH 399 (zLL i) [] I (zF t) SH Post := by
  obtain ⟨ht, hC, hR, hA⟩ := hV
  refine C_aload_n (pc := 399) dL_law_399 rfl ?_
  refine C_aload_n (pc := 400) dL_law_400 rfl ?_
  refine C_iload_n (pc := 401) dL_law_401 rfl ?_
  refine C_iconst (pc := 402) (x := nI 1) dL_law_402 (by decide) ?_
  refine C_iadd (pc := 403) dL_law_403 ?_
  refine C_sld (pc := 404) (i + 1) dL_law_404 (nI_add i 1) (by omega) (by omega) ?_
  refine C_aload_n (pc := 405) dL_law_405 rfl ?_
  refine C_iload_n (pc := 406) dL_law_406 rfl ?_
  refine C_iconst (pc := 407) (x := nI 2) dL_law_407 (by decide) ?_
  refine C_iadd (pc := 408) dL_law_408 ?_
  refine C_sld (pc := 409) (i + 2) dL_law_409 (nI_add i 2) (by omega) (by omega) ?_
  obtain ⟨_, J, _, k1, rfl, rfl, hJ⟩ := ZP.c (Y := YL fm n xs) (s_way (l := l) (D := D) ht hC hR (x := xs (i + 1)) (y := xs (i + 2)))
  refine C_callV (pc := 410) (S := []) (As := [_, _]) (zYo_L fm n xs) k1 dL_law_410 ok_X11_way ml_L_52 iv_X11_way ⟨by decide, by decide⟩ (zret_i _) rfl ⟨rfl, by decide⟩ sh_0 ⟨by decide, rfl⟩ (Nat.le_of_ble_eq_true rfl) zNew.rf ?_
  have hC1 : CR t s J := hC.sc hJ ht
  have hA1 : RefA s J := (hJ.hg ht).A hA
  refine C_aload_n (pc := 413) dL_law_413 rfl ?_
  refine C_aload_n (pc := 414) dL_law_414 rfl ?_
  refine C_iload_n (pc := 415) dL_law_415 rfl ?_
  refine C_iconst (pc := 416) (x := nI 1) dL_law_416 (by decide) ?_
  refine C_iadd (pc := 417) dL_law_417 ?_
  refine C_sld (pc := 418) (i + 1) dL_law_418 (nI_add i 1) (by omega) (by omega) ?_
  refine C_aload_n (pc := 419) dL_law_419 rfl ?_
  refine C_iload_n (pc := 420) dL_law_420 rfl ?_
  refine C_iconst (pc := 421) (x := nI 2) dL_law_421 (by decide) ?_
  refine C_iadd (pc := 422) dL_law_422 ?_
  refine C_sld (pc := 423) (i + 2) dL_law_423 (nI_add i 2) (by omega) (by omega) ?_
  obtain ⟨_, K, _, k2, rfl, rfl, hK⟩ := ZP.c (Y := YL fm n xs) (c_way (l := l) (D := D) (tw := t) hA1.1 hR.1.1 hR.1.2.1 hR.1.2.2.1.2 (x := xs (i + 1)) (y := xs (i + 2)))
  refine C_callV (pc := 424) (S := [_]) (As := [_, _]) (zYo_L fm n xs) k2 dL_law_424 ok_X12_way ml_L_55 iv_X12_way ⟨by decide, by decide⟩ (zret_i _) rfl ⟨rfl, by decide⟩ sh_109 ⟨by decide, rfl⟩ (Nat.le_of_ble_eq_true rfl) zNew.rf ?_
  refine C_icmp_eqT (pc := 427) (tgt := 955) dL_law_427 (by decide) rfl ?_
  exact kk t s K ⟨ht, hC1.frm hK.frm ht, hR, hK.A hA1⟩
set_option maxRecDepth 20000 in
theorem lc_10 {fm : Value} {n : Nat} {xs : Nat → Int32} {l : Launch} {D : va_G} {Post : Option Int32 → AI → AR → Prop} {i t : Nat} {s : Nat → Nat → Nat} {I : AI} (hn : n ≤ 2048) (hi : i + 4 ≤ n) (hV : LInv t s I) (kk : ∀ (t : Nat) (s : Nat → Nat → Nat) (I : AI), LInv t s I → ZC (YL fm n xs) l D zm_L_law SH 955 (zLL i) [] I (zF t) SH Post) : ZC (YL fm n xs) l D zm_L_law SH 432 (zLL i) [] I (zF t) SH Post := by
  obtain ⟨ht, hC, hR, hA⟩ := hV
  refine C_aload_n (pc := 432) dL_law_432 rfl ?_
  refine C_aload_n (pc := 433) dL_law_433 rfl ?_
  refine C_iload_n (pc := 434) dL_law_434 rfl ?_
  refine C_iconst (pc := 435) (x := nI 1) dL_law_435 (by decide) ?_
  refine C_iadd (pc := 436) dL_law_436 ?_
  refine C_sld (pc := 437) (i + 1) dL_law_437 (nI_add i 1) (by omega) (by omega) ?_
  obtain ⟨_, J, _, k1, rfl, rfl, hJ⟩ := ZP.c (Y := YL fm n xs) (s_round (l := l) (D := D) ht hC hR (x := xs (i + 1)))
  refine C_callV (pc := 438) (S := []) (As := [_]) (zYo_L fm n xs) k1 dL_law_438 ok_X11_round ml_L_56 iv_X11_round ⟨by decide, by decide⟩ (zret_i _) rfl ⟨rfl, by decide⟩ sh_0 ⟨by decide, rfl⟩ (Nat.le_of_ble_eq_true rfl) zNew.rf ?_
  have hC1 : CR t s J := hC.sc hJ ht
  have hA1 : RefA s J := (hJ.hg ht).A hA
  refine C_aload_n (pc := 441) dL_law_441 rfl ?_
  refine C_aload_n (pc := 442) dL_law_442 rfl ?_
  refine C_iload_n (pc := 443) dL_law_443 rfl ?_
  refine C_iconst (pc := 444) (x := nI 1) dL_law_444 (by decide) ?_
  refine C_iadd (pc := 445) dL_law_445 ?_
  refine C_sld (pc := 446) (i + 1) dL_law_446 (nI_add i 1) (by omega) (by omega) ?_
  obtain ⟨_, K, _, k2, rfl, rfl, hK⟩ := ZP.c (Y := YL fm n xs) (c_round (l := l) (D := D) (tw := t) hA1.1 hR.1.1 hR.1.2.1 hR.1.2.2.1.2 (x := xs (i + 1)))
  refine C_callV (pc := 447) (S := [_]) (As := [_]) (zYo_L fm n xs) k2 dL_law_447 ok_X12_round ml_L_59 iv_X12_round ⟨by decide, by decide⟩ (zret_i _) rfl ⟨rfl, by decide⟩ sh_109 ⟨by decide, rfl⟩ (Nat.le_of_ble_eq_true rfl) zNew.rf ?_
  refine C_icmp_eqT (pc := 450) (tgt := 955) dL_law_450 (by decide) rfl ?_
  exact kk t s K ⟨ht, hC1.frm hK.frm ht, hR, hK.A hA1⟩
set_option maxRecDepth 20000 in
theorem lc_11 {fm : Value} {n : Nat} {xs : Nat → Int32} {l : Launch} {D : va_G} {Post : Option Int32 → AI → AR → Prop} {i t : Nat} {s : Nat → Nat → Nat} {I : AI} (hn : n ≤ 2048) (hi : i + 4 ≤ n) (hV : LInv t s I) (kk : ∀ (t : Nat) (s : Nat → Nat → Nat) (I : AI), LInv t s I → ZC (YL fm n xs) l D zm_L_law SH 955 (zLL i) [] I (zF t) SH Post) : ZC (YL fm n xs) l D zm_L_law SH 455 (zLL i) [] I (zF t) SH Post := by
  obtain ⟨ht, hC, hR, hA⟩ := hV
  refine C_aload_n (pc := 455) dL_law_455 rfl ?_
  obtain ⟨_, J, _, k1, rfl, rfl, hJ⟩ := ZP.c (Y := YL fm n xs) (s_tax (l := l) (D := D) ht hC hR )
  refine C_callV (pc := 456) (S := []) (As := []) (zYo_L fm n xs) k1 dL_law_456 ok_X11_tax ml_L_60 iv_X11_tax ⟨by decide, by decide⟩ (zret_i _) rfl ⟨rfl, by decide⟩ sh_0 ⟨by decide, rfl⟩ (Nat.le_of_ble_eq_true rfl) zNew.rf ?_
  have hC1 : CR t s J := hC.sc hJ ht
  have hA1 : RefA s J := (hJ.hg ht).A hA
  refine C_aload_n (pc := 459) dL_law_459 rfl ?_
  obtain ⟨_, K, _, k2, rfl, rfl, hK⟩ := ZP.c (Y := YL fm n xs) (c_tax (l := l) (D := D) (tw := t) hA1.1 hR.1.1 hR.1.2.1 hR.1.2.2.1.2 )
  refine C_callV (pc := 460) (S := [_]) (As := []) (zYo_L fm n xs) k2 dL_law_460 ok_X12_tax ml_L_63 iv_X12_tax ⟨by decide, by decide⟩ (zret_i _) rfl ⟨rfl, by decide⟩ sh_109 ⟨by decide, rfl⟩ (Nat.le_of_ble_eq_true rfl) zNew.rf ?_
  refine C_icmp_eqT (pc := 463) (tgt := 955) dL_law_463 (by decide) rfl ?_
  exact kk t s K ⟨ht, hC1.frm hK.frm ht, hR, hK.A hA1⟩
set_option maxRecDepth 20000 in
theorem lc_12 {fm : Value} {n : Nat} {xs : Nat → Int32} {l : Launch} {D : va_G} {Post : Option Int32 → AI → AR → Prop} {i t : Nat} {s : Nat → Nat → Nat} {I : AI} (hn : n ≤ 2048) (hi : i + 4 ≤ n) (hV : LInv t s I) (kk : ∀ (t : Nat) (s : Nat → Nat → Nat) (I : AI), LInv t s I → ZC (YL fm n xs) l D zm_L_law SH 955 (zLL i) [] I (zF t) SH Post) : ZC (YL fm n xs) l D zm_L_law SH 468 (zLL i) [] I (zF t) SH Post := by
  obtain ⟨ht, hC, hR, hA⟩ := hV
  refine C_aload_n (pc := 468) dL_law_468 rfl ?_
  refine C_aload_n (pc := 469) dL_law_469 rfl ?_
  refine C_iload_n (pc := 470) dL_law_470 rfl ?_
  refine C_iconst (pc := 471) (x := nI 1) dL_law_471 (by decide) ?_
  refine C_iadd (pc := 472) dL_law_472 ?_
  refine C_sld (pc := 473) (i + 1) dL_law_473 (nI_add i 1) (by omega) (by omega) ?_
  refine C_aload_n (pc := 474) dL_law_474 rfl ?_
  refine C_iload_n (pc := 475) dL_law_475 rfl ?_
  refine C_iconst (pc := 476) (x := nI 2) dL_law_476 (by decide) ?_
  refine C_iadd (pc := 477) dL_law_477 ?_
  refine C_sld (pc := 478) (i + 2) dL_law_478 (nI_add i 2) (by omega) (by omega) ?_
  refine C_aload_n (pc := 479) dL_law_479 rfl ?_
  refine C_iload_n (pc := 480) dL_law_480 rfl ?_
  refine C_iconst (pc := 481) (x := nI 3) dL_law_481 (by decide) ?_
  refine C_iadd (pc := 482) dL_law_482 ?_
  refine C_sld (pc := 483) (i + 3) dL_law_483 (nI_add i 3) (by omega) (by omega) ?_
  obtain ⟨_, J, _, k1, rfl, rfl, hC1, hg⟩ := ZP.c (Y := YL fm n xs) (s_put (l := l) (D := D) ht hC hR (x := xs (i + 1)) (y := xs (i + 2)) (z := xs (i + 3)))
  refine C_callV (pc := 484) (S := []) (As := [_, _, _]) (zYo_L fm n xs) k1 dL_law_484 ok_X11_put ml_L_64 iv_X11_put ⟨by decide, by decide⟩ (zret_i _) rfl ⟨rfl, by decide⟩ sh_0 ⟨by decide, rfl⟩ (Nat.le_of_ble_eq_true rfl) zNew.rf ?_
  have hA1 : RefA s J := hg.A hA
  refine C_aload_n (pc := 487) dL_law_487 rfl ?_
  refine C_aload_n (pc := 488) dL_law_488 rfl ?_
  refine C_iload_n (pc := 489) dL_law_489 rfl ?_
  refine C_iconst (pc := 490) (x := nI 1) dL_law_490 (by decide) ?_
  refine C_iadd (pc := 491) dL_law_491 ?_
  refine C_sld (pc := 492) (i + 1) dL_law_492 (nI_add i 1) (by omega) (by omega) ?_
  refine C_aload_n (pc := 493) dL_law_493 rfl ?_
  refine C_iload_n (pc := 494) dL_law_494 rfl ?_
  refine C_iconst (pc := 495) (x := nI 2) dL_law_495 (by decide) ?_
  refine C_iadd (pc := 496) dL_law_496 ?_
  refine C_sld (pc := 497) (i + 2) dL_law_497 (nI_add i 2) (by omega) (by omega) ?_
  refine C_aload_n (pc := 498) dL_law_498 rfl ?_
  refine C_iload_n (pc := 499) dL_law_499 rfl ?_
  refine C_iconst (pc := 500) (x := nI 3) dL_law_500 (by decide) ?_
  refine C_iadd (pc := 501) dL_law_501 ?_
  refine C_sld (pc := 502) (i + 3) dL_law_502 (nI_add i 3) (by omega) (by omega) ?_
  obtain ⟨_, K, _, k2, rfl, rfl, hA2, hF⟩ := ZP.c (Y := YL fm n xs) (c_put (l := l) (D := D) (tw := t) hA1 hR.1.1 hR.1.2.1 hR.1.2.2.1.1 hR.2.1.1 (x := xs (i + 1)) (y := xs (i + 2)) (z := xs (i + 3)))
  refine C_callV (pc := 503) (S := [_]) (As := [_, _, _]) (zYo_L fm n xs) k2 dL_law_503 ok_X12_put ml_L_68 iv_X12_put ⟨by decide, by decide⟩ (zret_i _) rfl ⟨rfl, by decide⟩ sh_109 ⟨by decide, rfl⟩ (Nat.le_of_ble_eq_true rfl) zNew.rf ?_
  refine C_icmp_eqT (pc := 506) (tgt := 955) dL_law_506 (by decide) rfl ?_
  exact kk t (nPut s (xs (i + 1)) (xs (i + 2)) (xs (i + 3))) K ⟨ht, hC1.frm hF ht, (hR.toPut _ _ _), hA2⟩
set_option maxRecDepth 20000 in
theorem lc_13 {fm : Value} {n : Nat} {xs : Nat → Int32} {l : Launch} {D : va_G} {Post : Option Int32 → AI → AR → Prop} {i t : Nat} {s : Nat → Nat → Nat} {I : AI} (hn : n ≤ 2048) (hi : i + 4 ≤ n) (hV : LInv t s I) (kk : ∀ (t : Nat) (s : Nat → Nat → Nat) (I : AI), LInv t s I → ZC (YL fm n xs) l D zm_L_law SH 955 (zLL i) [] I (zF t) SH Post) : ZC (YL fm n xs) l D zm_L_law SH 511 (zLL i) [] I (zF t) SH Post := by
  obtain ⟨ht, hC, hR, hA⟩ := hV
  refine C_aload_n (pc := 511) dL_law_511 rfl ?_
  refine C_aload_n (pc := 512) dL_law_512 rfl ?_
  refine C_iload_n (pc := 513) dL_law_513 rfl ?_
  refine C_iconst (pc := 514) (x := nI 1) dL_law_514 (by decide) ?_
  refine C_iadd (pc := 515) dL_law_515 ?_
  refine C_sld (pc := 516) (i + 1) dL_law_516 (nI_add i 1) (by omega) (by omega) ?_
  obtain ⟨_, J, _, k1, rfl, rfl, hC1, hg⟩ := ZP.c (Y := YL fm n xs) (s_take (l := l) (D := D) ht hC hR (x := xs (i + 1)))
  refine C_callV (pc := 517) (S := []) (As := [_]) (zYo_L fm n xs) k1 dL_law_517 ok_X11_take ml_L_69 iv_X11_take ⟨by decide, by decide⟩ (zret_i _) rfl ⟨rfl, by decide⟩ sh_0 ⟨by decide, rfl⟩ (Nat.le_of_ble_eq_true rfl) zNew.rf ?_
  have hA1 : RefA s J := hg.A hA
  refine C_aload_n (pc := 520) dL_law_520 rfl ?_
  refine C_aload_n (pc := 521) dL_law_521 rfl ?_
  refine C_iload_n (pc := 522) dL_law_522 rfl ?_
  refine C_iconst (pc := 523) (x := nI 1) dL_law_523 (by decide) ?_
  refine C_iadd (pc := 524) dL_law_524 ?_
  refine C_sld (pc := 525) (i + 1) dL_law_525 (nI_add i 1) (by omega) (by omega) ?_
  obtain ⟨_, K, _, k2, rfl, rfl, hA2, hF⟩ := ZP.c (Y := YL fm n xs) (c_take (l := l) (D := D) (tw := t) hA1 hR.1.1 hR.1.2.1 hR.1.2.2.1.1 hR.2.1.1 (x := xs (i + 1)))
  refine C_callV (pc := 526) (S := [_]) (As := [_]) (zYo_L fm n xs) k2 dL_law_526 ok_X12_take ml_L_72 iv_X12_take ⟨by decide, by decide⟩ (zret_i _) rfl ⟨rfl, by decide⟩ sh_109 ⟨by decide, rfl⟩ (Nat.le_of_ble_eq_true rfl) zNew.rf ?_
  refine C_icmp_eqT (pc := 529) (tgt := 955) dL_law_529 (by decide) rfl ?_
  exact kk t (nTake s (xs (i + 1))) K ⟨ht, hC1.frm hF ht, (hR.toTake _), hA2⟩
set_option maxRecDepth 20000 in
theorem lc_14 {fm : Value} {n : Nat} {xs : Nat → Int32} {l : Launch} {D : va_G} {Post : Option Int32 → AI → AR → Prop} {i t : Nat} {s : Nat → Nat → Nat} {I : AI} (hn : n ≤ 2048) (hi : i + 4 ≤ n) (hV : LInv t s I) (kk : ∀ (t : Nat) (s : Nat → Nat → Nat) (I : AI), LInv t s I → ZC (YL fm n xs) l D zm_L_law SH 955 (zLL i) [] I (zF t) SH Post) : ZC (YL fm n xs) l D zm_L_law SH 534 (zLL i) [] I (zF t) SH Post := by
  obtain ⟨ht, hC, hR, hA⟩ := hV
  refine C_aload_n (pc := 534) dL_law_534 rfl ?_
  refine C_aload_n (pc := 535) dL_law_535 rfl ?_
  refine C_iload_n (pc := 536) dL_law_536 rfl ?_
  refine C_iconst (pc := 537) (x := nI 1) dL_law_537 (by decide) ?_
  refine C_iadd (pc := 538) dL_law_538 ?_
  refine C_sld (pc := 539) (i + 1) dL_law_539 (nI_add i 1) (by omega) (by omega) ?_
  refine C_aload_n (pc := 540) dL_law_540 rfl ?_
  refine C_iload_n (pc := 541) dL_law_541 rfl ?_
  refine C_iconst (pc := 542) (x := nI 2) dL_law_542 (by decide) ?_
  refine C_iadd (pc := 543) dL_law_543 ?_
  refine C_sld (pc := 544) (i + 2) dL_law_544 (nI_add i 2) (by omega) (by omega) ?_
  obtain ⟨_, J, _, k1, rfl, rfl, hC1, hg⟩ := ZP.c (Y := YL fm n xs) (s_tell (l := l) (D := D) ht hC hR (x := xs (i + 1)) (y := xs (i + 2)))
  refine C_callV (pc := 545) (S := []) (As := [_, _]) (zYo_L fm n xs) k1 dL_law_545 ok_X11_tell ml_L_73 iv_X11_tell ⟨by decide, by decide⟩ (zret_i _) rfl ⟨rfl, by decide⟩ sh_0 ⟨by decide, rfl⟩ (Nat.le_of_ble_eq_true rfl) zNew.rf ?_
  have hA1 : RefA s J := hg.A hA
  refine C_aload_n (pc := 548) dL_law_548 rfl ?_
  refine C_aload_n (pc := 549) dL_law_549 rfl ?_
  refine C_iload_n (pc := 550) dL_law_550 rfl ?_
  refine C_iconst (pc := 551) (x := nI 1) dL_law_551 (by decide) ?_
  refine C_iadd (pc := 552) dL_law_552 ?_
  refine C_sld (pc := 553) (i + 1) dL_law_553 (nI_add i 1) (by omega) (by omega) ?_
  refine C_aload_n (pc := 554) dL_law_554 rfl ?_
  refine C_iload_n (pc := 555) dL_law_555 rfl ?_
  refine C_iconst (pc := 556) (x := nI 2) dL_law_556 (by decide) ?_
  refine C_iadd (pc := 557) dL_law_557 ?_
  refine C_sld (pc := 558) (i + 2) dL_law_558 (nI_add i 2) (by omega) (by omega) ?_
  obtain ⟨_, K, _, k2, rfl, rfl, hA2, hF⟩ := ZP.c (Y := YL fm n xs) (c_tell (l := l) (D := D) (tw := t) hA1 hR.1.1 hR.1.2.1 hR.2.1.1 (x := xs (i + 1)) (y := xs (i + 2)))
  refine C_callV (pc := 559) (S := [_]) (As := [_, _]) (zYo_L fm n xs) k2 dL_law_559 ok_X12_tell ml_L_76 iv_X12_tell ⟨by decide, by decide⟩ (zret_i _) rfl ⟨rfl, by decide⟩ sh_109 ⟨by decide, rfl⟩ (Nat.le_of_ble_eq_true rfl) zNew.rf ?_
  refine C_icmp_eqT (pc := 562) (tgt := 955) dL_law_562 (by decide) rfl ?_
  exact kk t (nTell s (xs (i + 1)) (xs (i + 2))) K ⟨ht, hC1.frm hF ht, (hR.toTell _ _), hA2⟩
set_option maxRecDepth 20000 in
theorem lc_15 {fm : Value} {n : Nat} {xs : Nat → Int32} {l : Launch} {D : va_G} {Post : Option Int32 → AI → AR → Prop} {i t : Nat} {s : Nat → Nat → Nat} {I : AI} (hn : n ≤ 2048) (hi : i + 4 ≤ n) (hV : LInv t s I) (kk : ∀ (t : Nat) (s : Nat → Nat → Nat) (I : AI), LInv t s I → ZC (YL fm n xs) l D zm_L_law SH 955 (zLL i) [] I (zF t) SH Post) : ZC (YL fm n xs) l D zm_L_law SH 567 (zLL i) [] I (zF t) SH Post := by
  obtain ⟨ht, hC, hR, hA⟩ := hV
  refine C_aload_n (pc := 567) dL_law_567 rfl ?_
  obtain ⟨_, J, _, k1, rfl, rfl, hC1, hg⟩ := ZP.c (Y := YL fm n xs) (s_undo (l := l) (D := D) ht hC hR )
  refine C_callV (pc := 568) (S := []) (As := []) (zYo_L fm n xs) k1 dL_law_568 ok_X11_undo ml_L_77 iv_X11_undo ⟨by decide, by decide⟩ (zret_i _) rfl ⟨rfl, by decide⟩ sh_0 ⟨by decide, rfl⟩ (Nat.le_of_ble_eq_true rfl) zNew.rf ?_
  have hA1 : RefA s J := hg.A hA
  refine C_aload_n (pc := 571) dL_law_571 rfl ?_
  obtain ⟨_, K, _, k2, rfl, rfl, hA2, hF⟩ := ZP.c (Y := YL fm n xs) (c_undo (l := l) (D := D) (tw := t) hA1 hR.1.1 hR.1.2.1 hR.2.1.1 )
  refine C_callV (pc := 572) (S := [_]) (As := []) (zYo_L fm n xs) k2 dL_law_572 ok_X12_undo ml_L_80 iv_X12_undo ⟨by decide, by decide⟩ (zret_i _) rfl ⟨rfl, by decide⟩ sh_109 ⟨by decide, rfl⟩ (Nat.le_of_ble_eq_true rfl) zNew.rf ?_
  refine C_icmp_eqT (pc := 575) (tgt := 955) dL_law_575 (by decide) rfl ?_
  exact kk t (nUndo s) K ⟨ht, hC1.frm hF ht, hR.toUndo, hA2⟩
