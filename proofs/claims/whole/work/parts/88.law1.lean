set_option maxRecDepth 20000 in
set_option maxHeartbeats 1000000 in
theorem law_0 {d : Nat} (hd : 57 ≤ d) {σ : MM} {X : CST} {i n : Int} (hn : σ 92 1 0 = n) (hi : 0 ≤ i ∧ i + 6 ≤ n) (hnN : n ≤ 3072) (hs : ∀ z : Int, IR (σ 92 0 z)) (hC : CRl σ X) (hM : MRl σ X) (kk : ∀ (σ' : MM) (X' : CST), CRl σ' X' → MRl σ' X' → σ' 92 = σ 92 → V yL_law cL_law 4 (some .boolean) d LQ 2578 [some (vR 92 0), some (vR 0 0), some (vR 34 0), some (vI i)] [] σ') : V yL_law cL_law 4 (some .boolean) d LQ 356 [some (vR 92 0), some (vR 0 0), some (vR 34 0), some (vI i)] [] σ := by
  refine V_aload_1 (pc := 356) dL_law_356 ?_
  refine V_aload_0 (pc := 357) dL_law_357 ?_
  refine V_iload_3 (pc := 358) dL_law_358 ?_
  refine V_iconst (pc := 359) dL_law_359 ?_
  refine V_iadd (pc := 360) dL_law_360 ?_
  refine V_sld (pc := 361) dL_law_361 hn hnN (by omega) (v := σ 92 0 (i + 1)) rfl ?_
  refine V_aload_0 (pc := 362) dL_law_362 ?_
  refine V_iload_3 (pc := 363) dL_law_363 ?_
  refine V_iconst (pc := 364) dL_law_364 ?_
  refine V_iadd (pc := 365) dL_law_365 ?_
  refine V_sld (pc := 366) dL_law_366 hn hnN (by omega) (v := σ 92 0 (i + 2)) rfl ?_
  refine V_aload_0 (pc := 367) dL_law_367 ?_
  refine V_iload_3 (pc := 368) dL_law_368 ?_
  refine V_iconst (pc := 369) dL_law_369 ?_
  refine V_iadd (pc := 370) dL_law_370 ?_
  refine V_sld (pc := 371) dL_law_371 hn hnN (by omega) (v := σ 92 0 (i + 3)) rfl ?_
  refine V_aload_0 (pc := 372) dL_law_372 ?_
  refine V_iload_3 (pc := 373) dL_law_373 ?_
  refine V_iconst (pc := 374) dL_law_374 ?_
  refine V_iadd (pc := 375) dL_law_375 ?_
  refine V_sld (pc := 376) dL_law_376 hn hnN (by omega) (v := σ 92 0 (i + 4)) rfl ?_
  refine V_aload_0 (pc := 377) dL_law_377 ?_
  refine V_iload_3 (pc := 378) dL_law_378 ?_
  refine V_iconst (pc := 379) dL_law_379 ?_
  refine V_iadd (pc := 380) dL_law_380 ?_
  refine V_sld (pc := 381) dL_law_381 hn hnN (by omega) (v := σ 92 0 (i + 5)) rfl ?_
  refine V_callV5i (pc := 382) dL_law_382 kv_L_13 rc_0 (by omega) (d - 1) (by omega) rfl (V.sci (c_X5_feed (by omega) hC (hs _) (hs _) (hs _) (hs _) (hs _))) (fun v1 σ1 h1 => ?_)
  have h92 := h1.2
  have hC1 := h1.1.2.1
  have hM1 := h1.1.2.2.mrl hM
  have hO1 := hC.ok
  have hG1 := hC.g
  refine V_aload_2 (pc := 385) dL_law_385 ?_
  refine V_aload_0 (pc := 386) dL_law_386 ?_
  refine V_iload_3 (pc := 387) dL_law_387 ?_
  refine V_iconst (pc := 388) dL_law_388 ?_
  refine V_iadd (pc := 389) dL_law_389 ?_
  refine V_sld (pc := 390) dL_law_390 (by rw [h92]; exact hn) hnN (by omega) (v := σ 92 0 (i + 1)) (by rw [h92]) ?_
  refine V_aload_0 (pc := 391) dL_law_391 ?_
  refine V_iload_3 (pc := 392) dL_law_392 ?_
  refine V_iconst (pc := 393) dL_law_393 ?_
  refine V_iadd (pc := 394) dL_law_394 ?_
  refine V_sld (pc := 395) dL_law_395 (by rw [h92]; exact hn) hnN (by omega) (v := σ 92 0 (i + 2)) (by rw [h92]) ?_
  refine V_aload_0 (pc := 396) dL_law_396 ?_
  refine V_iload_3 (pc := 397) dL_law_397 ?_
  refine V_iconst (pc := 398) dL_law_398 ?_
  refine V_iadd (pc := 399) dL_law_399 ?_
  refine V_sld (pc := 400) dL_law_400 (by rw [h92]; exact hn) hnN (by omega) (v := σ 92 0 (i + 3)) (by rw [h92]) ?_
  refine V_aload_0 (pc := 401) dL_law_401 ?_
  refine V_iload_3 (pc := 402) dL_law_402 ?_
  refine V_iconst (pc := 403) dL_law_403 ?_
  refine V_iadd (pc := 404) dL_law_404 ?_
  refine V_sld (pc := 405) dL_law_405 (by rw [h92]; exact hn) hnN (by omega) (v := σ 92 0 (i + 4)) (by rw [h92]) ?_
  refine V_aload_0 (pc := 406) dL_law_406 ?_
  refine V_iload_3 (pc := 407) dL_law_407 ?_
  refine V_iconst (pc := 408) dL_law_408 ?_
  refine V_iadd (pc := 409) dL_law_409 ?_
  refine V_sld (pc := 410) dL_law_410 (by rw [h92]; exact hn) hnN (by omega) (v := σ 92 0 (i + 5)) (by rw [h92]) ?_
  refine V_callV5i (pc := 411) dL_law_411 kv_L_17 rc_34 (by omega) (d - 1) (by omega) rfl (V.sci (c_X6_feed (by omega) hM1 hO1 (hs _) (hs _) (hs _) (hs _) (hs _))) (fun v2 σ2 h2 => ?_)
  have hC2 := h2.1.2.2.crl hC1
  have hM2 := h2.1.2.1
  have h93 : σ2 92 = σ 92 := h2.2.trans h92
  refine V_icmp_same (pc := 414) 2578 dL_law_414 (by decide) (h1.1.1.trans h2.1.1.symm) ?_
  exact kk _ _ hC2 hM2 h93

set_option maxRecDepth 20000 in
set_option maxHeartbeats 1000000 in
theorem law_1 {d : Nat} (hd : 57 ≤ d) {σ : MM} {X : CST} {i n : Int} (hn : σ 92 1 0 = n) (hi : 0 ≤ i ∧ i + 6 ≤ n) (hnN : n ≤ 3072) (hs : ∀ z : Int, IR (σ 92 0 z)) (hC : CRl σ X) (hM : MRl σ X) (kk : ∀ (σ' : MM) (X' : CST), CRl σ' X' → MRl σ' X' → σ' 92 = σ 92 → V yL_law cL_law 4 (some .boolean) d LQ 2578 [some (vR 92 0), some (vR 0 0), some (vR 34 0), some (vI i)] [] σ') : V yL_law cL_law 4 (some .boolean) d LQ 419 [some (vR 92 0), some (vR 0 0), some (vR 34 0), some (vI i)] [] σ := by
  refine V_aload_1 (pc := 419) dL_law_419 ?_
  refine V_aload_0 (pc := 420) dL_law_420 ?_
  refine V_iload_3 (pc := 421) dL_law_421 ?_
  refine V_iconst (pc := 422) dL_law_422 ?_
  refine V_iadd (pc := 423) dL_law_423 ?_
  refine V_sld (pc := 424) dL_law_424 hn hnN (by omega) (v := σ 92 0 (i + 1)) rfl ?_
  refine V_callV1i (pc := 425) dL_law_425 kv_L_18 rc_0 (by omega) (d - 1) (by omega) rfl (V.sci (c_X5_end (by omega) hC (hs _))) (fun v1 σ1 h1 => ?_)
  have h92 := h1.2
  have hC1 := h1.1.2.1
  have hM1 := h1.1.2.2.mrl hM
  have hO1 := hC.ok
  have hG1 := hC.g
  refine V_aload_2 (pc := 428) dL_law_428 ?_
  refine V_aload_0 (pc := 429) dL_law_429 ?_
  refine V_iload_3 (pc := 430) dL_law_430 ?_
  refine V_iconst (pc := 431) dL_law_431 ?_
  refine V_iadd (pc := 432) dL_law_432 ?_
  refine V_sld (pc := 433) dL_law_433 (by rw [h92]; exact hn) hnN (by omega) (v := σ 92 0 (i + 1)) (by rw [h92]) ?_
  refine V_callV1i (pc := 434) dL_law_434 kv_L_22 rc_34 (by omega) (d - 1) (by omega) rfl (V.sci (c_X6_end (by omega) hM1 hO1 (hs _))) (fun v2 σ2 h2 => ?_)
  have hC2 := h2.1.2.2.crl hC1
  have hM2 := h2.1.2.1
  have h93 : σ2 92 = σ 92 := h2.2.trans h92
  refine V_icmp_same (pc := 437) 2578 dL_law_437 (by decide) (h1.1.1.trans h2.1.1.symm) ?_
  exact kk _ _ hC2 hM2 h93

set_option maxRecDepth 20000 in
set_option maxHeartbeats 1000000 in
theorem law_2 {d : Nat} (hd : 57 ≤ d) {σ : MM} {X : CST} {i n : Int} (hn : σ 92 1 0 = n) (hi : 0 ≤ i ∧ i + 6 ≤ n) (hnN : n ≤ 3072) (hs : ∀ z : Int, IR (σ 92 0 z)) (hC : CRl σ X) (hM : MRl σ X) (kk : ∀ (σ' : MM) (X' : CST), CRl σ' X' → MRl σ' X' → σ' 92 = σ 92 → V yL_law cL_law 4 (some .boolean) d LQ 2578 [some (vR 92 0), some (vR 0 0), some (vR 34 0), some (vI i)] [] σ') : V yL_law cL_law 4 (some .boolean) d LQ 442 [some (vR 92 0), some (vR 0 0), some (vR 34 0), some (vI i)] [] σ := by
  refine V_aload_1 (pc := 442) dL_law_442 ?_
  refine V_callV0i (pc := 443) dL_law_443 kv_L_23 rc_0 (by omega) (d - 1) (by omega) rfl (V.sci (c_X5_book (by omega) hC)) (fun v1 σ1 h1 => ?_)
  have h92 := h1.2
  have hC1 := h1.1.2.1
  have hM1 := h1.1.2.2.mrl hM
  have hO1 := hC.ok
  have hG1 := hC.g
  refine V_aload_2 (pc := 446) dL_law_446 ?_
  refine V_callV0i (pc := 447) dL_law_447 kv_L_27 rc_34 (by omega) (d - 1) (by omega) rfl (V.sci (c_X6_book (by omega) hM1 hO1)) (fun v2 σ2 h2 => ?_)
  have hC2 := h2.1.2.2.crl hC1
  have hM2 := h2.1.2.1
  have h93 : σ2 92 = σ 92 := h2.2.trans h92
  refine V_icmp_same (pc := 450) 2578 dL_law_450 (by decide) (h1.1.1.trans h2.1.1.symm) ?_
  exact kk _ _ hC2 hM2 h93

set_option maxRecDepth 20000 in
set_option maxHeartbeats 1000000 in
theorem law_3 {d : Nat} (hd : 57 ≤ d) {σ : MM} {X : CST} {i n : Int} (hn : σ 92 1 0 = n) (hi : 0 ≤ i ∧ i + 6 ≤ n) (hnN : n ≤ 3072) (hs : ∀ z : Int, IR (σ 92 0 z)) (hC : CRl σ X) (hM : MRl σ X) (kk : ∀ (σ' : MM) (X' : CST), CRl σ' X' → MRl σ' X' → σ' 92 = σ 92 → V yL_law cL_law 4 (some .boolean) d LQ 2578 [some (vR 92 0), some (vR 0 0), some (vR 34 0), some (vI i)] [] σ') : V yL_law cL_law 4 (some .boolean) d LQ 455 [some (vR 92 0), some (vR 0 0), some (vR 34 0), some (vI i)] [] σ := by
  refine V_aload_1 (pc := 455) dL_law_455 ?_
  refine V_aload_0 (pc := 456) dL_law_456 ?_
  refine V_iload_3 (pc := 457) dL_law_457 ?_
  refine V_iconst (pc := 458) dL_law_458 ?_
  refine V_iadd (pc := 459) dL_law_459 ?_
  refine V_sld (pc := 460) dL_law_460 hn hnN (by omega) (v := σ 92 0 (i + 1)) rfl ?_
  refine V_callV1i (pc := 461) dL_law_461 kv_L_28 rc_0 (by omega) (d - 1) (by omega) rfl (V.sci (c_X5_fault (by omega) hC (hs _))) (fun v1 σ1 h1 => ?_)
  have h92 := h1.2
  have hC1 : CRl σ1 X := by rw [h1.1.2]; exact hC
  have hM1 : MRl σ1 X := by rw [h1.1.2]; exact hM
  have hO1 := hC.ok
  have hG1 := hC.g
  refine V_aload_2 (pc := 464) dL_law_464 ?_
  refine V_aload_0 (pc := 465) dL_law_465 ?_
  refine V_iload_3 (pc := 466) dL_law_466 ?_
  refine V_iconst (pc := 467) dL_law_467 ?_
  refine V_iadd (pc := 468) dL_law_468 ?_
  refine V_sld (pc := 469) dL_law_469 (by rw [h92]; exact hn) hnN (by omega) (v := σ 92 0 (i + 1)) (by rw [h92]) ?_
  refine V_callV1i (pc := 470) dL_law_470 kv_L_31 rc_34 (by omega) (d - 1) (by omega) rfl (V.sci (c_X6_fault (by omega) hM1 hO1 (hs _))) (fun v2 σ2 h2 => ?_)
  have hC2 := h2.1.2.fm.crl hC1
  have hM2 := h2.1.2.mrl hM1
  have h93 : σ2 92 = σ 92 := h2.2.trans h92
  refine V_icmp_same (pc := 473) 2578 dL_law_473 (by decide) (h1.1.1.trans h2.1.1.symm) ?_
  exact kk _ _ hC2 hM2 h93

set_option maxRecDepth 20000 in
set_option maxHeartbeats 1000000 in
theorem law_4 {d : Nat} (hd : 57 ≤ d) {σ : MM} {X : CST} {i n : Int} (hn : σ 92 1 0 = n) (hi : 0 ≤ i ∧ i + 6 ≤ n) (hnN : n ≤ 3072) (hs : ∀ z : Int, IR (σ 92 0 z)) (hC : CRl σ X) (hM : MRl σ X) (kk : ∀ (σ' : MM) (X' : CST), CRl σ' X' → MRl σ' X' → σ' 92 = σ 92 → V yL_law cL_law 4 (some .boolean) d LQ 2578 [some (vR 92 0), some (vR 0 0), some (vR 34 0), some (vI i)] [] σ') : V yL_law cL_law 4 (some .boolean) d LQ 478 [some (vR 92 0), some (vR 0 0), some (vR 34 0), some (vI i)] [] σ := by
  refine V_aload_1 (pc := 478) dL_law_478 ?_
  refine V_aload_0 (pc := 479) dL_law_479 ?_
  refine V_iload_3 (pc := 480) dL_law_480 ?_
  refine V_iconst (pc := 481) dL_law_481 ?_
  refine V_iadd (pc := 482) dL_law_482 ?_
  refine V_sld (pc := 483) dL_law_483 hn hnN (by omega) (v := σ 92 0 (i + 1)) rfl ?_
  refine V_aload_0 (pc := 484) dL_law_484 ?_
  refine V_iload_3 (pc := 485) dL_law_485 ?_
  refine V_iconst (pc := 486) dL_law_486 ?_
  refine V_iadd (pc := 487) dL_law_487 ?_
  refine V_sld (pc := 488) dL_law_488 hn hnN (by omega) (v := σ 92 0 (i + 2)) rfl ?_
  refine V_callV2i (pc := 489) dL_law_489 kv_L_32 rc_0 (by omega) (d - 1) (by omega) rfl (V.sci (c_X5_ink (by omega) hC.b hC.w hC.c (hs _) (hs _))) (fun v1 σ1 h1 => ?_)
  have h92 := h1.2
  have hC1 : CRl σ1 X := by rw [h1.1.2]; exact hC
  have hM1 : MRl σ1 X := by rw [h1.1.2]; exact hM
  have hO1 := hC.ok
  have hG1 := hC.g
  refine V_aload_2 (pc := 492) dL_law_492 ?_
  refine V_aload_0 (pc := 493) dL_law_493 ?_
  refine V_iload_3 (pc := 494) dL_law_494 ?_
  refine V_iconst (pc := 495) dL_law_495 ?_
  refine V_iadd (pc := 496) dL_law_496 ?_
  refine V_sld (pc := 497) dL_law_497 (by rw [h92]; exact hn) hnN (by omega) (v := σ 92 0 (i + 1)) (by rw [h92]) ?_
  refine V_aload_0 (pc := 498) dL_law_498 ?_
  refine V_iload_3 (pc := 499) dL_law_499 ?_
  refine V_iconst (pc := 500) dL_law_500 ?_
  refine V_iadd (pc := 501) dL_law_501 ?_
  refine V_sld (pc := 502) dL_law_502 (by rw [h92]; exact hn) hnN (by omega) (v := σ 92 0 (i + 2)) (by rw [h92]) ?_
  refine V_callV2i (pc := 503) dL_law_503 kv_L_36 rc_34 (by omega) (d - 1) (by omega) rfl (V.sci (c_X6_ink (by omega) hM1.1 hG1 (hs _) (hs _))) (fun v2 σ2 h2 => ?_)
  have hC2 := h2.1.2.fm.crl hC1
  have hM2 := h2.1.2.mrl hM1
  have h93 : σ2 92 = σ 92 := h2.2.trans h92
  refine V_icmp_same (pc := 506) 2578 dL_law_506 (by decide) (h1.1.1.trans h2.1.1.symm) ?_
  exact kk _ _ hC2 hM2 h93

set_option maxRecDepth 20000 in
set_option maxHeartbeats 1000000 in
theorem law_5 {d : Nat} (hd : 57 ≤ d) {σ : MM} {X : CST} {i n : Int} (hn : σ 92 1 0 = n) (hi : 0 ≤ i ∧ i + 6 ≤ n) (hnN : n ≤ 3072) (hs : ∀ z : Int, IR (σ 92 0 z)) (hC : CRl σ X) (hM : MRl σ X) (kk : ∀ (σ' : MM) (X' : CST), CRl σ' X' → MRl σ' X' → σ' 92 = σ 92 → V yL_law cL_law 4 (some .boolean) d LQ 2578 [some (vR 92 0), some (vR 0 0), some (vR 34 0), some (vI i)] [] σ') : V yL_law cL_law 4 (some .boolean) d LQ 511 [some (vR 92 0), some (vR 0 0), some (vR 34 0), some (vI i)] [] σ := by
  refine V_aload_1 (pc := 511) dL_law_511 ?_
  refine V_aload_0 (pc := 512) dL_law_512 ?_
  refine V_iload_3 (pc := 513) dL_law_513 ?_
  refine V_iconst (pc := 514) dL_law_514 ?_
  refine V_iadd (pc := 515) dL_law_515 ?_
  refine V_sld (pc := 516) dL_law_516 hn hnN (by omega) (v := σ 92 0 (i + 1)) rfl ?_
  refine V_callV1i (pc := 517) dL_law_517 kv_L_37 rc_0 (by omega) (d - 1) (by omega) rfl (V.sci (c_X5_page (by omega) hC.b hC.w hC.c (hs _))) (fun v1 σ1 h1 => ?_)
  have h92 := h1.2
  have hC1 : CRl σ1 X := by rw [h1.1.2]; exact hC
  have hM1 : MRl σ1 X := by rw [h1.1.2]; exact hM
  have hO1 := hC.ok
  have hG1 := hC.g
  refine V_aload_2 (pc := 520) dL_law_520 ?_
  refine V_aload_0 (pc := 521) dL_law_521 ?_
  refine V_iload_3 (pc := 522) dL_law_522 ?_
  refine V_iconst (pc := 523) dL_law_523 ?_
  refine V_iadd (pc := 524) dL_law_524 ?_
  refine V_sld (pc := 525) dL_law_525 (by rw [h92]; exact hn) hnN (by omega) (v := σ 92 0 (i + 1)) (by rw [h92]) ?_
  refine V_callV1i (pc := 526) dL_law_526 kv_L_40 rc_34 (by omega) (d - 1) (by omega) rfl (V.sci (c_X6_page (by omega) hM1.1 hG1 (hs _))) (fun v2 σ2 h2 => ?_)
  have hC2 := h2.1.2.fm.crl hC1
  have hM2 := h2.1.2.mrl hM1
  have h93 : σ2 92 = σ 92 := h2.2.trans h92
  refine V_icmp_same (pc := 529) 2578 dL_law_529 (by decide) (h1.1.1.trans h2.1.1.symm) ?_
  exact kk _ _ hC2 hM2 h93

set_option maxRecDepth 20000 in
set_option maxHeartbeats 1000000 in
theorem law_6 {d : Nat} (hd : 57 ≤ d) {σ : MM} {X : CST} {i n : Int} (hn : σ 92 1 0 = n) (hi : 0 ≤ i ∧ i + 6 ≤ n) (hnN : n ≤ 3072) (hs : ∀ z : Int, IR (σ 92 0 z)) (hC : CRl σ X) (hM : MRl σ X) (kk : ∀ (σ' : MM) (X' : CST), CRl σ' X' → MRl σ' X' → σ' 92 = σ 92 → V yL_law cL_law 4 (some .boolean) d LQ 2578 [some (vR 92 0), some (vR 0 0), some (vR 34 0), some (vI i)] [] σ') : V yL_law cL_law 4 (some .boolean) d LQ 534 [some (vR 92 0), some (vR 0 0), some (vR 34 0), some (vI i)] [] σ := by
  refine V_aload_1 (pc := 534) dL_law_534 ?_
  refine V_aload_0 (pc := 535) dL_law_535 ?_
  refine V_iload_3 (pc := 536) dL_law_536 ?_
  refine V_iconst (pc := 537) dL_law_537 ?_
  refine V_iadd (pc := 538) dL_law_538 ?_
  refine V_sld (pc := 539) dL_law_539 hn hnN (by omega) (v := σ 92 0 (i + 1)) rfl ?_
  refine V_aload_0 (pc := 540) dL_law_540 ?_
  refine V_iload_3 (pc := 541) dL_law_541 ?_
  refine V_iconst (pc := 542) dL_law_542 ?_
  refine V_iadd (pc := 543) dL_law_543 ?_
  refine V_sld (pc := 544) dL_law_544 hn hnN (by omega) (v := σ 92 0 (i + 2)) rfl ?_
  refine V_callV2i (pc := 545) dL_law_545 kv_L_41 rc_0 (by omega) (d - 1) (by omega) rfl (V.sci (c_X5_entry (by omega) hC.b hC.w hC.c (hs _) (hs _))) (fun v1 σ1 h1 => ?_)
  have h92 := h1.2
  have hC1 : CRl σ1 X := by rw [h1.1.2]; exact hC
  have hM1 : MRl σ1 X := by rw [h1.1.2]; exact hM
  have hO1 := hC.ok
  have hG1 := hC.g
  refine V_aload_2 (pc := 548) dL_law_548 ?_
  refine V_aload_0 (pc := 549) dL_law_549 ?_
  refine V_iload_3 (pc := 550) dL_law_550 ?_
  refine V_iconst (pc := 551) dL_law_551 ?_
  refine V_iadd (pc := 552) dL_law_552 ?_
  refine V_sld (pc := 553) dL_law_553 (by rw [h92]; exact hn) hnN (by omega) (v := σ 92 0 (i + 1)) (by rw [h92]) ?_
  refine V_aload_0 (pc := 554) dL_law_554 ?_
  refine V_iload_3 (pc := 555) dL_law_555 ?_
  refine V_iconst (pc := 556) dL_law_556 ?_
  refine V_iadd (pc := 557) dL_law_557 ?_
  refine V_sld (pc := 558) dL_law_558 (by rw [h92]; exact hn) hnN (by omega) (v := σ 92 0 (i + 2)) (by rw [h92]) ?_
  refine V_callV2i (pc := 559) dL_law_559 kv_L_44 rc_34 (by omega) (d - 1) (by omega) rfl (V.sci (c_X6_entry (by omega) hM1.1 hG1 (hs _) (hs _))) (fun v2 σ2 h2 => ?_)
  have hC2 := h2.1.2.fm.crl hC1
  have hM2 := h2.1.2.mrl hM1
  have h93 : σ2 92 = σ 92 := h2.2.trans h92
  refine V_icmp_same (pc := 562) 2578 dL_law_562 (by decide) (h1.1.1.trans h2.1.1.symm) ?_
  exact kk _ _ hC2 hM2 h93

set_option maxRecDepth 20000 in
set_option maxHeartbeats 1000000 in
theorem law_7 {d : Nat} (hd : 57 ≤ d) {σ : MM} {X : CST} {i n : Int} (hn : σ 92 1 0 = n) (hi : 0 ≤ i ∧ i + 6 ≤ n) (hnN : n ≤ 3072) (hs : ∀ z : Int, IR (σ 92 0 z)) (hC : CRl σ X) (hM : MRl σ X) (kk : ∀ (σ' : MM) (X' : CST), CRl σ' X' → MRl σ' X' → σ' 92 = σ 92 → V yL_law cL_law 4 (some .boolean) d LQ 2578 [some (vR 92 0), some (vR 0 0), some (vR 34 0), some (vI i)] [] σ') : V yL_law cL_law 4 (some .boolean) d LQ 567 [some (vR 92 0), some (vR 0 0), some (vR 34 0), some (vI i)] [] σ := by
  refine V_aload_1 (pc := 567) dL_law_567 ?_
  refine V_aload_0 (pc := 568) dL_law_568 ?_
  refine V_iload_3 (pc := 569) dL_law_569 ?_
  refine V_iconst (pc := 570) dL_law_570 ?_
  refine V_iadd (pc := 571) dL_law_571 ?_
  refine V_sld (pc := 572) dL_law_572 hn hnN (by omega) (v := σ 92 0 (i + 1)) rfl ?_
  refine V_callV1i (pc := 573) dL_law_573 kv_L_45 rc_0 (by omega) (d - 1) (by omega) rfl (V.sci (c_X5_on (by omega) hC.b hC.w hC.c (hs _))) (fun v1 σ1 h1 => ?_)
  have h92 := h1.2
  have hC1 : CRl σ1 X := by rw [h1.1.2]; exact hC
  have hM1 : MRl σ1 X := by rw [h1.1.2]; exact hM
  have hO1 := hC.ok
  have hG1 := hC.g
  refine V_aload_2 (pc := 576) dL_law_576 ?_
  refine V_aload_0 (pc := 577) dL_law_577 ?_
  refine V_iload_3 (pc := 578) dL_law_578 ?_
  refine V_iconst (pc := 579) dL_law_579 ?_
  refine V_iadd (pc := 580) dL_law_580 ?_
  refine V_sld (pc := 581) dL_law_581 (by rw [h92]; exact hn) hnN (by omega) (v := σ 92 0 (i + 1)) (by rw [h92]) ?_
  refine V_callV1i (pc := 582) dL_law_582 kv_L_48 rc_34 (by omega) (d - 1) (by omega) rfl (V.sci (c_X6_on (by omega) hM1.1 hG1 (hs _))) (fun v2 σ2 h2 => ?_)
  have hC2 := h2.1.2.fm.crl hC1
  have hM2 := h2.1.2.mrl hM1
  have h93 : σ2 92 = σ 92 := h2.2.trans h92
  refine V_icmp_same (pc := 585) 2578 dL_law_585 (by decide) (h1.1.1.trans h2.1.1.symm) ?_
  exact kk _ _ hC2 hM2 h93

set_option maxRecDepth 20000 in
set_option maxHeartbeats 1000000 in
theorem law_8 {d : Nat} (hd : 57 ≤ d) {σ : MM} {X : CST} {i n : Int} (hn : σ 92 1 0 = n) (hi : 0 ≤ i ∧ i + 6 ≤ n) (hnN : n ≤ 3072) (hs : ∀ z : Int, IR (σ 92 0 z)) (hC : CRl σ X) (hM : MRl σ X) (kk : ∀ (σ' : MM) (X' : CST), CRl σ' X' → MRl σ' X' → σ' 92 = σ 92 → V yL_law cL_law 4 (some .boolean) d LQ 2578 [some (vR 92 0), some (vR 0 0), some (vR 34 0), some (vI i)] [] σ') : V yL_law cL_law 4 (some .boolean) d LQ 590 [some (vR 92 0), some (vR 0 0), some (vR 34 0), some (vI i)] [] σ := by
  refine V_aload_1 (pc := 590) dL_law_590 ?_
  refine V_aload_0 (pc := 591) dL_law_591 ?_
  refine V_iload_3 (pc := 592) dL_law_592 ?_
  refine V_iconst (pc := 593) dL_law_593 ?_
  refine V_iadd (pc := 594) dL_law_594 ?_
  refine V_sld (pc := 595) dL_law_595 hn hnN (by omega) (v := σ 92 0 (i + 1)) rfl ?_
  refine V_callV1i (pc := 596) dL_law_596 kv_L_49 rc_0 (by omega) (d - 1) (by omega) rfl (V.sci (c_X5_faces (by omega) hC.b hC.w hC.c (hs _))) (fun v1 σ1 h1 => ?_)
  have h92 := h1.2
  have hC1 : CRl σ1 X := by rw [h1.1.2]; exact hC
  have hM1 : MRl σ1 X := by rw [h1.1.2]; exact hM
  have hO1 := hC.ok
  have hG1 := hC.g
  refine V_aload_2 (pc := 599) dL_law_599 ?_
  refine V_aload_0 (pc := 600) dL_law_600 ?_
  refine V_iload_3 (pc := 601) dL_law_601 ?_
  refine V_iconst (pc := 602) dL_law_602 ?_
  refine V_iadd (pc := 603) dL_law_603 ?_
  refine V_sld (pc := 604) dL_law_604 (by rw [h92]; exact hn) hnN (by omega) (v := σ 92 0 (i + 1)) (by rw [h92]) ?_
  refine V_callV1i (pc := 605) dL_law_605 kv_L_52 rc_34 (by omega) (d - 1) (by omega) rfl (V.sci (c_X6_faces (by omega) hM1.1 hG1 (hs _))) (fun v2 σ2 h2 => ?_)
  have hC2 := h2.1.2.fm.crl hC1
  have hM2 := h2.1.2.mrl hM1
  have h93 : σ2 92 = σ 92 := h2.2.trans h92
  refine V_icmp_same (pc := 608) 2578 dL_law_608 (by decide) (h1.1.1.trans h2.1.1.symm) ?_
  exact kk _ _ hC2 hM2 h93

set_option maxRecDepth 20000 in
set_option maxHeartbeats 1000000 in
theorem law_9 {d : Nat} (hd : 57 ≤ d) {σ : MM} {X : CST} {i n : Int} (hn : σ 92 1 0 = n) (hi : 0 ≤ i ∧ i + 6 ≤ n) (hnN : n ≤ 3072) (hs : ∀ z : Int, IR (σ 92 0 z)) (hC : CRl σ X) (hM : MRl σ X) (kk : ∀ (σ' : MM) (X' : CST), CRl σ' X' → MRl σ' X' → σ' 92 = σ 92 → V yL_law cL_law 4 (some .boolean) d LQ 2578 [some (vR 92 0), some (vR 0 0), some (vR 34 0), some (vI i)] [] σ') : V yL_law cL_law 4 (some .boolean) d LQ 613 [some (vR 92 0), some (vR 0 0), some (vR 34 0), some (vI i)] [] σ := by
  refine V_aload_1 (pc := 613) dL_law_613 ?_
  refine V_aload_0 (pc := 614) dL_law_614 ?_
  refine V_iload_3 (pc := 615) dL_law_615 ?_
  refine V_iconst (pc := 616) dL_law_616 ?_
  refine V_iadd (pc := 617) dL_law_617 ?_
  refine V_sld (pc := 618) dL_law_618 hn hnN (by omega) (v := σ 92 0 (i + 1)) rfl ?_
  refine V_callV1i (pc := 619) dL_law_619 kv_L_53 rc_0 (by omega) (d - 1) (by omega) rfl (V.sci (c_X5_there (by omega) hC.b hC.w hC.c (hs _))) (fun v1 σ1 h1 => ?_)
  have h92 := h1.2
  have hC1 : CRl σ1 X := by rw [h1.1.2]; exact hC
  have hM1 : MRl σ1 X := by rw [h1.1.2]; exact hM
  have hO1 := hC.ok
  have hG1 := hC.g
  refine V_aload_2 (pc := 622) dL_law_622 ?_
  refine V_aload_0 (pc := 623) dL_law_623 ?_
  refine V_iload_3 (pc := 624) dL_law_624 ?_
  refine V_iconst (pc := 625) dL_law_625 ?_
  refine V_iadd (pc := 626) dL_law_626 ?_
  refine V_sld (pc := 627) dL_law_627 (by rw [h92]; exact hn) hnN (by omega) (v := σ 92 0 (i + 1)) (by rw [h92]) ?_
  refine V_callV1i (pc := 628) dL_law_628 kv_L_56 rc_34 (by omega) (d - 1) (by omega) rfl (V.sci (c_X6_there (by omega) hM1.1 hG1 (hs _))) (fun v2 σ2 h2 => ?_)
  have hC2 := h2.1.2.fm.crl hC1
  have hM2 := h2.1.2.mrl hM1
  have h93 : σ2 92 = σ 92 := h2.2.trans h92
  refine V_icmp_same (pc := 631) 2578 dL_law_631 (by decide) (h1.1.1.trans h2.1.1.symm) ?_
  exact kk _ _ hC2 hM2 h93

set_option maxRecDepth 20000 in
set_option maxHeartbeats 1000000 in
theorem law_10 {d : Nat} (hd : 57 ≤ d) {σ : MM} {X : CST} {i n : Int} (hn : σ 92 1 0 = n) (hi : 0 ≤ i ∧ i + 6 ≤ n) (hnN : n ≤ 3072) (hs : ∀ z : Int, IR (σ 92 0 z)) (hC : CRl σ X) (hM : MRl σ X) (kk : ∀ (σ' : MM) (X' : CST), CRl σ' X' → MRl σ' X' → σ' 92 = σ 92 → V yL_law cL_law 4 (some .boolean) d LQ 2578 [some (vR 92 0), some (vR 0 0), some (vR 34 0), some (vI i)] [] σ') : V yL_law cL_law 4 (some .boolean) d LQ 636 [some (vR 92 0), some (vR 0 0), some (vR 34 0), some (vI i)] [] σ := by
  refine V_aload_1 (pc := 636) dL_law_636 ?_
  refine V_aload_0 (pc := 637) dL_law_637 ?_
  refine V_iload_3 (pc := 638) dL_law_638 ?_
  refine V_iconst (pc := 639) dL_law_639 ?_
  refine V_iadd (pc := 640) dL_law_640 ?_
  refine V_sld (pc := 641) dL_law_641 hn hnN (by omega) (v := σ 92 0 (i + 1)) rfl ?_
  refine V_aload_0 (pc := 642) dL_law_642 ?_
  refine V_iload_3 (pc := 643) dL_law_643 ?_
  refine V_iconst (pc := 644) dL_law_644 ?_
  refine V_iadd (pc := 645) dL_law_645 ?_
  refine V_sld (pc := 646) dL_law_646 hn hnN (by omega) (v := σ 92 0 (i + 2)) rfl ?_
  refine V_callV2i (pc := 647) dL_law_647 kv_L_57 rc_0 (by omega) (d - 1) (by omega) rfl (V.sci (c_X5_shade (by omega) hC.b hC.w hC.c (hs _) (hs _))) (fun v1 σ1 h1 => ?_)
  have h92 := h1.2
  have hC1 : CRl σ1 X := by rw [h1.1.2]; exact hC
  have hM1 : MRl σ1 X := by rw [h1.1.2]; exact hM
  have hO1 := hC.ok
  have hG1 := hC.g
  refine V_aload_2 (pc := 650) dL_law_650 ?_
  refine V_aload_0 (pc := 651) dL_law_651 ?_
  refine V_iload_3 (pc := 652) dL_law_652 ?_
  refine V_iconst (pc := 653) dL_law_653 ?_
  refine V_iadd (pc := 654) dL_law_654 ?_
  refine V_sld (pc := 655) dL_law_655 (by rw [h92]; exact hn) hnN (by omega) (v := σ 92 0 (i + 1)) (by rw [h92]) ?_
  refine V_aload_0 (pc := 656) dL_law_656 ?_
  refine V_iload_3 (pc := 657) dL_law_657 ?_
  refine V_iconst (pc := 658) dL_law_658 ?_
  refine V_iadd (pc := 659) dL_law_659 ?_
  refine V_sld (pc := 660) dL_law_660 (by rw [h92]; exact hn) hnN (by omega) (v := σ 92 0 (i + 2)) (by rw [h92]) ?_
  refine V_callV2i (pc := 661) dL_law_661 kv_L_60 rc_34 (by omega) (d - 1) (by omega) rfl (V.sci (c_X6_shade (by omega) hM1.1 hG1 (hs _) (hs _))) (fun v2 σ2 h2 => ?_)
  have hC2 := h2.1.2.fm.crl hC1
  have hM2 := h2.1.2.mrl hM1
  have h93 : σ2 92 = σ 92 := h2.2.trans h92
  refine V_icmp_same (pc := 664) 2578 dL_law_664 (by decide) (h1.1.1.trans h2.1.1.symm) ?_
  exact kk _ _ hC2 hM2 h93

set_option maxRecDepth 20000 in
set_option maxHeartbeats 1000000 in
theorem law_11 {d : Nat} (hd : 57 ≤ d) {σ : MM} {X : CST} {i n : Int} (hn : σ 92 1 0 = n) (hi : 0 ≤ i ∧ i + 6 ≤ n) (hnN : n ≤ 3072) (hs : ∀ z : Int, IR (σ 92 0 z)) (hC : CRl σ X) (hM : MRl σ X) (kk : ∀ (σ' : MM) (X' : CST), CRl σ' X' → MRl σ' X' → σ' 92 = σ 92 → V yL_law cL_law 4 (some .boolean) d LQ 2578 [some (vR 92 0), some (vR 0 0), some (vR 34 0), some (vI i)] [] σ') : V yL_law cL_law 4 (some .boolean) d LQ 669 [some (vR 92 0), some (vR 0 0), some (vR 34 0), some (vI i)] [] σ := by
  refine V_aload_1 (pc := 669) dL_law_669 ?_
  refine V_aload_0 (pc := 670) dL_law_670 ?_
  refine V_iload_3 (pc := 671) dL_law_671 ?_
  refine V_iconst (pc := 672) dL_law_672 ?_
  refine V_iadd (pc := 673) dL_law_673 ?_
  refine V_sld (pc := 674) dL_law_674 hn hnN (by omega) (v := σ 92 0 (i + 1)) rfl ?_
  refine V_callV1i (pc := 675) dL_law_675 kv_L_61 rc_0 (by omega) (d - 1) (by omega) rfl (V.sci (c_X5_peak (by omega) hC.b hC.w hC.c (hs _))) (fun v1 σ1 h1 => ?_)
  have h92 := h1.2
  have hC1 : CRl σ1 X := by rw [h1.1.2]; exact hC
  have hM1 : MRl σ1 X := by rw [h1.1.2]; exact hM
  have hO1 := hC.ok
  have hG1 := hC.g
  refine V_aload_2 (pc := 678) dL_law_678 ?_
  refine V_aload_0 (pc := 679) dL_law_679 ?_
  refine V_iload_3 (pc := 680) dL_law_680 ?_
  refine V_iconst (pc := 681) dL_law_681 ?_
  refine V_iadd (pc := 682) dL_law_682 ?_
  refine V_sld (pc := 683) dL_law_683 (by rw [h92]; exact hn) hnN (by omega) (v := σ 92 0 (i + 1)) (by rw [h92]) ?_
  refine V_callV1i (pc := 684) dL_law_684 kv_L_64 rc_34 (by omega) (d - 1) (by omega) rfl (V.sci (c_X6_peak (by omega) hM1.1 hG1 (hs _))) (fun v2 σ2 h2 => ?_)
  have hC2 := h2.1.2.fm.crl hC1
  have hM2 := h2.1.2.mrl hM1
  have h93 : σ2 92 = σ 92 := h2.2.trans h92
  refine V_icmp_same (pc := 687) 2578 dL_law_687 (by decide) (h1.1.1.trans h2.1.1.symm) ?_
  exact kk _ _ hC2 hM2 h93

set_option maxRecDepth 20000 in
set_option maxHeartbeats 1000000 in
theorem law_12 {d : Nat} (hd : 57 ≤ d) {σ : MM} {X : CST} {i n : Int} (hn : σ 92 1 0 = n) (hi : 0 ≤ i ∧ i + 6 ≤ n) (hnN : n ≤ 3072) (hs : ∀ z : Int, IR (σ 92 0 z)) (hC : CRl σ X) (hM : MRl σ X) (kk : ∀ (σ' : MM) (X' : CST), CRl σ' X' → MRl σ' X' → σ' 92 = σ 92 → V yL_law cL_law 4 (some .boolean) d LQ 2578 [some (vR 92 0), some (vR 0 0), some (vR 34 0), some (vI i)] [] σ') : V yL_law cL_law 4 (some .boolean) d LQ 692 [some (vR 92 0), some (vR 0 0), some (vR 34 0), some (vI i)] [] σ := by
  refine V_aload_1 (pc := 692) dL_law_692 ?_
  refine V_aload_0 (pc := 693) dL_law_693 ?_
  refine V_iload_3 (pc := 694) dL_law_694 ?_
  refine V_iconst (pc := 695) dL_law_695 ?_
  refine V_iadd (pc := 696) dL_law_696 ?_
  refine V_sld (pc := 697) dL_law_697 hn hnN (by omega) (v := σ 92 0 (i + 1)) rfl ?_
  refine V_callV1i (pc := 698) dL_law_698 kv_L_65 rc_0 (by omega) (d - 1) (by omega) rfl (V.sci (c_X5_ripe (by omega) hC.b hC.w hC.c (hs _))) (fun v1 σ1 h1 => ?_)
  have h92 := h1.2
  have hC1 : CRl σ1 X := by rw [h1.1.2]; exact hC
  have hM1 : MRl σ1 X := by rw [h1.1.2]; exact hM
  have hO1 := hC.ok
  have hG1 := hC.g
  refine V_aload_2 (pc := 701) dL_law_701 ?_
  refine V_aload_0 (pc := 702) dL_law_702 ?_
  refine V_iload_3 (pc := 703) dL_law_703 ?_
  refine V_iconst (pc := 704) dL_law_704 ?_
  refine V_iadd (pc := 705) dL_law_705 ?_
  refine V_sld (pc := 706) dL_law_706 (by rw [h92]; exact hn) hnN (by omega) (v := σ 92 0 (i + 1)) (by rw [h92]) ?_
  refine V_callV1i (pc := 707) dL_law_707 kv_L_68 rc_34 (by omega) (d - 1) (by omega) rfl (V.sci (c_X6_ripe (by omega) hM1.1 hG1 (hs _))) (fun v2 σ2 h2 => ?_)
  have hC2 := h2.1.2.fm.crl hC1
  have hM2 := h2.1.2.mrl hM1
  have h93 : σ2 92 = σ 92 := h2.2.trans h92
  refine V_icmp_same (pc := 710) 2578 dL_law_710 (by decide) (h1.1.1.trans h2.1.1.symm) ?_
  exact kk _ _ hC2 hM2 h93

set_option maxRecDepth 20000 in
set_option maxHeartbeats 1000000 in
theorem law_13 {d : Nat} (hd : 57 ≤ d) {σ : MM} {X : CST} {i n : Int} (hn : σ 92 1 0 = n) (hi : 0 ≤ i ∧ i + 6 ≤ n) (hnN : n ≤ 3072) (hs : ∀ z : Int, IR (σ 92 0 z)) (hC : CRl σ X) (hM : MRl σ X) (kk : ∀ (σ' : MM) (X' : CST), CRl σ' X' → MRl σ' X' → σ' 92 = σ 92 → V yL_law cL_law 4 (some .boolean) d LQ 2578 [some (vR 92 0), some (vR 0 0), some (vR 34 0), some (vI i)] [] σ') : V yL_law cL_law 4 (some .boolean) d LQ 715 [some (vR 92 0), some (vR 0 0), some (vR 34 0), some (vI i)] [] σ := by
  refine V_aload_1 (pc := 715) dL_law_715 ?_
  refine V_aload_0 (pc := 716) dL_law_716 ?_
  refine V_iload_3 (pc := 717) dL_law_717 ?_
  refine V_iconst (pc := 718) dL_law_718 ?_
  refine V_iadd (pc := 719) dL_law_719 ?_
  refine V_sld (pc := 720) dL_law_720 hn hnN (by omega) (v := σ 92 0 (i + 1)) rfl ?_
  refine V_callV1i (pc := 721) dL_law_721 kv_L_69 rc_0 (by omega) (d - 1) (by omega) rfl (V.sci (c_X5_blank (by omega) hC.b hC.w hC.c (hs _))) (fun v1 σ1 h1 => ?_)
  have h92 := h1.2
  have hC1 : CRl σ1 X := by rw [h1.1.2]; exact hC
  have hM1 : MRl σ1 X := by rw [h1.1.2]; exact hM
  have hO1 := hC.ok
  have hG1 := hC.g
  refine V_aload_2 (pc := 724) dL_law_724 ?_
  refine V_aload_0 (pc := 725) dL_law_725 ?_
  refine V_iload_3 (pc := 726) dL_law_726 ?_
  refine V_iconst (pc := 727) dL_law_727 ?_
  refine V_iadd (pc := 728) dL_law_728 ?_
  refine V_sld (pc := 729) dL_law_729 (by rw [h92]; exact hn) hnN (by omega) (v := σ 92 0 (i + 1)) (by rw [h92]) ?_
  refine V_callV1i (pc := 730) dL_law_730 kv_L_72 rc_34 (by omega) (d - 1) (by omega) rfl (V.sci (c_X6_blank (by omega) hM1.1 hG1 (hs _))) (fun v2 σ2 h2 => ?_)
  have hC2 := h2.1.2.fm.crl hC1
  have hM2 := h2.1.2.mrl hM1
  have h93 : σ2 92 = σ 92 := h2.2.trans h92
  refine V_icmp_same (pc := 733) 2578 dL_law_733 (by decide) (h1.1.1.trans h2.1.1.symm) ?_
  exact kk _ _ hC2 hM2 h93

set_option maxRecDepth 20000 in
set_option maxHeartbeats 1000000 in
theorem law_14 {d : Nat} (hd : 57 ≤ d) {σ : MM} {X : CST} {i n : Int} (hn : σ 92 1 0 = n) (hi : 0 ≤ i ∧ i + 6 ≤ n) (hnN : n ≤ 3072) (hs : ∀ z : Int, IR (σ 92 0 z)) (hC : CRl σ X) (hM : MRl σ X) (kk : ∀ (σ' : MM) (X' : CST), CRl σ' X' → MRl σ' X' → σ' 92 = σ 92 → V yL_law cL_law 4 (some .boolean) d LQ 2578 [some (vR 92 0), some (vR 0 0), some (vR 34 0), some (vI i)] [] σ') : V yL_law cL_law 4 (some .boolean) d LQ 738 [some (vR 92 0), some (vR 0 0), some (vR 34 0), some (vI i)] [] σ := by
  refine V_aload_1 (pc := 738) dL_law_738 ?_
  refine V_aload_0 (pc := 739) dL_law_739 ?_
  refine V_iload_3 (pc := 740) dL_law_740 ?_
  refine V_iconst (pc := 741) dL_law_741 ?_
  refine V_iadd (pc := 742) dL_law_742 ?_
  refine V_sld (pc := 743) dL_law_743 hn hnN (by omega) (v := σ 92 0 (i + 1)) rfl ?_
  refine V_callV1i (pc := 744) dL_law_744 kv_L_73 rc_0 (by omega) (d - 1) (by omega) rfl (V.sci (c_X5_clear (by omega) hC.b hC.w hC.c (hs _))) (fun v1 σ1 h1 => ?_)
  have h92 := h1.2
  have hC1 : CRl σ1 X := by rw [h1.1.2]; exact hC
  have hM1 : MRl σ1 X := by rw [h1.1.2]; exact hM
  have hO1 := hC.ok
  have hG1 := hC.g
  refine V_aload_2 (pc := 747) dL_law_747 ?_
  refine V_aload_0 (pc := 748) dL_law_748 ?_
  refine V_iload_3 (pc := 749) dL_law_749 ?_
  refine V_iconst (pc := 750) dL_law_750 ?_
  refine V_iadd (pc := 751) dL_law_751 ?_
  refine V_sld (pc := 752) dL_law_752 (by rw [h92]; exact hn) hnN (by omega) (v := σ 92 0 (i + 1)) (by rw [h92]) ?_
  refine V_callV1i (pc := 753) dL_law_753 kv_L_76 rc_34 (by omega) (d - 1) (by omega) rfl (V.sci (c_X6_clear (by omega) hM1.1 hG1 (hs _))) (fun v2 σ2 h2 => ?_)
  have hC2 := h2.1.2.fm.crl hC1
  have hM2 := h2.1.2.mrl hM1
  have h93 : σ2 92 = σ 92 := h2.2.trans h92
  refine V_icmp_same (pc := 756) 2578 dL_law_756 (by decide) (h1.1.1.trans h2.1.1.symm) ?_
  exact kk _ _ hC2 hM2 h93

set_option maxRecDepth 20000 in
set_option maxHeartbeats 1000000 in
theorem law_15 {d : Nat} (hd : 57 ≤ d) {σ : MM} {X : CST} {i n : Int} (hn : σ 92 1 0 = n) (hi : 0 ≤ i ∧ i + 6 ≤ n) (hnN : n ≤ 3072) (hs : ∀ z : Int, IR (σ 92 0 z)) (hC : CRl σ X) (hM : MRl σ X) (kk : ∀ (σ' : MM) (X' : CST), CRl σ' X' → MRl σ' X' → σ' 92 = σ 92 → V yL_law cL_law 4 (some .boolean) d LQ 2578 [some (vR 92 0), some (vR 0 0), some (vR 34 0), some (vI i)] [] σ') : V yL_law cL_law 4 (some .boolean) d LQ 761 [some (vR 92 0), some (vR 0 0), some (vR 34 0), some (vI i)] [] σ := by
  refine V_aload_1 (pc := 761) dL_law_761 ?_
  refine V_aload_0 (pc := 762) dL_law_762 ?_
  refine V_iload_3 (pc := 763) dL_law_763 ?_
  refine V_iconst (pc := 764) dL_law_764 ?_
  refine V_iadd (pc := 765) dL_law_765 ?_
  refine V_sld (pc := 766) dL_law_766 hn hnN (by omega) (v := σ 92 0 (i + 1)) rfl ?_
  refine V_callV1i (pc := 767) dL_law_767 kv_L_77 rc_0 (by omega) (d - 1) (by omega) rfl (V.sci (c_X5_all (by omega) hC.b hC.w hC.c (hs _))) (fun v1 σ1 h1 => ?_)
  have h92 := h1.2
  have hC1 : CRl σ1 X := by rw [h1.1.2]; exact hC
  have hM1 : MRl σ1 X := by rw [h1.1.2]; exact hM
  have hO1 := hC.ok
  have hG1 := hC.g
  refine V_aload_2 (pc := 770) dL_law_770 ?_
  refine V_aload_0 (pc := 771) dL_law_771 ?_
  refine V_iload_3 (pc := 772) dL_law_772 ?_
  refine V_iconst (pc := 773) dL_law_773 ?_
  refine V_iadd (pc := 774) dL_law_774 ?_
  refine V_sld (pc := 775) dL_law_775 (by rw [h92]; exact hn) hnN (by omega) (v := σ 92 0 (i + 1)) (by rw [h92]) ?_
  refine V_callV1i (pc := 776) dL_law_776 kv_L_80 rc_34 (by omega) (d - 1) (by omega) rfl (V.sci (c_X6_all (by omega) hM1.1 hG1 (hs _))) (fun v2 σ2 h2 => ?_)
  have hC2 := h2.1.2.fm.crl hC1
  have hM2 := h2.1.2.mrl hM1
  have h93 : σ2 92 = σ 92 := h2.2.trans h92
  refine V_icmp_same (pc := 779) 2578 dL_law_779 (by decide) (h1.1.1.trans h2.1.1.symm) ?_
  exact kk _ _ hC2 hM2 h93

set_option maxRecDepth 20000 in
set_option maxHeartbeats 1000000 in
theorem law_16 {d : Nat} (hd : 57 ≤ d) {σ : MM} {X : CST} {i n : Int} (hn : σ 92 1 0 = n) (hi : 0 ≤ i ∧ i + 6 ≤ n) (hnN : n ≤ 3072) (hs : ∀ z : Int, IR (σ 92 0 z)) (hC : CRl σ X) (hM : MRl σ X) (kk : ∀ (σ' : MM) (X' : CST), CRl σ' X' → MRl σ' X' → σ' 92 = σ 92 → V yL_law cL_law 4 (some .boolean) d LQ 2578 [some (vR 92 0), some (vR 0 0), some (vR 34 0), some (vI i)] [] σ') : V yL_law cL_law 4 (some .boolean) d LQ 784 [some (vR 92 0), some (vR 0 0), some (vR 34 0), some (vI i)] [] σ := by
  refine V_aload_1 (pc := 784) dL_law_784 ?_
  refine V_aload_0 (pc := 785) dL_law_785 ?_
  refine V_iload_3 (pc := 786) dL_law_786 ?_
  refine V_iconst (pc := 787) dL_law_787 ?_
  refine V_iadd (pc := 788) dL_law_788 ?_
  refine V_sld (pc := 789) dL_law_789 hn hnN (by omega) (v := σ 92 0 (i + 1)) rfl ?_
  refine V_callV1i (pc := 790) dL_law_790 kv_L_81 rc_0 (by omega) (d - 1) (by omega) rfl (V.sci (c_X5_darkest (by omega) hC.b hC.w hC.c (hs _))) (fun v1 σ1 h1 => ?_)
  have h92 := h1.2
  have hC1 : CRl σ1 X := by rw [h1.1.2]; exact hC
  have hM1 : MRl σ1 X := by rw [h1.1.2]; exact hM
  have hO1 := hC.ok
  have hG1 := hC.g
  refine V_aload_2 (pc := 793) dL_law_793 ?_
  refine V_aload_0 (pc := 794) dL_law_794 ?_
  refine V_iload_3 (pc := 795) dL_law_795 ?_
  refine V_iconst (pc := 796) dL_law_796 ?_
  refine V_iadd (pc := 797) dL_law_797 ?_
  refine V_sld (pc := 798) dL_law_798 (by rw [h92]; exact hn) hnN (by omega) (v := σ 92 0 (i + 1)) (by rw [h92]) ?_
  refine V_callV1i (pc := 799) dL_law_799 kv_L_84 rc_34 (by omega) (d - 1) (by omega) rfl (V.sci (c_X6_darkest (by omega) hM1.1 hG1 (hs _))) (fun v2 σ2 h2 => ?_)
  have hC2 := h2.1.2.fm.crl hC1
  have hM2 := h2.1.2.mrl hM1
  have h93 : σ2 92 = σ 92 := h2.2.trans h92
  refine V_icmp_same (pc := 802) 2578 dL_law_802 (by decide) (h1.1.1.trans h2.1.1.symm) ?_
  exact kk _ _ hC2 hM2 h93

set_option maxRecDepth 20000 in
set_option maxHeartbeats 1000000 in
theorem law_17 {d : Nat} (hd : 57 ≤ d) {σ : MM} {X : CST} {i n : Int} (hn : σ 92 1 0 = n) (hi : 0 ≤ i ∧ i + 6 ≤ n) (hnN : n ≤ 3072) (hs : ∀ z : Int, IR (σ 92 0 z)) (hC : CRl σ X) (hM : MRl σ X) (kk : ∀ (σ' : MM) (X' : CST), CRl σ' X' → MRl σ' X' → σ' 92 = σ 92 → V yL_law cL_law 4 (some .boolean) d LQ 2578 [some (vR 92 0), some (vR 0 0), some (vR 34 0), some (vI i)] [] σ') : V yL_law cL_law 4 (some .boolean) d LQ 807 [some (vR 92 0), some (vR 0 0), some (vR 34 0), some (vI i)] [] σ := by
  refine V_aload_1 (pc := 807) dL_law_807 ?_
  refine V_aload_0 (pc := 808) dL_law_808 ?_
  refine V_iload_3 (pc := 809) dL_law_809 ?_
  refine V_iconst (pc := 810) dL_law_810 ?_
  refine V_iadd (pc := 811) dL_law_811 ?_
  refine V_sld (pc := 812) dL_law_812 hn hnN (by omega) (v := σ 92 0 (i + 1)) rfl ?_
  refine V_callV1i (pc := 813) dL_law_813 kv_L_85 rc_0 (by omega) (d - 1) (by omega) rfl (V.sci (c_X5_palest (by omega) hC.b hC.w hC.c (hs _))) (fun v1 σ1 h1 => ?_)
  have h92 := h1.2
  have hC1 : CRl σ1 X := by rw [h1.1.2]; exact hC
  have hM1 : MRl σ1 X := by rw [h1.1.2]; exact hM
  have hO1 := hC.ok
  have hG1 := hC.g
  refine V_aload_2 (pc := 816) dL_law_816 ?_
  refine V_aload_0 (pc := 817) dL_law_817 ?_
  refine V_iload_3 (pc := 818) dL_law_818 ?_
  refine V_iconst (pc := 819) dL_law_819 ?_
  refine V_iadd (pc := 820) dL_law_820 ?_
  refine V_sld (pc := 821) dL_law_821 (by rw [h92]; exact hn) hnN (by omega) (v := σ 92 0 (i + 1)) (by rw [h92]) ?_
  refine V_callV1i (pc := 822) dL_law_822 kv_L_88 rc_34 (by omega) (d - 1) (by omega) rfl (V.sci (c_X6_palest (by omega) hM1.1 hG1 (hs _))) (fun v2 σ2 h2 => ?_)
  have hC2 := h2.1.2.fm.crl hC1
  have hM2 := h2.1.2.mrl hM1
  have h93 : σ2 92 = σ 92 := h2.2.trans h92
  refine V_icmp_same (pc := 825) 2578 dL_law_825 (by decide) (h1.1.1.trans h2.1.1.symm) ?_
  exact kk _ _ hC2 hM2 h93

set_option maxRecDepth 20000 in
set_option maxHeartbeats 1000000 in
theorem law_18 {d : Nat} (hd : 57 ≤ d) {σ : MM} {X : CST} {i n : Int} (hn : σ 92 1 0 = n) (hi : 0 ≤ i ∧ i + 6 ≤ n) (hnN : n ≤ 3072) (hs : ∀ z : Int, IR (σ 92 0 z)) (hC : CRl σ X) (hM : MRl σ X) (kk : ∀ (σ' : MM) (X' : CST), CRl σ' X' → MRl σ' X' → σ' 92 = σ 92 → V yL_law cL_law 4 (some .boolean) d LQ 2578 [some (vR 92 0), some (vR 0 0), some (vR 34 0), some (vI i)] [] σ') : V yL_law cL_law 4 (some .boolean) d LQ 830 [some (vR 92 0), some (vR 0 0), some (vR 34 0), some (vI i)] [] σ := by
  refine V_aload_1 (pc := 830) dL_law_830 ?_
  refine V_aload_0 (pc := 831) dL_law_831 ?_
  refine V_iload_3 (pc := 832) dL_law_832 ?_
  refine V_iconst (pc := 833) dL_law_833 ?_
  refine V_iadd (pc := 834) dL_law_834 ?_
  refine V_sld (pc := 835) dL_law_835 hn hnN (by omega) (v := σ 92 0 (i + 1)) rfl ?_
  refine V_callV1i (pc := 836) dL_law_836 kv_L_89 rc_0 (by omega) (d - 1) (by omega) rfl (V.sci (c_X5_sorts (by omega) hC.b hC.w hC.c (hs _))) (fun v1 σ1 h1 => ?_)
  have h92 := h1.2
  have hC1 : CRl σ1 X := by rw [h1.1.2]; exact hC
  have hM1 : MRl σ1 X := by rw [h1.1.2]; exact hM
  have hO1 := hC.ok
  have hG1 := hC.g
  refine V_aload_2 (pc := 839) dL_law_839 ?_
  refine V_aload_0 (pc := 840) dL_law_840 ?_
  refine V_iload_3 (pc := 841) dL_law_841 ?_
  refine V_iconst (pc := 842) dL_law_842 ?_
  refine V_iadd (pc := 843) dL_law_843 ?_
  refine V_sld (pc := 844) dL_law_844 (by rw [h92]; exact hn) hnN (by omega) (v := σ 92 0 (i + 1)) (by rw [h92]) ?_
  refine V_callV1i (pc := 845) dL_law_845 kv_L_92 rc_34 (by omega) (d - 1) (by omega) rfl (V.sci (c_X6_sorts (by omega) hM1.1 hG1 (hs _))) (fun v2 σ2 h2 => ?_)
  have hC2 := h2.1.2.fm.crl hC1
  have hM2 := h2.1.2.mrl hM1
  have h93 : σ2 92 = σ 92 := h2.2.trans h92
  refine V_icmp_same (pc := 848) 2578 dL_law_848 (by decide) (h1.1.1.trans h2.1.1.symm) ?_
  exact kk _ _ hC2 hM2 h93

set_option maxRecDepth 20000 in
set_option maxHeartbeats 1000000 in
theorem law_19 {d : Nat} (hd : 57 ≤ d) {σ : MM} {X : CST} {i n : Int} (hn : σ 92 1 0 = n) (hi : 0 ≤ i ∧ i + 6 ≤ n) (hnN : n ≤ 3072) (hs : ∀ z : Int, IR (σ 92 0 z)) (hC : CRl σ X) (hM : MRl σ X) (kk : ∀ (σ' : MM) (X' : CST), CRl σ' X' → MRl σ' X' → σ' 92 = σ 92 → V yL_law cL_law 4 (some .boolean) d LQ 2578 [some (vR 92 0), some (vR 0 0), some (vR 34 0), some (vI i)] [] σ') : V yL_law cL_law 4 (some .boolean) d LQ 853 [some (vR 92 0), some (vR 0 0), some (vR 34 0), some (vI i)] [] σ := by
  refine V_aload_1 (pc := 853) dL_law_853 ?_
  refine V_aload_0 (pc := 854) dL_law_854 ?_
  refine V_iload_3 (pc := 855) dL_law_855 ?_
  refine V_iconst (pc := 856) dL_law_856 ?_
  refine V_iadd (pc := 857) dL_law_857 ?_
  refine V_sld (pc := 858) dL_law_858 hn hnN (by omega) (v := σ 92 0 (i + 1)) rfl ?_
  refine V_callV1i (pc := 859) dL_law_859 kv_L_93 rc_0 (by omega) (d - 1) (by omega) rfl (V.sci (c_X5_alike (by omega) hC.b hC.w hC.c (hs _))) (fun v1 σ1 h1 => ?_)
  have h92 := h1.2
  have hC1 : CRl σ1 X := by rw [h1.1.2]; exact hC
  have hM1 : MRl σ1 X := by rw [h1.1.2]; exact hM
  have hO1 := hC.ok
  have hG1 := hC.g
  refine V_aload_2 (pc := 862) dL_law_862 ?_
  refine V_aload_0 (pc := 863) dL_law_863 ?_
  refine V_iload_3 (pc := 864) dL_law_864 ?_
  refine V_iconst (pc := 865) dL_law_865 ?_
  refine V_iadd (pc := 866) dL_law_866 ?_
  refine V_sld (pc := 867) dL_law_867 (by rw [h92]; exact hn) hnN (by omega) (v := σ 92 0 (i + 1)) (by rw [h92]) ?_
  refine V_callV1i (pc := 868) dL_law_868 kv_L_96 rc_34 (by omega) (d - 1) (by omega) rfl (V.sci (c_X6_alike (by omega) hM1.1 hG1 (hs _))) (fun v2 σ2 h2 => ?_)
  have hC2 := h2.1.2.fm.crl hC1
  have hM2 := h2.1.2.mrl hM1
  have h93 : σ2 92 = σ 92 := h2.2.trans h92
  refine V_icmp_same (pc := 871) 2578 dL_law_871 (by decide) (h1.1.1.trans h2.1.1.symm) ?_
  exact kk _ _ hC2 hM2 h93

set_option maxRecDepth 20000 in
set_option maxHeartbeats 1000000 in
theorem law_20 {d : Nat} (hd : 57 ≤ d) {σ : MM} {X : CST} {i n : Int} (hn : σ 92 1 0 = n) (hi : 0 ≤ i ∧ i + 6 ≤ n) (hnN : n ≤ 3072) (hs : ∀ z : Int, IR (σ 92 0 z)) (hC : CRl σ X) (hM : MRl σ X) (kk : ∀ (σ' : MM) (X' : CST), CRl σ' X' → MRl σ' X' → σ' 92 = σ 92 → V yL_law cL_law 4 (some .boolean) d LQ 2578 [some (vR 92 0), some (vR 0 0), some (vR 34 0), some (vI i)] [] σ') : V yL_law cL_law 4 (some .boolean) d LQ 876 [some (vR 92 0), some (vR 0 0), some (vR 34 0), some (vI i)] [] σ := by
  refine V_aload_1 (pc := 876) dL_law_876 ?_
  refine V_aload_0 (pc := 877) dL_law_877 ?_
  refine V_iload_3 (pc := 878) dL_law_878 ?_
  refine V_iconst (pc := 879) dL_law_879 ?_
  refine V_iadd (pc := 880) dL_law_880 ?_
  refine V_sld (pc := 881) dL_law_881 hn hnN (by omega) (v := σ 92 0 (i + 1)) rfl ?_
  refine V_callV1i (pc := 882) dL_law_882 kv_L_97 rc_0 (by omega) (d - 1) (by omega) rfl (V.sci (c_X5_rising (by omega) hC.b hC.w hC.c (hs _))) (fun v1 σ1 h1 => ?_)
  have h92 := h1.2
  have hC1 : CRl σ1 X := by rw [h1.1.2]; exact hC
  have hM1 : MRl σ1 X := by rw [h1.1.2]; exact hM
  have hO1 := hC.ok
  have hG1 := hC.g
  refine V_aload_2 (pc := 885) dL_law_885 ?_
  refine V_aload_0 (pc := 886) dL_law_886 ?_
  refine V_iload_3 (pc := 887) dL_law_887 ?_
  refine V_iconst (pc := 888) dL_law_888 ?_
  refine V_iadd (pc := 889) dL_law_889 ?_
  refine V_sld (pc := 890) dL_law_890 (by rw [h92]; exact hn) hnN (by omega) (v := σ 92 0 (i + 1)) (by rw [h92]) ?_
  refine V_callV1i (pc := 891) dL_law_891 kv_L_100 rc_34 (by omega) (d - 1) (by omega) rfl (V.sci (c_X6_rising (by omega) hM1.1 hG1 (hs _))) (fun v2 σ2 h2 => ?_)
  have hC2 := h2.1.2.fm.crl hC1
  have hM2 := h2.1.2.mrl hM1
  have h93 : σ2 92 = σ 92 := h2.2.trans h92
  refine V_icmp_same (pc := 894) 2578 dL_law_894 (by decide) (h1.1.1.trans h2.1.1.symm) ?_
  exact kk _ _ hC2 hM2 h93

set_option maxRecDepth 20000 in
set_option maxHeartbeats 1000000 in
theorem law_21 {d : Nat} (hd : 57 ≤ d) {σ : MM} {X : CST} {i n : Int} (hn : σ 92 1 0 = n) (hi : 0 ≤ i ∧ i + 6 ≤ n) (hnN : n ≤ 3072) (hs : ∀ z : Int, IR (σ 92 0 z)) (hC : CRl σ X) (hM : MRl σ X) (kk : ∀ (σ' : MM) (X' : CST), CRl σ' X' → MRl σ' X' → σ' 92 = σ 92 → V yL_law cL_law 4 (some .boolean) d LQ 2578 [some (vR 92 0), some (vR 0 0), some (vR 34 0), some (vI i)] [] σ') : V yL_law cL_law 4 (some .boolean) d LQ 899 [some (vR 92 0), some (vR 0 0), some (vR 34 0), some (vI i)] [] σ := by
  refine V_aload_1 (pc := 899) dL_law_899 ?_
  refine V_aload_0 (pc := 900) dL_law_900 ?_
  refine V_iload_3 (pc := 901) dL_law_901 ?_
  refine V_iconst (pc := 902) dL_law_902 ?_
  refine V_iadd (pc := 903) dL_law_903 ?_
  refine V_sld (pc := 904) dL_law_904 hn hnN (by omega) (v := σ 92 0 (i + 1)) rfl ?_
  refine V_callV1i (pc := 905) dL_law_905 kv_L_101 rc_0 (by omega) (d - 1) (by omega) rfl (V.sci (c_X5_paling (by omega) hC.b hC.w hC.c (hs _))) (fun v1 σ1 h1 => ?_)
  have h92 := h1.2
  have hC1 : CRl σ1 X := by rw [h1.1.2]; exact hC
  have hM1 : MRl σ1 X := by rw [h1.1.2]; exact hM
  have hO1 := hC.ok
  have hG1 := hC.g
  refine V_aload_2 (pc := 908) dL_law_908 ?_
  refine V_aload_0 (pc := 909) dL_law_909 ?_
  refine V_iload_3 (pc := 910) dL_law_910 ?_
  refine V_iconst (pc := 911) dL_law_911 ?_
  refine V_iadd (pc := 912) dL_law_912 ?_
  refine V_sld (pc := 913) dL_law_913 (by rw [h92]; exact hn) hnN (by omega) (v := σ 92 0 (i + 1)) (by rw [h92]) ?_
  refine V_callV1i (pc := 914) dL_law_914 kv_L_104 rc_34 (by omega) (d - 1) (by omega) rfl (V.sci (c_X6_paling (by omega) hM1.1 hG1 (hs _))) (fun v2 σ2 h2 => ?_)
  have hC2 := h2.1.2.fm.crl hC1
  have hM2 := h2.1.2.mrl hM1
  have h93 : σ2 92 = σ 92 := h2.2.trans h92
  refine V_icmp_same (pc := 917) 2578 dL_law_917 (by decide) (h1.1.1.trans h2.1.1.symm) ?_
  exact kk _ _ hC2 hM2 h93

set_option maxRecDepth 20000 in
set_option maxHeartbeats 1000000 in
theorem law_22 {d : Nat} (hd : 57 ≤ d) {σ : MM} {X : CST} {i n : Int} (hn : σ 92 1 0 = n) (hi : 0 ≤ i ∧ i + 6 ≤ n) (hnN : n ≤ 3072) (hs : ∀ z : Int, IR (σ 92 0 z)) (hC : CRl σ X) (hM : MRl σ X) (kk : ∀ (σ' : MM) (X' : CST), CRl σ' X' → MRl σ' X' → σ' 92 = σ 92 → V yL_law cL_law 4 (some .boolean) d LQ 2578 [some (vR 92 0), some (vR 0 0), some (vR 34 0), some (vI i)] [] σ') : V yL_law cL_law 4 (some .boolean) d LQ 922 [some (vR 92 0), some (vR 0 0), some (vR 34 0), some (vI i)] [] σ := by
  refine V_aload_1 (pc := 922) dL_law_922 ?_
  refine V_aload_0 (pc := 923) dL_law_923 ?_
  refine V_iload_3 (pc := 924) dL_law_924 ?_
  refine V_iconst (pc := 925) dL_law_925 ?_
  refine V_iadd (pc := 926) dL_law_926 ?_
  refine V_sld (pc := 927) dL_law_927 hn hnN (by omega) (v := σ 92 0 (i + 1)) rfl ?_
  refine V_aload_0 (pc := 928) dL_law_928 ?_
  refine V_iload_3 (pc := 929) dL_law_929 ?_
  refine V_iconst (pc := 930) dL_law_930 ?_
  refine V_iadd (pc := 931) dL_law_931 ?_
  refine V_sld (pc := 932) dL_law_932 hn hnN (by omega) (v := σ 92 0 (i + 2)) rfl ?_
  refine V_callV2i (pc := 933) dL_law_933 kv_L_105 rc_0 (by omega) (d - 1) (by omega) rfl (V.sci (c_X5_cross (by omega) hC.b hC.w hC.c (hs _) (hs _))) (fun v1 σ1 h1 => ?_)
  have h92 := h1.2
  have hC1 : CRl σ1 X := by rw [h1.1.2]; exact hC
  have hM1 : MRl σ1 X := by rw [h1.1.2]; exact hM
  have hO1 := hC.ok
  have hG1 := hC.g
  refine V_aload_2 (pc := 936) dL_law_936 ?_
  refine V_aload_0 (pc := 937) dL_law_937 ?_
  refine V_iload_3 (pc := 938) dL_law_938 ?_
  refine V_iconst (pc := 939) dL_law_939 ?_
  refine V_iadd (pc := 940) dL_law_940 ?_
  refine V_sld (pc := 941) dL_law_941 (by rw [h92]; exact hn) hnN (by omega) (v := σ 92 0 (i + 1)) (by rw [h92]) ?_
  refine V_aload_0 (pc := 942) dL_law_942 ?_
  refine V_iload_3 (pc := 943) dL_law_943 ?_
  refine V_iconst (pc := 944) dL_law_944 ?_
  refine V_iadd (pc := 945) dL_law_945 ?_
  refine V_sld (pc := 946) dL_law_946 (by rw [h92]; exact hn) hnN (by omega) (v := σ 92 0 (i + 2)) (by rw [h92]) ?_
  refine V_callV2i (pc := 947) dL_law_947 kv_L_108 rc_34 (by omega) (d - 1) (by omega) rfl (V.sci (c_X6_cross (by omega) hM1.1 hG1 (hs _) (hs _))) (fun v2 σ2 h2 => ?_)
  have hC2 := h2.1.2.fm.crl hC1
  have hM2 := h2.1.2.mrl hM1
  have h93 : σ2 92 = σ 92 := h2.2.trans h92
  refine V_icmp_same (pc := 950) 2578 dL_law_950 (by decide) (h1.1.1.trans h2.1.1.symm) ?_
  exact kk _ _ hC2 hM2 h93

set_option maxRecDepth 20000 in
set_option maxHeartbeats 1000000 in
theorem law_23 {d : Nat} (hd : 57 ≤ d) {σ : MM} {X : CST} {i n : Int} (hn : σ 92 1 0 = n) (hi : 0 ≤ i ∧ i + 6 ≤ n) (hnN : n ≤ 3072) (hs : ∀ z : Int, IR (σ 92 0 z)) (hC : CRl σ X) (hM : MRl σ X) (kk : ∀ (σ' : MM) (X' : CST), CRl σ' X' → MRl σ' X' → σ' 92 = σ 92 → V yL_law cL_law 4 (some .boolean) d LQ 2578 [some (vR 92 0), some (vR 0 0), some (vR 34 0), some (vI i)] [] σ') : V yL_law cL_law 4 (some .boolean) d LQ 955 [some (vR 92 0), some (vR 0 0), some (vR 34 0), some (vI i)] [] σ := by
  refine V_aload_1 (pc := 955) dL_law_955 ?_
  refine V_aload_0 (pc := 956) dL_law_956 ?_
  refine V_iload_3 (pc := 957) dL_law_957 ?_
  refine V_iconst (pc := 958) dL_law_958 ?_
  refine V_iadd (pc := 959) dL_law_959 ?_
  refine V_sld (pc := 960) dL_law_960 hn hnN (by omega) (v := σ 92 0 (i + 1)) rfl ?_
  refine V_aload_0 (pc := 961) dL_law_961 ?_
  refine V_iload_3 (pc := 962) dL_law_962 ?_
  refine V_iconst (pc := 963) dL_law_963 ?_
  refine V_iadd (pc := 964) dL_law_964 ?_
  refine V_sld (pc := 965) dL_law_965 hn hnN (by omega) (v := σ 92 0 (i + 2)) rfl ?_
  refine V_callV2i (pc := 966) dL_law_966 kv_L_109 rc_0 (by omega) (d - 1) (by omega) rfl (V.sci (c_X5_swaps (by omega) hC.b hC.w hC.c (hs _) (hs _))) (fun v1 σ1 h1 => ?_)
  have h92 := h1.2
  have hC1 : CRl σ1 X := by rw [h1.1.2]; exact hC
  have hM1 : MRl σ1 X := by rw [h1.1.2]; exact hM
  have hO1 := hC.ok
  have hG1 := hC.g
  refine V_aload_2 (pc := 969) dL_law_969 ?_
  refine V_aload_0 (pc := 970) dL_law_970 ?_
  refine V_iload_3 (pc := 971) dL_law_971 ?_
  refine V_iconst (pc := 972) dL_law_972 ?_
  refine V_iadd (pc := 973) dL_law_973 ?_
  refine V_sld (pc := 974) dL_law_974 (by rw [h92]; exact hn) hnN (by omega) (v := σ 92 0 (i + 1)) (by rw [h92]) ?_
  refine V_aload_0 (pc := 975) dL_law_975 ?_
  refine V_iload_3 (pc := 976) dL_law_976 ?_
  refine V_iconst (pc := 977) dL_law_977 ?_
  refine V_iadd (pc := 978) dL_law_978 ?_
  refine V_sld (pc := 979) dL_law_979 (by rw [h92]; exact hn) hnN (by omega) (v := σ 92 0 (i + 2)) (by rw [h92]) ?_
  refine V_callV2i (pc := 980) dL_law_980 kv_L_112 rc_34 (by omega) (d - 1) (by omega) rfl (V.sci (c_X6_swaps (by omega) hM1.1 hG1 (hs _) (hs _))) (fun v2 σ2 h2 => ?_)
  have hC2 := h2.1.2.fm.crl hC1
  have hM2 := h2.1.2.mrl hM1
  have h93 : σ2 92 = σ 92 := h2.2.trans h92
  refine V_icmp_same (pc := 983) 2578 dL_law_983 (by decide) (h1.1.1.trans h2.1.1.symm) ?_
  exact kk _ _ hC2 hM2 h93

set_option maxRecDepth 20000 in
set_option maxHeartbeats 1000000 in
theorem law_24 {d : Nat} (hd : 57 ≤ d) {σ : MM} {X : CST} {i n : Int} (hn : σ 92 1 0 = n) (hi : 0 ≤ i ∧ i + 6 ≤ n) (hnN : n ≤ 3072) (hs : ∀ z : Int, IR (σ 92 0 z)) (hC : CRl σ X) (hM : MRl σ X) (kk : ∀ (σ' : MM) (X' : CST), CRl σ' X' → MRl σ' X' → σ' 92 = σ 92 → V yL_law cL_law 4 (some .boolean) d LQ 2578 [some (vR 92 0), some (vR 0 0), some (vR 34 0), some (vI i)] [] σ') : V yL_law cL_law 4 (some .boolean) d LQ 988 [some (vR 92 0), some (vR 0 0), some (vR 34 0), some (vI i)] [] σ := by
  refine V_aload_1 (pc := 988) dL_law_988 ?_
  refine V_callV0i (pc := 989) dL_law_989 kv_L_113 rc_0 (by omega) (d - 1) (by omega) rfl (V.sci (c_X5_put (by omega) hC.b hC.w)) (fun v1 σ1 h1 => ?_)
  have h92 := h1.2
  have hC1 : CRl σ1 X := by rw [h1.1.2]; exact hC
  have hM1 : MRl σ1 X := by rw [h1.1.2]; exact hM
  have hO1 := hC.ok
  have hG1 := hC.g
  refine V_aload_2 (pc := 992) dL_law_992 ?_
  refine V_callV0i (pc := 993) dL_law_993 kv_L_116 rc_34 (by omega) (d - 1) (by omega) rfl (V.sci (c_X6_put (by omega) hM1.1 hG1)) (fun v2 σ2 h2 => ?_)
  have hC2 := h2.1.2.fm.crl hC1
  have hM2 := h2.1.2.mrl hM1
  have h93 : σ2 92 = σ 92 := h2.2.trans h92
  refine V_icmp_same (pc := 996) 2578 dL_law_996 (by decide) (h1.1.1.trans h2.1.1.symm) ?_
  exact kk _ _ hC2 hM2 h93

set_option maxRecDepth 20000 in
set_option maxHeartbeats 1000000 in
theorem law_25 {d : Nat} (hd : 57 ≤ d) {σ : MM} {X : CST} {i n : Int} (hn : σ 92 1 0 = n) (hi : 0 ≤ i ∧ i + 6 ≤ n) (hnN : n ≤ 3072) (hs : ∀ z : Int, IR (σ 92 0 z)) (hC : CRl σ X) (hM : MRl σ X) (kk : ∀ (σ' : MM) (X' : CST), CRl σ' X' → MRl σ' X' → σ' 92 = σ 92 → V yL_law cL_law 4 (some .boolean) d LQ 2578 [some (vR 92 0), some (vR 0 0), some (vR 34 0), some (vI i)] [] σ') : V yL_law cL_law 4 (some .boolean) d LQ 1001 [some (vR 92 0), some (vR 0 0), some (vR 34 0), some (vI i)] [] σ := by
  refine V_aload_1 (pc := 1001) dL_law_1001 ?_
  refine V_callV0i (pc := 1002) dL_law_1002 kv_L_117 rc_0 (by omega) (d - 1) (by omega) rfl (V.sci (c_X5_lies (by omega) hC.b hC.w)) (fun v1 σ1 h1 => ?_)
  have h92 := h1.2
  have hC1 : CRl σ1 X := by rw [h1.1.2]; exact hC
  have hM1 : MRl σ1 X := by rw [h1.1.2]; exact hM
  have hO1 := hC.ok
  have hG1 := hC.g
  refine V_aload_2 (pc := 1005) dL_law_1005 ?_
  refine V_callV0i (pc := 1006) dL_law_1006 kv_L_120 rc_34 (by omega) (d - 1) (by omega) rfl (V.sci (c_X6_lies (by omega) hM1.1 hG1)) (fun v2 σ2 h2 => ?_)
  have hC2 := h2.1.2.fm.crl hC1
  have hM2 := h2.1.2.mrl hM1
  have h93 : σ2 92 = σ 92 := h2.2.trans h92
  refine V_icmp_same (pc := 1009) 2578 dL_law_1009 (by decide) (h1.1.1.trans h2.1.1.symm) ?_
  exact kk _ _ hC2 hM2 h93
