/-! ===== the law: a case a kind of call ===== -/
theorem and_N (a b : Nat) : nI a &&& nI b = nI (a &&& b) := by
  apply Int32.toBitVec.inj
  simp [nI, Int32.toBitVec_and]
section LAWCASES
variable {D : Gt} {A : Nat → Prop} {tb : List ExceptionTableEntry} {p : Program} {l : Launch} {e : Env} {s : State} {m : MethodId} {args : Array Value} {below : List Frame} {meth : Method} {c : Code} {cells slots : Nat} {Q : State → Prop} {T1 T2 : List Nat} {ad1 ad2 : Nat → Nat} {σ τ : Mm} {ax : Nat} {h : Nat → Int32} {nr ng nb b k v i q : Nat} {C0 : Nat → Prop} {π : Nat → Nat}
set_option maxRecDepth 100000 in
set_option maxHeartbeats 4000000 in
theorem lk_sort (C : CX D A RL code 15 ret tb p s m args meth c) (hNC : NC s) (hfl : l.stackTraces = false) (hT1 : TG nr ng T1) (hT2 : TG nr ng T2) (hJ : J nr ng 3 nb C0 π σ τ) (hO : ∀ k, k < ng → h k = nI (π k)) (hv : v < 2 ^ 30) (hc : cells + 240 ≤ 621632 ∧ slots + 2400 ≤ 7236801) {x8 x10 x13 x14 : Option Value} (next : ∀ (T3 : List Nat) (ad3 : Nat → Nat) (σ3 : Mm) (T4 : List Nat) (ad4 : Nat → Nat) (τ3 : Mm) (h3 : Nat → Int32) (nr3 ng3 nb3 : Nat) (C3 : Nat → Prop) (π3 : Nat → Nat) (x13 x14 : Option Value), TG nr3 ng3 T3 → TG nr3 ng3 T4 → J nr3 ng3 3 nb3 C3 π3 σ3 τ3 → (∀ k, k < ng3 → h3 k = nI (π3 k)) → V D A 15 (WJ D T3 ad3 σ3 T4 ad4 τ3 ax h3) p l e room_1 s m args below meth c (cells + 240) (slots + 2400) Q 1037 [some (.ref b), some (.ref (ad3 0)), some (.ref (ad4 0)), some (.ref ax), some (.int (nI nr3)), some (.int (nI ng3)), some (.int 1), some (.int (nI k)), x8, some (.int (nI v)), x10, some (.int (nI i)), some (.int (nI q)), x13, x14] []) : V D A 15 (WJ D T1 ad1 σ T2 ad2 τ ax h) p l e room_1 s m args below meth c cells slots Q 326 [some (.ref b), some (.ref (ad1 0)), some (.ref (ad2 0)), some (.ref ax), some (.int (nI nr)), some (.int (nI ng)), some (.int 1), some (.int (nI k)), x8, some (.int (nI v)), x10, some (.int (nI i)), some (.int (nI q)), x13, x14] [] := by
  obtain ⟨hc1, hc2⟩ := hc
  have hnr14 := hJ.2.2.2.2.2.2
  have hng56 := hJ.ng56
  refine r_aload1 (pc := 326) C dL_law_326 ?_
  refine r_iconst (pc := 327) C (v := 2) dL_law_327 (by decide) ?_
  refine r_iload9 (pc := 328) C dL_law_328 ?_
  refine r_bipush (pc := 330) C (v := nI 16) dL_law_330 (by decide) ?_
  refine r_idiv (pc := 332) C dL_law_332 (by decide) ?_
  rw [pk_div (a := v) (d := 16) (by omega) (by decide) (by decide)]
  refine r_iconst (pc := 333) C (v := nI 4) dL_law_333 (by decide) ?_
  refine r_irem (pc := 334) C dL_law_334 (by decide) ?_
  rw [pk_rem (a := (v / 16)) (d := 4) (by omega) (by decide) (by decide)]
  refine r_iload11 (pc := 335) C dL_law_335 ?_
  refine r_callW1 (pc := 337) C hNC (c_L_does_2 l D T1 ad1 σ hT1 (nI ((v / 16) % 4)) (nI i) (c_X5_sort l D hfl T1 ad1 σ hT1 hJ.ic (nI ((v / 16) % 4)) (nI i)) heIS3) ml_RL_98 st_L_does ini_L cdW_L_does hd_RL_98 rfl rfl (Nat.le_of_ble_eq_true rfl) ⟨rfl, rfl⟩ (by decide) ⟨by show _ ≤ 621632; omega, by show _ ≤ 7236801; omega⟩ dL_law_337 ?_
  intro r1 Y1 hp1
  refine r_aload2 (pc := 340) C dL_law_340 ?_
  refine r_iconst (pc := 341) C (v := 2) dL_law_341 (by decide) ?_
  refine r_iload9 (pc := 342) C dL_law_342 ?_
  refine r_bipush (pc := 344) C (v := nI 16) dL_law_344 (by decide) ?_
  refine r_idiv (pc := 346) C dL_law_346 (by decide) ?_
  rw [pk_div (a := v) (d := 16) (by omega) (by decide) (by decide)]
  refine r_iconst (pc := 347) C (v := nI 4) dL_law_347 (by decide) ?_
  refine r_irem (pc := 348) C dL_law_348 (by decide) ?_
  rw [pk_rem (a := (v / 16)) (d := 4) (by omega) (by decide) (by decide)]
  refine r_iload11 (pc := 349) C dL_law_349 ?_
  refine r_callW2 (pc := 351) C hNC (c_L_does_2 l D T2 ad2 τ hT2 (nI ((v / 16) % 4)) (nI i) (c_X5_sort l D hfl T2 ad2 τ hT2 hJ.ic2 (nI ((v / 16) % 4)) (nI i)) heIS3) ml_RL_98 st_L_does ini_L cdW_L_does hd_RL_98 rfl rfl (Nat.le_of_ble_eq_true rfl) ⟨rfl, rfl⟩ (by decide) ⟨by show _ ≤ 621632; omega, by show _ ≤ 7236801; omega⟩ dL_law_351 ?_
  intro r2 Y2 hp2
  obtain ⟨e2, σ2, τ2, rfl, rfl, hJ2⟩ := W_sort hJ hp1 hp2
  refine r_icmp_ne (pc := 354) C (tgt := 361) dL_law_354 (by decide) (fun h => absurd e2.symm h) (fun _ => ?_)
  refine r_iconst (pc := 357) C (v := 1) dL_law_357 (by decide) ?_
  refine r_goto (pc := 358) C (tgt := 362) dL_law_358 (by decide) ?_
  refine r_istore6 (pc := 362) C dL_law_362 ?_
  refine r_goto (pc := 364) C (tgt := 1037) dL_law_364 (by decide) ?_
  exact r_wid (k := cells + 240) (z := slots + 2400) (by omega) (by omega) (next T1 ad1 _ T2 ad2 _ _ _ _ _ _ _ _ _ hT1 hT2 hJ2 hO)
set_option maxRecDepth 100000 in
set_option maxHeartbeats 4000000 in
theorem lk_set (C : CX D A RL code 15 ret tb p s m args meth c) (hNC : NC s) (hfl : l.stackTraces = false) (hT1 : TG nr ng T1) (hT2 : TG nr ng T2) (hJ : J nr ng 3 nb C0 π σ τ) (hO : ∀ k, k < ng → h k = nI (π k)) (hv : v < 2 ^ 30) (hc : cells + 240 ≤ 621632 ∧ slots + 2400 ≤ 7236801) {x8 x10 x13 x14 : Option Value} (next : ∀ (T3 : List Nat) (ad3 : Nat → Nat) (σ3 : Mm) (T4 : List Nat) (ad4 : Nat → Nat) (τ3 : Mm) (h3 : Nat → Int32) (nr3 ng3 nb3 : Nat) (C3 : Nat → Prop) (π3 : Nat → Nat) (x13 x14 : Option Value), TG nr3 ng3 T3 → TG nr3 ng3 T4 → J nr3 ng3 3 nb3 C3 π3 σ3 τ3 → (∀ k, k < ng3 → h3 k = nI (π3 k)) → V D A 15 (WJ D T3 ad3 σ3 T4 ad4 τ3 ax h3) p l e room_1 s m args below meth c (cells + 240) (slots + 2400) Q 1037 [some (.ref b), some (.ref (ad3 0)), some (.ref (ad4 0)), some (.ref ax), some (.int (nI nr3)), some (.int (nI ng3)), some (.int 1), some (.int (nI k)), x8, some (.int (nI v)), x10, some (.int (nI i)), some (.int (nI q)), x13, x14] []) : V D A 15 (WJ D T1 ad1 σ T2 ad2 τ ax h) p l e room_1 s m args below meth c cells slots Q 374 [some (.ref b), some (.ref (ad1 0)), some (.ref (ad2 0)), some (.ref ax), some (.int (nI nr)), some (.int (nI ng)), some (.int 1), some (.int (nI k)), x8, some (.int (nI v)), x10, some (.int (nI i)), some (.int (nI q)), x13, x14] [] := by
  obtain ⟨hc1, hc2⟩ := hc
  have hnr14 := hJ.2.2.2.2.2.2
  have hng56 := hJ.ng56
  refine r_aload1 (pc := 374) C dL_law_374 ?_
  refine r_iconst (pc := 375) C (v := 1) dL_law_375 (by decide) ?_
  refine r_iload9 (pc := 376) C dL_law_376 ?_
  refine r_iconst (pc := 378) C (v := nI 4) dL_law_378 (by decide) ?_
  refine r_irem (pc := 379) C dL_law_379 (by decide) ?_
  rw [pk_rem (a := v) (d := 4) (by omega) (by decide) (by decide)]
  refine r_iload9 (pc := 380) C dL_law_380 ?_
  refine r_iconst (pc := 382) C (v := nI 4) dL_law_382 (by decide) ?_
  refine r_idiv (pc := 383) C dL_law_383 (by decide) ?_
  rw [pk_div (a := v) (d := 4) (by omega) (by decide) (by decide)]
  refine r_iconst (pc := 384) C (v := nI 5) dL_law_384 (by decide) ?_
  refine r_irem (pc := 385) C dL_law_385 (by decide) ?_
  rw [pk_rem (a := (v / 4)) (d := 5) (by omega) (by decide) (by decide)]
  refine r_iconst (pc := 386) C (v := nI 2) dL_law_386 (by decide) ?_
  refine r_isub (pc := 387) C dL_law_387 ?_
  refine r_callW1 (pc := 388) C hNC (c_L_does_1 l D T1 ad1 σ hT1 (nI (v % 4)) ((nI ((v / 4) % 5)) - (nI 2)) (c_X5_drift l D hfl T1 ad1 σ hT1 hJ.ic (nI (v % 4)) ((nI ((v / 4) % 5)) - (nI 2))) heIA3) ml_RL_98 st_L_does ini_L cdW_L_does hd_RL_98 rfl rfl (Nat.le_of_ble_eq_true rfl) ⟨rfl, rfl⟩ (by decide) ⟨by show _ ≤ 621632; omega, by show _ ≤ 7236801; omega⟩ dL_law_388 ?_
  intro r1 Y1 hp1
  refine r_aload2 (pc := 391) C dL_law_391 ?_
  refine r_iconst (pc := 392) C (v := 1) dL_law_392 (by decide) ?_
  refine r_iload9 (pc := 393) C dL_law_393 ?_
  refine r_iconst (pc := 395) C (v := nI 4) dL_law_395 (by decide) ?_
  refine r_irem (pc := 396) C dL_law_396 (by decide) ?_
  rw [pk_rem (a := v) (d := 4) (by omega) (by decide) (by decide)]
  refine r_iload9 (pc := 397) C dL_law_397 ?_
  refine r_iconst (pc := 399) C (v := nI 4) dL_law_399 (by decide) ?_
  refine r_idiv (pc := 400) C dL_law_400 (by decide) ?_
  rw [pk_div (a := v) (d := 4) (by omega) (by decide) (by decide)]
  refine r_iconst (pc := 401) C (v := nI 5) dL_law_401 (by decide) ?_
  refine r_irem (pc := 402) C dL_law_402 (by decide) ?_
  rw [pk_rem (a := (v / 4)) (d := 5) (by omega) (by decide) (by decide)]
  refine r_iconst (pc := 403) C (v := nI 2) dL_law_403 (by decide) ?_
  refine r_isub (pc := 404) C dL_law_404 ?_
  refine r_callW2 (pc := 405) C hNC (c_L_does_1 l D T2 ad2 τ hT2 (nI (v % 4)) ((nI ((v / 4) % 5)) - (nI 2)) (c_X5_drift l D hfl T2 ad2 τ hT2 hJ.ic2 (nI (v % 4)) ((nI ((v / 4) % 5)) - (nI 2))) heIA3) ml_RL_98 st_L_does ini_L cdW_L_does hd_RL_98 rfl rfl (Nat.le_of_ble_eq_true rfl) ⟨rfl, rfl⟩ (by decide) ⟨by show _ ≤ 621632; omega, by show _ ≤ 7236801; omega⟩ dL_law_405 ?_
  intro r2 Y2 hp2
  obtain ⟨e2, σ2, τ2, rfl, rfl, hJ2⟩ := W_drift hJ hp1 hp2
  refine r_icmp_ne (pc := 408) C (tgt := 511) dL_law_408 (by decide) (fun h => absurd e2.symm h) (fun _ => ?_)
  refine r_aload1 (pc := 411) C dL_law_411 ?_
  refine r_bipush (pc := 412) C (v := 10) dL_law_412 (by decide) ?_
  refine r_iload9 (pc := 414) C dL_law_414 ?_
  refine r_iconst (pc := 416) C (v := nI 3) dL_law_416 (by decide) ?_
  refine r_irem (pc := 417) C dL_law_417 (by decide) ?_
  rw [pk_rem (a := v) (d := 3) (by omega) (by decide) (by decide)]
  refine r_iload9 (pc := 418) C dL_law_418 ?_
  refine r_bipush (pc := 420) C (v := nI 9) dL_law_420 (by decide) ?_
  refine r_idiv (pc := 422) C dL_law_422 (by decide) ?_
  rw [pk_div (a := v) (d := 9) (by omega) (by decide) (by decide)]
  refine r_iconst (pc := 423) C (v := nI 3) dL_law_423 (by decide) ?_
  refine r_irem (pc := 424) C dL_law_424 (by decide) ?_
  rw [pk_rem (a := (v / 9)) (d := 3) (by omega) (by decide) (by decide)]
  refine r_iconst (pc := 425) C (v := nI 1) dL_law_425 (by decide) ?_
  refine r_isub (pc := 426) C dL_law_426 ?_
  refine r_callW1 (pc := 427) C hNC (c_L_does_10 l D T1 ad1 σ2 hT1 (nI (v % 3)) ((nI ((v / 9) % 3)) - (nI 1)) (c_X5_scale l D hfl T1 ad1 σ2 hT1 hJ2.ic (nI (v % 3)) ((nI ((v / 9) % 3)) - (nI 1))) heIA3) ml_RL_98 st_L_does ini_L cdW_L_does hd_RL_98 rfl rfl (Nat.le_of_ble_eq_true rfl) ⟨rfl, rfl⟩ (by decide) ⟨by show _ ≤ 621632; omega, by show _ ≤ 7236801; omega⟩ dL_law_427 ?_
  intro r3 Y3 hp3
  refine r_aload2 (pc := 430) C dL_law_430 ?_
  refine r_bipush (pc := 431) C (v := 10) dL_law_431 (by decide) ?_
  refine r_iload9 (pc := 433) C dL_law_433 ?_
  refine r_iconst (pc := 435) C (v := nI 3) dL_law_435 (by decide) ?_
  refine r_irem (pc := 436) C dL_law_436 (by decide) ?_
  rw [pk_rem (a := v) (d := 3) (by omega) (by decide) (by decide)]
  refine r_iload9 (pc := 437) C dL_law_437 ?_
  refine r_bipush (pc := 439) C (v := nI 9) dL_law_439 (by decide) ?_
  refine r_idiv (pc := 441) C dL_law_441 (by decide) ?_
  rw [pk_div (a := v) (d := 9) (by omega) (by decide) (by decide)]
  refine r_iconst (pc := 442) C (v := nI 3) dL_law_442 (by decide) ?_
  refine r_irem (pc := 443) C dL_law_443 (by decide) ?_
  rw [pk_rem (a := (v / 9)) (d := 3) (by omega) (by decide) (by decide)]
  refine r_iconst (pc := 444) C (v := nI 1) dL_law_444 (by decide) ?_
  refine r_isub (pc := 445) C dL_law_445 ?_
  refine r_callW2 (pc := 446) C hNC (c_L_does_10 l D T2 ad2 τ2 hT2 (nI (v % 3)) ((nI ((v / 9) % 3)) - (nI 1)) (c_X5_scale l D hfl T2 ad2 τ2 hT2 hJ2.ic2 (nI (v % 3)) ((nI ((v / 9) % 3)) - (nI 1))) heIA3) ml_RL_98 st_L_does ini_L cdW_L_does hd_RL_98 rfl rfl (Nat.le_of_ble_eq_true rfl) ⟨rfl, rfl⟩ (by decide) ⟨by show _ ≤ 621632; omega, by show _ ≤ 7236801; omega⟩ dL_law_446 ?_
  intro r4 Y4 hp4
  obtain ⟨e4, σ4, τ4, rfl, rfl, hJ4⟩ := W_scale hJ2 hp3 hp4
  refine r_icmp_ne (pc := 449) C (tgt := 511) dL_law_449 (by decide) (fun h => absurd e4.symm h) (fun _ => ?_)
  refine r_aload1 (pc := 452) C dL_law_452 ?_
  refine r_iload9 (pc := 453) C dL_law_453 ?_
  refine r_iconst (pc := 455) C (v := nI 4) dL_law_455 (by decide) ?_
  refine r_irem (pc := 456) C dL_law_456 (by decide) ?_
  rw [pk_rem (a := v) (d := 4) (by omega) (by decide) (by decide)]
  refine r_iload9 (pc := 457) C dL_law_457 ?_
  refine r_iconst (pc := 459) C (v := nI 4) dL_law_459 (by decide) ?_
  refine r_idiv (pc := 460) C dL_law_460 (by decide) ?_
  rw [pk_div (a := v) (d := 4) (by omega) (by decide) (by decide)]
  refine r_bipush (pc := 461) C (v := nI 19) dL_law_461 (by decide) ?_
  refine r_irem (pc := 463) C dL_law_463 (by decide) ?_
  rw [pk_rem (a := (v / 4)) (d := 19) (by omega) (by decide) (by decide)]
  refine r_iconst (pc := 464) C (v := nI 1) dL_law_464 (by decide) ?_
  refine r_iload9 (pc := 465) C dL_law_465 ?_
  refine r_bipush (pc := 467) C (v := nI 76) dL_law_467 (by decide) ?_
  refine r_idiv (pc := 469) C dL_law_469 (by decide) ?_
  rw [pk_div (a := v) (d := 76) (by omega) (by decide) (by decide)]
  refine r_sipush (pc := 470) C (v := nI 9999) dL_law_470 (by decide) ?_
  refine r_irem (pc := 473) C dL_law_473 (by decide) ?_
  rw [pk_rem (a := (v / 76)) (d := 9999) (by omega) (by decide) (by decide)]
  refine r_iadd (pc := 474) C dL_law_474 ?_
  rw [nI_add (1) (((v / 76) % 9999))]
  refine r_callW1 (pc := 475) C hNC (c_L_price l D T1 ad1 σ4 hT1 (nI (v % 4)) (nI ((v / 4) % 19)) (nI (1 + ((v / 76) % 9999))) (c_X5_price l D hfl T1 ad1 σ4 hT1 hJ4.ic (nI (v % 4)) (nI ((v / 4) % 19)) (nI (1 + ((v / 76) % 9999)))) heIA) ml_RL_112 st_L_price ini_L cdW_L_price hd_RL_112 rfl rfl (Nat.le_of_ble_eq_true rfl) ⟨rfl, rfl⟩ (by decide) ⟨by show _ ≤ 621632; omega, by show _ ≤ 7236801; omega⟩ dL_law_475 ?_
  intro r5 Y5 hp5
  refine r_aload2 (pc := 478) C dL_law_478 ?_
  refine r_iload9 (pc := 479) C dL_law_479 ?_
  refine r_iconst (pc := 481) C (v := nI 4) dL_law_481 (by decide) ?_
  refine r_irem (pc := 482) C dL_law_482 (by decide) ?_
  rw [pk_rem (a := v) (d := 4) (by omega) (by decide) (by decide)]
  refine r_iload9 (pc := 483) C dL_law_483 ?_
  refine r_iconst (pc := 485) C (v := nI 4) dL_law_485 (by decide) ?_
  refine r_idiv (pc := 486) C dL_law_486 (by decide) ?_
  rw [pk_div (a := v) (d := 4) (by omega) (by decide) (by decide)]
  refine r_bipush (pc := 487) C (v := nI 19) dL_law_487 (by decide) ?_
  refine r_irem (pc := 489) C dL_law_489 (by decide) ?_
  rw [pk_rem (a := (v / 4)) (d := 19) (by omega) (by decide) (by decide)]
  refine r_iconst (pc := 490) C (v := nI 1) dL_law_490 (by decide) ?_
  refine r_iload9 (pc := 491) C dL_law_491 ?_
  refine r_bipush (pc := 493) C (v := nI 76) dL_law_493 (by decide) ?_
  refine r_idiv (pc := 495) C dL_law_495 (by decide) ?_
  rw [pk_div (a := v) (d := 76) (by omega) (by decide) (by decide)]
  refine r_sipush (pc := 496) C (v := nI 9999) dL_law_496 (by decide) ?_
  refine r_irem (pc := 499) C dL_law_499 (by decide) ?_
  rw [pk_rem (a := (v / 76)) (d := 9999) (by omega) (by decide) (by decide)]
  refine r_iadd (pc := 500) C dL_law_500 ?_
  rw [nI_add (1) (((v / 76) % 9999))]
  refine r_callW2 (pc := 501) C hNC (c_L_price l D T2 ad2 τ4 hT2 (nI (v % 4)) (nI ((v / 4) % 19)) (nI (1 + ((v / 76) % 9999))) (c_X5_price l D hfl T2 ad2 τ4 hT2 hJ4.ic2 (nI (v % 4)) (nI ((v / 4) % 19)) (nI (1 + ((v / 76) % 9999)))) heIA) ml_RL_112 st_L_price ini_L cdW_L_price hd_RL_112 rfl rfl (Nat.le_of_ble_eq_true rfl) ⟨rfl, rfl⟩ (by decide) ⟨by show _ ≤ 621632; omega, by show _ ≤ 7236801; omega⟩ dL_law_501 ?_
  intro r6 Y6 hp6
  obtain ⟨e6, σ6, τ6, rfl, rfl, hJ6⟩ := W_price hJ4 hp5 hp6
  refine r_icmp_ne (pc := 504) C (tgt := 511) dL_law_504 (by decide) (fun h => absurd e6.symm h) (fun _ => ?_)
  refine r_iconst (pc := 507) C (v := 1) dL_law_507 (by decide) ?_
  refine r_goto (pc := 508) C (tgt := 512) dL_law_508 (by decide) ?_
  refine r_istore6 (pc := 512) C dL_law_512 ?_
  refine r_goto (pc := 514) C (tgt := 1037) dL_law_514 (by decide) ?_
  exact r_wid (k := cells + 240) (z := slots + 2400) (by omega) (by omega) (next T1 ad1 _ T2 ad2 _ _ _ _ _ _ _ _ _ hT1 hT2 hJ6 hO)
set_option maxRecDepth 100000 in
set_option maxHeartbeats 4000000 in
theorem lk_boxes (C : CX D A RL code 15 ret tb p s m args meth c) (hNC : NC s) (hfl : l.stackTraces = false) (hT1 : TG nr ng T1) (hT2 : TG nr ng T2) (hJ : J nr ng 3 nb C0 π σ τ) (hO : ∀ k, k < ng → h k = nI (π k)) (hv : v < 2 ^ 30) (hc : cells + 240 ≤ 621632 ∧ slots + 2400 ≤ 7236801) {x8 x10 x13 x14 : Option Value} (next : ∀ (T3 : List Nat) (ad3 : Nat → Nat) (σ3 : Mm) (T4 : List Nat) (ad4 : Nat → Nat) (τ3 : Mm) (h3 : Nat → Int32) (nr3 ng3 nb3 : Nat) (C3 : Nat → Prop) (π3 : Nat → Nat) (x13 x14 : Option Value), TG nr3 ng3 T3 → TG nr3 ng3 T4 → J nr3 ng3 3 nb3 C3 π3 σ3 τ3 → (∀ k, k < ng3 → h3 k = nI (π3 k)) → V D A 15 (WJ D T3 ad3 σ3 T4 ad4 τ3 ax h3) p l e room_1 s m args below meth c (cells + 240) (slots + 2400) Q 1037 [some (.ref b), some (.ref (ad3 0)), some (.ref (ad4 0)), some (.ref ax), some (.int (nI nr3)), some (.int (nI ng3)), some (.int 1), some (.int (nI k)), x8, some (.int (nI v)), x10, some (.int (nI i)), some (.int (nI q)), x13, x14] []) : V D A 15 (WJ D T1 ad1 σ T2 ad2 τ ax h) p l e room_1 s m args below meth c cells slots Q 524 [some (.ref b), some (.ref (ad1 0)), some (.ref (ad2 0)), some (.ref ax), some (.int (nI nr)), some (.int (nI ng)), some (.int 1), some (.int (nI k)), x8, some (.int (nI v)), x10, some (.int (nI i)), some (.int (nI q)), x13, x14] [] := by
  obtain ⟨hc1, hc2⟩ := hc
  have hnr14 := hJ.2.2.2.2.2.2
  have hng56 := hJ.ng56
  refine r_aload1 (pc := 524) C dL_law_524 ?_
  refine r_iconst (pc := 525) C (v := 3) dL_law_525 (by decide) ?_
  refine r_iconst (pc := 526) C (v := nI 1) dL_law_526 (by decide) ?_
  refine r_iload9 (pc := 527) C dL_law_527 ?_
  refine r_iconst (pc := 529) C (v := nI 5) dL_law_529 (by decide) ?_
  refine r_irem (pc := 530) C dL_law_530 (by decide) ?_
  rw [pk_rem (a := v) (d := 5) (by omega) (by decide) (by decide)]
  refine r_iadd (pc := 531) C dL_law_531 ?_
  rw [nI_add (1) ((v % 5))]
  refine r_iconst (pc := 532) C (v := nI 0) dL_law_532 (by decide) ?_
  refine r_callW1 (pc := 533) C hNC (c_L_does_3 l D T1 ad1 σ hT1 (nI (1 + (v % 5))) (nI 0) (c_X5_boxes l D hfl T1 ad1 σ hT1 hJ.ic (nI (1 + (v % 5)))) heA3) ml_RL_98 st_L_does ini_L cdW_L_does hd_RL_98 rfl rfl (Nat.le_of_ble_eq_true rfl) ⟨rfl, rfl⟩ (by decide) ⟨by show _ ≤ 621632; omega, by show _ ≤ 7236801; omega⟩ dL_law_533 ?_
  intro r1 Y1 hp1
  refine r_aload2 (pc := 536) C dL_law_536 ?_
  refine r_iconst (pc := 537) C (v := 3) dL_law_537 (by decide) ?_
  refine r_iconst (pc := 538) C (v := nI 1) dL_law_538 (by decide) ?_
  refine r_iload9 (pc := 539) C dL_law_539 ?_
  refine r_iconst (pc := 541) C (v := nI 5) dL_law_541 (by decide) ?_
  refine r_irem (pc := 542) C dL_law_542 (by decide) ?_
  rw [pk_rem (a := v) (d := 5) (by omega) (by decide) (by decide)]
  refine r_iadd (pc := 543) C dL_law_543 ?_
  rw [nI_add (1) ((v % 5))]
  refine r_iconst (pc := 544) C (v := nI 0) dL_law_544 (by decide) ?_
  refine r_callW2 (pc := 545) C hNC (c_L_does_3 l D T2 ad2 τ hT2 (nI (1 + (v % 5))) (nI 0) (c_X5_boxes l D hfl T2 ad2 τ hT2 hJ.ic2 (nI (1 + (v % 5)))) heA3) ml_RL_98 st_L_does ini_L cdW_L_does hd_RL_98 rfl rfl (Nat.le_of_ble_eq_true rfl) ⟨rfl, rfl⟩ (by decide) ⟨by show _ ≤ 621632; omega, by show _ ≤ 7236801; omega⟩ dL_law_545 ?_
  intro r2 Y2 hp2
  obtain ⟨e2, nb2, σ2, τ2, rfl, rfl, hJ2⟩ := W_boxes hJ hp1 hp2
  refine r_icmp_ne (pc := 548) C (tgt := 555) dL_law_548 (by decide) (fun h => absurd e2.symm h) (fun _ => ?_)
  refine r_iconst (pc := 551) C (v := 1) dL_law_551 (by decide) ?_
  refine r_goto (pc := 552) C (tgt := 556) dL_law_552 (by decide) ?_
  refine r_istore6 (pc := 556) C dL_law_556 ?_
  refine r_goto (pc := 558) C (tgt := 1037) dL_law_558 (by decide) ?_
  exact r_wid (k := cells + 240) (z := slots + 2400) (by omega) (by omega) (next T1 ad1 _ T2 ad2 _ _ _ _ _ _ _ _ _ hT1 hT2 hJ2 hO)
set_option maxRecDepth 100000 in
set_option maxHeartbeats 4000000 in
theorem lk_take (C : CX D A RL code 15 ret tb p s m args meth c) (hNC : NC s) (hfl : l.stackTraces = false) (hT1 : TG nr ng T1) (hT2 : TG nr ng T2) (hJ : J nr ng 3 nb C0 π σ τ) (hO : ∀ k, k < ng → h k = nI (π k)) (hv : v < 2 ^ 30) (hc : cells + 240 ≤ 621632 ∧ slots + 2400 ≤ 7236801) {x8 x10 x13 x14 : Option Value} (next : ∀ (T3 : List Nat) (ad3 : Nat → Nat) (σ3 : Mm) (T4 : List Nat) (ad4 : Nat → Nat) (τ3 : Mm) (h3 : Nat → Int32) (nr3 ng3 nb3 : Nat) (C3 : Nat → Prop) (π3 : Nat → Nat) (x13 x14 : Option Value), TG nr3 ng3 T3 → TG nr3 ng3 T4 → J nr3 ng3 3 nb3 C3 π3 σ3 τ3 → (∀ k, k < ng3 → h3 k = nI (π3 k)) → V D A 15 (WJ D T3 ad3 σ3 T4 ad4 τ3 ax h3) p l e room_1 s m args below meth c (cells + 240) (slots + 2400) Q 1037 [some (.ref b), some (.ref (ad3 0)), some (.ref (ad4 0)), some (.ref ax), some (.int (nI nr3)), some (.int (nI ng3)), some (.int 1), some (.int (nI k)), x8, some (.int (nI v)), x10, some (.int (nI i)), some (.int (nI q)), x13, x14] []) : V D A 15 (WJ D T1 ad1 σ T2 ad2 τ ax h) p l e room_1 s m args below meth c cells slots Q 568 [some (.ref b), some (.ref (ad1 0)), some (.ref (ad2 0)), some (.ref ax), some (.int (nI nr)), some (.int (nI ng)), some (.int 1), some (.int (nI k)), x8, some (.int (nI v)), x10, some (.int (nI i)), some (.int (nI q)), x13, x14] [] := by
  obtain ⟨hc1, hc2⟩ := hc
  have hnr14 := hJ.2.2.2.2.2.2
  have hng56 := hJ.ng56
  refine r_aload1 (pc := 568) C dL_law_568 ?_
  refine r_iload9 (pc := 569) C dL_law_569 ?_
  refine r_iconst (pc := 571) C (v := nI 5) dL_law_571 (by decide) ?_
  refine r_irem (pc := 572) C dL_law_572 (by decide) ?_
  rw [pk_rem (a := v) (d := 5) (by omega) (by decide) (by decide)]
  refine r_iload9 (pc := 573) C dL_law_573 ?_
  refine r_iconst (pc := 575) C (v := nI 5) dL_law_575 (by decide) ?_
  refine r_idiv (pc := 576) C dL_law_576 (by decide) ?_
  rw [pk_div (a := v) (d := 5) (by omega) (by decide) (by decide)]
  refine r_iconst (pc := 577) C (v := nI 3) dL_law_577 (by decide) ?_
  refine r_irem (pc := 578) C dL_law_578 (by decide) ?_
  rw [pk_rem (a := (v / 5)) (d := 3) (by omega) (by decide) (by decide)]
  refine r_if_le (pc := 579) C (tgt := 586) dL_law_579 (by decide) (fun c1 => ?_) (fun c1 => ?_)
  · refine r_iconst (pc := 586) C (v := nI 0) dL_law_586 (by decide) ?_
    refine r_callW1 (pc := 587) C hNC (c_L_take l D T1 ad1 σ hT1 (nI (v % 5)) (nI 0) (c_X5_take l D hfl T1 ad1 σ hT1 hJ.ic (nI (v % 5)) (nI 0)) heIS) ml_RL_114 st_L_take ini_L cdW_L_take hd_RL_114 rfl rfl (Nat.le_of_ble_eq_true rfl) ⟨rfl, rfl⟩ (by decide) ⟨by show _ ≤ 621632; omega, by show _ ≤ 7236801; omega⟩ dL_law_587 ?_
    intro r1 Y1 hp1
    refine r_aload2 (pc := 590) C dL_law_590 ?_
    refine r_iload9 (pc := 591) C dL_law_591 ?_
    refine r_iconst (pc := 593) C (v := nI 5) dL_law_593 (by decide) ?_
    refine r_irem (pc := 594) C dL_law_594 (by decide) ?_
    rw [pk_rem (a := v) (d := 5) (by omega) (by decide) (by decide)]
    refine r_iload9 (pc := 595) C dL_law_595 ?_
    refine r_iconst (pc := 597) C (v := nI 5) dL_law_597 (by decide) ?_
    refine r_idiv (pc := 598) C dL_law_598 (by decide) ?_
    rw [pk_div (a := v) (d := 5) (by omega) (by decide) (by decide)]
    refine r_iconst (pc := 599) C (v := nI 3) dL_law_599 (by decide) ?_
    refine r_irem (pc := 600) C dL_law_600 (by decide) ?_
    rw [pk_rem (a := (v / 5)) (d := 3) (by omega) (by decide) (by decide)]
    refine r_if_le (pc := 601) C (tgt := 608) dL_law_601 (by decide) (fun _ => ?_) (fun h => absurd c1 h)
    refine r_iconst (pc := 608) C (v := nI 0) dL_law_608 (by decide) ?_
    refine r_callW2 (pc := 609) C hNC (c_L_take l D T2 ad2 τ hT2 (nI (v % 5)) (nI 0) (c_X5_take l D hfl T2 ad2 τ hT2 hJ.ic2 (nI (v % 5)) (nI 0)) heIS) ml_RL_114 st_L_take ini_L cdW_L_take hd_RL_114 rfl rfl (Nat.le_of_ble_eq_true rfl) ⟨rfl, rfl⟩ (by decide) ⟨by show _ ≤ 621632; omega, by show _ ≤ 7236801; omega⟩ dL_law_609 ?_
    intro r2 Y2 hp2
    obtain ⟨e2, σ2, τ2, rfl, rfl, hJ2⟩ := W_take hJ hp1 hp2
    refine r_icmp_ne (pc := 612) C (tgt := 619) dL_law_612 (by decide) (fun h => absurd e2.symm h) (fun _ => ?_)
    refine r_iconst (pc := 615) C (v := 1) dL_law_615 (by decide) ?_
    refine r_goto (pc := 616) C (tgt := 620) dL_law_616 (by decide) ?_
    refine r_istore6 (pc := 620) C dL_law_620 ?_
    refine r_goto (pc := 622) C (tgt := 1037) dL_law_622 (by decide) ?_
    exact r_wid (k := cells + 240) (z := slots + 2400) (by omega) (by omega) (next T1 ad1 _ T2 ad2 _ _ _ _ _ _ _ _ _ hT1 hT2 hJ2 hO)
  · refine r_iconst (pc := 582) C (v := nI 1) dL_law_582 (by decide) ?_
    refine r_goto (pc := 583) C (tgt := 587) dL_law_583 (by decide) ?_
    refine r_callW1 (pc := 587) C hNC (c_L_take l D T1 ad1 σ hT1 (nI (v % 5)) (nI 1) (c_X5_take l D hfl T1 ad1 σ hT1 hJ.ic (nI (v % 5)) (nI 1)) heIS) ml_RL_114 st_L_take ini_L cdW_L_take hd_RL_114 rfl rfl (Nat.le_of_ble_eq_true rfl) ⟨rfl, rfl⟩ (by decide) ⟨by show _ ≤ 621632; omega, by show _ ≤ 7236801; omega⟩ dL_law_587 ?_
    intro r1 Y1 hp1
    refine r_aload2 (pc := 590) C dL_law_590 ?_
    refine r_iload9 (pc := 591) C dL_law_591 ?_
    refine r_iconst (pc := 593) C (v := nI 5) dL_law_593 (by decide) ?_
    refine r_irem (pc := 594) C dL_law_594 (by decide) ?_
    rw [pk_rem (a := v) (d := 5) (by omega) (by decide) (by decide)]
    refine r_iload9 (pc := 595) C dL_law_595 ?_
    refine r_iconst (pc := 597) C (v := nI 5) dL_law_597 (by decide) ?_
    refine r_idiv (pc := 598) C dL_law_598 (by decide) ?_
    rw [pk_div (a := v) (d := 5) (by omega) (by decide) (by decide)]
    refine r_iconst (pc := 599) C (v := nI 3) dL_law_599 (by decide) ?_
    refine r_irem (pc := 600) C dL_law_600 (by decide) ?_
    rw [pk_rem (a := (v / 5)) (d := 3) (by omega) (by decide) (by decide)]
    refine r_if_le (pc := 601) C (tgt := 608) dL_law_601 (by decide) (fun h => absurd h c1) (fun _ => ?_)
    refine r_iconst (pc := 604) C (v := nI 1) dL_law_604 (by decide) ?_
    refine r_goto (pc := 605) C (tgt := 609) dL_law_605 (by decide) ?_
    refine r_callW2 (pc := 609) C hNC (c_L_take l D T2 ad2 τ hT2 (nI (v % 5)) (nI 1) (c_X5_take l D hfl T2 ad2 τ hT2 hJ.ic2 (nI (v % 5)) (nI 1)) heIS) ml_RL_114 st_L_take ini_L cdW_L_take hd_RL_114 rfl rfl (Nat.le_of_ble_eq_true rfl) ⟨rfl, rfl⟩ (by decide) ⟨by show _ ≤ 621632; omega, by show _ ≤ 7236801; omega⟩ dL_law_609 ?_
    intro r2 Y2 hp2
    obtain ⟨e2, σ2, τ2, rfl, rfl, hJ2⟩ := W_take hJ hp1 hp2
    refine r_icmp_ne (pc := 612) C (tgt := 619) dL_law_612 (by decide) (fun h => absurd e2.symm h) (fun _ => ?_)
    refine r_iconst (pc := 615) C (v := 1) dL_law_615 (by decide) ?_
    refine r_goto (pc := 616) C (tgt := 620) dL_law_616 (by decide) ?_
    refine r_istore6 (pc := 620) C dL_law_620 ?_
    refine r_goto (pc := 622) C (tgt := 1037) dL_law_622 (by decide) ?_
    exact r_wid (k := cells + 240) (z := slots + 2400) (by omega) (by omega) (next T1 ad1 _ T2 ad2 _ _ _ _ _ _ _ _ _ hT1 hT2 hJ2 hO)
set_option maxRecDepth 100000 in
set_option maxHeartbeats 4000000 in
theorem lk_tender (C : CX D A RL code 15 ret tb p s m args meth c) (hNC : NC s) (hfl : l.stackTraces = false) (hT1 : TG nr ng T1) (hT2 : TG nr ng T2) (hJ : J nr ng 3 nb C0 π σ τ) (hO : ∀ k, k < ng → h k = nI (π k)) (hv : v < 2 ^ 30) (hc : cells + 240 ≤ 621632 ∧ slots + 2400 ≤ 7236801) {x8 x10 x13 x14 : Option Value} (next : ∀ (T3 : List Nat) (ad3 : Nat → Nat) (σ3 : Mm) (T4 : List Nat) (ad4 : Nat → Nat) (τ3 : Mm) (h3 : Nat → Int32) (nr3 ng3 nb3 : Nat) (C3 : Nat → Prop) (π3 : Nat → Nat) (x13 x14 : Option Value), TG nr3 ng3 T3 → TG nr3 ng3 T4 → J nr3 ng3 3 nb3 C3 π3 σ3 τ3 → (∀ k, k < ng3 → h3 k = nI (π3 k)) → V D A 15 (WJ D T3 ad3 σ3 T4 ad4 τ3 ax h3) p l e room_1 s m args below meth c (cells + 240) (slots + 2400) Q 1037 [some (.ref b), some (.ref (ad3 0)), some (.ref (ad4 0)), some (.ref ax), some (.int (nI nr3)), some (.int (nI ng3)), some (.int 1), some (.int (nI k)), x8, some (.int (nI v)), x10, some (.int (nI i)), some (.int (nI q)), x13, x14] []) : V D A 15 (WJ D T1 ad1 σ T2 ad2 τ ax h) p l e room_1 s m args below meth c cells slots Q 632 [some (.ref b), some (.ref (ad1 0)), some (.ref (ad2 0)), some (.ref ax), some (.int (nI nr)), some (.int (nI ng)), some (.int 1), some (.int (nI k)), x8, some (.int (nI v)), x10, some (.int (nI i)), some (.int (nI q)), x13, x14] [] := by
  obtain ⟨hc1, hc2⟩ := hc
  have hnr14 := hJ.2.2.2.2.2.2
  have hng56 := hJ.ng56
  refine r_aload1 (pc := 632) C dL_law_632 ?_
  refine r_iload11 (pc := 633) C dL_law_633 ?_
  refine r_iload9 (pc := 635) C dL_law_635 ?_
  refine r_bipush (pc := 637) C (v := nI 16) dL_law_637 (by decide) ?_
  refine r_idiv (pc := 639) C dL_law_639 (by decide) ?_
  rw [pk_div (a := v) (d := 16) (by omega) (by decide) (by decide)]
  refine r_sipush (pc := 640) C (v := nI 300) dL_law_640 (by decide) ?_
  refine r_irem (pc := 643) C dL_law_643 (by decide) ?_
  rw [pk_rem (a := (v / 16)) (d := 300) (by omega) (by decide) (by decide)]
  refine r_callW1 (pc := 644) C hNC (c_L_tenders l D T1 ad1 σ hT1 (nI i) (nI ((v / 16) % 300)) (c_X5_tender l D hfl T1 ad1 σ hT1 hJ.ic (nI i) (nI ((v / 16) % 300))) heIAS) ml_RL_117 st_L_tenders ini_L cdW_L_tenders hd_RL_117 rfl rfl (Nat.le_of_ble_eq_true rfl) ⟨rfl, rfl⟩ (by decide) ⟨by show _ ≤ 621632; omega, by show _ ≤ 7236801; omega⟩ dL_law_644 ?_
  intro r1 Y1 hp1
  refine r_aload2 (pc := 647) C dL_law_647 ?_
  refine r_iload11 (pc := 648) C dL_law_648 ?_
  refine r_iload9 (pc := 650) C dL_law_650 ?_
  refine r_bipush (pc := 652) C (v := nI 16) dL_law_652 (by decide) ?_
  refine r_idiv (pc := 654) C dL_law_654 (by decide) ?_
  rw [pk_div (a := v) (d := 16) (by omega) (by decide) (by decide)]
  refine r_sipush (pc := 655) C (v := nI 300) dL_law_655 (by decide) ?_
  refine r_irem (pc := 658) C dL_law_658 (by decide) ?_
  rw [pk_rem (a := (v / 16)) (d := 300) (by omega) (by decide) (by decide)]
  refine r_callW2 (pc := 659) C hNC (c_L_tenders l D T2 ad2 τ hT2 (nI i) (nI ((v / 16) % 300)) (c_X5_tender l D hfl T2 ad2 τ hT2 hJ.ic2 (nI i) (nI ((v / 16) % 300))) heIAS) ml_RL_117 st_L_tenders ini_L cdW_L_tenders hd_RL_117 rfl rfl (Nat.le_of_ble_eq_true rfl) ⟨rfl, rfl⟩ (by decide) ⟨by show _ ≤ 621632; omega, by show _ ≤ 7236801; omega⟩ dL_law_659 ?_
  intro r2 Y2 hp2
  obtain ⟨e2, σ2, τ2, rfl, rfl, hJ2⟩ := W_tender hJ hp1 hp2
  refine r_icmp_ne (pc := 662) C (tgt := 710) dL_law_662 (by decide) (fun h => absurd e2.symm h) (fun _ => ?_)
  refine r_aload1 (pc := 665) C dL_law_665 ?_
  refine r_iconst (pc := 666) C (v := 4) dL_law_666 (by decide) ?_
  refine r_iload9 (pc := 667) C dL_law_667 ?_
  refine r_iconst (pc := 669) C (v := nI 5) dL_law_669 (by decide) ?_
  refine r_irem (pc := 670) C dL_law_670 (by decide) ?_
  rw [pk_rem (a := v) (d := 5) (by omega) (by decide) (by decide)]
  refine r_iconst (pc := 671) C (v := nI 1) dL_law_671 (by decide) ?_
  refine r_iload9 (pc := 672) C dL_law_672 ?_
  refine r_iconst (pc := 674) C (v := nI 5) dL_law_674 (by decide) ?_
  refine r_idiv (pc := 675) C dL_law_675 (by decide) ?_
  rw [pk_div (a := v) (d := 5) (by omega) (by decide) (by decide)]
  refine r_sipush (pc := 676) C (v := nI 400) dL_law_676 (by decide) ?_
  refine r_irem (pc := 679) C dL_law_679 (by decide) ?_
  rw [pk_rem (a := (v / 5)) (d := 400) (by omega) (by decide) (by decide)]
  refine r_iadd (pc := 680) C dL_law_680 ?_
  rw [nI_add (1) (((v / 5) % 400))]
  refine r_callW1 (pc := 681) C hNC (c_L_does_4 l D T1 ad1 σ2 hT1 (nI (v % 5)) (nI (1 + ((v / 5) % 400))) (c_X5_bid l D hfl T1 ad1 σ2 hT1 hJ2.ic (nI (v % 5)) (nI (1 + ((v / 5) % 400)))) heIAS) ml_RL_98 st_L_does ini_L cdW_L_does hd_RL_98 rfl rfl (Nat.le_of_ble_eq_true rfl) ⟨rfl, rfl⟩ (by decide) ⟨by show _ ≤ 621632; omega, by show _ ≤ 7236801; omega⟩ dL_law_681 ?_
  intro r3 Y3 hp3
  refine r_aload2 (pc := 684) C dL_law_684 ?_
  refine r_iconst (pc := 685) C (v := 4) dL_law_685 (by decide) ?_
  refine r_iload9 (pc := 686) C dL_law_686 ?_
  refine r_iconst (pc := 688) C (v := nI 5) dL_law_688 (by decide) ?_
  refine r_irem (pc := 689) C dL_law_689 (by decide) ?_
  rw [pk_rem (a := v) (d := 5) (by omega) (by decide) (by decide)]
  refine r_iconst (pc := 690) C (v := nI 1) dL_law_690 (by decide) ?_
  refine r_iload9 (pc := 691) C dL_law_691 ?_
  refine r_iconst (pc := 693) C (v := nI 5) dL_law_693 (by decide) ?_
  refine r_idiv (pc := 694) C dL_law_694 (by decide) ?_
  rw [pk_div (a := v) (d := 5) (by omega) (by decide) (by decide)]
  refine r_sipush (pc := 695) C (v := nI 400) dL_law_695 (by decide) ?_
  refine r_irem (pc := 698) C dL_law_698 (by decide) ?_
  rw [pk_rem (a := (v / 5)) (d := 400) (by omega) (by decide) (by decide)]
  refine r_iadd (pc := 699) C dL_law_699 ?_
  rw [nI_add (1) (((v / 5) % 400))]
  refine r_callW2 (pc := 700) C hNC (c_L_does_4 l D T2 ad2 τ2 hT2 (nI (v % 5)) (nI (1 + ((v / 5) % 400))) (c_X5_bid l D hfl T2 ad2 τ2 hT2 hJ2.ic2 (nI (v % 5)) (nI (1 + ((v / 5) % 400)))) heIAS) ml_RL_98 st_L_does ini_L cdW_L_does hd_RL_98 rfl rfl (Nat.le_of_ble_eq_true rfl) ⟨rfl, rfl⟩ (by decide) ⟨by show _ ≤ 621632; omega, by show _ ≤ 7236801; omega⟩ dL_law_700 ?_
  intro r4 Y4 hp4
  obtain ⟨e4, σ4, τ4, rfl, rfl, hJ4⟩ := W_bid hJ2 hp3 hp4
  refine r_icmp_ne (pc := 703) C (tgt := 710) dL_law_703 (by decide) (fun h => absurd e4.symm h) (fun _ => ?_)
  refine r_iconst (pc := 706) C (v := 1) dL_law_706 (by decide) ?_
  refine r_goto (pc := 707) C (tgt := 711) dL_law_707 (by decide) ?_
  refine r_istore6 (pc := 711) C dL_law_711 ?_
  refine r_goto (pc := 713) C (tgt := 1037) dL_law_713 (by decide) ?_
  exact r_wid (k := cells + 240) (z := slots + 2400) (by omega) (by omega) (next T1 ad1 _ T2 ad2 _ _ _ _ _ _ _ _ _ hT1 hT2 hJ4 hO)
set_option maxRecDepth 100000 in
set_option maxHeartbeats 4000000 in
theorem lk_bid (C : CX D A RL code 15 ret tb p s m args meth c) (hNC : NC s) (hfl : l.stackTraces = false) (hT1 : TG nr ng T1) (hT2 : TG nr ng T2) (hJ : J nr ng 3 nb C0 π σ τ) (hO : ∀ k, k < ng → h k = nI (π k)) (hv : v < 2 ^ 30) (hc : cells + 240 ≤ 621632 ∧ slots + 2400 ≤ 7236801) {x8 x10 x13 x14 : Option Value} (next : ∀ (T3 : List Nat) (ad3 : Nat → Nat) (σ3 : Mm) (T4 : List Nat) (ad4 : Nat → Nat) (τ3 : Mm) (h3 : Nat → Int32) (nr3 ng3 nb3 : Nat) (C3 : Nat → Prop) (π3 : Nat → Nat) (x13 x14 : Option Value), TG nr3 ng3 T3 → TG nr3 ng3 T4 → J nr3 ng3 3 nb3 C3 π3 σ3 τ3 → (∀ k, k < ng3 → h3 k = nI (π3 k)) → V D A 15 (WJ D T3 ad3 σ3 T4 ad4 τ3 ax h3) p l e room_1 s m args below meth c (cells + 240) (slots + 2400) Q 1037 [some (.ref b), some (.ref (ad3 0)), some (.ref (ad4 0)), some (.ref ax), some (.int (nI nr3)), some (.int (nI ng3)), some (.int 1), some (.int (nI k)), x8, some (.int (nI v)), x10, some (.int (nI i)), some (.int (nI q)), x13, x14] []) : V D A 15 (WJ D T1 ad1 σ T2 ad2 τ ax h) p l e room_1 s m args below meth c cells slots Q 723 [some (.ref b), some (.ref (ad1 0)), some (.ref (ad2 0)), some (.ref ax), some (.int (nI nr)), some (.int (nI ng)), some (.int 1), some (.int (nI k)), x8, some (.int (nI v)), x10, some (.int (nI i)), some (.int (nI q)), x13, x14] [] := by
  obtain ⟨hc1, hc2⟩ := hc
  have hnr14 := hJ.2.2.2.2.2.2
  have hng56 := hJ.ng56
  refine r_aload1 (pc := 723) C dL_law_723 ?_
  refine r_iconst (pc := 724) C (v := 4) dL_law_724 (by decide) ?_
  refine r_iload9 (pc := 725) C dL_law_725 ?_
  refine r_iconst (pc := 727) C (v := nI 5) dL_law_727 (by decide) ?_
  refine r_irem (pc := 728) C dL_law_728 (by decide) ?_
  rw [pk_rem (a := v) (d := 5) (by omega) (by decide) (by decide)]
  refine r_iconst (pc := 729) C (v := nI 1) dL_law_729 (by decide) ?_
  refine r_iload9 (pc := 730) C dL_law_730 ?_
  refine r_iconst (pc := 732) C (v := nI 5) dL_law_732 (by decide) ?_
  refine r_idiv (pc := 733) C dL_law_733 (by decide) ?_
  rw [pk_div (a := v) (d := 5) (by omega) (by decide) (by decide)]
  refine r_sipush (pc := 734) C (v := nI 400) dL_law_734 (by decide) ?_
  refine r_irem (pc := 737) C dL_law_737 (by decide) ?_
  rw [pk_rem (a := (v / 5)) (d := 400) (by omega) (by decide) (by decide)]
  refine r_iadd (pc := 738) C dL_law_738 ?_
  rw [nI_add (1) (((v / 5) % 400))]
  refine r_callW1 (pc := 739) C hNC (c_L_does_4 l D T1 ad1 σ hT1 (nI (v % 5)) (nI (1 + ((v / 5) % 400))) (c_X5_bid l D hfl T1 ad1 σ hT1 hJ.ic (nI (v % 5)) (nI (1 + ((v / 5) % 400)))) heIAS) ml_RL_98 st_L_does ini_L cdW_L_does hd_RL_98 rfl rfl (Nat.le_of_ble_eq_true rfl) ⟨rfl, rfl⟩ (by decide) ⟨by show _ ≤ 621632; omega, by show _ ≤ 7236801; omega⟩ dL_law_739 ?_
  intro r1 Y1 hp1
  refine r_aload2 (pc := 742) C dL_law_742 ?_
  refine r_iconst (pc := 743) C (v := 4) dL_law_743 (by decide) ?_
  refine r_iload9 (pc := 744) C dL_law_744 ?_
  refine r_iconst (pc := 746) C (v := nI 5) dL_law_746 (by decide) ?_
  refine r_irem (pc := 747) C dL_law_747 (by decide) ?_
  rw [pk_rem (a := v) (d := 5) (by omega) (by decide) (by decide)]
  refine r_iconst (pc := 748) C (v := nI 1) dL_law_748 (by decide) ?_
  refine r_iload9 (pc := 749) C dL_law_749 ?_
  refine r_iconst (pc := 751) C (v := nI 5) dL_law_751 (by decide) ?_
  refine r_idiv (pc := 752) C dL_law_752 (by decide) ?_
  rw [pk_div (a := v) (d := 5) (by omega) (by decide) (by decide)]
  refine r_sipush (pc := 753) C (v := nI 400) dL_law_753 (by decide) ?_
  refine r_irem (pc := 756) C dL_law_756 (by decide) ?_
  rw [pk_rem (a := (v / 5)) (d := 400) (by omega) (by decide) (by decide)]
  refine r_iadd (pc := 757) C dL_law_757 ?_
  rw [nI_add (1) (((v / 5) % 400))]
  refine r_callW2 (pc := 758) C hNC (c_L_does_4 l D T2 ad2 τ hT2 (nI (v % 5)) (nI (1 + ((v / 5) % 400))) (c_X5_bid l D hfl T2 ad2 τ hT2 hJ.ic2 (nI (v % 5)) (nI (1 + ((v / 5) % 400)))) heIAS) ml_RL_98 st_L_does ini_L cdW_L_does hd_RL_98 rfl rfl (Nat.le_of_ble_eq_true rfl) ⟨rfl, rfl⟩ (by decide) ⟨by show _ ≤ 621632; omega, by show _ ≤ 7236801; omega⟩ dL_law_758 ?_
  intro r2 Y2 hp2
  obtain ⟨e2, σ2, τ2, rfl, rfl, hJ2⟩ := W_bid hJ hp1 hp2
  refine r_icmp_ne (pc := 761) C (tgt := 792) dL_law_761 (by decide) (fun h => absurd e2.symm h) (fun _ => ?_)
  refine r_iload9 (pc := 764) C dL_law_764 ?_
  refine r_iconst (pc := 766) C (v := nI 3) dL_law_766 (by decide) ?_
  refine r_irem (pc := 767) C dL_law_767 (by decide) ?_
  rw [pk_rem (a := v) (d := 3) (by omega) (by decide) (by decide)]
  refine r_if_gt (pc := 768) C (tgt := 788) dL_law_768 (by decide) (fun c1 => ?_) (fun c1 => ?_)
  · refine r_iconst (pc := 788) C (v := 1) dL_law_788 (by decide) ?_
    refine r_goto (pc := 789) C (tgt := 793) dL_law_789 (by decide) ?_
    refine r_istore6 (pc := 793) C dL_law_793 ?_
    refine r_goto (pc := 795) C (tgt := 1037) dL_law_795 (by decide) ?_
    exact r_wid (k := cells + 240) (z := slots + 2400) (by omega) (by omega) (next T1 ad1 _ T2 ad2 _ _ _ _ _ _ _ _ _ hT1 hT2 hJ2 hO)
  · refine r_aload1 (pc := 771) C dL_law_771 ?_
    refine r_iconst (pc := 772) C (v := 5) dL_law_772 (by decide) ?_
    refine r_iconst (pc := 773) C (v := nI 0) dL_law_773 (by decide) ?_
    refine r_iconst (pc := 774) C (v := nI 0) dL_law_774 (by decide) ?_
    refine r_callW1 (pc := 775) C hNC (c_L_does_5 l D T1 ad1 σ2 hT1 (nI 0) (nI 0) (c_X5_close l D hfl T1 ad1 σ2 hT1 hJ2.ic ) heS3) ml_RL_98 st_L_does ini_L cdW_L_does hd_RL_98 rfl rfl (Nat.le_of_ble_eq_true rfl) ⟨rfl, rfl⟩ (by decide) ⟨by show _ ≤ 621632; omega, by show _ ≤ 7236801; omega⟩ dL_law_775 ?_
    intro r3 Y3 hp3
    refine r_aload2 (pc := 778) C dL_law_778 ?_
    refine r_iconst (pc := 779) C (v := 5) dL_law_779 (by decide) ?_
    refine r_iconst (pc := 780) C (v := nI 0) dL_law_780 (by decide) ?_
    refine r_iconst (pc := 781) C (v := nI 0) dL_law_781 (by decide) ?_
    refine r_callW2 (pc := 782) C hNC (c_L_does_5 l D T2 ad2 τ2 hT2 (nI 0) (nI 0) (c_X5_close l D hfl T2 ad2 τ2 hT2 hJ2.ic2 ) heS3) ml_RL_98 st_L_does ini_L cdW_L_does hd_RL_98 rfl rfl (Nat.le_of_ble_eq_true rfl) ⟨rfl, rfl⟩ (by decide) ⟨by show _ ≤ 621632; omega, by show _ ≤ 7236801; omega⟩ dL_law_782 ?_
    intro r4 Y4 hp4
    obtain ⟨e4, σ4, τ4, rfl, rfl, hJ4⟩ := W_close hJ2 hp3 hp4
    refine r_icmp_ne (pc := 785) C (tgt := 792) dL_law_785 (by decide) (fun h => absurd e4.symm h) (fun _ => ?_)
    refine r_iconst (pc := 788) C (v := 1) dL_law_788 (by decide) ?_
    refine r_goto (pc := 789) C (tgt := 793) dL_law_789 (by decide) ?_
    refine r_istore6 (pc := 793) C dL_law_793 ?_
    refine r_goto (pc := 795) C (tgt := 1037) dL_law_795 (by decide) ?_
    exact r_wid (k := cells + 240) (z := slots + 2400) (by omega) (by omega) (next T1 ad1 _ T2 ad2 _ _ _ _ _ _ _ _ _ hT1 hT2 hJ4 hO)
set_option maxRecDepth 100000 in
set_option maxHeartbeats 4000000 in
theorem lk_look (C : CX D A RL code 15 ret tb p s m args meth c) (hNC : NC s) (hfl : l.stackTraces = false) (hT1 : TG nr ng T1) (hT2 : TG nr ng T2) (hJ : J nr ng 3 nb C0 π σ τ) (hO : ∀ k, k < ng → h k = nI (π k)) (hv : v < 2 ^ 30) (hc : cells + 240 ≤ 621632 ∧ slots + 2400 ≤ 7236801) {x8 x10 x13 x14 : Option Value} (hq : q < ng) (next : ∀ (T3 : List Nat) (ad3 : Nat → Nat) (σ3 : Mm) (T4 : List Nat) (ad4 : Nat → Nat) (τ3 : Mm) (h3 : Nat → Int32) (nr3 ng3 nb3 : Nat) (C3 : Nat → Prop) (π3 : Nat → Nat) (x13 x14 : Option Value), TG nr3 ng3 T3 → TG nr3 ng3 T4 → J nr3 ng3 3 nb3 C3 π3 σ3 τ3 → (∀ k, k < ng3 → h3 k = nI (π3 k)) → V D A 15 (WJ D T3 ad3 σ3 T4 ad4 τ3 ax h3) p l e room_1 s m args below meth c (cells + 240) (slots + 2400) Q 1037 [some (.ref b), some (.ref (ad3 0)), some (.ref (ad4 0)), some (.ref ax), some (.int (nI nr3)), some (.int (nI ng3)), some (.int 1), some (.int (nI k)), x8, some (.int (nI v)), x10, some (.int (nI i)), some (.int (nI q)), x13, x14] []) : V D A 15 (WJ D T1 ad1 σ T2 ad2 τ ax h) p l e room_1 s m args below meth c cells slots Q 901 [some (.ref b), some (.ref (ad1 0)), some (.ref (ad2 0)), some (.ref ax), some (.int (nI nr)), some (.int (nI ng)), some (.int 1), some (.int (nI k)), x8, some (.int (nI v)), x10, some (.int (nI i)), some (.int (nI q)), x13, x14] [] := by
  obtain ⟨hc1, hc2⟩ := hc
  have hnr14 := hJ.2.2.2.2.2.2
  have hng56 := hJ.ng56
  refine r_iconst (pc := 901) C (v := nI 1) dL_law_901 (by decide) ?_
  refine r_iload9 (pc := 902) C dL_law_902 ?_
  refine r_bipush (pc := 904) C (v := nI 64) dL_law_904 (by decide) ?_
  refine r_idiv (pc := 906) C dL_law_906 (by decide) ?_
  rw [pk_div (a := v) (d := 64) (by omega) (by decide) (by decide)]
  refine r_bipush (pc := 907) C (v := nI 90) dL_law_907 (by decide) ?_
  refine r_irem (pc := 909) C dL_law_909 (by decide) ?_
  rw [pk_rem (a := (v / 64)) (d := 90) (by omega) (by decide) (by decide)]
  refine r_iadd (pc := 910) C dL_law_910 ?_
  rw [nI_add (1) (((v / 64) % 90))]
  refine r_istore13 (pc := 911) C dL_law_911 ?_
  refine r_aload1 (pc := 913) C dL_law_913 ?_
  refine r_bipush (pc := 914) C (v := 11) dL_law_914 (by decide) ?_
  refine r_iload9 (pc := 916) C dL_law_916 ?_
  refine r_bipush (pc := 918) C (v := nI 64) dL_law_918 (by decide) ?_
  refine r_idiv (pc := 920) C dL_law_920 (by decide) ?_
  rw [pk_div (a := v) (d := 64) (by omega) (by decide) (by decide)]
  refine r_iconst (pc := 921) C (v := nI 3) dL_law_921 (by decide) ?_
  refine r_irem (pc := 922) C dL_law_922 (by decide) ?_
  rw [pk_rem (a := (v / 64)) (d := 3) (by omega) (by decide) (by decide)]
  refine r_iload12 (pc := 923) C dL_law_923 ?_
  refine r_callW1 (pc := 925) C hNC (c_L_does_11 l D T1 ad1 σ hT1 (nI ((v / 64) % 3)) (nI q) (c_X5_look l D hfl T1 ad1 σ hT1 hJ.ic (nI ((v / 64) % 3)) (nI q)) heIS3) ml_RL_98 st_L_does ini_L cdW_L_does hd_RL_98 rfl rfl (Nat.le_of_ble_eq_true rfl) ⟨rfl, rfl⟩ (by decide) ⟨by show _ ≤ 621632; omega, by show _ ≤ 7236801; omega⟩ dL_law_925 ?_
  intro r1 Y1 hp1
  refine r_aload2 (pc := 928) C dL_law_928 ?_
  refine r_bipush (pc := 929) C (v := 11) dL_law_929 (by decide) ?_
  refine r_iload9 (pc := 931) C dL_law_931 ?_
  refine r_bipush (pc := 933) C (v := nI 64) dL_law_933 (by decide) ?_
  refine r_idiv (pc := 935) C dL_law_935 (by decide) ?_
  rw [pk_div (a := v) (d := 64) (by omega) (by decide) (by decide)]
  refine r_iconst (pc := 936) C (v := nI 3) dL_law_936 (by decide) ?_
  refine r_irem (pc := 937) C dL_law_937 (by decide) ?_
  rw [pk_rem (a := (v / 64)) (d := 3) (by omega) (by decide) (by decide)]
  refine r_aload3 (pc := 938) C dL_law_938 ?_
  refine r_iload12 (pc := 939) C dL_law_939 ?_
  refine r_old (pc := 941) C (h := h) (k := q) rfl (by omega) (by decide) dL_law_941 ?_
  rw [hO q hq]
  refine r_callW2 (pc := 942) C hNC (c_L_does_11 l D T2 ad2 τ hT2 (nI ((v / 64) % 3)) (nI (π q)) (c_X5_look l D hfl T2 ad2 τ hT2 hJ.ic2 (nI ((v / 64) % 3)) (nI (π q))) heIS3) ml_RL_98 st_L_does ini_L cdW_L_does hd_RL_98 rfl rfl (Nat.le_of_ble_eq_true rfl) ⟨rfl, rfl⟩ (by decide) ⟨by show _ ≤ 621632; omega, by show _ ≤ 7236801; omega⟩ dL_law_942 ?_
  intro r2 Y2 hp2
  obtain ⟨e2, σ2, τ2, rfl, rfl, hJ2⟩ := W_look hJ hq hp1 hp2
  refine r_icmp_ne (pc := 945) C (tgt := 984) dL_law_945 (by decide) (fun h => absurd e2.symm h) (fun _ => ?_)
  refine r_iload9 (pc := 948) C dL_law_948 ?_
  refine r_iconst (pc := 950) C (v := nI 5) dL_law_950 (by decide) ?_
  refine r_irem (pc := 951) C dL_law_951 (by decide) ?_
  rw [pk_rem (a := v) (d := 5) (by omega) (by decide) (by decide)]
  refine r_if_gt (pc := 952) C (tgt := 980) dL_law_952 (by decide) (fun c1 => ?_) (fun c1 => ?_)
  · refine r_iconst (pc := 980) C (v := 1) dL_law_980 (by decide) ?_
    refine r_goto (pc := 981) C (tgt := 985) dL_law_981 (by decide) ?_
    refine r_istore6 (pc := 985) C dL_law_985 ?_
    refine r_goto (pc := 987) C (tgt := 1037) dL_law_987 (by decide) ?_
    exact r_wid (k := cells + 240) (z := slots + 2400) (by omega) (by omega) (next T1 ad1 _ T2 ad2 _ _ _ _ _ _ _ _ _ hT1 hT2 hJ2 hO)
  · refine r_aload1 (pc := 955) C dL_law_955 ?_
    refine r_bipush (pc := 956) C (v := 9) dL_law_956 (by decide) ?_
    refine r_iload12 (pc := 958) C dL_law_958 ?_
    refine r_iload13 (pc := 960) C dL_law_960 ?_
    refine r_callW1 (pc := 962) C hNC (c_L_does_9 l D T1 ad1 σ2 hT1 (nI q) (nI (1 + ((v / 64) % 90))) (c_X5_recut l D hfl T1 ad1 σ2 hT1 hJ2.ic (nI q) (nI (1 + ((v / 64) % 90)))) heIA3) ml_RL_98 st_L_does ini_L cdW_L_does hd_RL_98 rfl rfl (Nat.le_of_ble_eq_true rfl) ⟨rfl, rfl⟩ (by decide) ⟨by show _ ≤ 621632; omega, by show _ ≤ 7236801; omega⟩ dL_law_962 ?_
    intro r3 Y3 hp3
    refine r_aload2 (pc := 965) C dL_law_965 ?_
    refine r_bipush (pc := 966) C (v := 9) dL_law_966 (by decide) ?_
    refine r_aload3 (pc := 968) C dL_law_968 ?_
    refine r_iload12 (pc := 969) C dL_law_969 ?_
    refine r_old (pc := 971) C (h := h) (k := q) rfl (by omega) (by decide) dL_law_971 ?_
    rw [hO q hq]
    refine r_iload13 (pc := 972) C dL_law_972 ?_
    refine r_callW2 (pc := 974) C hNC (c_L_does_9 l D T2 ad2 τ2 hT2 (nI (π q)) (nI (1 + ((v / 64) % 90))) (c_X5_recut l D hfl T2 ad2 τ2 hT2 hJ2.ic2 (nI (π q)) (nI (1 + ((v / 64) % 90)))) heIA3) ml_RL_98 st_L_does ini_L cdW_L_does hd_RL_98 rfl rfl (Nat.le_of_ble_eq_true rfl) ⟨rfl, rfl⟩ (by decide) ⟨by show _ ≤ 621632; omega, by show _ ≤ 7236801; omega⟩ dL_law_974 ?_
    intro r4 Y4 hp4
    obtain ⟨e4, σ4, τ4, rfl, rfl, hJ4⟩ := W_recut hJ2 hq hp3 hp4
    refine r_icmp_ne (pc := 977) C (tgt := 984) dL_law_977 (by decide) (fun h => absurd e4.symm h) (fun _ => ?_)
    refine r_iconst (pc := 980) C (v := 1) dL_law_980 (by decide) ?_
    refine r_goto (pc := 981) C (tgt := 985) dL_law_981 (by decide) ?_
    refine r_istore6 (pc := 985) C dL_law_985 ?_
    refine r_goto (pc := 987) C (tgt := 1037) dL_law_987 (by decide) ?_
    exact r_wid (k := cells + 240) (z := slots + 2400) (by omega) (by omega) (next T1 ad1 _ T2 ad2 _ _ _ _ _ _ _ _ _ hT1 hT2 hJ4 hO)
set_option maxRecDepth 100000 in
set_option maxHeartbeats 4000000 in
theorem lk_paper (C : CX D A RL code 15 ret tb p s m args meth c) (hNC : NC s) (hfl : l.stackTraces = false) (hT1 : TG nr ng T1) (hT2 : TG nr ng T2) (hJ : J nr ng 3 nb C0 π σ τ) (hO : ∀ k, k < ng → h k = nI (π k)) (hv : v < 2 ^ 30) (hc : cells + 240 ≤ 621632 ∧ slots + 2400 ≤ 7236801) {x8 x10 x13 x14 : Option Value} (hq : q < ng) (next : ∀ (T3 : List Nat) (ad3 : Nat → Nat) (σ3 : Mm) (T4 : List Nat) (ad4 : Nat → Nat) (τ3 : Mm) (h3 : Nat → Int32) (nr3 ng3 nb3 : Nat) (C3 : Nat → Prop) (π3 : Nat → Nat) (x13 x14 : Option Value), TG nr3 ng3 T3 → TG nr3 ng3 T4 → J nr3 ng3 3 nb3 C3 π3 σ3 τ3 → (∀ k, k < ng3 → h3 k = nI (π3 k)) → V D A 15 (WJ D T3 ad3 σ3 T4 ad4 τ3 ax h3) p l e room_1 s m args below meth c (cells + 240) (slots + 2400) Q 1037 [some (.ref b), some (.ref (ad3 0)), some (.ref (ad4 0)), some (.ref ax), some (.int (nI nr3)), some (.int (nI ng3)), some (.int 1), some (.int (nI k)), x8, some (.int (nI v)), x10, some (.int (nI i)), some (.int (nI q)), x13, x14] []) : V D A 15 (WJ D T1 ad1 σ T2 ad2 τ ax h) p l e room_1 s m args below meth c cells slots Q 995 [some (.ref b), some (.ref (ad1 0)), some (.ref (ad2 0)), some (.ref ax), some (.int (nI nr)), some (.int (nI ng)), some (.int 1), some (.int (nI k)), x8, some (.int (nI v)), x10, some (.int (nI i)), some (.int (nI q)), x13, x14] [] := by
  obtain ⟨hc1, hc2⟩ := hc
  have hnr14 := hJ.2.2.2.2.2.2
  have hng56 := hJ.ng56
  refine r_aload1 (pc := 995) C dL_law_995 ?_
  refine r_bipush (pc := 996) C (v := 12) dL_law_996 (by decide) ?_
  refine r_iload12 (pc := 998) C dL_law_998 ?_
  refine r_iload9 (pc := 1000) C dL_law_1000 ?_
  refine r_bipush (pc := 1002) C (v := nI 64) dL_law_1002 (by decide) ?_
  refine r_idiv (pc := 1004) C dL_law_1004 (by decide) ?_
  rw [pk_div (a := v) (d := 64) (by omega) (by decide) (by decide)]
  refine r_iconst (pc := 1005) C (v := nI 4) dL_law_1005 (by decide) ?_
  refine r_irem (pc := 1006) C dL_law_1006 (by decide) ?_
  rw [pk_rem (a := (v / 64)) (d := 4) (by omega) (by decide) (by decide)]
  refine r_callW1 (pc := 1007) C hNC (c_L_does_12 l D T1 ad1 σ hT1 (nI q) (nI ((v / 64) % 4)) (c_X5_paper l D hfl T1 ad1 σ hT1 hJ.ic (nI q) (nI ((v / 64) % 4))) heIS3) ml_RL_98 st_L_does ini_L cdW_L_does hd_RL_98 rfl rfl (Nat.le_of_ble_eq_true rfl) ⟨rfl, rfl⟩ (by decide) ⟨by show _ ≤ 621632; omega, by show _ ≤ 7236801; omega⟩ dL_law_1007 ?_
  intro r1 Y1 hp1
  refine r_aload2 (pc := 1010) C dL_law_1010 ?_
  refine r_bipush (pc := 1011) C (v := 12) dL_law_1011 (by decide) ?_
  refine r_aload3 (pc := 1013) C dL_law_1013 ?_
  refine r_iload12 (pc := 1014) C dL_law_1014 ?_
  refine r_old (pc := 1016) C (h := h) (k := q) rfl (by omega) (by decide) dL_law_1016 ?_
  rw [hO q hq]
  refine r_iload9 (pc := 1017) C dL_law_1017 ?_
  refine r_bipush (pc := 1019) C (v := nI 64) dL_law_1019 (by decide) ?_
  refine r_idiv (pc := 1021) C dL_law_1021 (by decide) ?_
  rw [pk_div (a := v) (d := 64) (by omega) (by decide) (by decide)]
  refine r_iconst (pc := 1022) C (v := nI 4) dL_law_1022 (by decide) ?_
  refine r_irem (pc := 1023) C dL_law_1023 (by decide) ?_
  rw [pk_rem (a := (v / 64)) (d := 4) (by omega) (by decide) (by decide)]
  refine r_callW2 (pc := 1024) C hNC (c_L_does_12 l D T2 ad2 τ hT2 (nI (π q)) (nI ((v / 64) % 4)) (c_X5_paper l D hfl T2 ad2 τ hT2 hJ.ic2 (nI (π q)) (nI ((v / 64) % 4))) heIS3) ml_RL_98 st_L_does ini_L cdW_L_does hd_RL_98 rfl rfl (Nat.le_of_ble_eq_true rfl) ⟨rfl, rfl⟩ (by decide) ⟨by show _ ≤ 621632; omega, by show _ ≤ 7236801; omega⟩ dL_law_1024 ?_
  intro r2 Y2 hp2
  obtain ⟨e2, σ2, τ2, rfl, rfl, hJ2⟩ := W_paper hJ hq hp1 hp2
  refine r_icmp_ne (pc := 1027) C (tgt := 1034) dL_law_1027 (by decide) (fun h => absurd e2.symm h) (fun _ => ?_)
  refine r_iconst (pc := 1030) C (v := 1) dL_law_1030 (by decide) ?_
  refine r_goto (pc := 1031) C (tgt := 1035) dL_law_1031 (by decide) ?_
  refine r_istore6 (pc := 1035) C dL_law_1035 ?_
  exact r_wid (k := cells + 240) (z := slots + 2400) (by omega) (by omega) (next T1 ad1 _ T2 ad2 _ _ _ _ _ _ _ _ _ hT1 hT2 hJ2 hO)
set_option maxRecDepth 100000 in
set_option maxHeartbeats 4000000 in
theorem lk_stone (C : CX D A RL code 15 ret tb p s m args meth c) (hNC : NC s) (hfl : l.stackTraces = false) (hT1 : TG nr ng T1) (hT2 : TG nr ng T2) (hJ : J nr ng 3 nb C0 π σ τ) (hO : ∀ k, k < ng → h k = nI (π k)) (hv : v < 2 ^ 30) (hc : cells + 240 ≤ 621632 ∧ slots + 2400 ≤ 7236801) {x8 x10 x13 x14 : Option Value} (hn14 : nr < 14) (next : ∀ (T3 : List Nat) (ad3 : Nat → Nat) (σ3 : Mm) (T4 : List Nat) (ad4 : Nat → Nat) (τ3 : Mm) (h3 : Nat → Int32) (nr3 ng3 nb3 : Nat) (C3 : Nat → Prop) (π3 : Nat → Nat) (x13 x14 : Option Value), TG nr3 ng3 T3 → TG nr3 ng3 T4 → J nr3 ng3 3 nb3 C3 π3 σ3 τ3 → (∀ k, k < ng3 → h3 k = nI (π3 k)) → V D A 15 (WJ D T3 ad3 σ3 T4 ad4 τ3 ax h3) p l e room_1 s m args below meth c (cells + 240) (slots + 2400) Q 1037 [some (.ref b), some (.ref (ad3 0)), some (.ref (ad4 0)), some (.ref ax), some (.int (nI nr3)), some (.int (nI ng3)), some (.int 1), some (.int (nI k)), x8, some (.int (nI v)), x10, some (.int (nI i)), some (.int (nI q)), x13, x14] []) : V D A 15 (WJ D T1 ad1 σ T2 ad2 τ ax h) p l e room_1 s m args below meth c cells slots Q 188 [some (.ref b), some (.ref (ad1 0)), some (.ref (ad2 0)), some (.ref ax), some (.int (nI nr)), some (.int (nI ng)), some (.int 1), some (.int (nI k)), x8, some (.int (nI v)), x10, some (.int (nI i)), some (.int (nI q)), x13, x14] [] := by
  obtain ⟨hc1, hc2⟩ := hc
  have hnr14 := hJ.2.2.2.2.2.2
  have hng56 := hJ.ng56
  have hF : ((v / 7 &&& v / 61) % 4096) < 4096 := Nat.mod_lt _ (by decide)
  have hR := (rv_all hF).1
  have h9 : ∀ a : Nat, a < 10 → 0 ≤ nI a ∧ nI a ≤ 9 := fun a ha => y_in (n := 9) (by omega) (by decide)
  have tail : ∀ Wt : Nat, 12 ≤ Wt → Wt ≤ 9999 → V D A 15 (WJ D T1 ad1 σ T2 ad2 τ ax h) p l e room_1 s m args below meth c cells slots Q 239 [some (.ref b), some (.ref (ad1 0)), some (.ref (ad2 0)), some (.ref ax), some (.int (nI nr)), some (.int (nI ng)), some (.int 1), some (.int (nI k)), x8, some (.int (nI v)), x10, some (.int (nI i)), some (.int (nI q)), some (.int (nI ((v / 7 &&& v / 61) % 4096))), some (.int (nI Wt))] [] := by
    intro Wt hw1 hw2
    have hw : 12 ≤ nI Wt ∧ nI Wt ≤ 9999 := ⟨(nI_leI (a := 12) (by decide) (by omega)).mpr hw1, (nI_leI (b := 9999) (by omega) (by decide)).mpr hw2⟩
    have hrg1 : ((12 ≤ nI Wt ∧ nI Wt ≤ 9999) ∧ (0 ≤ nI (v / 5 % 10) ∧ nI (v / 5 % 10) ≤ 9) ∧ (0 ≤ nI (v / 50 % 10) ∧ nI (v / 50 % 10) ≤ 9) ∧ (0 ≤ nI ((v / 7 &&& v / 61) % 4096) ∧ nI ((v / 7 &&& v / 61) % 4096) ≤ 4095)) := ⟨hw, h9 _ (by omega), h9 _ (by omega), y_in (n := 4095) (by omega) (by decide)⟩
    have hrg2 : ((12 ≤ nI Wt ∧ nI Wt ≤ 9999) ∧ (0 ≤ nI (v / 5 % 10) ∧ nI (v / 5 % 10) ≤ 9) ∧ (0 ≤ nI (v / 50 % 10) ∧ nI (v / 50 % 10) ≤ 9) ∧ (0 ≤ nI (rvN ((v / 7 &&& v / 61) % 4096) 12) ∧ nI (rvN ((v / 7 &&& v / 61) % 4096) 12) ≤ 4095)) := ⟨hw, h9 _ (by omega), h9 _ (by omega), y_in (n := 4095) (by omega) (by decide)⟩
    refine r_aload1 (pc := 239) C dL_law_239 ?_
    refine r_iload9 (pc := 240) C dL_law_240 ?_
    refine r_iconst (pc := 242) C (v := nI 3) dL_law_242 (by decide) ?_
    refine r_irem (pc := 243) C dL_law_243 (by decide) ?_
    rw [pk_rem (a := v) (d := 3) (by omega) (by decide) (by decide)]
    refine r_iload14 (pc := 244) C dL_law_244 ?_
    refine r_iload9 (pc := 246) C dL_law_246 ?_
    refine r_iconst (pc := 248) C (v := nI 5) dL_law_248 (by decide) ?_
    refine r_idiv (pc := 249) C dL_law_249 (by decide) ?_
    rw [pk_div (a := v) (d := 5) (by omega) (by decide) (by decide)]
    refine r_bipush (pc := 250) C (v := nI 10) dL_law_250 (by decide) ?_
    refine r_irem (pc := 252) C dL_law_252 (by decide) ?_
    rw [pk_rem (a := (v / 5)) (d := 10) (by omega) (by decide) (by decide)]
    refine r_iload9 (pc := 253) C dL_law_253 ?_
    refine r_bipush (pc := 255) C (v := nI 50) dL_law_255 (by decide) ?_
    refine r_idiv (pc := 257) C dL_law_257 (by decide) ?_
    rw [pk_div (a := v) (d := 50) (by omega) (by decide) (by decide)]
    refine r_bipush (pc := 258) C (v := nI 10) dL_law_258 (by decide) ?_
    refine r_irem (pc := 260) C dL_law_260 (by decide) ?_
    rw [pk_rem (a := (v / 50)) (d := 10) (by omega) (by decide) (by decide)]
    refine r_iload13 (pc := 261) C dL_law_261 ?_
    refine r_callW1 (pc := 263) C hNC (c_L_stone l D T1 ad1 σ hT1 (nI (v % 3)) (nI Wt) (nI ((v / 5) % 10)) (nI ((v / 50) % 10)) (nI ((v / 7 &&& v / 61) % 4096)) (c_X5_stone l D hfl T1 ad1 σ hT1 hJ.ic hJ.hz (nI (v % 3)) (nI Wt) (nI ((v / 5) % 10)) (nI ((v / 50) % 10)) (nI ((v / 7 &&& v / 61) % 4096))) heIAS) ml_RL_106 st_L_stone ini_L cdW_L_stone hd_RL_106 rfl rfl (Nat.le_of_ble_eq_true rfl) ⟨rfl, rfl⟩ (by decide) ⟨by show _ ≤ 621632; omega, by show _ ≤ 7236801; omega⟩ dL_law_263 ?_
    intro r1 Y1 hp1
    obtain ⟨T3, ad3, a1, ha1, ea1, hT3, had3, e1, rfl⟩ := W_stone1 (b0 := v % 3) (by omega) (by decide) (by omega) hrg1 hp1
    refine r_iload4 (pc := 266) C dL_law_266 ?_
    refine r_icmp_ne (pc := 268) C (tgt := 310) dL_law_268 (by decide) (fun h => absurd e1 h) (fun _ => ?_)
    refine r_aload2 (pc := 271) C dL_law_271 ?_
    refine r_iload9 (pc := 272) C dL_law_272 ?_
    refine r_iconst (pc := 274) C (v := nI 3) dL_law_274 (by decide) ?_
    refine r_irem (pc := 275) C dL_law_275 (by decide) ?_
    rw [pk_rem (a := v) (d := 3) (by omega) (by decide) (by decide)]
    refine r_iload14 (pc := 276) C dL_law_276 ?_
    refine r_iload9 (pc := 278) C dL_law_278 ?_
    refine r_iconst (pc := 280) C (v := nI 5) dL_law_280 (by decide) ?_
    refine r_idiv (pc := 281) C dL_law_281 (by decide) ?_
    rw [pk_div (a := v) (d := 5) (by omega) (by decide) (by decide)]
    refine r_bipush (pc := 282) C (v := nI 10) dL_law_282 (by decide) ?_
    refine r_irem (pc := 284) C dL_law_284 (by decide) ?_
    rw [pk_rem (a := (v / 5)) (d := 10) (by omega) (by decide) (by decide)]
    refine r_iload9 (pc := 285) C dL_law_285 ?_
    refine r_bipush (pc := 287) C (v := nI 50) dL_law_287 (by decide) ?_
    refine r_idiv (pc := 289) C dL_law_289 (by decide) ?_
    rw [pk_div (a := v) (d := 50) (by omega) (by decide) (by decide)]
    refine r_bipush (pc := 290) C (v := nI 10) dL_law_290 (by decide) ?_
    refine r_irem (pc := 292) C dL_law_292 (by decide) ?_
    rw [pk_rem (a := (v / 50)) (d := 10) (by omega) (by decide) (by decide)]
    refine r_iload13 (pc := 293) C dL_law_293 ?_
    refine kL_109 (pc := 295) C (c_L_turned l D _ (F := ((v / 7 &&& v / 61) % 4096)) (by omega)) dL_law_295 (Nat.le_of_ble_eq_true rfl) ⟨⟨rfl, rfl⟩, by decide, by show _ ≤ 621632; omega, by show _ ≤ 7236801; omega⟩ ?_
    rintro _ _ ⟨rfl, rfl⟩
    refine r_callW2 (pc := 298) C hNC (c_L_stone l D T2 ad2 τ hT2 (nI (v % 3)) (nI Wt) (nI ((v / 5) % 10)) (nI ((v / 50) % 10)) (nI (rvN ((v / 7 &&& v / 61) % 4096) 12)) (c_X5_stone l D hfl T2 ad2 τ hT2 hJ.ic2 hJ.hz2 (nI (v % 3)) (nI Wt) (nI ((v / 5) % 10)) (nI ((v / 50) % 10)) (nI (rvN ((v / 7 &&& v / 61) % 4096) 12))) heIAS) ml_RL_106 st_L_stone ini_L cdW_L_stone hd_RL_106 rfl rfl (Nat.le_of_ble_eq_true rfl) ⟨rfl, rfl⟩ (by decide) ⟨by show _ ≤ 621632; omega, by show _ ≤ 7236801; omega⟩ dL_law_298 ?_
    intro r2 Y2 hp2
    obtain ⟨T4, ad4, a2, ha2, ea2, hT4, had4, e2, rfl⟩ := W_stone2 (b0 := v % 3) (by omega) (by decide) (by omega) hrg2 hp2
    rw [hJ.2.1 1 (by decide) (by decide), ea1, nI_eq (by omega) (by omega)] at ea2
    subst ea2
    refine r_iload4 (pc := 301) C dL_law_301 ?_
    refine r_icmp_ne (pc := 303) C (tgt := 310) dL_law_303 (by decide) (fun h => absurd e2 h) (fun _ => ?_)
    refine r_iconst (pc := 306) C (v := 1) dL_law_306 (by decide) ?_
    refine r_goto (pc := 307) C (tgt := 311) dL_law_307 (by decide) ?_
    refine r_istore6 (pc := 311) C dL_law_311 ?_
    refine r_iinc4 (pc := 313) C dL_law_313 (nI_1 nr) ?_
    refine r_goto (pc := 316) C (tgt := 1037) dL_law_316 (by decide) ?_
    rw [← had3 0 (hT1.f (by decide)), ← had4 0 (hT2.f (by decide))]
    exact r_wid (k := cells + 240) (z := slots + 2400) (by omega) (by omega) (next T3 ad3 _ T4 ad4 _ _ _ _ _ _ _ _ _ hT3 hT4 (J_stone hJ hn14 hF _ _ _) hO)
  refine r_iload9 (pc := 188) C dL_law_188 ?_
  refine r_bipush (pc := 190) C (v := nI 7) dL_law_190 (by decide) ?_
  refine r_idiv (pc := 192) C dL_law_192 (by decide) ?_
  rw [pk_div (a := v) (d := 7) (by omega) (by decide) (by decide)]
  refine r_iload9 (pc := 193) C dL_law_193 ?_
  refine r_bipush (pc := 195) C (v := nI 61) dL_law_195 (by decide) ?_
  refine r_idiv (pc := 197) C dL_law_197 (by decide) ?_
  rw [pk_div (a := v) (d := 61) (by omega) (by decide) (by decide)]
  refine r_iand (pc := 198) C dL_law_198 ?_
  rw [and_N ((v / 7)) ((v / 61))]
  refine r_sipush (pc := 199) C (v := nI 4096) dL_law_199 (by decide) ?_
  refine r_irem (pc := 202) C dL_law_202 (by decide) ?_
  rw [pk_rem (a := ((v / 7) &&& (v / 61))) (d := 4096) (Nat.lt_of_le_of_lt Nat.and_le_left (by omega)) (by decide) (by decide)]
  refine r_istore13 (pc := 203) C dL_law_203 ?_
  refine r_iload9 (pc := 205) C dL_law_205 ?_
  refine r_iconst (pc := 207) C (v := nI 4) dL_law_207 (by decide) ?_
  refine r_irem (pc := 208) C dL_law_208 (by decide) ?_
  rw [pk_rem (a := v) (d := 4) (by omega) (by decide) (by decide)]
  refine r_if_ne (pc := 209) C (tgt := 226) dL_law_209 (by decide) (fun c1 => ?_) (fun c1 => ?_)
  · refine r_bipush (pc := 226) C (v := nI 12) dL_law_226 (by decide) ?_
    refine r_iload9 (pc := 228) C dL_law_228 ?_
    refine r_iconst (pc := 230) C (v := nI 4) dL_law_230 (by decide) ?_
    refine r_idiv (pc := 231) C dL_law_231 (by decide) ?_
    rw [pk_div (a := v) (d := 4) (by omega) (by decide) (by decide)]
    refine r_sipush (pc := 232) C (v := nI 400) dL_law_232 (by decide) ?_
    refine r_irem (pc := 235) C dL_law_235 (by decide) ?_
    rw [pk_rem (a := (v / 4)) (d := 400) (by omega) (by decide) (by decide)]
    refine r_iadd (pc := 236) C dL_law_236 ?_
    rw [nI_add (12) (((v / 4) % 400))]
    refine r_istore14 (pc := 237) C dL_law_237 ?_
    exact tail _ (by omega) (by omega)
  · refine r_bipush (pc := 212) C (v := nI 12) dL_law_212 (by decide) ?_
    refine r_iload9 (pc := 214) C dL_law_214 ?_
    refine r_iconst (pc := 216) C (v := nI 4) dL_law_216 (by decide) ?_
    refine r_idiv (pc := 217) C dL_law_217 (by decide) ?_
    rw [pk_div (a := v) (d := 4) (by omega) (by decide) (by decide)]
    refine r_sipush (pc := 218) C (v := nI 9988) dL_law_218 (by decide) ?_
    refine r_irem (pc := 221) C dL_law_221 (by decide) ?_
    rw [pk_rem (a := (v / 4)) (d := 9988) (by omega) (by decide) (by decide)]
    refine r_iadd (pc := 222) C dL_law_222 ?_
    rw [nI_add (12) (((v / 4) % 9988))]
    refine r_goto (pc := 223) C (tgt := 237) dL_law_223 (by decide) ?_
    refine r_istore14 (pc := 237) C dL_law_237 ?_
    exact tail _ (by omega) (by omega)
def hC (h : Nat → Int32) (ng pc j : Nat) : Nat → Int32 := fun t => if ng ≤ t ∧ t < ng + j then nI (2 * ng + pc - 1 - t) else h t
theorem hC_0 (h : Nat → Int32) (ng pc : Nat) : hC h ng pc 0 = h := by
  funext t
  unfold hC
  rw [if_neg (by omega)]
theorem hC_s (h : Nat → Int32) {ng pc j : Nat} (hj : j < pc) : upd (hC h ng pc j) (ng + j) (nI (ng + pc - 1 - j)) = hC h ng pc (j + 1) := by
  funext t
  by_cases e : t = ng + j
  · subst e
    rw [pk_us]
    unfold hC
    rw [if_pos ⟨by omega, by omega⟩, show 2 * ng + pc - 1 - (ng + j) = ng + pc - 1 - j by omega]
  · rw [pk_un e]
    unfold hC
    by_cases q : ng ≤ t ∧ t < ng + j
    · rw [if_pos q, if_pos ⟨q.1, by omega⟩]
    · rw [if_neg q, if_neg (fun z => q ⟨z.1, by omega⟩)]
theorem hC_pi {h : Nat → Int32} {π : Nat → Nat} {ng pc : Nat} (hO : ∀ k, k < ng → h k = nI (π k)) : ∀ k, k < ng + pc → hC h ng pc pc k = nI ((fun k => if k < ng then π k else 2 * ng + pc - 1 - k) k) := fun k hk => by
  show (if ng ≤ k ∧ k < ng + pc then nI (2 * ng + pc - 1 - k) else h k) = nI (if k < ng then π k else 2 * ng + pc - 1 - k)
  by_cases q : k < ng
  · rw [if_neg (by omega), if_pos q]; exact hO k q
  · rw [if_pos ⟨by omega, hk⟩, if_neg q]
set_option maxRecDepth 100000 in
set_option maxHeartbeats 4000000 in
theorem lk_cut (C : CX D A RL code 15 ret tb p s m args meth c) (hNC : NC s) (hfl : l.stackTraces = false) (hT1 : TG nr ng T1) (hT2 : TG nr ng T2) (hJ : J nr ng 3 nb C0 π σ τ) (hO : ∀ k, k < ng → h k = nI (π k)) (hv : v < 2 ^ 30) (hc : cells + 240 ≤ 621632 ∧ slots + 2400 ≤ 7236801) {x8 x10 x13 x14 : Option Value} (next : ∀ (T3 : List Nat) (ad3 : Nat → Nat) (σ3 : Mm) (T4 : List Nat) (ad4 : Nat → Nat) (τ3 : Mm) (h3 : Nat → Int32) (nr3 ng3 nb3 : Nat) (C3 : Nat → Prop) (π3 : Nat → Nat) (x13 x14 : Option Value), TG nr3 ng3 T3 → TG nr3 ng3 T4 → J nr3 ng3 3 nb3 C3 π3 σ3 τ3 → (∀ k, k < ng3 → h3 k = nI (π3 k)) → V D A 15 (WJ D T3 ad3 σ3 T4 ad4 τ3 ax h3) p l e room_1 s m args below meth c (cells + 240) (slots + 2400) Q 1037 [some (.ref b), some (.ref (ad3 0)), some (.ref (ad4 0)), some (.ref ax), some (.int (nI nr3)), some (.int (nI ng3)), some (.int 1), some (.int (nI k)), x8, some (.int (nI v)), x10, some (.int (nI i)), some (.int (nI q)), x13, x14] []) : V D A 15 (WJ D T1 ad1 σ T2 ad2 τ ax h) p l e room_1 s m args below meth c cells slots Q 805 [some (.ref b), some (.ref (ad1 0)), some (.ref (ad2 0)), some (.ref ax), some (.int (nI nr)), some (.int (nI ng)), some (.int 1), some (.int (nI k)), x8, some (.int (nI v)), x10, some (.int (nI i)), some (.int (nI q)), x13, x14] [] := by
  obtain ⟨hc1, hc2⟩ := hc
  have hnr14 := hJ.2.2.2.2.2.2
  have hng56 := hJ.ng56
  refine r_aload1 (pc := 805) C dL_law_805 ?_
  refine r_bipush (pc := 806) C (v := 8) dL_law_806 (by decide) ?_
  refine r_iload11 (pc := 808) C dL_law_808 ?_
  refine r_iconst (pc := 810) C (v := nI 0) dL_law_810 (by decide) ?_
  refine r_callW1 (pc := 811) C hNC (c_L_does_8 l D T1 ad1 σ hT1 (nI i) (nI 0) (c_X5_cut l D hfl T1 ad1 σ hT1 hJ.ic hJ.hz (nI i)) heIS3) ml_RL_98 st_L_does ini_L cdW_L_does hd_RL_98 rfl rfl (Nat.le_of_ble_eq_true rfl) ⟨rfl, rfl⟩ (by decide) ⟨by show _ ≤ 621632; omega, by show _ ≤ 7236801; omega⟩ dL_law_811 ?_
  intro r1 Y1 hp1
  refine r_istore13 (pc := 814) C dL_law_814 ?_
  refine r_iload13 (pc := 816) C dL_law_816 ?_
  refine r_aload2 (pc := 818) C dL_law_818 ?_
  refine r_bipush (pc := 819) C (v := 8) dL_law_819 (by decide) ?_
  refine r_iload11 (pc := 821) C dL_law_821 ?_
  refine r_iconst (pc := 823) C (v := nI 0) dL_law_823 (by decide) ?_
  refine r_callW2 (pc := 824) C hNC (c_L_does_8 l D T2 ad2 τ hT2 (nI i) (nI 0) (c_X5_cut l D hfl T2 ad2 τ hT2 hJ.ic2 hJ.hz2 (nI i)) heIS3) ml_RL_98 st_L_does ini_L cdW_L_does hd_RL_98 rfl rfl (Nat.le_of_ble_eq_true rfl) ⟨rfl, rfl⟩ (by decide) ⟨by show _ ≤ 621632; omega, by show _ ≤ 7236801; omega⟩ dL_law_824 ?_
  intro r2 Y2 hp2
  rcases W_cut hJ hp1 hp2 with ⟨rfl, rfl, rfl, rfl⟩ | ⟨pc, T3, ad3, σ3, T4, ad4, τ3, C3, hpc, rfl, rfl, rfl, rfl, hT3, hT4, had3, had4, hJ2⟩
  · refine r_icmp_ne (pc := 827) C (tgt := 834) dL_law_827 (by decide) (fun h => absurd rfl h) (fun _ => ?_)
    refine r_iconst (pc := 830) C (v := 1) dL_law_830 (by decide) ?_
    refine r_goto (pc := 831) C (tgt := 835) dL_law_831 (by decide) ?_
    refine r_istore6 (pc := 835) C dL_law_835 ?_
    refine r_iconst (pc := 837) C (v := nI 0) dL_law_837 (by decide) ?_
    refine r_istore14 (pc := 838) C dL_law_838 ?_
    refine r_iload14 (pc := 840) C dL_law_840 ?_
    refine r_iload13 (pc := 842) C dL_law_842 ?_
    refine r_icmp_ge (pc := 844) C (tgt := 870) dL_law_844 (by decide) (fun _ => ?_) (fun h => absurd (by decide) h)
    refine r_iload5 (pc := 870) C dL_law_870 ?_
    refine r_iload13 (pc := 872) C dL_law_872 ?_
    refine r_if_le (pc := 874) C (tgt := 882) dL_law_874 (by decide) (fun _ => ?_) (fun h => absurd (by decide) h)
    refine r_iconst (pc := 882) C (v := nI 0) dL_law_882 (by decide) ?_
    refine r_iadd (pc := 883) C dL_law_883 ?_
    rw [nI_add (ng) (0), Nat.add_zero]
    refine r_istore5 (pc := 884) C dL_law_884 ?_
    refine r_goto (pc := 886) C (tgt := 1037) dL_law_886 (by decide) ?_
    exact r_wid (k := cells + 240) (z := slots + 2400) (by omega) (by omega) (next T1 ad1 _ T2 ad2 _ _ _ _ _ _ _ _ _ hT1 hT2 hJ hO)
  · refine r_icmp_ne (pc := 827) C (tgt := 834) dL_law_827 (by decide) (fun h => absurd rfl h) (fun _ => ?_)
    refine r_iconst (pc := 830) C (v := 1) dL_law_830 (by decide) ?_
    refine r_goto (pc := 831) C (tgt := 835) dL_law_831 (by decide) ?_
    refine r_istore6 (pc := 835) C dL_law_835 ?_
    refine r_iconst (pc := 837) C (v := nI 0) dL_law_837 (by decide) ?_
    refine r_istore14 (pc := 838) C dL_law_838 ?_
    have hp56 := hJ2.ng56
    have lp : ∀ (z j : Nat), j ≤ pc → pc < j + z → V D A 15 (jS (T3, ad3, cO D ad3 σ3) (jS (T4, ad4, cO D ad4 τ3) (oX D ax 64 (hC h ng pc j)))) p l e room_1 s m args below meth c (cells + 40 + 40) (slots + 400 + 400) Q 840 [some (.ref b), some (.ref (ad1 0)), some (.ref (ad2 0)), some (.ref ax), some (.int (nI nr)), some (.int (nI ng)), some (.int 1), some (.int (nI k)), x8, some (.int (nI v)), x10, some (.int (nI i)), some (.int (nI q)), some (.int (nI pc)), some (.int (nI j))] [] := by
      intro z
      induction z with
      | zero => intro j g1 g2; omega
      | succ z ih =>
        intro j g1 g2
        refine r_iload14 (pc := 840) C dL_law_840 ?_
        refine r_iload13 (pc := 842) C dL_law_842 ?_
        refine r_icmp_geN (pc := 844) C (tgt := 870) dL_law_844 (by decide) (by omega) (by omega) (fun c1 => ?_) (fun c1 => ?_)
        · have hjp : j = pc := by omega
          subst hjp
          refine r_iload5 (pc := 870) C dL_law_870 ?_
          refine r_iload13 (pc := 872) C dL_law_872 ?_
          refine r_if_le (pc := 874) C (tgt := 882) dL_law_874 (by decide) (fun c2 => ?_) (fun c2 => ?_)
          · have hp0 : j = 0 := by
              have := (nI_leI (a := j) (b := 0) (by omega) (by decide)).mp c2
              omega
            refine r_iconst (pc := 882) C (v := nI 0) dL_law_882 (by decide) ?_
            refine r_iadd (pc := 883) C dL_law_883 ?_
            rw [nI_add (ng) (0)]
            refine r_istore5 (pc := 884) C dL_law_884 ?_
            refine r_goto (pc := 886) C (tgt := 1037) dL_law_886 (by decide) ?_
            rw [show nI (ng + 0) = nI (ng + j) by rw [hp0]]
            rw [← had3 0 (hT1.f (by decide)), ← had4 0 (hT2.f (by decide))]
            exact r_wid (k := cells + 240) (z := slots + 2400) (by omega) (by omega) (next T3 ad3 _ T4 ad4 _ _ _ _ _ _ _ _ _ hT3 hT4 hJ2 (hC_pi hO))
          · refine r_iload13 (pc := 877) C dL_law_877 ?_
            refine r_goto (pc := 879) C (tgt := 883) dL_law_879 (by decide) ?_
            refine r_iadd (pc := 883) C dL_law_883 ?_
            rw [nI_add (ng) (j)]
            refine r_istore5 (pc := 884) C dL_law_884 ?_
            refine r_goto (pc := 886) C (tgt := 1037) dL_law_886 (by decide) ?_
            rw [← had3 0 (hT1.f (by decide)), ← had4 0 (hT2.f (by decide))]
            exact r_wid (k := cells + 240) (z := slots + 2400) (by omega) (by omega) (next T3 ad3 _ T4 ad4 _ _ _ _ _ _ _ _ _ hT3 hT4 hJ2 (hC_pi hO))
        · refine r_aload3 (pc := 847) C dL_law_847 ?_
          refine r_iload5 (pc := 848) C dL_law_848 ?_
          refine r_iload14 (pc := 850) C dL_law_850 ?_
          refine r_iadd (pc := 852) C dL_law_852 ?_
          rw [nI_add (ng) (j)]
          refine r_iload5 (pc := 853) C dL_law_853 ?_
          refine r_iload13 (pc := 855) C dL_law_855 ?_
          refine r_iadd (pc := 857) C dL_law_857 ?_
          rw [nI_add (ng) (pc)]
          refine r_iconst (pc := 858) C (v := nI 1) dL_law_858 (by decide) ?_
          refine r_isub (pc := 859) C dL_law_859 ?_
          rw [pk_sub (a := (ng + pc)) (b := 1) (by omega)]
          refine r_iload14 (pc := 860) C dL_law_860 ?_
          refine r_isub (pc := 862) C dL_law_862 ?_
          rw [pk_sub (a := ((ng + pc) - 1)) (b := j) (by omega)]
          refine r_ost (pc := 863) C (h := hC h ng pc j) (k := ng + j) rfl (by omega) (by decide) dL_law_863 ?_
          rw [hC_s h c1]
          refine r_iinc14 (pc := 864) C dL_law_864 (nI_1 j) ?_
          refine r_goto (pc := 867) C (tgt := 840) dL_law_867 (by decide) ?_
          exact ih (j + 1) (by omega) (by omega)
    have l0 := lp (pc + 1) 0 (by omega) (by omega)
    rw [hC_0] at l0
    exact l0
end LAWCASES
