def Op8 (Rel : StC → StM → Prop) : Prop := ∀ (S : StC) (T : StM) (a1 : Int32) (a2 : Int32), Rel S T → ∃ (r : Int32) (S' : StC) (T' : StM), m_CX_wants S a1 a2 = some (r, S') ∧ m_MX_wants T a1 a2 = some (r, T') ∧ Rel S' T'
set_option maxHeartbeats 4000000 in
set_option maxRecDepth 100000 in
theorem law_8 {Rel : StC → StM → Prop} (hop : Op8 Rel) {p : Program} {l : Launch} {e : Env} {s : State} {m : MethodId} {below : List Frame} {meth : Method} {c : Code} {D : va_G} {adC adM : Nat → Nat} {caC caM : Nat → ClassId} {b L : Nat} {xs : Nat → Int32} {x3 : Int32} {S : StC} {T : StM} (g : CallFix p m c code 4 s #[Value.ref b] tb RL) (hKC : va_K D vwCl (tyC caC) s) (hKM : va_K D vwCl (tyM caM) s) (hX : va_X b L xs s s.heap) (hbl : b < s.heap.size) (h1 : inb (x3 + 1) L = true) (h2 : inb (x3 + 2) L = true) (h3 : inb (x3 + 3) L = true) (h4 : inb (x3 + 4) L = true) (hRel : Rel S T) (cont : ∀ S T, Rel S T → Vj p l e room_1 s m #[Value.ref b] below meth c (lw_Z below #[Value.ref b] s) D vwCl (fun q : Nat => s.heap.size ≤ q) 4 65 8649 (wdC adC caC S ++ wdM adM caM T) 918 [(0, .ref b), (1, .ref (adC 0)), (2, .ref (adM 0)), (3, .int x3)] []) : Vj p l e room_1 s m #[Value.ref b] below meth c (lw_Z below #[Value.ref b] s) D vwCl (fun q : Nat => s.heap.size ≤ q) 4 65 8649 (wdC adC caC S ++ wdM adM caM T) 374 [(0, .ref b), (1, .ref (adC 0)), (2, .ref (adM 0)), (3, .int x3)] [] := by
  refine v_aload_n g dk_L_law_374 1 rfl rfl (pc' := 375) rfl ?_
  refine v_aload_n g dk_L_law_375 0 rfl rfl (pc' := 376) rfl ?_
  refine v_iload_n g dk_L_law_376 3 rfl rfl (pc' := 377) rfl ?_
  refine v_iconst (v := 1) g dk_L_law_377 (by decide) (pc' := 378) rfl ?_
  refine v_iadd g dk_L_law_378 (pc' := 379) rfl ?_
  refine v_sld g hX hbl (Nat.not_le.mpr hbl) h1 dk_L_law_379 (pc' := 380) rfl ?_
  refine v_aload_n g dk_L_law_380 0 rfl rfl (pc' := 381) rfl ?_
  refine v_iload_n g dk_L_law_381 3 rfl rfl (pc' := 382) rfl ?_
  refine v_iconst (v := 2) g dk_L_law_382 (by decide) (pc' := 383) rfl ?_
  refine v_iadd g dk_L_law_383 (pc' := 384) rfl ?_
  refine v_sld g hX hbl (Nat.not_le.mpr hbl) h2 dk_L_law_384 (pc' := 385) rfl ?_
  obtain ⟨r, S', T', hC, hM, hR⟩ := hop S T (xs (x3 + 1).toNatClampNeg) (xs (x3 + 2).toNatClampNeg) hRel
  refine v_lawC (As := [.int (xs (x3 + 1).toNatClampNeg), .int (xs (x3 + 2).toNatClampNeg)]) (rest := []) (S1 := S') (r := r) g hKC (fun _ h => h) (c_CX_wants hC) (kcL_50 g.2.2.2.2 rfl rfl (Nat.le_of_ble_eq_true rfl) (Nat.le_of_ble_eq_true rfl)) rfl rfl (Nat.le_of_ble_eq_true rfl) dk_L_law_385 (pc' := 388) rfl ?_
  refine v_aload_n g dk_L_law_388 2 rfl rfl (pc' := 389) rfl ?_
  refine v_aload_n g dk_L_law_389 0 rfl rfl (pc' := 390) rfl ?_
  refine v_iload_n g dk_L_law_390 3 rfl rfl (pc' := 391) rfl ?_
  refine v_iconst (v := 1) g dk_L_law_391 (by decide) (pc' := 392) rfl ?_
  refine v_iadd g dk_L_law_392 (pc' := 393) rfl ?_
  refine v_sld g hX hbl (Nat.not_le.mpr hbl) h1 dk_L_law_393 (pc' := 394) rfl ?_
  refine v_aload_n g dk_L_law_394 0 rfl rfl (pc' := 395) rfl ?_
  refine v_iload_n g dk_L_law_395 3 rfl rfl (pc' := 396) rfl ?_
  refine v_iconst (v := 2) g dk_L_law_396 (by decide) (pc' := 397) rfl ?_
  refine v_iadd g dk_L_law_397 (pc' := 398) rfl ?_
  refine v_sld g hX hbl (Nat.not_le.mpr hbl) h2 dk_L_law_398 (pc' := 399) rfl ?_
  refine v_lawM (As := [.int (xs (x3 + 1).toNatClampNeg), .int (xs (x3 + 2).toNatClampNeg)]) (rest := [.int r]) (T1 := T') (r := r) g hKM (fun _ h => h) (c_MX_wants hM) (kcL_54 g.2.2.2.2 rfl rfl (Nat.le_of_ble_eq_true rfl) (Nat.le_of_ble_eq_true rfl)) rfl rfl (Nat.le_of_ble_eq_true rfl) dk_L_law_399 (pc' := 402) rfl ?_
  refine v_icmp_eq (tgt := 918) (pc' := 405) g dk_L_law_402 (by decide) rfl (fun _ => ?_) (fun hne => absurd rfl hne)
  exact cont _ _ hR
def Op9 (Rel : StC → StM → Prop) : Prop := ∀ (S : StC) (T : StM) (a1 : Int32), Rel S T → ∃ (r : Int32) (S' : StC) (T' : StM), m_CX_select S a1 = some (r, S') ∧ m_MX_select T a1 = some (r, T') ∧ Rel S' T'
set_option maxHeartbeats 4000000 in
set_option maxRecDepth 100000 in
theorem law_9 {Rel : StC → StM → Prop} (hop : Op9 Rel) {p : Program} {l : Launch} {e : Env} {s : State} {m : MethodId} {below : List Frame} {meth : Method} {c : Code} {D : va_G} {adC adM : Nat → Nat} {caC caM : Nat → ClassId} {b L : Nat} {xs : Nat → Int32} {x3 : Int32} {S : StC} {T : StM} (g : CallFix p m c code 4 s #[Value.ref b] tb RL) (hKC : va_K D vwCl (tyC caC) s) (hKM : va_K D vwCl (tyM caM) s) (hX : va_X b L xs s s.heap) (hbl : b < s.heap.size) (h1 : inb (x3 + 1) L = true) (h2 : inb (x3 + 2) L = true) (h3 : inb (x3 + 3) L = true) (h4 : inb (x3 + 4) L = true) (hRel : Rel S T) (cont : ∀ S T, Rel S T → Vj p l e room_1 s m #[Value.ref b] below meth c (lw_Z below #[Value.ref b] s) D vwCl (fun q : Nat => s.heap.size ≤ q) 4 65 8649 (wdC adC caC S ++ wdM adM caM T) 918 [(0, .ref b), (1, .ref (adC 0)), (2, .ref (adM 0)), (3, .int x3)] []) : Vj p l e room_1 s m #[Value.ref b] below meth c (lw_Z below #[Value.ref b] s) D vwCl (fun q : Nat => s.heap.size ≤ q) 4 65 8649 (wdC adC caC S ++ wdM adM caM T) 407 [(0, .ref b), (1, .ref (adC 0)), (2, .ref (adM 0)), (3, .int x3)] [] := by
  refine v_aload_n g dk_L_law_407 1 rfl rfl (pc' := 408) rfl ?_
  refine v_aload_n g dk_L_law_408 0 rfl rfl (pc' := 409) rfl ?_
  refine v_iload_n g dk_L_law_409 3 rfl rfl (pc' := 410) rfl ?_
  refine v_iconst (v := 1) g dk_L_law_410 (by decide) (pc' := 411) rfl ?_
  refine v_iadd g dk_L_law_411 (pc' := 412) rfl ?_
  refine v_sld g hX hbl (Nat.not_le.mpr hbl) h1 dk_L_law_412 (pc' := 413) rfl ?_
  obtain ⟨r, S', T', hC, hM, hR⟩ := hop S T (xs (x3 + 1).toNatClampNeg) hRel
  refine v_lawC (As := [.int (xs (x3 + 1).toNatClampNeg)]) (rest := []) (S1 := S') (r := r) g hKC (fun _ h => h) (c_CX_select hC) (kcL_55 g.2.2.2.2 rfl rfl (Nat.le_of_ble_eq_true rfl) (Nat.le_of_ble_eq_true rfl)) rfl rfl (Nat.le_of_ble_eq_true rfl) dk_L_law_413 (pc' := 416) rfl ?_
  refine v_aload_n g dk_L_law_416 2 rfl rfl (pc' := 417) rfl ?_
  refine v_aload_n g dk_L_law_417 0 rfl rfl (pc' := 418) rfl ?_
  refine v_iload_n g dk_L_law_418 3 rfl rfl (pc' := 419) rfl ?_
  refine v_iconst (v := 1) g dk_L_law_419 (by decide) (pc' := 420) rfl ?_
  refine v_iadd g dk_L_law_420 (pc' := 421) rfl ?_
  refine v_sld g hX hbl (Nat.not_le.mpr hbl) h1 dk_L_law_421 (pc' := 422) rfl ?_
  refine v_lawM (As := [.int (xs (x3 + 1).toNatClampNeg)]) (rest := [.int r]) (T1 := T') (r := r) g hKM (fun _ h => h) (c_MX_select hM) (kcL_58 g.2.2.2.2 rfl rfl (Nat.le_of_ble_eq_true rfl) (Nat.le_of_ble_eq_true rfl)) rfl rfl (Nat.le_of_ble_eq_true rfl) dk_L_law_422 (pc' := 425) rfl ?_
  refine v_icmp_eq (tgt := 918) (pc' := 428) g dk_L_law_425 (by decide) rfl (fun _ => ?_) (fun hne => absurd rfl hne)
  exact cont _ _ hR
def Op10 (Rel : StC → StM → Prop) : Prop := ∀ (S : StC) (T : StM) (a1 : Int32) (a2 : Int32) (a3 : Int32) (a4 : Int32), Rel S T → isB a3 = true → ∃ (r : Int32) (S' : StC) (T' : StM), m_CX_branch S a1 a2 a3 a4 = some (r, S') ∧ m_MX_branch T a1 a2 a3 a4 = some (r, T') ∧ Rel S' T'
set_option maxHeartbeats 4000000 in
set_option maxRecDepth 100000 in
theorem law_10 {Rel : StC → StM → Prop} (hop : Op10 Rel) {p : Program} {l : Launch} {e : Env} {s : State} {m : MethodId} {below : List Frame} {meth : Method} {c : Code} {D : va_G} {adC adM : Nat → Nat} {caC caM : Nat → ClassId} {b L : Nat} {xs : Nat → Int32} {x3 : Int32} {S : StC} {T : StM} (g : CallFix p m c code 4 s #[Value.ref b] tb RL) (hKC : va_K D vwCl (tyC caC) s) (hKM : va_K D vwCl (tyM caM) s) (hX : va_X b L xs s s.heap) (hbl : b < s.heap.size) (h1 : inb (x3 + 1) L = true) (h2 : inb (x3 + 2) L = true) (h3 : inb (x3 + 3) L = true) (h4 : inb (x3 + 4) L = true) (hRel : Rel S T) (cont : ∀ S T, Rel S T → Vj p l e room_1 s m #[Value.ref b] below meth c (lw_Z below #[Value.ref b] s) D vwCl (fun q : Nat => s.heap.size ≤ q) 4 65 8649 (wdC adC caC S ++ wdM adM caM T) 918 [(0, .ref b), (1, .ref (adC 0)), (2, .ref (adM 0)), (3, .int x3)] []) : Vj p l e room_1 s m #[Value.ref b] below meth c (lw_Z below #[Value.ref b] s) D vwCl (fun q : Nat => s.heap.size ≤ q) 4 65 8649 (wdC adC caC S ++ wdM adM caM T) 430 [(0, .ref b), (1, .ref (adC 0)), (2, .ref (adM 0)), (3, .int x3)] [] := by
  refine v_aload_n g dk_L_law_430 1 rfl rfl (pc' := 431) rfl ?_
  refine v_aload_n g dk_L_law_431 0 rfl rfl (pc' := 432) rfl ?_
  refine v_iload_n g dk_L_law_432 3 rfl rfl (pc' := 433) rfl ?_
  refine v_iconst (v := 1) g dk_L_law_433 (by decide) (pc' := 434) rfl ?_
  refine v_iadd g dk_L_law_434 (pc' := 435) rfl ?_
  refine v_sld g hX hbl (Nat.not_le.mpr hbl) h1 dk_L_law_435 (pc' := 436) rfl ?_
  refine v_aload_n g dk_L_law_436 0 rfl rfl (pc' := 437) rfl ?_
  refine v_iload_n g dk_L_law_437 3 rfl rfl (pc' := 438) rfl ?_
  refine v_iconst (v := 2) g dk_L_law_438 (by decide) (pc' := 439) rfl ?_
  refine v_iadd g dk_L_law_439 (pc' := 440) rfl ?_
  refine v_sld g hX hbl (Nat.not_le.mpr hbl) h2 dk_L_law_440 (pc' := 441) rfl ?_
  refine v_aload_n g dk_L_law_441 0 rfl rfl (pc' := 442) rfl ?_
  refine v_iload_n g dk_L_law_442 3 rfl rfl (pc' := 443) rfl ?_
  refine v_iconst (v := 3) g dk_L_law_443 (by decide) (pc' := 444) rfl ?_
  refine v_iadd g dk_L_law_444 (pc' := 445) rfl ?_
  refine v_sld g hX hbl (Nat.not_le.mpr hbl) h3 dk_L_law_445 (pc' := 446) rfl ?_
  refine v_if_eq (tgt := 453) (pc' := 449) g dk_L_law_446 (by decide) rfl (fun hz => ?_) (fun hz => ?_)
  · have hz0 := hz
    refine v_iconst (v := 0) g dk_L_law_453 (by decide) (pc' := 454) rfl ?_
    refine v_aload_n g dk_L_law_454 0 rfl rfl (pc' := 455) rfl ?_
    refine v_iload_n g dk_L_law_455 3 rfl rfl (pc' := 456) rfl ?_
    refine v_iconst (v := 4) g dk_L_law_456 (by decide) (pc' := 457) rfl ?_
    refine v_iadd g dk_L_law_457 (pc' := 458) rfl ?_
    refine v_sld g hX hbl (Nat.not_le.mpr hbl) h4 dk_L_law_458 (pc' := 459) rfl ?_
    obtain ⟨r, S', T', hC, hM, hR⟩ := hop S T (xs (x3 + 1).toNatClampNeg) (xs (x3 + 2).toNatClampNeg) 0 (xs (x3 + 4).toNatClampNeg) hRel rfl
    refine v_lawC (As := [.int (xs (x3 + 1).toNatClampNeg), .int (xs (x3 + 2).toNatClampNeg), .int 0, .int (xs (x3 + 4).toNatClampNeg)]) (rest := []) (S1 := S') (r := r) g hKC (fun _ h => h) (c_CX_branch hC) (kcL_59 g.2.2.2.2 rfl rfl (Nat.le_of_ble_eq_true rfl) (Nat.le_of_ble_eq_true rfl)) rfl rfl (Nat.le_of_ble_eq_true rfl) dk_L_law_459 (pc' := 462) rfl ?_
    refine v_aload_n g dk_L_law_462 2 rfl rfl (pc' := 463) rfl ?_
    refine v_aload_n g dk_L_law_463 0 rfl rfl (pc' := 464) rfl ?_
    refine v_iload_n g dk_L_law_464 3 rfl rfl (pc' := 465) rfl ?_
    refine v_iconst (v := 1) g dk_L_law_465 (by decide) (pc' := 466) rfl ?_
    refine v_iadd g dk_L_law_466 (pc' := 467) rfl ?_
    refine v_sld g hX hbl (Nat.not_le.mpr hbl) h1 dk_L_law_467 (pc' := 468) rfl ?_
    refine v_aload_n g dk_L_law_468 0 rfl rfl (pc' := 469) rfl ?_
    refine v_iload_n g dk_L_law_469 3 rfl rfl (pc' := 470) rfl ?_
    refine v_iconst (v := 2) g dk_L_law_470 (by decide) (pc' := 471) rfl ?_
    refine v_iadd g dk_L_law_471 (pc' := 472) rfl ?_
    refine v_sld g hX hbl (Nat.not_le.mpr hbl) h2 dk_L_law_472 (pc' := 473) rfl ?_
    refine v_aload_n g dk_L_law_473 0 rfl rfl (pc' := 474) rfl ?_
    refine v_iload_n g dk_L_law_474 3 rfl rfl (pc' := 475) rfl ?_
    refine v_iconst (v := 3) g dk_L_law_475 (by decide) (pc' := 476) rfl ?_
    refine v_iadd g dk_L_law_476 (pc' := 477) rfl ?_
    refine v_sld g hX hbl (Nat.not_le.mpr hbl) h3 dk_L_law_477 (pc' := 478) rfl ?_
    refine v_if_eq (tgt := 485) (pc' := 481) g dk_L_law_478 (by decide) rfl (fun hz => ?_) (fun hz => ?_)
    · skip
      refine v_iconst (v := 0) g dk_L_law_485 (by decide) (pc' := 486) rfl ?_
      refine v_aload_n g dk_L_law_486 0 rfl rfl (pc' := 487) rfl ?_
      refine v_iload_n g dk_L_law_487 3 rfl rfl (pc' := 488) rfl ?_
      refine v_iconst (v := 4) g dk_L_law_488 (by decide) (pc' := 489) rfl ?_
      refine v_iadd g dk_L_law_489 (pc' := 490) rfl ?_
      refine v_sld g hX hbl (Nat.not_le.mpr hbl) h4 dk_L_law_490 (pc' := 491) rfl ?_
      refine v_lawM (As := [.int (xs (x3 + 1).toNatClampNeg), .int (xs (x3 + 2).toNatClampNeg), .int 0, .int (xs (x3 + 4).toNatClampNeg)]) (rest := [.int r]) (T1 := T') (r := r) g hKM (fun _ h => h) (c_MX_branch hM) (kcL_63 g.2.2.2.2 rfl rfl (Nat.le_of_ble_eq_true rfl) (Nat.le_of_ble_eq_true rfl)) rfl rfl (Nat.le_of_ble_eq_true rfl) dk_L_law_491 (pc' := 494) rfl ?_
      refine v_icmp_eq (tgt := 918) (pc' := 497) g dk_L_law_494 (by decide) rfl (fun _ => ?_) (fun hne => absurd rfl hne)
      exact cont _ _ hR
    · exact absurd hz0 hz
  · have hz0 := hz
    refine v_iconst (v := 1) g dk_L_law_449 (by decide) (pc' := 450) rfl ?_
    refine v_goto (tgt := 454) g dk_L_law_450 (by decide) ?_
    refine v_aload_n g dk_L_law_454 0 rfl rfl (pc' := 455) rfl ?_
    refine v_iload_n g dk_L_law_455 3 rfl rfl (pc' := 456) rfl ?_
    refine v_iconst (v := 4) g dk_L_law_456 (by decide) (pc' := 457) rfl ?_
    refine v_iadd g dk_L_law_457 (pc' := 458) rfl ?_
    refine v_sld g hX hbl (Nat.not_le.mpr hbl) h4 dk_L_law_458 (pc' := 459) rfl ?_
    obtain ⟨r, S', T', hC, hM, hR⟩ := hop S T (xs (x3 + 1).toNatClampNeg) (xs (x3 + 2).toNatClampNeg) 1 (xs (x3 + 4).toNatClampNeg) hRel rfl
    refine v_lawC (As := [.int (xs (x3 + 1).toNatClampNeg), .int (xs (x3 + 2).toNatClampNeg), .int 1, .int (xs (x3 + 4).toNatClampNeg)]) (rest := []) (S1 := S') (r := r) g hKC (fun _ h => h) (c_CX_branch hC) (kcL_59 g.2.2.2.2 rfl rfl (Nat.le_of_ble_eq_true rfl) (Nat.le_of_ble_eq_true rfl)) rfl rfl (Nat.le_of_ble_eq_true rfl) dk_L_law_459 (pc' := 462) rfl ?_
    refine v_aload_n g dk_L_law_462 2 rfl rfl (pc' := 463) rfl ?_
    refine v_aload_n g dk_L_law_463 0 rfl rfl (pc' := 464) rfl ?_
    refine v_iload_n g dk_L_law_464 3 rfl rfl (pc' := 465) rfl ?_
    refine v_iconst (v := 1) g dk_L_law_465 (by decide) (pc' := 466) rfl ?_
    refine v_iadd g dk_L_law_466 (pc' := 467) rfl ?_
    refine v_sld g hX hbl (Nat.not_le.mpr hbl) h1 dk_L_law_467 (pc' := 468) rfl ?_
    refine v_aload_n g dk_L_law_468 0 rfl rfl (pc' := 469) rfl ?_
    refine v_iload_n g dk_L_law_469 3 rfl rfl (pc' := 470) rfl ?_
    refine v_iconst (v := 2) g dk_L_law_470 (by decide) (pc' := 471) rfl ?_
    refine v_iadd g dk_L_law_471 (pc' := 472) rfl ?_
    refine v_sld g hX hbl (Nat.not_le.mpr hbl) h2 dk_L_law_472 (pc' := 473) rfl ?_
    refine v_aload_n g dk_L_law_473 0 rfl rfl (pc' := 474) rfl ?_
    refine v_iload_n g dk_L_law_474 3 rfl rfl (pc' := 475) rfl ?_
    refine v_iconst (v := 3) g dk_L_law_475 (by decide) (pc' := 476) rfl ?_
    refine v_iadd g dk_L_law_476 (pc' := 477) rfl ?_
    refine v_sld g hX hbl (Nat.not_le.mpr hbl) h3 dk_L_law_477 (pc' := 478) rfl ?_
    refine v_if_eq (tgt := 485) (pc' := 481) g dk_L_law_478 (by decide) rfl (fun hz => ?_) (fun hz => ?_)
    · exact absurd hz hz0
    · skip
      refine v_iconst (v := 1) g dk_L_law_481 (by decide) (pc' := 482) rfl ?_
      refine v_goto (tgt := 486) g dk_L_law_482 (by decide) ?_
      refine v_aload_n g dk_L_law_486 0 rfl rfl (pc' := 487) rfl ?_
      refine v_iload_n g dk_L_law_487 3 rfl rfl (pc' := 488) rfl ?_
      refine v_iconst (v := 4) g dk_L_law_488 (by decide) (pc' := 489) rfl ?_
      refine v_iadd g dk_L_law_489 (pc' := 490) rfl ?_
      refine v_sld g hX hbl (Nat.not_le.mpr hbl) h4 dk_L_law_490 (pc' := 491) rfl ?_
      refine v_lawM (As := [.int (xs (x3 + 1).toNatClampNeg), .int (xs (x3 + 2).toNatClampNeg), .int 1, .int (xs (x3 + 4).toNatClampNeg)]) (rest := [.int r]) (T1 := T') (r := r) g hKM (fun _ h => h) (c_MX_branch hM) (kcL_63 g.2.2.2.2 rfl rfl (Nat.le_of_ble_eq_true rfl) (Nat.le_of_ble_eq_true rfl)) rfl rfl (Nat.le_of_ble_eq_true rfl) dk_L_law_491 (pc' := 494) rfl ?_
      refine v_icmp_eq (tgt := 918) (pc' := 497) g dk_L_law_494 (by decide) rfl (fun _ => ?_) (fun hne => absurd rfl hne)
      exact cont _ _ hR
def Op11 (Rel : StC → StM → Prop) : Prop := ∀ (S : StC) (T : StM) (a1 : Int32) (a2 : Int32), Rel S T → ∃ (r : Int32) (S' : StC) (T' : StM), m_CX_otherwise S a1 a2 = some (r, S') ∧ m_MX_otherwise T a1 a2 = some (r, T') ∧ Rel S' T'
set_option maxHeartbeats 4000000 in
set_option maxRecDepth 100000 in
theorem law_11 {Rel : StC → StM → Prop} (hop : Op11 Rel) {p : Program} {l : Launch} {e : Env} {s : State} {m : MethodId} {below : List Frame} {meth : Method} {c : Code} {D : va_G} {adC adM : Nat → Nat} {caC caM : Nat → ClassId} {b L : Nat} {xs : Nat → Int32} {x3 : Int32} {S : StC} {T : StM} (g : CallFix p m c code 4 s #[Value.ref b] tb RL) (hKC : va_K D vwCl (tyC caC) s) (hKM : va_K D vwCl (tyM caM) s) (hX : va_X b L xs s s.heap) (hbl : b < s.heap.size) (h1 : inb (x3 + 1) L = true) (h2 : inb (x3 + 2) L = true) (h3 : inb (x3 + 3) L = true) (h4 : inb (x3 + 4) L = true) (hRel : Rel S T) (cont : ∀ S T, Rel S T → Vj p l e room_1 s m #[Value.ref b] below meth c (lw_Z below #[Value.ref b] s) D vwCl (fun q : Nat => s.heap.size ≤ q) 4 65 8649 (wdC adC caC S ++ wdM adM caM T) 918 [(0, .ref b), (1, .ref (adC 0)), (2, .ref (adM 0)), (3, .int x3)] []) : Vj p l e room_1 s m #[Value.ref b] below meth c (lw_Z below #[Value.ref b] s) D vwCl (fun q : Nat => s.heap.size ≤ q) 4 65 8649 (wdC adC caC S ++ wdM adM caM T) 499 [(0, .ref b), (1, .ref (adC 0)), (2, .ref (adM 0)), (3, .int x3)] [] := by
  refine v_aload_n g dk_L_law_499 1 rfl rfl (pc' := 500) rfl ?_
  refine v_aload_n g dk_L_law_500 0 rfl rfl (pc' := 501) rfl ?_
  refine v_iload_n g dk_L_law_501 3 rfl rfl (pc' := 502) rfl ?_
  refine v_iconst (v := 1) g dk_L_law_502 (by decide) (pc' := 503) rfl ?_
  refine v_iadd g dk_L_law_503 (pc' := 504) rfl ?_
  refine v_sld g hX hbl (Nat.not_le.mpr hbl) h1 dk_L_law_504 (pc' := 505) rfl ?_
  refine v_aload_n g dk_L_law_505 0 rfl rfl (pc' := 506) rfl ?_
  refine v_iload_n g dk_L_law_506 3 rfl rfl (pc' := 507) rfl ?_
  refine v_iconst (v := 2) g dk_L_law_507 (by decide) (pc' := 508) rfl ?_
  refine v_iadd g dk_L_law_508 (pc' := 509) rfl ?_
  refine v_sld g hX hbl (Nat.not_le.mpr hbl) h2 dk_L_law_509 (pc' := 510) rfl ?_
  obtain ⟨r, S', T', hC, hM, hR⟩ := hop S T (xs (x3 + 1).toNatClampNeg) (xs (x3 + 2).toNatClampNeg) hRel
  refine v_lawC (As := [.int (xs (x3 + 1).toNatClampNeg), .int (xs (x3 + 2).toNatClampNeg)]) (rest := []) (S1 := S') (r := r) g hKC (fun _ h => h) (c_CX_otherwise hC) (kcL_64 g.2.2.2.2 rfl rfl (Nat.le_of_ble_eq_true rfl) (Nat.le_of_ble_eq_true rfl)) rfl rfl (Nat.le_of_ble_eq_true rfl) dk_L_law_510 (pc' := 513) rfl ?_
  refine v_aload_n g dk_L_law_513 2 rfl rfl (pc' := 514) rfl ?_
  refine v_aload_n g dk_L_law_514 0 rfl rfl (pc' := 515) rfl ?_
  refine v_iload_n g dk_L_law_515 3 rfl rfl (pc' := 516) rfl ?_
  refine v_iconst (v := 1) g dk_L_law_516 (by decide) (pc' := 517) rfl ?_
  refine v_iadd g dk_L_law_517 (pc' := 518) rfl ?_
  refine v_sld g hX hbl (Nat.not_le.mpr hbl) h1 dk_L_law_518 (pc' := 519) rfl ?_
  refine v_aload_n g dk_L_law_519 0 rfl rfl (pc' := 520) rfl ?_
  refine v_iload_n g dk_L_law_520 3 rfl rfl (pc' := 521) rfl ?_
  refine v_iconst (v := 2) g dk_L_law_521 (by decide) (pc' := 522) rfl ?_
  refine v_iadd g dk_L_law_522 (pc' := 523) rfl ?_
  refine v_sld g hX hbl (Nat.not_le.mpr hbl) h2 dk_L_law_523 (pc' := 524) rfl ?_
  refine v_lawM (As := [.int (xs (x3 + 1).toNatClampNeg), .int (xs (x3 + 2).toNatClampNeg)]) (rest := [.int r]) (T1 := T') (r := r) g hKM (fun _ h => h) (c_MX_otherwise hM) (kcL_67 g.2.2.2.2 rfl rfl (Nat.le_of_ble_eq_true rfl) (Nat.le_of_ble_eq_true rfl)) rfl rfl (Nat.le_of_ble_eq_true rfl) dk_L_law_524 (pc' := 527) rfl ?_
  refine v_icmp_eq (tgt := 918) (pc' := 530) g dk_L_law_527 (by decide) rfl (fun _ => ?_) (fun hne => absurd rfl hne)
  exact cont _ _ hR
def Op12 (Rel : StC → StM → Prop) : Prop := ∀ (S : StC) (T : StM) (a1 : Int32), Rel S T → ∃ (r : Int32) (S' : StC) (T' : StM), m_CX_configuration S a1 = some (r, S') ∧ m_MX_configuration T a1 = some (r, T') ∧ Rel S' T'
set_option maxHeartbeats 4000000 in
set_option maxRecDepth 100000 in
theorem law_12 {Rel : StC → StM → Prop} (hop : Op12 Rel) {p : Program} {l : Launch} {e : Env} {s : State} {m : MethodId} {below : List Frame} {meth : Method} {c : Code} {D : va_G} {adC adM : Nat → Nat} {caC caM : Nat → ClassId} {b L : Nat} {xs : Nat → Int32} {x3 : Int32} {S : StC} {T : StM} (g : CallFix p m c code 4 s #[Value.ref b] tb RL) (hKC : va_K D vwCl (tyC caC) s) (hKM : va_K D vwCl (tyM caM) s) (hX : va_X b L xs s s.heap) (hbl : b < s.heap.size) (h1 : inb (x3 + 1) L = true) (h2 : inb (x3 + 2) L = true) (h3 : inb (x3 + 3) L = true) (h4 : inb (x3 + 4) L = true) (hRel : Rel S T) (cont : ∀ S T, Rel S T → Vj p l e room_1 s m #[Value.ref b] below meth c (lw_Z below #[Value.ref b] s) D vwCl (fun q : Nat => s.heap.size ≤ q) 4 65 8649 (wdC adC caC S ++ wdM adM caM T) 918 [(0, .ref b), (1, .ref (adC 0)), (2, .ref (adM 0)), (3, .int x3)] []) : Vj p l e room_1 s m #[Value.ref b] below meth c (lw_Z below #[Value.ref b] s) D vwCl (fun q : Nat => s.heap.size ≤ q) 4 65 8649 (wdC adC caC S ++ wdM adM caM T) 532 [(0, .ref b), (1, .ref (adC 0)), (2, .ref (adM 0)), (3, .int x3)] [] := by
  refine v_aload_n g dk_L_law_532 1 rfl rfl (pc' := 533) rfl ?_
  refine v_aload_n g dk_L_law_533 0 rfl rfl (pc' := 534) rfl ?_
  refine v_iload_n g dk_L_law_534 3 rfl rfl (pc' := 535) rfl ?_
  refine v_iconst (v := 1) g dk_L_law_535 (by decide) (pc' := 536) rfl ?_
  refine v_iadd g dk_L_law_536 (pc' := 537) rfl ?_
  refine v_sld g hX hbl (Nat.not_le.mpr hbl) h1 dk_L_law_537 (pc' := 538) rfl ?_
  obtain ⟨r, S', T', hC, hM, hR⟩ := hop S T (xs (x3 + 1).toNatClampNeg) hRel
  refine v_lawC (As := [.int (xs (x3 + 1).toNatClampNeg)]) (rest := []) (S1 := S') (r := r) g hKC (fun _ h => h) (c_CX_configuration hC) (kcL_68 g.2.2.2.2 rfl rfl (Nat.le_of_ble_eq_true rfl) (Nat.le_of_ble_eq_true rfl)) rfl rfl (Nat.le_of_ble_eq_true rfl) dk_L_law_538 (pc' := 541) rfl ?_
  refine v_aload_n g dk_L_law_541 2 rfl rfl (pc' := 542) rfl ?_
  refine v_aload_n g dk_L_law_542 0 rfl rfl (pc' := 543) rfl ?_
  refine v_iload_n g dk_L_law_543 3 rfl rfl (pc' := 544) rfl ?_
  refine v_iconst (v := 1) g dk_L_law_544 (by decide) (pc' := 545) rfl ?_
  refine v_iadd g dk_L_law_545 (pc' := 546) rfl ?_
  refine v_sld g hX hbl (Nat.not_le.mpr hbl) h1 dk_L_law_546 (pc' := 547) rfl ?_
  refine v_lawM (As := [.int (xs (x3 + 1).toNatClampNeg)]) (rest := [.int r]) (T1 := T') (r := r) g hKM (fun _ h => h) (c_MX_configuration hM) (kcL_71 g.2.2.2.2 rfl rfl (Nat.le_of_ble_eq_true rfl) (Nat.le_of_ble_eq_true rfl)) rfl rfl (Nat.le_of_ble_eq_true rfl) dk_L_law_547 (pc' := 550) rfl ?_
  refine v_icmp_eq (tgt := 918) (pc' := 553) g dk_L_law_550 (by decide) rfl (fun _ => ?_) (fun hne => absurd rfl hne)
  exact cont _ _ hR
def Op13 (Rel : StC → StM → Prop) : Prop := ∀ (S : StC) (T : StM) (a1 : Int32) (a2 : Int32) (a3 : Int32), Rel S T → ∃ (r : Int32) (S' : StC) (T' : StM), m_CX_set S a1 a2 a3 = some (r, S') ∧ m_MX_set T a1 a2 a3 = some (r, T') ∧ Rel S' T'
set_option maxHeartbeats 4000000 in
set_option maxRecDepth 100000 in
theorem law_13 {Rel : StC → StM → Prop} (hop : Op13 Rel) {p : Program} {l : Launch} {e : Env} {s : State} {m : MethodId} {below : List Frame} {meth : Method} {c : Code} {D : va_G} {adC adM : Nat → Nat} {caC caM : Nat → ClassId} {b L : Nat} {xs : Nat → Int32} {x3 : Int32} {S : StC} {T : StM} (g : CallFix p m c code 4 s #[Value.ref b] tb RL) (hKC : va_K D vwCl (tyC caC) s) (hKM : va_K D vwCl (tyM caM) s) (hX : va_X b L xs s s.heap) (hbl : b < s.heap.size) (h1 : inb (x3 + 1) L = true) (h2 : inb (x3 + 2) L = true) (h3 : inb (x3 + 3) L = true) (h4 : inb (x3 + 4) L = true) (hRel : Rel S T) (cont : ∀ S T, Rel S T → Vj p l e room_1 s m #[Value.ref b] below meth c (lw_Z below #[Value.ref b] s) D vwCl (fun q : Nat => s.heap.size ≤ q) 4 65 8649 (wdC adC caC S ++ wdM adM caM T) 918 [(0, .ref b), (1, .ref (adC 0)), (2, .ref (adM 0)), (3, .int x3)] []) : Vj p l e room_1 s m #[Value.ref b] below meth c (lw_Z below #[Value.ref b] s) D vwCl (fun q : Nat => s.heap.size ≤ q) 4 65 8649 (wdC adC caC S ++ wdM adM caM T) 555 [(0, .ref b), (1, .ref (adC 0)), (2, .ref (adM 0)), (3, .int x3)] [] := by
  refine v_aload_n g dk_L_law_555 1 rfl rfl (pc' := 556) rfl ?_
  refine v_aload_n g dk_L_law_556 0 rfl rfl (pc' := 557) rfl ?_
  refine v_iload_n g dk_L_law_557 3 rfl rfl (pc' := 558) rfl ?_
  refine v_iconst (v := 1) g dk_L_law_558 (by decide) (pc' := 559) rfl ?_
  refine v_iadd g dk_L_law_559 (pc' := 560) rfl ?_
  refine v_sld g hX hbl (Nat.not_le.mpr hbl) h1 dk_L_law_560 (pc' := 561) rfl ?_
  refine v_aload_n g dk_L_law_561 0 rfl rfl (pc' := 562) rfl ?_
  refine v_iload_n g dk_L_law_562 3 rfl rfl (pc' := 563) rfl ?_
  refine v_iconst (v := 2) g dk_L_law_563 (by decide) (pc' := 564) rfl ?_
  refine v_iadd g dk_L_law_564 (pc' := 565) rfl ?_
  refine v_sld g hX hbl (Nat.not_le.mpr hbl) h2 dk_L_law_565 (pc' := 566) rfl ?_
  refine v_aload_n g dk_L_law_566 0 rfl rfl (pc' := 567) rfl ?_
  refine v_iload_n g dk_L_law_567 3 rfl rfl (pc' := 568) rfl ?_
  refine v_iconst (v := 3) g dk_L_law_568 (by decide) (pc' := 569) rfl ?_
  refine v_iadd g dk_L_law_569 (pc' := 570) rfl ?_
  refine v_sld g hX hbl (Nat.not_le.mpr hbl) h3 dk_L_law_570 (pc' := 571) rfl ?_
  obtain ⟨r, S', T', hC, hM, hR⟩ := hop S T (xs (x3 + 1).toNatClampNeg) (xs (x3 + 2).toNatClampNeg) (xs (x3 + 3).toNatClampNeg) hRel
  refine v_lawC (As := [.int (xs (x3 + 1).toNatClampNeg), .int (xs (x3 + 2).toNatClampNeg), .int (xs (x3 + 3).toNatClampNeg)]) (rest := []) (S1 := S') (r := r) g hKC (fun _ h => h) (c_CX_set hC) (kcL_72 g.2.2.2.2 rfl rfl (Nat.le_of_ble_eq_true rfl) (Nat.le_of_ble_eq_true rfl)) rfl rfl (Nat.le_of_ble_eq_true rfl) dk_L_law_571 (pc' := 574) rfl ?_
  refine v_aload_n g dk_L_law_574 2 rfl rfl (pc' := 575) rfl ?_
  refine v_aload_n g dk_L_law_575 0 rfl rfl (pc' := 576) rfl ?_
  refine v_iload_n g dk_L_law_576 3 rfl rfl (pc' := 577) rfl ?_
  refine v_iconst (v := 1) g dk_L_law_577 (by decide) (pc' := 578) rfl ?_
  refine v_iadd g dk_L_law_578 (pc' := 579) rfl ?_
  refine v_sld g hX hbl (Nat.not_le.mpr hbl) h1 dk_L_law_579 (pc' := 580) rfl ?_
  refine v_aload_n g dk_L_law_580 0 rfl rfl (pc' := 581) rfl ?_
  refine v_iload_n g dk_L_law_581 3 rfl rfl (pc' := 582) rfl ?_
  refine v_iconst (v := 2) g dk_L_law_582 (by decide) (pc' := 583) rfl ?_
  refine v_iadd g dk_L_law_583 (pc' := 584) rfl ?_
  refine v_sld g hX hbl (Nat.not_le.mpr hbl) h2 dk_L_law_584 (pc' := 585) rfl ?_
  refine v_aload_n g dk_L_law_585 0 rfl rfl (pc' := 586) rfl ?_
  refine v_iload_n g dk_L_law_586 3 rfl rfl (pc' := 587) rfl ?_
  refine v_iconst (v := 3) g dk_L_law_587 (by decide) (pc' := 588) rfl ?_
  refine v_iadd g dk_L_law_588 (pc' := 589) rfl ?_
  refine v_sld g hX hbl (Nat.not_le.mpr hbl) h3 dk_L_law_589 (pc' := 590) rfl ?_
  refine v_lawM (As := [.int (xs (x3 + 1).toNatClampNeg), .int (xs (x3 + 2).toNatClampNeg), .int (xs (x3 + 3).toNatClampNeg)]) (rest := [.int r]) (T1 := T') (r := r) g hKM (fun _ h => h) (c_MX_set hM) (kcL_76 g.2.2.2.2 rfl rfl (Nat.le_of_ble_eq_true rfl) (Nat.le_of_ble_eq_true rfl)) rfl rfl (Nat.le_of_ble_eq_true rfl) dk_L_law_590 (pc' := 593) rfl ?_
  refine v_icmp_eq (tgt := 918) (pc' := 596) g dk_L_law_593 (by decide) rfl (fun _ => ?_) (fun hne => absurd rfl hne)
  exact cont _ _ hR
def Op14 (Rel : StC → StM → Prop) : Prop := ∀ (S : StC) (T : StM) (a1 : Int32) (a2 : Int32), Rel S T → ∃ (r : Int32), m_CX_value S a1 a2 = some r ∧ m_MX_value T a1 a2 = some r ∧ Rel S T
set_option maxHeartbeats 4000000 in
set_option maxRecDepth 100000 in
theorem law_14 {Rel : StC → StM → Prop} (hop : Op14 Rel) {p : Program} {l : Launch} {e : Env} {s : State} {m : MethodId} {below : List Frame} {meth : Method} {c : Code} {D : va_G} {adC adM : Nat → Nat} {caC caM : Nat → ClassId} {b L : Nat} {xs : Nat → Int32} {x3 : Int32} {S : StC} {T : StM} (g : CallFix p m c code 4 s #[Value.ref b] tb RL) (hKC : va_K D vwCl (tyC caC) s) (hKM : va_K D vwCl (tyM caM) s) (hX : va_X b L xs s s.heap) (hbl : b < s.heap.size) (h1 : inb (x3 + 1) L = true) (h2 : inb (x3 + 2) L = true) (h3 : inb (x3 + 3) L = true) (h4 : inb (x3 + 4) L = true) (hRel : Rel S T) (cont : ∀ S T, Rel S T → Vj p l e room_1 s m #[Value.ref b] below meth c (lw_Z below #[Value.ref b] s) D vwCl (fun q : Nat => s.heap.size ≤ q) 4 65 8649 (wdC adC caC S ++ wdM adM caM T) 918 [(0, .ref b), (1, .ref (adC 0)), (2, .ref (adM 0)), (3, .int x3)] []) : Vj p l e room_1 s m #[Value.ref b] below meth c (lw_Z below #[Value.ref b] s) D vwCl (fun q : Nat => s.heap.size ≤ q) 4 65 8649 (wdC adC caC S ++ wdM adM caM T) 598 [(0, .ref b), (1, .ref (adC 0)), (2, .ref (adM 0)), (3, .int x3)] [] := by
  refine v_aload_n g dk_L_law_598 1 rfl rfl (pc' := 599) rfl ?_
  refine v_aload_n g dk_L_law_599 0 rfl rfl (pc' := 600) rfl ?_
  refine v_iload_n g dk_L_law_600 3 rfl rfl (pc' := 601) rfl ?_
  refine v_iconst (v := 1) g dk_L_law_601 (by decide) (pc' := 602) rfl ?_
  refine v_iadd g dk_L_law_602 (pc' := 603) rfl ?_
  refine v_sld g hX hbl (Nat.not_le.mpr hbl) h1 dk_L_law_603 (pc' := 604) rfl ?_
  refine v_aload_n g dk_L_law_604 0 rfl rfl (pc' := 605) rfl ?_
  refine v_iload_n g dk_L_law_605 3 rfl rfl (pc' := 606) rfl ?_
  refine v_iconst (v := 2) g dk_L_law_606 (by decide) (pc' := 607) rfl ?_
  refine v_iadd g dk_L_law_607 (pc' := 608) rfl ?_
  refine v_sld g hX hbl (Nat.not_le.mpr hbl) h2 dk_L_law_608 (pc' := 609) rfl ?_
  obtain ⟨r, hC, hM, hR⟩ := hop S T (xs (x3 + 1).toNatClampNeg) (xs (x3 + 2).toNatClampNeg) hRel
  refine v_lawC (As := [.int (xs (x3 + 1).toNatClampNeg), .int (xs (x3 + 2).toNatClampNeg)]) (rest := []) (S1 := S) (r := r) g hKC (fun _ h => h) (c_CX_value hC) (kcL_77 g.2.2.2.2 rfl rfl (Nat.le_of_ble_eq_true rfl) (Nat.le_of_ble_eq_true rfl)) rfl rfl (Nat.le_of_ble_eq_true rfl) dk_L_law_609 (pc' := 612) rfl ?_
  refine v_aload_n g dk_L_law_612 2 rfl rfl (pc' := 613) rfl ?_
  refine v_aload_n g dk_L_law_613 0 rfl rfl (pc' := 614) rfl ?_
  refine v_iload_n g dk_L_law_614 3 rfl rfl (pc' := 615) rfl ?_
  refine v_iconst (v := 1) g dk_L_law_615 (by decide) (pc' := 616) rfl ?_
  refine v_iadd g dk_L_law_616 (pc' := 617) rfl ?_
  refine v_sld g hX hbl (Nat.not_le.mpr hbl) h1 dk_L_law_617 (pc' := 618) rfl ?_
  refine v_aload_n g dk_L_law_618 0 rfl rfl (pc' := 619) rfl ?_
  refine v_iload_n g dk_L_law_619 3 rfl rfl (pc' := 620) rfl ?_
  refine v_iconst (v := 2) g dk_L_law_620 (by decide) (pc' := 621) rfl ?_
  refine v_iadd g dk_L_law_621 (pc' := 622) rfl ?_
  refine v_sld g hX hbl (Nat.not_le.mpr hbl) h2 dk_L_law_622 (pc' := 623) rfl ?_
  refine v_lawM (As := [.int (xs (x3 + 1).toNatClampNeg), .int (xs (x3 + 2).toNatClampNeg)]) (rest := [.int r]) (T1 := T) (r := r) g hKM (fun _ h => h) (c_MX_value hM) (kcL_80 g.2.2.2.2 rfl rfl (Nat.le_of_ble_eq_true rfl) (Nat.le_of_ble_eq_true rfl)) rfl rfl (Nat.le_of_ble_eq_true rfl) dk_L_law_623 (pc' := 626) rfl ?_
  refine v_icmp_eq (tgt := 918) (pc' := 629) g dk_L_law_626 (by decide) rfl (fun _ => ?_) (fun hne => absurd rfl hne)
  exact cont _ _ hR
def Op15 (Rel : StC → StM → Prop) : Prop := ∀ (S : StC) (T : StM) (a1 : Int32) (a2 : Int32), Rel S T → ∃ (r : Int32), m_CX_holds S a1 a2 = some r ∧ m_MX_holds T a1 a2 = some r ∧ Rel S T
set_option maxHeartbeats 4000000 in
set_option maxRecDepth 100000 in
theorem law_15 {Rel : StC → StM → Prop} (hop : Op15 Rel) {p : Program} {l : Launch} {e : Env} {s : State} {m : MethodId} {below : List Frame} {meth : Method} {c : Code} {D : va_G} {adC adM : Nat → Nat} {caC caM : Nat → ClassId} {b L : Nat} {xs : Nat → Int32} {x3 : Int32} {S : StC} {T : StM} (g : CallFix p m c code 4 s #[Value.ref b] tb RL) (hKC : va_K D vwCl (tyC caC) s) (hKM : va_K D vwCl (tyM caM) s) (hX : va_X b L xs s s.heap) (hbl : b < s.heap.size) (h1 : inb (x3 + 1) L = true) (h2 : inb (x3 + 2) L = true) (h3 : inb (x3 + 3) L = true) (h4 : inb (x3 + 4) L = true) (hRel : Rel S T) (cont : ∀ S T, Rel S T → Vj p l e room_1 s m #[Value.ref b] below meth c (lw_Z below #[Value.ref b] s) D vwCl (fun q : Nat => s.heap.size ≤ q) 4 65 8649 (wdC adC caC S ++ wdM adM caM T) 918 [(0, .ref b), (1, .ref (adC 0)), (2, .ref (adM 0)), (3, .int x3)] []) : Vj p l e room_1 s m #[Value.ref b] below meth c (lw_Z below #[Value.ref b] s) D vwCl (fun q : Nat => s.heap.size ≤ q) 4 65 8649 (wdC adC caC S ++ wdM adM caM T) 631 [(0, .ref b), (1, .ref (adC 0)), (2, .ref (adM 0)), (3, .int x3)] [] := by
  refine v_aload_n g dk_L_law_631 1 rfl rfl (pc' := 632) rfl ?_
  refine v_aload_n g dk_L_law_632 0 rfl rfl (pc' := 633) rfl ?_
  refine v_iload_n g dk_L_law_633 3 rfl rfl (pc' := 634) rfl ?_
  refine v_iconst (v := 1) g dk_L_law_634 (by decide) (pc' := 635) rfl ?_
  refine v_iadd g dk_L_law_635 (pc' := 636) rfl ?_
  refine v_sld g hX hbl (Nat.not_le.mpr hbl) h1 dk_L_law_636 (pc' := 637) rfl ?_
  refine v_aload_n g dk_L_law_637 0 rfl rfl (pc' := 638) rfl ?_
  refine v_iload_n g dk_L_law_638 3 rfl rfl (pc' := 639) rfl ?_
  refine v_iconst (v := 2) g dk_L_law_639 (by decide) (pc' := 640) rfl ?_
  refine v_iadd g dk_L_law_640 (pc' := 641) rfl ?_
  refine v_sld g hX hbl (Nat.not_le.mpr hbl) h2 dk_L_law_641 (pc' := 642) rfl ?_
  obtain ⟨r, hC, hM, hR⟩ := hop S T (xs (x3 + 1).toNatClampNeg) (xs (x3 + 2).toNatClampNeg) hRel
  refine v_lawC (As := [.int (xs (x3 + 1).toNatClampNeg), .int (xs (x3 + 2).toNatClampNeg)]) (rest := []) (S1 := S) (r := r) g hKC (fun _ h => h) (c_CX_holds hC) (kcL_81 g.2.2.2.2 rfl rfl (Nat.le_of_ble_eq_true rfl) (Nat.le_of_ble_eq_true rfl)) rfl rfl (Nat.le_of_ble_eq_true rfl) dk_L_law_642 (pc' := 645) rfl ?_
  refine v_aload_n g dk_L_law_645 2 rfl rfl (pc' := 646) rfl ?_
  refine v_aload_n g dk_L_law_646 0 rfl rfl (pc' := 647) rfl ?_
  refine v_iload_n g dk_L_law_647 3 rfl rfl (pc' := 648) rfl ?_
  refine v_iconst (v := 1) g dk_L_law_648 (by decide) (pc' := 649) rfl ?_
  refine v_iadd g dk_L_law_649 (pc' := 650) rfl ?_
  refine v_sld g hX hbl (Nat.not_le.mpr hbl) h1 dk_L_law_650 (pc' := 651) rfl ?_
  refine v_aload_n g dk_L_law_651 0 rfl rfl (pc' := 652) rfl ?_
  refine v_iload_n g dk_L_law_652 3 rfl rfl (pc' := 653) rfl ?_
  refine v_iconst (v := 2) g dk_L_law_653 (by decide) (pc' := 654) rfl ?_
  refine v_iadd g dk_L_law_654 (pc' := 655) rfl ?_
  refine v_sld g hX hbl (Nat.not_le.mpr hbl) h2 dk_L_law_655 (pc' := 656) rfl ?_
  refine v_lawM (As := [.int (xs (x3 + 1).toNatClampNeg), .int (xs (x3 + 2).toNatClampNeg)]) (rest := [.int r]) (T1 := T) (r := r) g hKM (fun _ h => h) (c_MX_holds hM) (kcL_84 g.2.2.2.2 rfl rfl (Nat.le_of_ble_eq_true rfl) (Nat.le_of_ble_eq_true rfl)) rfl rfl (Nat.le_of_ble_eq_true rfl) dk_L_law_656 (pc' := 659) rfl ?_
  refine v_icmp_eq (tgt := 918) (pc' := 662) g dk_L_law_659 (by decide) rfl (fun _ => ?_) (fun hne => absurd rfl hne)
  exact cont _ _ hR
