section LWC1
variable {p : Program} {l : Launch} {e : Env} {s : State} {m : MethodId} {args : Array Value} {below : List Frame} {meth : Method} {c : Code} {H : Heap} {locs : List Loc} {cells slots : Nat} {Q : State → Prop}
variable {ls : Array Slot} {D : va_G} {cy : Nat → ClassId} {ad ad2 : Nat → Nat} {x x2 : Mm}
set_option maxHeartbeats 2000000 in
set_option maxRecDepth 100000 in
/-- bond -/
theorem lw_bond (C : CallFix p m c cL_law 4 s args wsL_law RL) {b n i : Nat} {X : Nat → Int} (hX : va_X b n (fun j => iI (X j)) s s.heap) (hbl : b < s.heap.size) (hn : n ≤ 2560) (hi : i + 5 ≤ n) (hr : ∀ j, rg (X j)) (hf : cells ≤ room_1.cells ∧ slots ≤ room_1.slots) (hl : lv_has ls 4 [(0, .ref b), (1, .ref (ad 0)), (2, .ref (ad2 60)), (3, .int (iI (i : Int)))]) (hV : lG D cy ad ad2 s x x2 H locs) (hR : Rel x x2) (k : ∀ (x3 x4 : Mm) (H1 : Heap) (locs1 : List Loc), Rel x3 x4 → lG D cy ad ad2 s x3 x4 H1 locs1 → W p l e room_1 s m args below meth c H1 locs1 cells slots Q (F0 m 889 ls [])) : W p l e room_1 s m args below meth c H locs cells slots Q (F0 m 434 ls []) := by
  obtain ⟨G, G2, hd⟩ := hV
  refine lv_aload_n C.1 C.2.1 dL_law_434 rfl (lv_at hl 1 rfl) ?_
  refine lw_ld C hX hbl G.2.2.2.1 hn hi hl 1 (by decide) rfl dL_law_435 dL_law_436 dL_law_437 dL_law_438 dL_law_439 ?_
  refine lw_ld C hX hbl G.2.2.2.1 hn hi hl 2 (by decide) rfl dL_law_440 dL_law_441 dL_law_442 dL_law_443 dL_law_444 ?_
  refine lw_ld C hX hbl G.2.2.2.1 hn hi hl 3 (by decide) rfl dL_law_445 dL_law_446 dL_law_447 dL_law_448 dL_law_449 ?_
  refine fr_Vi2 C G G2 hd (c_X7_bond l D cy LA ad H.size LA_ok (X (i + 1)) (X (i + 2)) (X (i + 3)) x _ (sim_bond hR (hr _) (hr _) (hr _))) (cwV 3 C.2.2.2.2 gL_law_X7_bond rfl rfl rfl (by decide +kernel) ⟨Nat.le_of_ble_eq_true rfl, Nat.le_of_ble_eq_true rfl⟩) (G.recv (LA_ok 0 (by decide)) (cl_0 _) rfl) rfl hl.1 rfl (Nat.le_of_ble_eq_true rfl) dL_law_450 hf (fun r x3 H locs hp G G2 => ?_)
  refine lv_aload_n C.1 C.2.1 dL_law_453 rfl (lv_at hl 2 rfl) ?_
  refine lw_ld C hX hbl G.2.2.2.1 hn hi hl 1 (by decide) rfl dL_law_454 dL_law_455 dL_law_456 dL_law_457 dL_law_458 ?_
  refine lw_ld C hX hbl G.2.2.2.1 hn hi hl 2 (by decide) rfl dL_law_459 dL_law_460 dL_law_461 dL_law_462 dL_law_463 ?_
  refine lw_ld C hX hbl G.2.2.2.1 hn hi hl 3 (by decide) rfl dL_law_464 dL_law_465 dL_law_466 dL_law_467 dL_law_468 ?_
  refine fr_Vi2 C G2 G (fun c h c2 h2 q => hd c2 h2 c h q.symm) (c_X8_bond l D cy LM ad2 H.size LM_ok (X (i + 1)) (X (i + 2)) (X (i + 3)) x2 _ hp) (cwV 3 C.2.2.2.2 gL_law_X8_bond rfl rfl rfl (by decide +kernel) ⟨Nat.le_of_ble_eq_true rfl, Nat.le_of_ble_eq_true rfl⟩) (G2.recv (LM_ok 60 (by omega)) (cl_60 _) rfl) rfl hl.1 rfl (Nat.le_of_ble_eq_true rfl) dL_law_469 hf (fun r2 x4 H locs hp G2 G => ?_)
  obtain ⟨er, hrg, hR3⟩ := hp
  subst er
  exact fr_eq C dL_law_472 (tgt := 889) (by decide) ⟨hrg, hrg⟩ (fun _ => k x3 x4 H locs hR3 ⟨G, G2, hd⟩) (fun q => absurd rfl q)
set_option maxHeartbeats 2000000 in
set_option maxRecDepth 100000 in
/-- tap -/
theorem lw_tap (C : CallFix p m c cL_law 4 s args wsL_law RL) {b n i : Nat} {X : Nat → Int} (hX : va_X b n (fun j => iI (X j)) s s.heap) (hbl : b < s.heap.size) (hn : n ≤ 2560) (hi : i + 5 ≤ n) (hr : ∀ j, rg (X j)) (hf : cells ≤ room_1.cells ∧ slots ≤ room_1.slots) (hl : lv_has ls 4 [(0, .ref b), (1, .ref (ad 0)), (2, .ref (ad2 60)), (3, .int (iI (i : Int)))]) (hV : lG D cy ad ad2 s x x2 H locs) (hR : Rel x x2) (k : ∀ (x3 x4 : Mm) (H1 : Heap) (locs1 : List Loc), Rel x3 x4 → lG D cy ad ad2 s x3 x4 H1 locs1 → W p l e room_1 s m args below meth c H1 locs1 cells slots Q (F0 m 889 ls [])) : W p l e room_1 s m args below meth c H locs cells slots Q (F0 m 477 ls []) := by
  obtain ⟨G, G2, hd⟩ := hV
  refine lv_aload_n C.1 C.2.1 dL_law_477 rfl (lv_at hl 1 rfl) ?_
  refine lw_ld C hX hbl G.2.2.2.1 hn hi hl 1 (by decide) rfl dL_law_478 dL_law_479 dL_law_480 dL_law_481 dL_law_482 ?_
  refine lw_ld C hX hbl G.2.2.2.1 hn hi hl 2 (by decide) rfl dL_law_483 dL_law_484 dL_law_485 dL_law_486 dL_law_487 ?_
  refine lw_ld C hX hbl G.2.2.2.1 hn hi hl 3 (by decide) rfl dL_law_488 dL_law_489 dL_law_490 dL_law_491 dL_law_492 ?_
  refine lw_ld C hX hbl G.2.2.2.1 hn hi hl 4 (by decide) rfl dL_law_493 dL_law_494 dL_law_495 dL_law_496 dL_law_497 ?_
  refine fr_Vi2 C G G2 hd (c_X7_tap l D cy LA ad H.size LA_ok (X (i + 1)) (X (i + 2)) (X (i + 3)) (X (i + 4)) x _ (sim_tap hR (hr _) (hr _) (hr _) (hr _))) (cwV 4 C.2.2.2.2 gL_law_X7_tap rfl rfl rfl (by decide +kernel) ⟨Nat.le_of_ble_eq_true rfl, Nat.le_of_ble_eq_true rfl⟩) (G.recv (LA_ok 0 (by decide)) (cl_0 _) rfl) rfl hl.1 rfl (Nat.le_of_ble_eq_true rfl) dL_law_498 hf (fun r x3 H locs hp G G2 => ?_)
  refine lv_aload_n C.1 C.2.1 dL_law_501 rfl (lv_at hl 2 rfl) ?_
  refine lw_ld C hX hbl G.2.2.2.1 hn hi hl 1 (by decide) rfl dL_law_502 dL_law_503 dL_law_504 dL_law_505 dL_law_506 ?_
  refine lw_ld C hX hbl G.2.2.2.1 hn hi hl 2 (by decide) rfl dL_law_507 dL_law_508 dL_law_509 dL_law_510 dL_law_511 ?_
  refine lw_ld C hX hbl G.2.2.2.1 hn hi hl 3 (by decide) rfl dL_law_512 dL_law_513 dL_law_514 dL_law_515 dL_law_516 ?_
  refine lw_ld C hX hbl G.2.2.2.1 hn hi hl 4 (by decide) rfl dL_law_517 dL_law_518 dL_law_519 dL_law_520 dL_law_521 ?_
  refine fr_Vi2 C G2 G (fun c h c2 h2 q => hd c2 h2 c h q.symm) (c_X8_tap l D cy LM ad2 H.size LM_ok (X (i + 1)) (X (i + 2)) (X (i + 3)) (X (i + 4)) x2 _ hp) (cwV 4 C.2.2.2.2 gL_law_X8_tap rfl rfl rfl (by decide +kernel) ⟨Nat.le_of_ble_eq_true rfl, Nat.le_of_ble_eq_true rfl⟩) (G2.recv (LM_ok 60 (by omega)) (cl_60 _) rfl) rfl hl.1 rfl (Nat.le_of_ble_eq_true rfl) dL_law_522 hf (fun r2 x4 H locs hp G2 G => ?_)
  obtain ⟨er, hrg, hR3⟩ := hp
  subst er
  exact fr_eq C dL_law_525 (tgt := 889) (by decide) ⟨hrg, hrg⟩ (fun _ => k x3 x4 H locs hR3 ⟨G, G2, hd⟩) (fun q => absurd rfl q)
set_option maxHeartbeats 2000000 in
set_option maxRecDepth 100000 in
/-- untap -/
theorem lw_untap (C : CallFix p m c cL_law 4 s args wsL_law RL) {b n i : Nat} {X : Nat → Int} (hX : va_X b n (fun j => iI (X j)) s s.heap) (hbl : b < s.heap.size) (hn : n ≤ 2560) (hi : i + 5 ≤ n) (hr : ∀ j, rg (X j)) (hf : cells ≤ room_1.cells ∧ slots ≤ room_1.slots) (hl : lv_has ls 4 [(0, .ref b), (1, .ref (ad 0)), (2, .ref (ad2 60)), (3, .int (iI (i : Int)))]) (hV : lG D cy ad ad2 s x x2 H locs) (hR : Rel x x2) (k : ∀ (x3 x4 : Mm) (H1 : Heap) (locs1 : List Loc), Rel x3 x4 → lG D cy ad ad2 s x3 x4 H1 locs1 → W p l e room_1 s m args below meth c H1 locs1 cells slots Q (F0 m 889 ls [])) : W p l e room_1 s m args below meth c H locs cells slots Q (F0 m 530 ls []) := by
  obtain ⟨G, G2, hd⟩ := hV
  refine lv_aload_n C.1 C.2.1 dL_law_530 rfl (lv_at hl 1 rfl) ?_
  refine lw_ld C hX hbl G.2.2.2.1 hn hi hl 1 (by decide) rfl dL_law_531 dL_law_532 dL_law_533 dL_law_534 dL_law_535 ?_
  refine fr_Vi2 C G G2 hd (c_X7_untap l D cy LA ad H.size LA_ok (X (i + 1)) x _ (sim_untap hR (hr _))) (cwV 1 C.2.2.2.2 gL_law_X7_untap rfl rfl rfl (by decide +kernel) ⟨Nat.le_of_ble_eq_true rfl, Nat.le_of_ble_eq_true rfl⟩) (G.recv (LA_ok 0 (by decide)) (cl_0 _) rfl) rfl hl.1 rfl (Nat.le_of_ble_eq_true rfl) dL_law_536 hf (fun r x3 H locs hp G G2 => ?_)
  refine lv_aload_n C.1 C.2.1 dL_law_539 rfl (lv_at hl 2 rfl) ?_
  refine lw_ld C hX hbl G.2.2.2.1 hn hi hl 1 (by decide) rfl dL_law_540 dL_law_541 dL_law_542 dL_law_543 dL_law_544 ?_
  refine fr_Vi2 C G2 G (fun c h c2 h2 q => hd c2 h2 c h q.symm) (c_X8_untap l D cy LM ad2 H.size LM_ok (X (i + 1)) x2 _ hp) (cwV 1 C.2.2.2.2 gL_law_X8_untap rfl rfl rfl (by decide +kernel) ⟨Nat.le_of_ble_eq_true rfl, Nat.le_of_ble_eq_true rfl⟩) (G2.recv (LM_ok 60 (by omega)) (cl_60 _) rfl) rfl hl.1 rfl (Nat.le_of_ble_eq_true rfl) dL_law_545 hf (fun r2 x4 H locs hp G2 G => ?_)
  obtain ⟨er, hrg, hR3⟩ := hp
  subst er
  exact fr_eq C dL_law_548 (tgt := 889) (by decide) ⟨hrg, hrg⟩ (fun _ => k x3 x4 H locs hR3 ⟨G, G2, hd⟩) (fun q => absurd rfl q)
set_option maxHeartbeats 2000000 in
set_option maxRecDepth 100000 in
/-- woods -/
theorem lw_woods (C : CallFix p m c cL_law 4 s args wsL_law RL) {b n i : Nat} {X : Nat → Int} (hX : va_X b n (fun j => iI (X j)) s s.heap) (hbl : b < s.heap.size) (hn : n ≤ 2560) (hi : i + 5 ≤ n) (hr : ∀ j, rg (X j)) (hf : cells ≤ room_1.cells ∧ slots ≤ room_1.slots) (hl : lv_has ls 4 [(0, .ref b), (1, .ref (ad 0)), (2, .ref (ad2 60)), (3, .int (iI (i : Int)))]) (hV : lG D cy ad ad2 s x x2 H locs) (hR : Rel x x2) (k : ∀ (x3 x4 : Mm) (H1 : Heap) (locs1 : List Loc), Rel x3 x4 → lG D cy ad ad2 s x3 x4 H1 locs1 → W p l e room_1 s m args below meth c H1 locs1 cells slots Q (F0 m 889 ls [])) : W p l e room_1 s m args below meth c H locs cells slots Q (F0 m 553 ls []) := by
  obtain ⟨G, G2, hd⟩ := hV
  refine lv_aload_n C.1 C.2.1 dL_law_553 rfl (lv_at hl 1 rfl) ?_
  refine fr_Vi2 C G G2 hd (c_X7_woods l D cy LA ad H.size LA_ok x _ (sim_woods hR)) (cwV 0 C.2.2.2.2 gL_law_X7_woods rfl rfl rfl (by decide +kernel) ⟨Nat.le_of_ble_eq_true rfl, Nat.le_of_ble_eq_true rfl⟩) (G.recv (LA_ok 0 (by decide)) (cl_0 _) rfl) rfl hl.1 rfl (Nat.le_of_ble_eq_true rfl) dL_law_554 hf (fun r x3 H locs hp G G2 => ?_)
  refine lv_aload_n C.1 C.2.1 dL_law_557 rfl (lv_at hl 2 rfl) ?_
  refine fr_Vi2 C G2 G (fun c h c2 h2 q => hd c2 h2 c h q.symm) (c_X8_woods l D cy LM ad2 H.size LM_ok x2 _ hp) (cwV 0 C.2.2.2.2 gL_law_X8_woods rfl rfl rfl (by decide +kernel) ⟨Nat.le_of_ble_eq_true rfl, Nat.le_of_ble_eq_true rfl⟩) (G2.recv (LM_ok 60 (by omega)) (cl_60 _) rfl) rfl hl.1 rfl (Nat.le_of_ble_eq_true rfl) dL_law_558 hf (fun r2 x4 H locs hp G2 G => ?_)
  obtain ⟨er, hrg, hR3⟩ := hp
  subst er
  exact fr_eq C dL_law_561 (tgt := 889) (by decide) ⟨hrg, hrg⟩ (fun _ => k x3 x4 H locs hR3 ⟨G, G2, hd⟩) (fun q => absurd rfl q)
set_option maxHeartbeats 2000000 in
set_option maxRecDepth 100000 in
/-- wood -/
theorem lw_wood (C : CallFix p m c cL_law 4 s args wsL_law RL) {b n i : Nat} {X : Nat → Int} (hX : va_X b n (fun j => iI (X j)) s s.heap) (hbl : b < s.heap.size) (hn : n ≤ 2560) (hi : i + 5 ≤ n) (hr : ∀ j, rg (X j)) (hf : cells ≤ room_1.cells ∧ slots ≤ room_1.slots) (hl : lv_has ls 4 [(0, .ref b), (1, .ref (ad 0)), (2, .ref (ad2 60)), (3, .int (iI (i : Int)))]) (hV : lG D cy ad ad2 s x x2 H locs) (hR : Rel x x2) (k : ∀ (x3 x4 : Mm) (H1 : Heap) (locs1 : List Loc), Rel x3 x4 → lG D cy ad ad2 s x3 x4 H1 locs1 → W p l e room_1 s m args below meth c H1 locs1 cells slots Q (F0 m 889 ls [])) : W p l e room_1 s m args below meth c H locs cells slots Q (F0 m 566 ls []) := by
  obtain ⟨G, G2, hd⟩ := hV
  refine lv_aload_n C.1 C.2.1 dL_law_566 rfl (lv_at hl 1 rfl) ?_
  refine lw_ld C hX hbl G.2.2.2.1 hn hi hl 1 (by decide) rfl dL_law_567 dL_law_568 dL_law_569 dL_law_570 dL_law_571 ?_
  refine lw_ld C hX hbl G.2.2.2.1 hn hi hl 2 (by decide) rfl dL_law_572 dL_law_573 dL_law_574 dL_law_575 dL_law_576 ?_
  refine fr_Vi2 C G G2 hd (c_X7_wood l D cy LA ad H.size LA_ok (X (i + 1)) (X (i + 2)) x _ (sim_wood hR (hr _) (hr _))) (cwV 2 C.2.2.2.2 gL_law_X7_wood rfl rfl rfl (by decide +kernel) ⟨Nat.le_of_ble_eq_true rfl, Nat.le_of_ble_eq_true rfl⟩) (G.recv (LA_ok 0 (by decide)) (cl_0 _) rfl) rfl hl.1 rfl (Nat.le_of_ble_eq_true rfl) dL_law_577 hf (fun r x3 H locs hp G G2 => ?_)
  refine lv_aload_n C.1 C.2.1 dL_law_580 rfl (lv_at hl 2 rfl) ?_
  refine lw_ld C hX hbl G.2.2.2.1 hn hi hl 1 (by decide) rfl dL_law_581 dL_law_582 dL_law_583 dL_law_584 dL_law_585 ?_
  refine lw_ld C hX hbl G.2.2.2.1 hn hi hl 2 (by decide) rfl dL_law_586 dL_law_587 dL_law_588 dL_law_589 dL_law_590 ?_
  refine fr_Vi2 C G2 G (fun c h c2 h2 q => hd c2 h2 c h q.symm) (c_X8_wood l D cy LM ad2 H.size LM_ok (X (i + 1)) (X (i + 2)) x2 _ hp) (cwV 2 C.2.2.2.2 gL_law_X8_wood rfl rfl rfl (by decide +kernel) ⟨Nat.le_of_ble_eq_true rfl, Nat.le_of_ble_eq_true rfl⟩) (G2.recv (LM_ok 60 (by omega)) (cl_60 _) rfl) rfl hl.1 rfl (Nat.le_of_ble_eq_true rfl) dL_law_591 hf (fun r2 x4 H locs hp G2 G => ?_)
  obtain ⟨er, hrg, hR3⟩ := hp
  subst er
  exact fr_eq C dL_law_594 (tgt := 889) (by decide) ⟨hrg, hrg⟩ (fun _ => k x3 x4 H locs hR3 ⟨G, G2, hd⟩) (fun q => absurd rfl q)
set_option maxHeartbeats 2000000 in
set_option maxRecDepth 100000 in
/-- span -/
theorem lw_span (C : CallFix p m c cL_law 4 s args wsL_law RL) {b n i : Nat} {X : Nat → Int} (hX : va_X b n (fun j => iI (X j)) s s.heap) (hbl : b < s.heap.size) (hn : n ≤ 2560) (hi : i + 5 ≤ n) (hr : ∀ j, rg (X j)) (hf : cells ≤ room_1.cells ∧ slots ≤ room_1.slots) (hl : lv_has ls 4 [(0, .ref b), (1, .ref (ad 0)), (2, .ref (ad2 60)), (3, .int (iI (i : Int)))]) (hV : lG D cy ad ad2 s x x2 H locs) (hR : Rel x x2) (k : ∀ (x3 x4 : Mm) (H1 : Heap) (locs1 : List Loc), Rel x3 x4 → lG D cy ad ad2 s x3 x4 H1 locs1 → W p l e room_1 s m args below meth c H1 locs1 cells slots Q (F0 m 889 ls [])) : W p l e room_1 s m args below meth c H locs cells slots Q (F0 m 599 ls []) := by
  obtain ⟨G, G2, hd⟩ := hV
  refine lv_aload_n C.1 C.2.1 dL_law_599 rfl (lv_at hl 1 rfl) ?_
  refine lw_ld C hX hbl G.2.2.2.1 hn hi hl 1 (by decide) rfl dL_law_600 dL_law_601 dL_law_602 dL_law_603 dL_law_604 ?_
  refine lw_ld C hX hbl G.2.2.2.1 hn hi hl 2 (by decide) rfl dL_law_605 dL_law_606 dL_law_607 dL_law_608 dL_law_609 ?_
  refine lw_ld C hX hbl G.2.2.2.1 hn hi hl 3 (by decide) rfl dL_law_610 dL_law_611 dL_law_612 dL_law_613 dL_law_614 ?_
  refine fr_Vi2 C G G2 hd (c_X7_span l D cy LA ad H.size LA_ok (X (i + 1)) (X (i + 2)) (X (i + 3)) x _ (sim_span hR (hr _) (hr _) (hr _))) (cwV 3 C.2.2.2.2 gL_law_X7_span rfl rfl rfl (by decide +kernel) ⟨Nat.le_of_ble_eq_true rfl, Nat.le_of_ble_eq_true rfl⟩) (G.recv (LA_ok 0 (by decide)) (cl_0 _) rfl) rfl hl.1 rfl (Nat.le_of_ble_eq_true rfl) dL_law_615 hf (fun r x3 H locs hp G G2 => ?_)
  refine lv_aload_n C.1 C.2.1 dL_law_618 rfl (lv_at hl 2 rfl) ?_
  refine lw_ld C hX hbl G.2.2.2.1 hn hi hl 1 (by decide) rfl dL_law_619 dL_law_620 dL_law_621 dL_law_622 dL_law_623 ?_
  refine lw_ld C hX hbl G.2.2.2.1 hn hi hl 2 (by decide) rfl dL_law_624 dL_law_625 dL_law_626 dL_law_627 dL_law_628 ?_
  refine lw_ld C hX hbl G.2.2.2.1 hn hi hl 3 (by decide) rfl dL_law_629 dL_law_630 dL_law_631 dL_law_632 dL_law_633 ?_
  refine fr_Vi2 C G2 G (fun c h c2 h2 q => hd c2 h2 c h q.symm) (c_X8_span l D cy LM ad2 H.size LM_ok (X (i + 1)) (X (i + 2)) (X (i + 3)) x2 _ hp) (cwV 3 C.2.2.2.2 gL_law_X8_span rfl rfl rfl (by decide +kernel) ⟨Nat.le_of_ble_eq_true rfl, Nat.le_of_ble_eq_true rfl⟩) (G2.recv (LM_ok 60 (by omega)) (cl_60 _) rfl) rfl hl.1 rfl (Nat.le_of_ble_eq_true rfl) dL_law_634 hf (fun r2 x4 H locs hp G2 G => ?_)
  obtain ⟨er, hrg, hR3⟩ := hp
  subst er
  exact fr_eq C dL_law_637 (tgt := 889) (by decide) ⟨hrg, hrg⟩ (fun _ => k x3 x4 H locs hR3 ⟨G, G2, hd⟩) (fun q => absurd rfl q)
set_option maxHeartbeats 2000000 in
set_option maxRecDepth 100000 in
/-- next -/
theorem lw_next (C : CallFix p m c cL_law 4 s args wsL_law RL) {b n i : Nat} {X : Nat → Int} (hX : va_X b n (fun j => iI (X j)) s s.heap) (hbl : b < s.heap.size) (hn : n ≤ 2560) (hi : i + 5 ≤ n) (hr : ∀ j, rg (X j)) (hf : cells ≤ room_1.cells ∧ slots ≤ room_1.slots) (hl : lv_has ls 4 [(0, .ref b), (1, .ref (ad 0)), (2, .ref (ad2 60)), (3, .int (iI (i : Int)))]) (hV : lG D cy ad ad2 s x x2 H locs) (hR : Rel x x2) (k : ∀ (x3 x4 : Mm) (H1 : Heap) (locs1 : List Loc), Rel x3 x4 → lG D cy ad ad2 s x3 x4 H1 locs1 → W p l e room_1 s m args below meth c H1 locs1 cells slots Q (F0 m 889 ls [])) : W p l e room_1 s m args below meth c H locs cells slots Q (F0 m 642 ls []) := by
  obtain ⟨G, G2, hd⟩ := hV
  refine lv_aload_n C.1 C.2.1 dL_law_642 rfl (lv_at hl 1 rfl) ?_
  refine lw_ld C hX hbl G.2.2.2.1 hn hi hl 1 (by decide) rfl dL_law_643 dL_law_644 dL_law_645 dL_law_646 dL_law_647 ?_
  refine lw_ld C hX hbl G.2.2.2.1 hn hi hl 2 (by decide) rfl dL_law_648 dL_law_649 dL_law_650 dL_law_651 dL_law_652 ?_
  refine fr_Vi2 C G G2 hd (c_X7_next l D cy LA ad H.size LA_ok (X (i + 1)) (X (i + 2)) x _ (sim_next hR (hr _) (hr _))) (cwV 2 C.2.2.2.2 gL_law_X7_next rfl rfl rfl (by decide +kernel) ⟨Nat.le_of_ble_eq_true rfl, Nat.le_of_ble_eq_true rfl⟩) (G.recv (LA_ok 0 (by decide)) (cl_0 _) rfl) rfl hl.1 rfl (Nat.le_of_ble_eq_true rfl) dL_law_653 hf (fun r x3 H locs hp G G2 => ?_)
  refine lv_aload_n C.1 C.2.1 dL_law_656 rfl (lv_at hl 2 rfl) ?_
  refine lw_ld C hX hbl G.2.2.2.1 hn hi hl 1 (by decide) rfl dL_law_657 dL_law_658 dL_law_659 dL_law_660 dL_law_661 ?_
  refine lw_ld C hX hbl G.2.2.2.1 hn hi hl 2 (by decide) rfl dL_law_662 dL_law_663 dL_law_664 dL_law_665 dL_law_666 ?_
  refine fr_Vi2 C G2 G (fun c h c2 h2 q => hd c2 h2 c h q.symm) (c_X8_next l D cy LM ad2 H.size LM_ok (X (i + 1)) (X (i + 2)) x2 _ hp) (cwV 2 C.2.2.2.2 gL_law_X8_next rfl rfl rfl (by decide +kernel) ⟨Nat.le_of_ble_eq_true rfl, Nat.le_of_ble_eq_true rfl⟩) (G2.recv (LM_ok 60 (by omega)) (cl_60 _) rfl) rfl hl.1 rfl (Nat.le_of_ble_eq_true rfl) dL_law_667 hf (fun r2 x4 H locs hp G2 G => ?_)
  obtain ⟨er, hrg, hR3⟩ := hp
  subst er
  exact fr_eq C dL_law_670 (tgt := 889) (by decide) ⟨hrg, hrg⟩ (fun _ => k x3 x4 H locs hR3 ⟨G, G2, hd⟩) (fun q => absurd rfl q)
set_option maxHeartbeats 2000000 in
set_option maxRecDepth 100000 in
/-- aim -/
theorem lw_aim (C : CallFix p m c cL_law 4 s args wsL_law RL) {b n i : Nat} {X : Nat → Int} (hX : va_X b n (fun j => iI (X j)) s s.heap) (hbl : b < s.heap.size) (hn : n ≤ 2560) (hi : i + 5 ≤ n) (hr : ∀ j, rg (X j)) (hf : cells ≤ room_1.cells ∧ slots ≤ room_1.slots) (hl : lv_has ls 4 [(0, .ref b), (1, .ref (ad 0)), (2, .ref (ad2 60)), (3, .int (iI (i : Int)))]) (hV : lG D cy ad ad2 s x x2 H locs) (hR : Rel x x2) (k : ∀ (x3 x4 : Mm) (H1 : Heap) (locs1 : List Loc), Rel x3 x4 → lG D cy ad ad2 s x3 x4 H1 locs1 → W p l e room_1 s m args below meth c H1 locs1 cells slots Q (F0 m 889 ls [])) : W p l e room_1 s m args below meth c H locs cells slots Q (F0 m 675 ls []) := by
  obtain ⟨G, G2, hd⟩ := hV
  refine lv_aload_n C.1 C.2.1 dL_law_675 rfl (lv_at hl 1 rfl) ?_
  refine lw_ld C hX hbl G.2.2.2.1 hn hi hl 1 (by decide) rfl dL_law_676 dL_law_677 dL_law_678 dL_law_679 dL_law_680 ?_
  refine lw_ld C hX hbl G.2.2.2.1 hn hi hl 2 (by decide) rfl dL_law_681 dL_law_682 dL_law_683 dL_law_684 dL_law_685 ?_
  refine lw_ld C hX hbl G.2.2.2.1 hn hi hl 3 (by decide) rfl dL_law_686 dL_law_687 dL_law_688 dL_law_689 dL_law_690 ?_
  refine fr_Vi2 C G G2 hd (c_X7_aim l D cy LA ad H.size LA_ok (X (i + 1)) (X (i + 2)) (X (i + 3)) x _ (sim_aim hR (hr _) (hr _) (hr _))) (cwV 3 C.2.2.2.2 gL_law_X7_aim rfl rfl rfl (by decide +kernel) ⟨Nat.le_of_ble_eq_true rfl, Nat.le_of_ble_eq_true rfl⟩) (G.recv (LA_ok 0 (by decide)) (cl_0 _) rfl) rfl hl.1 rfl (Nat.le_of_ble_eq_true rfl) dL_law_691 hf (fun r x3 H locs hp G G2 => ?_)
  refine lv_aload_n C.1 C.2.1 dL_law_694 rfl (lv_at hl 2 rfl) ?_
  refine lw_ld C hX hbl G.2.2.2.1 hn hi hl 1 (by decide) rfl dL_law_695 dL_law_696 dL_law_697 dL_law_698 dL_law_699 ?_
  refine lw_ld C hX hbl G.2.2.2.1 hn hi hl 2 (by decide) rfl dL_law_700 dL_law_701 dL_law_702 dL_law_703 dL_law_704 ?_
  refine lw_ld C hX hbl G.2.2.2.1 hn hi hl 3 (by decide) rfl dL_law_705 dL_law_706 dL_law_707 dL_law_708 dL_law_709 ?_
  refine fr_Vi2 C G2 G (fun c h c2 h2 q => hd c2 h2 c h q.symm) (c_X8_aim l D cy LM ad2 H.size LM_ok (X (i + 1)) (X (i + 2)) (X (i + 3)) x2 _ hp) (cwV 3 C.2.2.2.2 gL_law_X8_aim rfl rfl rfl (by decide +kernel) ⟨Nat.le_of_ble_eq_true rfl, Nat.le_of_ble_eq_true rfl⟩) (G2.recv (LM_ok 60 (by omega)) (cl_60 _) rfl) rfl hl.1 rfl (Nat.le_of_ble_eq_true rfl) dL_law_710 hf (fun r2 x4 H locs hp G2 G => ?_)
  obtain ⟨er, hrg, hR3⟩ := hp
  subst er
  exact fr_eq C dL_law_713 (tgt := 889) (by decide) ⟨hrg, hrg⟩ (fun _ => k x3 x4 H locs hR3 ⟨G, G2, hd⟩) (fun q => absurd rfl q)
end LWC1
