set_option maxHeartbeats 1000000 in
set_option maxRecDepth 100000 in
theorem lwo_work {p : Program} {l : Launch} {e : Env} {s : State} {m : MethodId} {below : List Frame} {meth : Method} {c0 : Code} {b L : Nat} {xs : Nat → Int32} {E : gT} {x o i cells slots : Nat} {Q : State → Prop} (C0 : lw_At p s m meth c0 b L xs) (htsL : ∀ w ∈ wsL_law, w.before #[Value.ref b] s = true) (hL : L ≤ 2560) (hK : gK E s) (hi : i + 5 ≤ L) (hc : cells + 7 ≤ 600000) (hsl : slots + 118 ≤ 7302250) (kk : lwW p l e s m below meth c0 b E x o i (cells + 7) (slots + 118) Q 905) : lwW p l e s m below meth c0 b E x o i cells slots Q 423 := by
  obtain ⟨hx, hb, hr, hml, hown, -, hX, hbl, hlocks, hgv⟩ := id C0
  have hown : s.vm.findClass RL = some m.cls := hown
  have hb : c0.code = cL_law := hb
  intro H locs ls hI hS hl
  obtain ⟨n, G, c, S, ⟨ha, la, lt, wa, ww, wn⟩, hP, hPm, ⟨hzo, hon⟩, hp, hs⟩ := hI
  obtain ⟨hA1, hV, hR, hH1, hB, hL1, hPl, hEv, hRo, hVi, hWk, hW, hHo, hHa, hHp⟩ := id hs
  try dsimp only at hH1 hL1 hVi hWk hW hHo hHa hHp
  have hA : ∀ q, n ≤ q → aX s.heap.size o q := fun q h => ⟨by omega, by omega⟩
  have hl : lv_has ls 4 [(0, .ref b), (1, .ref x), (2, .ref o), (3, .int (nI i))] := hl
  refine lv_aload_n hx hb dL_law_423 rfl (lv_at hl 1 rfl) ?_
  refine lv_aload_n hx hb dL_law_424 rfl (lv_at hl 0 rfl) ?_
  refine lv_iload_n hx hb dL_law_425 rfl (lv_at hl 3 rfl) ?_
  refine lv_iconst (v := 1) hx hb dL_law_426 (by decide) ?_
  refine lv_iadd hx hb dL_law_427 ?_
  refine lw_sld (j := 1) hx hb hX hbl hS rfl (by omega) hL dL_law_428 ?_
  refine lv_aload_n hx hb dL_law_429 rfl (lv_at hl 0 rfl) ?_
  refine lv_iload_n hx hb dL_law_430 rfl (lv_at hl 3 rfl) ?_
  refine lv_iconst (v := 2) hx hb dL_law_431 (by decide) ?_
  refine lv_iadd hx hb dL_law_432 ?_
  refine lw_sld (j := 2) hx hb hX hbl hS rfl (by omega) hL dL_law_433 ?_
  refine lv_aload_n hx hb dL_law_434 rfl (lv_at hl 0 rfl) ?_
  refine lv_iload_n hx hb dL_law_435 rfl (lv_at hl 3 rfl) ?_
  refine lv_iconst (v := 3) hx hb dL_law_436 (by decide) ?_
  refine lv_iadd hx hb dL_law_437 ?_
  refine lw_sld (j := 3) hx hb hX hbl hS rfl (by omega) hL dL_law_438 ?_
  refine lv_aload_n hx hb dL_law_439 rfl (lv_at hl 0 rfl) ?_
  refine lv_iload_n hx hb dL_law_440 rfl (lv_at hl 3 rfl) ?_
  refine lv_iconst (v := 4) hx hb dL_law_441 (by decide) ?_
  refine lv_iadd hx hb dL_law_442 ?_
  refine lw_sld (j := 4) hx hb hX hbl hS rfl (by omega) hL dL_law_443 ?_
  refine lw_cx (g_runV (As := [.int (xs (i + 1)), .int (xs (i + 2)), .int (xs (i + 3)), .int (xs (i + 4))]) (rest := []) ⟨hx, hb, hml, hown, htsL⟩ hK hP (kX8_work l E (aX s.heap.size o) n G x c S (ha, la, lt, wa, ww, wn) (xs (i + 1)) (xs (i + 2)) (xs (i + 3)) (xs (i + 4)) hs hp.1 hA hp.2.1) (cwV 4 htsL gL_law_X8_work rfl rfl rfl (by decide +kernel) ⟨Nat.le_of_ble_eq_true rfl, Nat.le_of_ble_eq_true rfl⟩) hs.1 rfl rfl hl.1 rfl (Nat.le_of_ble_eq_true rfl) dL_law_444 ⟨by show cells + 1 ≤ 600000; omega, by show slots + 3 ≤ 7302250; omega⟩) hS hPm (fun r1 n1 G1 H locs hw hP hPm hS => ?_)
  obtain ⟨hw, hle, Y9, hs9⟩ := hw
  refine lv_aload_n hx hb dL_law_447 rfl (lv_at hl 2 rfl) ?_
  refine lv_aload_n hx hb dL_law_448 rfl (lv_at hl 0 rfl) ?_
  refine lv_iload_n hx hb dL_law_449 rfl (lv_at hl 3 rfl) ?_
  refine lv_iconst (v := 1) hx hb dL_law_450 (by decide) ?_
  refine lv_iadd hx hb dL_law_451 ?_
  refine lw_sld (j := 1) hx hb hX hbl hS rfl (by omega) hL dL_law_452 ?_
  refine lv_aload_n hx hb dL_law_453 rfl (lv_at hl 0 rfl) ?_
  refine lv_iload_n hx hb dL_law_454 rfl (lv_at hl 3 rfl) ?_
  refine lv_iconst (v := 2) hx hb dL_law_455 (by decide) ?_
  refine lv_iadd hx hb dL_law_456 ?_
  refine lw_sld (j := 2) hx hb hX hbl hS rfl (by omega) hL dL_law_457 ?_
  refine lv_aload_n hx hb dL_law_458 rfl (lv_at hl 0 rfl) ?_
  refine lv_iload_n hx hb dL_law_459 rfl (lv_at hl 3 rfl) ?_
  refine lv_iconst (v := 3) hx hb dL_law_460 (by decide) ?_
  refine lv_iadd hx hb dL_law_461 ?_
  refine lw_sld (j := 3) hx hb hX hbl hS rfl (by omega) hL dL_law_462 ?_
  refine lv_aload_n hx hb dL_law_463 rfl (lv_at hl 0 rfl) ?_
  refine lv_iload_n hx hb dL_law_464 rfl (lv_at hl 3 rfl) ?_
  refine lv_iconst (v := 4) hx hb dL_law_465 (by decide) ?_
  refine lv_iadd hx hb dL_law_466 ?_
  refine lw_sld (j := 4) hx hb hX hbl hS rfl (by omega) hL dL_law_467 ?_
  refine lw_cm hzo (g_runV (As := [.int (xs (i + 1)), .int (xs (i + 2)), .int (xs (i + 3)), .int (xs (i + 4))]) (rest := [.int r1]) ⟨hx, hb, hml, hown, htsL⟩ hK hPm (kX9_work l E (aM o) n1 o c S (xs (i + 1)) (xs (i + 2)) (xs (i + 3)) (xs (i + 4)) hp.1.1) (cwV 4 htsL gL_law_X9_work rfl rfl rfl (by decide +kernel) ⟨Nat.le_of_ble_eq_true rfl, Nat.le_of_ble_eq_true rfl⟩) GM_o rfl rfl hl.1 rfl (Nat.le_of_ble_eq_true rfl) dL_law_468 ⟨by show cells + 1 + 0 ≤ 600000; omega, by show slots + 3 + 0 ≤ 7302250; omega⟩) hS hP (fun r2 n2 G2 H locs hw2 hPm hP hS => ?_)
  obtain ⟨hw2, hn2, hG2⟩ := hw2
  subst hn2
  subst hG2
  refine lv_icmp_eq (tgt := 905) hx hb dL_law_471 (by decide) (fun _ => ?_) (fun hne => absurd (hw.symm.trans hw2) hne)
  refine W.widen (k := cells + 7) (n := slots + 118) (by omega) (by omega) ?_
  exact kk H locs ls ⟨n1, G1, (wrkC c S (xs (i + 1)) (xs (i + 2)) (xs (i + 3)) (xs (i + 4))), (wrkS c S (xs (i + 1)) (xs (i + 2)) (xs (i + 3)) (xs (i + 4))), Y9, hP, hPm, ⟨hzo, by omega⟩, pA_wrk hp (xs (i + 1)) (xs (i + 2)) (xs (i + 3)) (xs (i + 4)), hs9⟩ hS hl
set_option maxHeartbeats 1000000 in
set_option maxRecDepth 100000 in
theorem lwo_buy {p : Program} {l : Launch} {e : Env} {s : State} {m : MethodId} {below : List Frame} {meth : Method} {c0 : Code} {b L : Nat} {xs : Nat → Int32} {E : gT} {x o i cells slots : Nat} {Q : State → Prop} (C0 : lw_At p s m meth c0 b L xs) (htsL : ∀ w ∈ wsL_law, w.before #[Value.ref b] s = true) (hL : L ≤ 2560) (hK : gK E s) (hi : i + 5 ≤ L) (hc : cells + 7 ≤ 600000) (hsl : slots + 118 ≤ 7302250) (kk : lwW p l e s m below meth c0 b E x o i (cells + 7) (slots + 118) Q 905) : lwW p l e s m below meth c0 b E x o i cells slots Q 476 := by
  obtain ⟨hx, hb, hr, hml, hown, -, hX, hbl, hlocks, hgv⟩ := id C0
  have hown : s.vm.findClass RL = some m.cls := hown
  have hb : c0.code = cL_law := hb
  intro H locs ls hI hS hl
  obtain ⟨n, G, c, S, ⟨ha, la, lt, wa, ww, wn⟩, hP, hPm, ⟨hzo, hon⟩, hp, hs⟩ := hI
  obtain ⟨hA1, hV, hR, hH1, hB, hL1, hPl, hEv, hRo, hVi, hWk, hW, hHo, hHa, hHp⟩ := id hs
  try dsimp only at hH1 hL1 hVi hWk hW hHo hHa hHp
  have hA : ∀ q, n ≤ q → aX s.heap.size o q := fun q h => ⟨by omega, by omega⟩
  have hl : lv_has ls 4 [(0, .ref b), (1, .ref x), (2, .ref o), (3, .int (nI i))] := hl
  refine lv_aload_n hx hb dL_law_476 rfl (lv_at hl 1 rfl) ?_
  refine lv_aload_n hx hb dL_law_477 rfl (lv_at hl 0 rfl) ?_
  refine lv_iload_n hx hb dL_law_478 rfl (lv_at hl 3 rfl) ?_
  refine lv_iconst (v := 1) hx hb dL_law_479 (by decide) ?_
  refine lv_iadd hx hb dL_law_480 ?_
  refine lw_sld (j := 1) hx hb hX hbl hS rfl (by omega) hL dL_law_481 ?_
  refine lv_aload_n hx hb dL_law_482 rfl (lv_at hl 0 rfl) ?_
  refine lv_iload_n hx hb dL_law_483 rfl (lv_at hl 3 rfl) ?_
  refine lv_iconst (v := 2) hx hb dL_law_484 (by decide) ?_
  refine lv_iadd hx hb dL_law_485 ?_
  refine lw_sld (j := 2) hx hb hX hbl hS rfl (by omega) hL dL_law_486 ?_
  refine lw_cx (g_runV (As := [.int (xs (i + 1)), .int (xs (i + 2))]) (rest := []) ⟨hx, hb, hml, hown, htsL⟩ hK hP (kX8_buy l E (aX s.heap.size o) n G x c S (ha, la, lt, wa, ww, wn) (xs (i + 1)) (xs (i + 2)) hs hp.1) (cwV 2 htsL gL_law_X8_buy rfl rfl rfl (by decide +kernel) ⟨Nat.le_of_ble_eq_true rfl, Nat.le_of_ble_eq_true rfl⟩) hs.1 rfl rfl hl.1 rfl (Nat.le_of_ble_eq_true rfl) dL_law_487 ⟨by show cells + 0 ≤ 600000; omega, by show slots + 0 ≤ 7302250; omega⟩) hS hPm (fun r1 n1 G1 H locs hw hP hPm hS => ?_)
  obtain ⟨hw, hle, Y9, hs9⟩ := hw
  refine lv_aload_n hx hb dL_law_490 rfl (lv_at hl 2 rfl) ?_
  refine lv_aload_n hx hb dL_law_491 rfl (lv_at hl 0 rfl) ?_
  refine lv_iload_n hx hb dL_law_492 rfl (lv_at hl 3 rfl) ?_
  refine lv_iconst (v := 1) hx hb dL_law_493 (by decide) ?_
  refine lv_iadd hx hb dL_law_494 ?_
  refine lw_sld (j := 1) hx hb hX hbl hS rfl (by omega) hL dL_law_495 ?_
  refine lv_aload_n hx hb dL_law_496 rfl (lv_at hl 0 rfl) ?_
  refine lv_iload_n hx hb dL_law_497 rfl (lv_at hl 3 rfl) ?_
  refine lv_iconst (v := 2) hx hb dL_law_498 (by decide) ?_
  refine lv_iadd hx hb dL_law_499 ?_
  refine lw_sld (j := 2) hx hb hX hbl hS rfl (by omega) hL dL_law_500 ?_
  refine lw_cm hzo (g_runV (As := [.int (xs (i + 1)), .int (xs (i + 2))]) (rest := [.int r1]) ⟨hx, hb, hml, hown, htsL⟩ hK hPm (kX9_buy l E (aM o) n1 o c S (xs (i + 1)) (xs (i + 2)) hp.1.1) (cwV 2 htsL gL_law_X9_buy rfl rfl rfl (by decide +kernel) ⟨Nat.le_of_ble_eq_true rfl, Nat.le_of_ble_eq_true rfl⟩) GM_o rfl rfl hl.1 rfl (Nat.le_of_ble_eq_true rfl) dL_law_501 ⟨by show cells + 0 + 0 ≤ 600000; omega, by show slots + 0 + 0 ≤ 7302250; omega⟩) hS hP (fun r2 n2 G2 H locs hw2 hPm hP hS => ?_)
  obtain ⟨hw2, hn2, hG2⟩ := hw2
  subst hn2
  subst hG2
  refine lv_icmp_eq (tgt := 905) hx hb dL_law_504 (by decide) (fun _ => ?_) (fun hne => absurd (hw.symm.trans hw2) hne)
  refine W.widen (k := cells + 7) (n := slots + 118) (by omega) (by omega) ?_
  exact kk H locs ls ⟨n1, G1, (buyC c S (xs (i + 1)) (xs (i + 2))), (buyS c S (xs (i + 1)) (xs (i + 2))), Y9, hP, hPm, ⟨hzo, by omega⟩, pA_buy hp (xs (i + 1)) (xs (i + 2)), hs9⟩ hS hl
set_option maxHeartbeats 1000000 in
set_option maxRecDepth 100000 in
theorem lwo_hire {p : Program} {l : Launch} {e : Env} {s : State} {m : MethodId} {below : List Frame} {meth : Method} {c0 : Code} {b L : Nat} {xs : Nat → Int32} {E : gT} {x o i cells slots : Nat} {Q : State → Prop} (C0 : lw_At p s m meth c0 b L xs) (htsL : ∀ w ∈ wsL_law, w.before #[Value.ref b] s = true) (hL : L ≤ 2560) (hK : gK E s) (hi : i + 5 ≤ L) (hc : cells + 7 ≤ 600000) (hsl : slots + 118 ≤ 7302250) (kk : lwW p l e s m below meth c0 b E x o i (cells + 7) (slots + 118) Q 905) : lwW p l e s m below meth c0 b E x o i cells slots Q 509 := by
  obtain ⟨hx, hb, hr, hml, hown, -, hX, hbl, hlocks, hgv⟩ := id C0
  have hown : s.vm.findClass RL = some m.cls := hown
  have hb : c0.code = cL_law := hb
  intro H locs ls hI hS hl
  obtain ⟨n, G, c, S, ⟨ha, la, lt, wa, ww, wn⟩, hP, hPm, ⟨hzo, hon⟩, hp, hs⟩ := hI
  obtain ⟨hA1, hV, hR, hH1, hB, hL1, hPl, hEv, hRo, hVi, hWk, hW, hHo, hHa, hHp⟩ := id hs
  try dsimp only at hH1 hL1 hVi hWk hW hHo hHa hHp
  have hA : ∀ q, n ≤ q → aX s.heap.size o q := fun q h => ⟨by omega, by omega⟩
  have hl : lv_has ls 4 [(0, .ref b), (1, .ref x), (2, .ref o), (3, .int (nI i))] := hl
  refine lv_aload_n hx hb dL_law_509 rfl (lv_at hl 1 rfl) ?_
  refine lv_aload_n hx hb dL_law_510 rfl (lv_at hl 0 rfl) ?_
  refine lv_iload_n hx hb dL_law_511 rfl (lv_at hl 3 rfl) ?_
  refine lv_iconst (v := 1) hx hb dL_law_512 (by decide) ?_
  refine lv_iadd hx hb dL_law_513 ?_
  refine lw_sld (j := 1) hx hb hX hbl hS rfl (by omega) hL dL_law_514 ?_
  refine lv_aload_n hx hb dL_law_515 rfl (lv_at hl 0 rfl) ?_
  refine lv_iload_n hx hb dL_law_516 rfl (lv_at hl 3 rfl) ?_
  refine lv_iconst (v := 2) hx hb dL_law_517 (by decide) ?_
  refine lv_iadd hx hb dL_law_518 ?_
  refine lw_sld (j := 2) hx hb hX hbl hS rfl (by omega) hL dL_law_519 ?_
  refine lw_cx (g_runV (As := [.int (xs (i + 1)), .int (xs (i + 2))]) (rest := []) ⟨hx, hb, hml, hown, htsL⟩ hK hP (kX8_hire l E (aX s.heap.size o) n G x c S (ha, la, lt, wa, ww, wn) (xs (i + 1)) (xs (i + 2)) hs hp.1) (cwV 2 htsL gL_law_X8_hire rfl rfl rfl (by decide +kernel) ⟨Nat.le_of_ble_eq_true rfl, Nat.le_of_ble_eq_true rfl⟩) hs.1 rfl rfl hl.1 rfl (Nat.le_of_ble_eq_true rfl) dL_law_520 ⟨by show cells + 0 ≤ 600000; omega, by show slots + 0 ≤ 7302250; omega⟩) hS hPm (fun r1 n1 G1 H locs hw hP hPm hS => ?_)
  obtain ⟨hw, hle, Y9, hs9⟩ := hw
  refine lv_aload_n hx hb dL_law_523 rfl (lv_at hl 2 rfl) ?_
  refine lv_aload_n hx hb dL_law_524 rfl (lv_at hl 0 rfl) ?_
  refine lv_iload_n hx hb dL_law_525 rfl (lv_at hl 3 rfl) ?_
  refine lv_iconst (v := 1) hx hb dL_law_526 (by decide) ?_
  refine lv_iadd hx hb dL_law_527 ?_
  refine lw_sld (j := 1) hx hb hX hbl hS rfl (by omega) hL dL_law_528 ?_
  refine lv_aload_n hx hb dL_law_529 rfl (lv_at hl 0 rfl) ?_
  refine lv_iload_n hx hb dL_law_530 rfl (lv_at hl 3 rfl) ?_
  refine lv_iconst (v := 2) hx hb dL_law_531 (by decide) ?_
  refine lv_iadd hx hb dL_law_532 ?_
  refine lw_sld (j := 2) hx hb hX hbl hS rfl (by omega) hL dL_law_533 ?_
  refine lw_cm hzo (g_runV (As := [.int (xs (i + 1)), .int (xs (i + 2))]) (rest := [.int r1]) ⟨hx, hb, hml, hown, htsL⟩ hK hPm (kX9_hire l E (aM o) n1 o c S (xs (i + 1)) (xs (i + 2)) hp.1.1) (cwV 2 htsL gL_law_X9_hire rfl rfl rfl (by decide +kernel) ⟨Nat.le_of_ble_eq_true rfl, Nat.le_of_ble_eq_true rfl⟩) GM_o rfl rfl hl.1 rfl (Nat.le_of_ble_eq_true rfl) dL_law_534 ⟨by show cells + 0 + 0 ≤ 600000; omega, by show slots + 0 + 0 ≤ 7302250; omega⟩) hS hP (fun r2 n2 G2 H locs hw2 hPm hP hS => ?_)
  obtain ⟨hw2, hn2, hG2⟩ := hw2
  subst hn2
  subst hG2
  refine lv_icmp_eq (tgt := 905) hx hb dL_law_537 (by decide) (fun _ => ?_) (fun hne => absurd (hw.symm.trans hw2) hne)
  refine W.widen (k := cells + 7) (n := slots + 118) (by omega) (by omega) ?_
  exact kk H locs ls ⟨n1, G1, (hirC c S (xs (i + 1)) (xs (i + 2))), (hirS c S (xs (i + 1)) (xs (i + 2))), Y9, hP, hPm, ⟨hzo, by omega⟩, pA_hir hp (xs (i + 1)) (xs (i + 2)), hs9⟩ hS hl
set_option maxHeartbeats 1000000 in
set_option maxRecDepth 100000 in
theorem lwo_river {p : Program} {l : Launch} {e : Env} {s : State} {m : MethodId} {below : List Frame} {meth : Method} {c0 : Code} {b L : Nat} {xs : Nat → Int32} {E : gT} {x o i cells slots : Nat} {Q : State → Prop} (C0 : lw_At p s m meth c0 b L xs) (htsL : ∀ w ∈ wsL_law, w.before #[Value.ref b] s = true) (hL : L ≤ 2560) (hK : gK E s) (hi : i + 5 ≤ L) (hc : cells + 7 ≤ 600000) (hsl : slots + 118 ≤ 7302250) (kk : lwW p l e s m below meth c0 b E x o i (cells + 7) (slots + 118) Q 905) : lwW p l e s m below meth c0 b E x o i cells slots Q 542 := by
  obtain ⟨hx, hb, hr, hml, hown, -, hX, hbl, hlocks, hgv⟩ := id C0
  have hown : s.vm.findClass RL = some m.cls := hown
  have hb : c0.code = cL_law := hb
  intro H locs ls hI hS hl
  obtain ⟨n, G, c, S, ⟨ha, la, lt, wa, ww, wn⟩, hP, hPm, ⟨hzo, hon⟩, hp, hs⟩ := hI
  obtain ⟨hA1, hV, hR, hH1, hB, hL1, hPl, hEv, hRo, hVi, hWk, hW, hHo, hHa, hHp⟩ := id hs
  try dsimp only at hH1 hL1 hVi hWk hW hHo hHa hHp
  have hA : ∀ q, n ≤ q → aX s.heap.size o q := fun q h => ⟨by omega, by omega⟩
  have hl : lv_has ls 4 [(0, .ref b), (1, .ref x), (2, .ref o), (3, .int (nI i))] := hl
  refine lv_aload_n hx hb dL_law_542 rfl (lv_at hl 1 rfl) ?_
  refine lv_aload_n hx hb dL_law_543 rfl (lv_at hl 0 rfl) ?_
  refine lv_iload_n hx hb dL_law_544 rfl (lv_at hl 3 rfl) ?_
  refine lv_iconst (v := 1) hx hb dL_law_545 (by decide) ?_
  refine lv_iadd hx hb dL_law_546 ?_
  refine lw_sld (j := 1) hx hb hX hbl hS rfl (by omega) hL dL_law_547 ?_
  refine lv_aload_n hx hb dL_law_548 rfl (lv_at hl 0 rfl) ?_
  refine lv_iload_n hx hb dL_law_549 rfl (lv_at hl 3 rfl) ?_
  refine lv_iconst (v := 2) hx hb dL_law_550 (by decide) ?_
  refine lv_iadd hx hb dL_law_551 ?_
  refine lw_sld (j := 2) hx hb hX hbl hS rfl (by omega) hL dL_law_552 ?_
  refine lv_aload_n hx hb dL_law_553 rfl (lv_at hl 0 rfl) ?_
  refine lv_iload_n hx hb dL_law_554 rfl (lv_at hl 3 rfl) ?_
  refine lv_iconst (v := 3) hx hb dL_law_555 (by decide) ?_
  refine lv_iadd hx hb dL_law_556 ?_
  refine lw_sld (j := 3) hx hb hX hbl hS rfl (by omega) hL dL_law_557 ?_
  refine lw_cx (g_runV (As := [.int (xs (i + 1)), .int (xs (i + 2)), .int (xs (i + 3))]) (rest := []) ⟨hx, hb, hml, hown, htsL⟩ hK hP (kX8_river l E (aX s.heap.size o) n G x c S (ha, la, lt, wa, ww, wn) (xs (i + 1)) (xs (i + 2)) (xs (i + 3)) hs hp.1) (cwV 3 htsL gL_law_X8_river rfl rfl rfl (by decide +kernel) ⟨Nat.le_of_ble_eq_true rfl, Nat.le_of_ble_eq_true rfl⟩) hs.1 rfl rfl hl.1 rfl (Nat.le_of_ble_eq_true rfl) dL_law_558 ⟨by show cells + 0 ≤ 600000; omega, by show slots + 0 ≤ 7302250; omega⟩) hS hPm (fun r1 n1 G1 H locs hw hP hPm hS => ?_)
  obtain ⟨hw, hle, Y9, hs9⟩ := hw
  refine lv_aload_n hx hb dL_law_561 rfl (lv_at hl 2 rfl) ?_
  refine lv_aload_n hx hb dL_law_562 rfl (lv_at hl 0 rfl) ?_
  refine lv_iload_n hx hb dL_law_563 rfl (lv_at hl 3 rfl) ?_
  refine lv_iconst (v := 1) hx hb dL_law_564 (by decide) ?_
  refine lv_iadd hx hb dL_law_565 ?_
  refine lw_sld (j := 1) hx hb hX hbl hS rfl (by omega) hL dL_law_566 ?_
  refine lv_aload_n hx hb dL_law_567 rfl (lv_at hl 0 rfl) ?_
  refine lv_iload_n hx hb dL_law_568 rfl (lv_at hl 3 rfl) ?_
  refine lv_iconst (v := 2) hx hb dL_law_569 (by decide) ?_
  refine lv_iadd hx hb dL_law_570 ?_
  refine lw_sld (j := 2) hx hb hX hbl hS rfl (by omega) hL dL_law_571 ?_
  refine lv_aload_n hx hb dL_law_572 rfl (lv_at hl 0 rfl) ?_
  refine lv_iload_n hx hb dL_law_573 rfl (lv_at hl 3 rfl) ?_
  refine lv_iconst (v := 3) hx hb dL_law_574 (by decide) ?_
  refine lv_iadd hx hb dL_law_575 ?_
  refine lw_sld (j := 3) hx hb hX hbl hS rfl (by omega) hL dL_law_576 ?_
  refine lw_cm hzo (g_runV (As := [.int (xs (i + 1)), .int (xs (i + 2)), .int (xs (i + 3))]) (rest := [.int r1]) ⟨hx, hb, hml, hown, htsL⟩ hK hPm (kX9_river l E (aM o) n1 o c S (xs (i + 1)) (xs (i + 2)) (xs (i + 3)) hp.1.1) (cwV 3 htsL gL_law_X9_river rfl rfl rfl (by decide +kernel) ⟨Nat.le_of_ble_eq_true rfl, Nat.le_of_ble_eq_true rfl⟩) GM_o rfl rfl hl.1 rfl (Nat.le_of_ble_eq_true rfl) dL_law_577 ⟨by show cells + 0 + 0 ≤ 600000; omega, by show slots + 0 + 0 ≤ 7302250; omega⟩) hS hP (fun r2 n2 G2 H locs hw2 hPm hP hS => ?_)
  obtain ⟨hw2, hn2, hG2⟩ := hw2
  subst hn2
  subst hG2
  refine lv_icmp_eq (tgt := 905) hx hb dL_law_580 (by decide) (fun _ => ?_) (fun hne => absurd (hw.symm.trans hw2) hne)
  refine W.widen (k := cells + 7) (n := slots + 118) (by omega) (by omega) ?_
  exact kk H locs ls ⟨n1, G1, c, (rivS c S (xs (i + 1)) (xs (i + 2)) (xs (i + 3))), Y9, hP, hPm, ⟨hzo, by omega⟩, pA_riv hp (xs (i + 1)) (xs (i + 2)) (xs (i + 3)), hs9⟩ hS hl
set_option maxHeartbeats 1000000 in
set_option maxRecDepth 100000 in
theorem lwo_go {p : Program} {l : Launch} {e : Env} {s : State} {m : MethodId} {below : List Frame} {meth : Method} {c0 : Code} {b L : Nat} {xs : Nat → Int32} {E : gT} {x o i cells slots : Nat} {Q : State → Prop} (C0 : lw_At p s m meth c0 b L xs) (htsL : ∀ w ∈ wsL_law, w.before #[Value.ref b] s = true) (hL : L ≤ 2560) (hK : gK E s) (hi : i + 5 ≤ L) (hc : cells + 7 ≤ 600000) (hsl : slots + 118 ≤ 7302250) (kk : lwW p l e s m below meth c0 b E x o i (cells + 7) (slots + 118) Q 905) : lwW p l e s m below meth c0 b E x o i cells slots Q 585 := by
  obtain ⟨hx, hb, hr, hml, hown, -, hX, hbl, hlocks, hgv⟩ := id C0
  have hown : s.vm.findClass RL = some m.cls := hown
  have hb : c0.code = cL_law := hb
  intro H locs ls hI hS hl
  obtain ⟨n, G, c, S, ⟨ha, la, lt, wa, ww, wn⟩, hP, hPm, ⟨hzo, hon⟩, hp, hs⟩ := hI
  obtain ⟨hA1, hV, hR, hH1, hB, hL1, hPl, hEv, hRo, hVi, hWk, hW, hHo, hHa, hHp⟩ := id hs
  try dsimp only at hH1 hL1 hVi hWk hW hHo hHa hHp
  have hA : ∀ q, n ≤ q → aX s.heap.size o q := fun q h => ⟨by omega, by omega⟩
  have hl : lv_has ls 4 [(0, .ref b), (1, .ref x), (2, .ref o), (3, .int (nI i))] := hl
  refine lv_aload_n hx hb dL_law_585 rfl (lv_at hl 1 rfl) ?_
  refine lv_aload_n hx hb dL_law_586 rfl (lv_at hl 0 rfl) ?_
  refine lv_iload_n hx hb dL_law_587 rfl (lv_at hl 3 rfl) ?_
  refine lv_iconst (v := 1) hx hb dL_law_588 (by decide) ?_
  refine lv_iadd hx hb dL_law_589 ?_
  refine lw_sld (j := 1) hx hb hX hbl hS rfl (by omega) hL dL_law_590 ?_
  refine lw_cx (g_runV (As := [.int (xs (i + 1))]) (rest := []) ⟨hx, hb, hml, hown, htsL⟩ hK hP (kX8_go l E (aX s.heap.size o) n G x c S (ha, la, lt, wa, ww, wn) (xs (i + 1)) hs hp.1) (cwV 1 htsL gL_law_X8_go rfl rfl rfl (by decide +kernel) ⟨Nat.le_of_ble_eq_true rfl, Nat.le_of_ble_eq_true rfl⟩) hs.1 rfl rfl hl.1 rfl (Nat.le_of_ble_eq_true rfl) dL_law_591 ⟨by show cells + 0 ≤ 600000; omega, by show slots + 0 ≤ 7302250; omega⟩) hS hPm (fun r1 n1 G1 H locs hw hP hPm hS => ?_)
  obtain ⟨hw, hle, Y9, hs9⟩ := hw
  refine lv_aload_n hx hb dL_law_594 rfl (lv_at hl 2 rfl) ?_
  refine lv_aload_n hx hb dL_law_595 rfl (lv_at hl 0 rfl) ?_
  refine lv_iload_n hx hb dL_law_596 rfl (lv_at hl 3 rfl) ?_
  refine lv_iconst (v := 1) hx hb dL_law_597 (by decide) ?_
  refine lv_iadd hx hb dL_law_598 ?_
  refine lw_sld (j := 1) hx hb hX hbl hS rfl (by omega) hL dL_law_599 ?_
  refine lw_cm hzo (g_runV (As := [.int (xs (i + 1))]) (rest := [.int r1]) ⟨hx, hb, hml, hown, htsL⟩ hK hPm (kX9_go l E (aM o) n1 o c S (xs (i + 1)) hp.1.1) (cwV 1 htsL gL_law_X9_go rfl rfl rfl (by decide +kernel) ⟨Nat.le_of_ble_eq_true rfl, Nat.le_of_ble_eq_true rfl⟩) GM_o rfl rfl hl.1 rfl (Nat.le_of_ble_eq_true rfl) dL_law_600 ⟨by show cells + 0 + 0 ≤ 600000; omega, by show slots + 0 + 0 ≤ 7302250; omega⟩) hS hP (fun r2 n2 G2 H locs hw2 hPm hP hS => ?_)
  obtain ⟨hw2, hn2, hG2⟩ := hw2
  subst hn2
  subst hG2
  refine lv_icmp_eq (tgt := 905) hx hb dL_law_603 (by decide) (fun _ => ?_) (fun hne => absurd (hw.symm.trans hw2) hne)
  refine W.widen (k := cells + 7) (n := slots + 118) (by omega) (by omega) ?_
  exact kk H locs ls ⟨n1, G1, ((goU c S (xs (i + 1))).1), ((goU c S (xs (i + 1))).2), Y9, hP, hPm, ⟨hzo, by omega⟩, pA_go hp (xs (i + 1)), hs9⟩ hS hl
set_option maxHeartbeats 1000000 in
set_option maxRecDepth 100000 in
theorem lwo_told {p : Program} {l : Launch} {e : Env} {s : State} {m : MethodId} {below : List Frame} {meth : Method} {c0 : Code} {b L : Nat} {xs : Nat → Int32} {E : gT} {x o i cells slots : Nat} {Q : State → Prop} (C0 : lw_At p s m meth c0 b L xs) (htsL : ∀ w ∈ wsL_law, w.before #[Value.ref b] s = true) (hL : L ≤ 2560) (hK : gK E s) (hi : i + 5 ≤ L) (hc : cells + 7 ≤ 600000) (hsl : slots + 118 ≤ 7302250) (kk : lwW p l e s m below meth c0 b E x o i (cells + 7) (slots + 118) Q 905) : lwW p l e s m below meth c0 b E x o i cells slots Q 608 := by
  obtain ⟨hx, hb, hr, hml, hown, -, hX, hbl, hlocks, hgv⟩ := id C0
  have hown : s.vm.findClass RL = some m.cls := hown
  have hb : c0.code = cL_law := hb
  intro H locs ls hI hS hl
  obtain ⟨n, G, c, S, ⟨ha, la, lt, wa, ww, wn⟩, hP, hPm, ⟨hzo, hon⟩, hp, hs⟩ := hI
  obtain ⟨hA1, hV, hR, hH1, hB, hL1, hPl, hEv, hRo, hVi, hWk, hW, hHo, hHa, hHp⟩ := id hs
  try dsimp only at hH1 hL1 hVi hWk hW hHo hHa hHp
  have hA : ∀ q, n ≤ q → aX s.heap.size o q := fun q h => ⟨by omega, by omega⟩
  have hl : lv_has ls 4 [(0, .ref b), (1, .ref x), (2, .ref o), (3, .int (nI i))] := hl
  refine lv_aload_n hx hb dL_law_608 rfl (lv_at hl 1 rfl) ?_
  refine lv_aload_n hx hb dL_law_609 rfl (lv_at hl 0 rfl) ?_
  refine lv_iload_n hx hb dL_law_610 rfl (lv_at hl 3 rfl) ?_
  refine lv_iconst (v := 1) hx hb dL_law_611 (by decide) ?_
  refine lv_iadd hx hb dL_law_612 ?_
  refine lw_sld (j := 1) hx hb hX hbl hS rfl (by omega) hL dL_law_613 ?_
  refine lv_aload_n hx hb dL_law_614 rfl (lv_at hl 0 rfl) ?_
  refine lv_iload_n hx hb dL_law_615 rfl (lv_at hl 3 rfl) ?_
  refine lv_iconst (v := 2) hx hb dL_law_616 (by decide) ?_
  refine lv_iadd hx hb dL_law_617 ?_
  refine lw_sld (j := 2) hx hb hX hbl hS rfl (by omega) hL dL_law_618 ?_
  refine lv_aload_n hx hb dL_law_619 rfl (lv_at hl 0 rfl) ?_
  refine lv_iload_n hx hb dL_law_620 rfl (lv_at hl 3 rfl) ?_
  refine lv_iconst (v := 3) hx hb dL_law_621 (by decide) ?_
  refine lv_iadd hx hb dL_law_622 ?_
  refine lw_sld (j := 3) hx hb hX hbl hS rfl (by omega) hL dL_law_623 ?_
  refine lw_cx (g_runV (As := [.int (xs (i + 1)), .int (xs (i + 2)), .int (xs (i + 3))]) (rest := []) ⟨hx, hb, hml, hown, htsL⟩ hK hP (kX8_told l E (aX s.heap.size o) n G x c S (xs (i + 1)) (xs (i + 2)) (xs (i + 3)) hA1 ha hH1 hB la hL1 lt hHo hHa hp.1) (cwV 3 htsL gL_law_X8_told rfl rfl rfl (by decide +kernel) ⟨Nat.le_of_ble_eq_true rfl, Nat.le_of_ble_eq_true rfl⟩) hs.1 rfl rfl hl.1 rfl (Nat.le_of_ble_eq_true rfl) dL_law_624 ⟨by show cells + 0 ≤ 600000; omega, by show slots + 0 ≤ 7302250; omega⟩) hS hPm (fun r1 n1 G1 H locs hw hP hPm hS => ?_)
  obtain ⟨hw, hn9, hG9⟩ := hw
  subst hn9
  subst hG9
  have hle := Nat.le_refl n
  refine lv_aload_n hx hb dL_law_627 rfl (lv_at hl 2 rfl) ?_
  refine lv_aload_n hx hb dL_law_628 rfl (lv_at hl 0 rfl) ?_
  refine lv_iload_n hx hb dL_law_629 rfl (lv_at hl 3 rfl) ?_
  refine lv_iconst (v := 1) hx hb dL_law_630 (by decide) ?_
  refine lv_iadd hx hb dL_law_631 ?_
  refine lw_sld (j := 1) hx hb hX hbl hS rfl (by omega) hL dL_law_632 ?_
  refine lv_aload_n hx hb dL_law_633 rfl (lv_at hl 0 rfl) ?_
  refine lv_iload_n hx hb dL_law_634 rfl (lv_at hl 3 rfl) ?_
  refine lv_iconst (v := 2) hx hb dL_law_635 (by decide) ?_
  refine lv_iadd hx hb dL_law_636 ?_
  refine lw_sld (j := 2) hx hb hX hbl hS rfl (by omega) hL dL_law_637 ?_
  refine lv_aload_n hx hb dL_law_638 rfl (lv_at hl 0 rfl) ?_
  refine lv_iload_n hx hb dL_law_639 rfl (lv_at hl 3 rfl) ?_
  refine lv_iconst (v := 3) hx hb dL_law_640 (by decide) ?_
  refine lv_iadd hx hb dL_law_641 ?_
  refine lw_sld (j := 3) hx hb hX hbl hS rfl (by omega) hL dL_law_642 ?_
  refine lw_cm hzo (g_runV (As := [.int (xs (i + 1)), .int (xs (i + 2)), .int (xs (i + 3))]) (rest := [.int r1]) ⟨hx, hb, hml, hown, htsL⟩ hK hPm (kX9_told l E (aM o) n o c S (xs (i + 1)) (xs (i + 2)) (xs (i + 3)) hp.1.1) (cwV 3 htsL gL_law_X9_told rfl rfl rfl (by decide +kernel) ⟨Nat.le_of_ble_eq_true rfl, Nat.le_of_ble_eq_true rfl⟩) GM_o rfl rfl hl.1 rfl (Nat.le_of_ble_eq_true rfl) dL_law_643 ⟨by show cells + 0 + 0 ≤ 600000; omega, by show slots + 0 + 0 ≤ 7302250; omega⟩) hS hP (fun r2 n2 G2 H locs hw2 hPm hP hS => ?_)
  obtain ⟨hw2, hn2, hG2⟩ := hw2
  subst hn2
  subst hG2
  refine lv_icmp_eq (tgt := 905) hx hb dL_law_646 (by decide) (fun _ => ?_) (fun hne => absurd (hw.symm.trans hw2) hne)
  refine W.widen (k := cells + 7) (n := slots + 118) (by omega) (by omega) ?_
  exact kk H locs ls ⟨n, G, c, S, (ha, la, lt, wa, ww, wn), hP, hPm, ⟨hzo, hon⟩, hp, hs⟩ hS hl
set_option maxHeartbeats 1000000 in
set_option maxRecDepth 100000 in
theorem lwo_paper {p : Program} {l : Launch} {e : Env} {s : State} {m : MethodId} {below : List Frame} {meth : Method} {c0 : Code} {b L : Nat} {xs : Nat → Int32} {E : gT} {x o i cells slots : Nat} {Q : State → Prop} (C0 : lw_At p s m meth c0 b L xs) (htsL : ∀ w ∈ wsL_law, w.before #[Value.ref b] s = true) (hL : L ≤ 2560) (hK : gK E s) (hi : i + 5 ≤ L) (hc : cells + 7 ≤ 600000) (hsl : slots + 118 ≤ 7302250) (kk : lwW p l e s m below meth c0 b E x o i (cells + 7) (slots + 118) Q 905) : lwW p l e s m below meth c0 b E x o i cells slots Q 651 := by
  obtain ⟨hx, hb, hr, hml, hown, -, hX, hbl, hlocks, hgv⟩ := id C0
  have hown : s.vm.findClass RL = some m.cls := hown
  have hb : c0.code = cL_law := hb
  intro H locs ls hI hS hl
  obtain ⟨n, G, c, S, ⟨ha, la, lt, wa, ww, wn⟩, hP, hPm, ⟨hzo, hon⟩, hp, hs⟩ := hI
  obtain ⟨hA1, hV, hR, hH1, hB, hL1, hPl, hEv, hRo, hVi, hWk, hW, hHo, hHa, hHp⟩ := id hs
  try dsimp only at hH1 hL1 hVi hWk hW hHo hHa hHp
  have hA : ∀ q, n ≤ q → aX s.heap.size o q := fun q h => ⟨by omega, by omega⟩
  have hl : lv_has ls 4 [(0, .ref b), (1, .ref x), (2, .ref o), (3, .int (nI i))] := hl
  refine lv_aload_n hx hb dL_law_651 rfl (lv_at hl 1 rfl) ?_
  refine lv_aload_n hx hb dL_law_652 rfl (lv_at hl 0 rfl) ?_
  refine lv_iload_n hx hb dL_law_653 rfl (lv_at hl 3 rfl) ?_
  refine lv_iconst (v := 1) hx hb dL_law_654 (by decide) ?_
  refine lv_iadd hx hb dL_law_655 ?_
  refine lw_sld (j := 1) hx hb hX hbl hS rfl (by omega) hL dL_law_656 ?_
  refine lw_cx (g_runV (As := [.int (xs (i + 1))]) (rest := []) ⟨hx, hb, hml, hown, htsL⟩ hK hP (kX8_paper l E (aX s.heap.size o) n G x c S (xs (i + 1)) hA1 hV wa wn hVi ww hWk hW ha hH1 lt hHo hp.1) (cwV 1 htsL gL_law_X8_paper rfl rfl rfl (by decide +kernel) ⟨Nat.le_of_ble_eq_true rfl, Nat.le_of_ble_eq_true rfl⟩) hs.1 rfl rfl hl.1 rfl (Nat.le_of_ble_eq_true rfl) dL_law_657 ⟨by show cells + 0 ≤ 600000; omega, by show slots + 0 ≤ 7302250; omega⟩) hS hPm (fun r1 n1 G1 H locs hw hP hPm hS => ?_)
  obtain ⟨hw, hn9, hG9⟩ := hw
  subst hn9
  subst hG9
  have hle := Nat.le_refl n
  refine lv_aload_n hx hb dL_law_660 rfl (lv_at hl 2 rfl) ?_
  refine lv_aload_n hx hb dL_law_661 rfl (lv_at hl 0 rfl) ?_
  refine lv_iload_n hx hb dL_law_662 rfl (lv_at hl 3 rfl) ?_
  refine lv_iconst (v := 1) hx hb dL_law_663 (by decide) ?_
  refine lv_iadd hx hb dL_law_664 ?_
  refine lw_sld (j := 1) hx hb hX hbl hS rfl (by omega) hL dL_law_665 ?_
  refine lw_cm hzo (g_runV (As := [.int (xs (i + 1))]) (rest := [.int r1]) ⟨hx, hb, hml, hown, htsL⟩ hK hPm (kX9_paper l E (aM o) n o c S (xs (i + 1)) hp.1.1) (cwV 1 htsL gL_law_X9_paper rfl rfl rfl (by decide +kernel) ⟨Nat.le_of_ble_eq_true rfl, Nat.le_of_ble_eq_true rfl⟩) GM_o rfl rfl hl.1 rfl (Nat.le_of_ble_eq_true rfl) dL_law_666 ⟨by show cells + 0 + 0 ≤ 600000; omega, by show slots + 0 + 0 ≤ 7302250; omega⟩) hS hP (fun r2 n2 G2 H locs hw2 hPm hP hS => ?_)
  obtain ⟨hw2, hn2, hG2⟩ := hw2
  subst hn2
  subst hG2
  refine lv_icmp_eq (tgt := 905) hx hb dL_law_669 (by decide) (fun _ => ?_) (fun hne => absurd (hw.symm.trans hw2) hne)
  refine W.widen (k := cells + 7) (n := slots + 118) (by omega) (by omega) ?_
  exact kk H locs ls ⟨n, G, c, S, (ha, la, lt, wa, ww, wn), hP, hPm, ⟨hzo, hon⟩, hp, hs⟩ hS hl
