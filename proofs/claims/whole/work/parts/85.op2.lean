set_option maxHeartbeats 1000000 in
set_option maxRecDepth 100000 in
theorem lwo_paperWeek {p : Program} {l : Launch} {e : Env} {s : State} {m : MethodId} {below : List Frame} {meth : Method} {c0 : Code} {b L : Nat} {xs : Nat → Int32} {E : gT} {x o i cells slots : Nat} {Q : State → Prop} (C0 : lw_At p s m meth c0 b L xs) (htsL : ∀ w ∈ wsL_law, w.before #[Value.ref b] s = true) (hL : L ≤ 2560) (hK : gK E s) (hi : i + 5 ≤ L) (hc : cells + 7 ≤ 600000) (hsl : slots + 118 ≤ 7302250) (kk : lwW p l e s m below meth c0 b E x o i (cells + 7) (slots + 118) Q 905) : lwW p l e s m below meth c0 b E x o i cells slots Q 674 := by
  obtain ⟨hx, hb, hr, hml, hown, -, hX, hbl, hlocks, hgv⟩ := id C0
  have hown : s.vm.findClass RL = some m.cls := hown
  have hb : c0.code = cL_law := hb
  intro H locs ls hI hS hl
  obtain ⟨n, G, c, S, ⟨ha, la, lt, wa, ww, wn⟩, hP, hPm, ⟨hzo, hon⟩, hp, hs⟩ := hI
  obtain ⟨hA1, hV, hR, hH1, hB, hL1, hPl, hEv, hRo, hVi, hWk, hW, hHo, hHa, hHp⟩ := id hs
  try dsimp only at hH1 hL1 hVi hWk hW hHo hHa hHp
  have hA : ∀ q, n ≤ q → aX s.heap.size o q := fun q h => ⟨by omega, by omega⟩
  have hl : lv_has ls 4 [(0, .ref b), (1, .ref x), (2, .ref o), (3, .int (nI i))] := hl
  refine lv_aload_n hx hb dL_law_674 rfl (lv_at hl 1 rfl) ?_
  refine lv_aload_n hx hb dL_law_675 rfl (lv_at hl 0 rfl) ?_
  refine lv_iload_n hx hb dL_law_676 rfl (lv_at hl 3 rfl) ?_
  refine lv_iconst (v := 1) hx hb dL_law_677 (by decide) ?_
  refine lv_iadd hx hb dL_law_678 ?_
  refine lw_sld (j := 1) hx hb hX hbl hS rfl (by omega) hL dL_law_679 ?_
  refine lw_cx (g_runV (As := [.int (xs (i + 1))]) (rest := []) ⟨hx, hb, hml, hown, htsL⟩ hK hP (kX8_paperWeek l E (aX s.heap.size o) n G x c S (xs (i + 1)) hA1 hV wa wn hVi ww hWk hW ha hH1 lt hHo hp.1) (cwV 1 htsL gL_law_X8_paperWeek rfl rfl rfl (by decide +kernel) ⟨Nat.le_of_ble_eq_true rfl, Nat.le_of_ble_eq_true rfl⟩) hs.1 rfl rfl hl.1 rfl (Nat.le_of_ble_eq_true rfl) dL_law_680 ⟨by show cells + 0 ≤ 600000; omega, by show slots + 0 ≤ 7302250; omega⟩) hS hPm (fun r1 n1 G1 H locs hw hP hPm hS => ?_)
  obtain ⟨hw, hn9, hG9⟩ := hw
  subst hn9
  subst hG9
  have hle := Nat.le_refl n
  refine lv_aload_n hx hb dL_law_683 rfl (lv_at hl 2 rfl) ?_
  refine lv_aload_n hx hb dL_law_684 rfl (lv_at hl 0 rfl) ?_
  refine lv_iload_n hx hb dL_law_685 rfl (lv_at hl 3 rfl) ?_
  refine lv_iconst (v := 1) hx hb dL_law_686 (by decide) ?_
  refine lv_iadd hx hb dL_law_687 ?_
  refine lw_sld (j := 1) hx hb hX hbl hS rfl (by omega) hL dL_law_688 ?_
  refine lw_cm hzo (g_runV (As := [.int (xs (i + 1))]) (rest := [.int r1]) ⟨hx, hb, hml, hown, htsL⟩ hK hPm (kX9_paperWeek l E (aM o) n o c S (xs (i + 1)) hp.1.1) (cwV 1 htsL gL_law_X9_paperWeek rfl rfl rfl (by decide +kernel) ⟨Nat.le_of_ble_eq_true rfl, Nat.le_of_ble_eq_true rfl⟩) GM_o rfl rfl hl.1 rfl (Nat.le_of_ble_eq_true rfl) dL_law_689 ⟨by show cells + 0 + 0 ≤ 600000; omega, by show slots + 0 + 0 ≤ 7302250; omega⟩) hS hP (fun r2 n2 G2 H locs hw2 hPm hP hS => ?_)
  obtain ⟨hw2, hn2, hG2⟩ := hw2
  subst hn2
  subst hG2
  refine lv_icmp_eq (tgt := 905) hx hb dL_law_692 (by decide) (fun _ => ?_) (fun hne => absurd (hw.symm.trans hw2) hne)
  refine W.widen (k := cells + 7) (n := slots + 118) (by omega) (by omega) ?_
  exact kk H locs ls ⟨n, G, c, S, (ha, la, lt, wa, ww, wn), hP, hPm, ⟨hzo, hon⟩, hp, hs⟩ hS hl
set_option maxHeartbeats 1000000 in
set_option maxRecDepth 100000 in
theorem lwo_bank {p : Program} {l : Launch} {e : Env} {s : State} {m : MethodId} {below : List Frame} {meth : Method} {c0 : Code} {b L : Nat} {xs : Nat → Int32} {E : gT} {x o i cells slots : Nat} {Q : State → Prop} (C0 : lw_At p s m meth c0 b L xs) (htsL : ∀ w ∈ wsL_law, w.before #[Value.ref b] s = true) (hL : L ≤ 2560) (hK : gK E s) (hi : i + 5 ≤ L) (hc : cells + 7 ≤ 600000) (hsl : slots + 118 ≤ 7302250) (kk : lwW p l e s m below meth c0 b E x o i (cells + 7) (slots + 118) Q 905) : lwW p l e s m below meth c0 b E x o i cells slots Q 697 := by
  obtain ⟨hx, hb, hr, hml, hown, -, hX, hbl, hlocks, hgv⟩ := id C0
  have hown : s.vm.findClass RL = some m.cls := hown
  have hb : c0.code = cL_law := hb
  intro H locs ls hI hS hl
  obtain ⟨n, G, c, S, ⟨ha, la, lt, wa, ww, wn⟩, hP, hPm, ⟨hzo, hon⟩, hp, hs⟩ := hI
  obtain ⟨hA1, hV, hR, hH1, hB, hL1, hPl, hEv, hRo, hVi, hWk, hW, hHo, hHa, hHp⟩ := id hs
  try dsimp only at hH1 hL1 hVi hWk hW hHo hHa hHp
  have hA : ∀ q, n ≤ q → aX s.heap.size o q := fun q h => ⟨by omega, by omega⟩
  have hl : lv_has ls 4 [(0, .ref b), (1, .ref x), (2, .ref o), (3, .int (nI i))] := hl
  refine lv_aload_n hx hb dL_law_697 rfl (lv_at hl 1 rfl) ?_
  refine lv_aload_n hx hb dL_law_698 rfl (lv_at hl 0 rfl) ?_
  refine lv_iload_n hx hb dL_law_699 rfl (lv_at hl 3 rfl) ?_
  refine lv_iconst (v := 1) hx hb dL_law_700 (by decide) ?_
  refine lv_iadd hx hb dL_law_701 ?_
  refine lw_sld (j := 1) hx hb hX hbl hS rfl (by omega) hL dL_law_702 ?_
  refine lv_aload_n hx hb dL_law_703 rfl (lv_at hl 0 rfl) ?_
  refine lv_iload_n hx hb dL_law_704 rfl (lv_at hl 3 rfl) ?_
  refine lv_iconst (v := 2) hx hb dL_law_705 (by decide) ?_
  refine lv_iadd hx hb dL_law_706 ?_
  refine lw_sld (j := 2) hx hb hX hbl hS rfl (by omega) hL dL_law_707 ?_
  refine lv_aload_n hx hb dL_law_708 rfl (lv_at hl 0 rfl) ?_
  refine lv_iload_n hx hb dL_law_709 rfl (lv_at hl 3 rfl) ?_
  refine lv_iconst (v := 3) hx hb dL_law_710 (by decide) ?_
  refine lv_iadd hx hb dL_law_711 ?_
  refine lw_sld (j := 3) hx hb hX hbl hS rfl (by omega) hL dL_law_712 ?_
  refine lw_cx (g_runV (As := [.int (xs (i + 1)), .int (xs (i + 2)), .int (xs (i + 3))]) (rest := []) ⟨hx, hb, hml, hown, htsL⟩ hK hP (kX8_bank l E (aX s.heap.size o) n G x c S (xs (i + 1)) (xs (i + 2)) (xs (i + 3)) hA1 hR hRo hp.1) (cwV 3 htsL gL_law_X8_bank rfl rfl rfl (by decide +kernel) ⟨Nat.le_of_ble_eq_true rfl, Nat.le_of_ble_eq_true rfl⟩) hs.1 rfl rfl hl.1 rfl (Nat.le_of_ble_eq_true rfl) dL_law_713 ⟨by show cells + 0 ≤ 600000; omega, by show slots + 0 ≤ 7302250; omega⟩) hS hPm (fun r1 n1 G1 H locs hw hP hPm hS => ?_)
  obtain ⟨hw, hn9, hG9⟩ := hw
  subst hn9
  subst hG9
  have hle := Nat.le_refl n
  refine lv_aload_n hx hb dL_law_716 rfl (lv_at hl 2 rfl) ?_
  refine lv_aload_n hx hb dL_law_717 rfl (lv_at hl 0 rfl) ?_
  refine lv_iload_n hx hb dL_law_718 rfl (lv_at hl 3 rfl) ?_
  refine lv_iconst (v := 1) hx hb dL_law_719 (by decide) ?_
  refine lv_iadd hx hb dL_law_720 ?_
  refine lw_sld (j := 1) hx hb hX hbl hS rfl (by omega) hL dL_law_721 ?_
  refine lv_aload_n hx hb dL_law_722 rfl (lv_at hl 0 rfl) ?_
  refine lv_iload_n hx hb dL_law_723 rfl (lv_at hl 3 rfl) ?_
  refine lv_iconst (v := 2) hx hb dL_law_724 (by decide) ?_
  refine lv_iadd hx hb dL_law_725 ?_
  refine lw_sld (j := 2) hx hb hX hbl hS rfl (by omega) hL dL_law_726 ?_
  refine lv_aload_n hx hb dL_law_727 rfl (lv_at hl 0 rfl) ?_
  refine lv_iload_n hx hb dL_law_728 rfl (lv_at hl 3 rfl) ?_
  refine lv_iconst (v := 3) hx hb dL_law_729 (by decide) ?_
  refine lv_iadd hx hb dL_law_730 ?_
  refine lw_sld (j := 3) hx hb hX hbl hS rfl (by omega) hL dL_law_731 ?_
  refine lw_cm hzo (g_runV (As := [.int (xs (i + 1)), .int (xs (i + 2)), .int (xs (i + 3))]) (rest := [.int r1]) ⟨hx, hb, hml, hown, htsL⟩ hK hPm (kX9_bank l E (aM o) n o c S (xs (i + 1)) (xs (i + 2)) (xs (i + 3))) (cwV 3 htsL gL_law_X9_bank rfl rfl rfl (by decide +kernel) ⟨Nat.le_of_ble_eq_true rfl, Nat.le_of_ble_eq_true rfl⟩) GM_o rfl rfl hl.1 rfl (Nat.le_of_ble_eq_true rfl) dL_law_732 ⟨by show cells + 0 + 0 ≤ 600000; omega, by show slots + 0 + 0 ≤ 7302250; omega⟩) hS hP (fun r2 n2 G2 H locs hw2 hPm hP hS => ?_)
  obtain ⟨hw2, hn2, hG2⟩ := hw2
  subst hn2
  subst hG2
  refine lv_icmp_eq (tgt := 905) hx hb dL_law_735 (by decide) (fun _ => ?_) (fun hne => absurd (hw.symm.trans hw2) hne)
  refine W.widen (k := cells + 7) (n := slots + 118) (by omega) (by omega) ?_
  exact kk H locs ls ⟨n, G, c, S, (ha, la, lt, wa, ww, wn), hP, hPm, ⟨hzo, hon⟩, hp, hs⟩ hS hl
set_option maxHeartbeats 1000000 in
set_option maxRecDepth 100000 in
theorem lwo_saved {p : Program} {l : Launch} {e : Env} {s : State} {m : MethodId} {below : List Frame} {meth : Method} {c0 : Code} {b L : Nat} {xs : Nat → Int32} {E : gT} {x o i cells slots : Nat} {Q : State → Prop} (C0 : lw_At p s m meth c0 b L xs) (htsL : ∀ w ∈ wsL_law, w.before #[Value.ref b] s = true) (hL : L ≤ 2560) (hK : gK E s) (hi : i + 5 ≤ L) (hc : cells + 7 ≤ 600000) (hsl : slots + 118 ≤ 7302250) (kk : lwW p l e s m below meth c0 b E x o i (cells + 7) (slots + 118) Q 905) : lwW p l e s m below meth c0 b E x o i cells slots Q 740 := by
  obtain ⟨hx, hb, hr, hml, hown, -, hX, hbl, hlocks, hgv⟩ := id C0
  have hown : s.vm.findClass RL = some m.cls := hown
  have hb : c0.code = cL_law := hb
  intro H locs ls hI hS hl
  obtain ⟨n, G, c, S, ⟨ha, la, lt, wa, ww, wn⟩, hP, hPm, ⟨hzo, hon⟩, hp, hs⟩ := hI
  obtain ⟨hA1, hV, hR, hH1, hB, hL1, hPl, hEv, hRo, hVi, hWk, hW, hHo, hHa, hHp⟩ := id hs
  try dsimp only at hH1 hL1 hVi hWk hW hHo hHa hHp
  have hA : ∀ q, n ≤ q → aX s.heap.size o q := fun q h => ⟨by omega, by omega⟩
  have hl : lv_has ls 4 [(0, .ref b), (1, .ref x), (2, .ref o), (3, .int (nI i))] := hl
  refine lv_aload_n hx hb dL_law_740 rfl (lv_at hl 1 rfl) ?_
  refine lv_aload_n hx hb dL_law_741 rfl (lv_at hl 0 rfl) ?_
  refine lv_iload_n hx hb dL_law_742 rfl (lv_at hl 3 rfl) ?_
  refine lv_iconst (v := 1) hx hb dL_law_743 (by decide) ?_
  refine lv_iadd hx hb dL_law_744 ?_
  refine lw_sld (j := 1) hx hb hX hbl hS rfl (by omega) hL dL_law_745 ?_
  refine lv_aload_n hx hb dL_law_746 rfl (lv_at hl 0 rfl) ?_
  refine lv_iload_n hx hb dL_law_747 rfl (lv_at hl 3 rfl) ?_
  refine lv_iconst (v := 2) hx hb dL_law_748 (by decide) ?_
  refine lv_iadd hx hb dL_law_749 ?_
  refine lw_sld (j := 2) hx hb hX hbl hS rfl (by omega) hL dL_law_750 ?_
  refine lw_cx (g_runV (As := [.int (xs (i + 1)), .int (xs (i + 2))]) (rest := []) ⟨hx, hb, hml, hown, htsL⟩ hK hP (kX8_saved l E (aX s.heap.size o) n G x c S (ha, la, lt, wa, ww, wn) (xs (i + 1)) (xs (i + 2)) hs hp.1) (cwV 2 htsL gL_law_X8_saved rfl rfl rfl (by decide +kernel) ⟨Nat.le_of_ble_eq_true rfl, Nat.le_of_ble_eq_true rfl⟩) hs.1 rfl rfl hl.1 rfl (Nat.le_of_ble_eq_true rfl) dL_law_751 ⟨by show cells + 0 ≤ 600000; omega, by show slots + 0 ≤ 7302250; omega⟩) hS hPm (fun r1 n1 G1 H locs hw hP hPm hS => ?_)
  obtain ⟨hw, hle, Y9, hs9⟩ := hw
  refine lv_aload_n hx hb dL_law_754 rfl (lv_at hl 2 rfl) ?_
  refine lv_aload_n hx hb dL_law_755 rfl (lv_at hl 0 rfl) ?_
  refine lv_iload_n hx hb dL_law_756 rfl (lv_at hl 3 rfl) ?_
  refine lv_iconst (v := 1) hx hb dL_law_757 (by decide) ?_
  refine lv_iadd hx hb dL_law_758 ?_
  refine lw_sld (j := 1) hx hb hX hbl hS rfl (by omega) hL dL_law_759 ?_
  refine lv_aload_n hx hb dL_law_760 rfl (lv_at hl 0 rfl) ?_
  refine lv_iload_n hx hb dL_law_761 rfl (lv_at hl 3 rfl) ?_
  refine lv_iconst (v := 2) hx hb dL_law_762 (by decide) ?_
  refine lv_iadd hx hb dL_law_763 ?_
  refine lw_sld (j := 2) hx hb hX hbl hS rfl (by omega) hL dL_law_764 ?_
  refine lw_cm hzo (g_runV (As := [.int (xs (i + 1)), .int (xs (i + 2))]) (rest := [.int r1]) ⟨hx, hb, hml, hown, htsL⟩ hK hPm (kX9_saved l E (aM o) n1 o c S (xs (i + 1)) (xs (i + 2)) hp.1.2.1) (cwV 2 htsL gL_law_X9_saved rfl rfl rfl (by decide +kernel) ⟨Nat.le_of_ble_eq_true rfl, Nat.le_of_ble_eq_true rfl⟩) GM_o rfl rfl hl.1 rfl (Nat.le_of_ble_eq_true rfl) dL_law_765 ⟨by show cells + 0 + 0 ≤ 600000; omega, by show slots + 0 + 0 ≤ 7302250; omega⟩) hS hP (fun r2 n2 G2 H locs hw2 hPm hP hS => ?_)
  obtain ⟨hw2, hn2, hG2⟩ := hw2
  subst hn2
  subst hG2
  refine lv_icmp_eq (tgt := 905) hx hb dL_law_768 (by decide) (fun _ => ?_) (fun hne => absurd (hw.symm.trans hw2) hne)
  refine W.widen (k := cells + 7) (n := slots + 118) (by omega) (by omega) ?_
  exact kk H locs ls ⟨n1, G1, c, (savS S (xs (i + 1)) (xs (i + 2))), Y9, hP, hPm, ⟨hzo, by omega⟩, pA_sav hp (xs (i + 1)) (xs (i + 2)), hs9⟩ hS hl
set_option maxHeartbeats 1000000 in
set_option maxRecDepth 100000 in
theorem lwo_chosen {p : Program} {l : Launch} {e : Env} {s : State} {m : MethodId} {below : List Frame} {meth : Method} {c0 : Code} {b L : Nat} {xs : Nat → Int32} {E : gT} {x o i cells slots : Nat} {Q : State → Prop} (C0 : lw_At p s m meth c0 b L xs) (htsL : ∀ w ∈ wsL_law, w.before #[Value.ref b] s = true) (hL : L ≤ 2560) (hK : gK E s) (hi : i + 5 ≤ L) (hc : cells + 7 ≤ 600000) (hsl : slots + 118 ≤ 7302250) (kk : lwW p l e s m below meth c0 b E x o i (cells + 7) (slots + 118) Q 905) : lwW p l e s m below meth c0 b E x o i cells slots Q 773 := by
  obtain ⟨hx, hb, hr, hml, hown, -, hX, hbl, hlocks, hgv⟩ := id C0
  have hown : s.vm.findClass RL = some m.cls := hown
  have hb : c0.code = cL_law := hb
  intro H locs ls hI hS hl
  obtain ⟨n, G, c, S, ⟨ha, la, lt, wa, ww, wn⟩, hP, hPm, ⟨hzo, hon⟩, hp, hs⟩ := hI
  obtain ⟨hA1, hV, hR, hH1, hB, hL1, hPl, hEv, hRo, hVi, hWk, hW, hHo, hHa, hHp⟩ := id hs
  try dsimp only at hH1 hL1 hVi hWk hW hHo hHa hHp
  have hA : ∀ q, n ≤ q → aX s.heap.size o q := fun q h => ⟨by omega, by omega⟩
  have hl : lv_has ls 4 [(0, .ref b), (1, .ref x), (2, .ref o), (3, .int (nI i))] := hl
  refine lv_aload_n hx hb dL_law_773 rfl (lv_at hl 1 rfl) ?_
  refine lv_aload_n hx hb dL_law_774 rfl (lv_at hl 0 rfl) ?_
  refine lv_iload_n hx hb dL_law_775 rfl (lv_at hl 3 rfl) ?_
  refine lv_iconst (v := 1) hx hb dL_law_776 (by decide) ?_
  refine lv_iadd hx hb dL_law_777 ?_
  refine lw_sld (j := 1) hx hb hX hbl hS rfl (by omega) hL dL_law_778 ?_
  refine lv_aload_n hx hb dL_law_779 rfl (lv_at hl 0 rfl) ?_
  refine lv_iload_n hx hb dL_law_780 rfl (lv_at hl 3 rfl) ?_
  refine lv_iconst (v := 2) hx hb dL_law_781 (by decide) ?_
  refine lv_iadd hx hb dL_law_782 ?_
  refine lw_sld (j := 2) hx hb hX hbl hS rfl (by omega) hL dL_law_783 ?_
  refine lw_cx (g_runV (As := [.int (xs (i + 1)), .int (xs (i + 2))]) (rest := []) ⟨hx, hb, hml, hown, htsL⟩ hK hP (kX8_chosen l E (aX s.heap.size o) n G x c S (ha, la, lt, wa, ww, wn) (xs (i + 1)) (xs (i + 2)) hs hp.1) (cwV 2 htsL gL_law_X8_chosen rfl rfl rfl (by decide +kernel) ⟨Nat.le_of_ble_eq_true rfl, Nat.le_of_ble_eq_true rfl⟩) hs.1 rfl rfl hl.1 rfl (Nat.le_of_ble_eq_true rfl) dL_law_784 ⟨by show cells + 0 ≤ 600000; omega, by show slots + 0 ≤ 7302250; omega⟩) hS hPm (fun r1 n1 G1 H locs hw hP hPm hS => ?_)
  obtain ⟨hw, hle, Y9, hs9⟩ := hw
  refine lv_aload_n hx hb dL_law_787 rfl (lv_at hl 2 rfl) ?_
  refine lv_aload_n hx hb dL_law_788 rfl (lv_at hl 0 rfl) ?_
  refine lv_iload_n hx hb dL_law_789 rfl (lv_at hl 3 rfl) ?_
  refine lv_iconst (v := 1) hx hb dL_law_790 (by decide) ?_
  refine lv_iadd hx hb dL_law_791 ?_
  refine lw_sld (j := 1) hx hb hX hbl hS rfl (by omega) hL dL_law_792 ?_
  refine lv_aload_n hx hb dL_law_793 rfl (lv_at hl 0 rfl) ?_
  refine lv_iload_n hx hb dL_law_794 rfl (lv_at hl 3 rfl) ?_
  refine lv_iconst (v := 2) hx hb dL_law_795 (by decide) ?_
  refine lv_iadd hx hb dL_law_796 ?_
  refine lw_sld (j := 2) hx hb hX hbl hS rfl (by omega) hL dL_law_797 ?_
  refine lw_cm hzo (g_runV (As := [.int (xs (i + 1)), .int (xs (i + 2))]) (rest := [.int r1]) ⟨hx, hb, hml, hown, htsL⟩ hK hPm (kX9_chosen l E (aM o) n1 o c S (xs (i + 1)) (xs (i + 2)) hp.1.2.1) (cwV 2 htsL gL_law_X9_chosen rfl rfl rfl (by decide +kernel) ⟨Nat.le_of_ble_eq_true rfl, Nat.le_of_ble_eq_true rfl⟩) GM_o rfl rfl hl.1 rfl (Nat.le_of_ble_eq_true rfl) dL_law_798 ⟨by show cells + 0 + 0 ≤ 600000; omega, by show slots + 0 + 0 ≤ 7302250; omega⟩) hS hP (fun r2 n2 G2 H locs hw2 hPm hP hS => ?_)
  obtain ⟨hw2, hn2, hG2⟩ := hw2
  subst hn2
  subst hG2
  refine lv_icmp_eq (tgt := 905) hx hb dL_law_801 (by decide) (fun _ => ?_) (fun hne => absurd (hw.symm.trans hw2) hne)
  refine W.widen (k := cells + 7) (n := slots + 118) (by omega) (by omega) ?_
  exact kk H locs ls ⟨n1, G1, c, (savS S (xs (i + 1)) (xs (i + 2))), Y9, hP, hPm, ⟨hzo, by omega⟩, pA_sav hp (xs (i + 1)) (xs (i + 2)), hs9⟩ hS hl
set_option maxHeartbeats 1000000 in
set_option maxRecDepth 100000 in
theorem lwo_called {p : Program} {l : Launch} {e : Env} {s : State} {m : MethodId} {below : List Frame} {meth : Method} {c0 : Code} {b L : Nat} {xs : Nat → Int32} {E : gT} {x o i cells slots : Nat} {Q : State → Prop} (C0 : lw_At p s m meth c0 b L xs) (htsL : ∀ w ∈ wsL_law, w.before #[Value.ref b] s = true) (hL : L ≤ 2560) (hK : gK E s) (hi : i + 5 ≤ L) (hc : cells + 7 ≤ 600000) (hsl : slots + 118 ≤ 7302250) (kk : lwW p l e s m below meth c0 b E x o i (cells + 7) (slots + 118) Q 905) : lwW p l e s m below meth c0 b E x o i cells slots Q 806 := by
  obtain ⟨hx, hb, hr, hml, hown, -, hX, hbl, hlocks, hgv⟩ := id C0
  have hown : s.vm.findClass RL = some m.cls := hown
  have hb : c0.code = cL_law := hb
  intro H locs ls hI hS hl
  obtain ⟨n, G, c, S, ⟨ha, la, lt, wa, ww, wn⟩, hP, hPm, ⟨hzo, hon⟩, hp, hs⟩ := hI
  obtain ⟨hA1, hV, hR, hH1, hB, hL1, hPl, hEv, hRo, hVi, hWk, hW, hHo, hHa, hHp⟩ := id hs
  try dsimp only at hH1 hL1 hVi hWk hW hHo hHa hHp
  have hA : ∀ q, n ≤ q → aX s.heap.size o q := fun q h => ⟨by omega, by omega⟩
  have hl : lv_has ls 4 [(0, .ref b), (1, .ref x), (2, .ref o), (3, .int (nI i))] := hl
  refine lv_aload_n hx hb dL_law_806 rfl (lv_at hl 1 rfl) ?_
  refine lv_aload_n hx hb dL_law_807 rfl (lv_at hl 0 rfl) ?_
  refine lv_iload_n hx hb dL_law_808 rfl (lv_at hl 3 rfl) ?_
  refine lv_iconst (v := 1) hx hb dL_law_809 (by decide) ?_
  refine lv_iadd hx hb dL_law_810 ?_
  refine lw_sld (j := 1) hx hb hX hbl hS rfl (by omega) hL dL_law_811 ?_
  refine lv_aload_n hx hb dL_law_812 rfl (lv_at hl 0 rfl) ?_
  refine lv_iload_n hx hb dL_law_813 rfl (lv_at hl 3 rfl) ?_
  refine lv_iconst (v := 2) hx hb dL_law_814 (by decide) ?_
  refine lv_iadd hx hb dL_law_815 ?_
  refine lw_sld (j := 2) hx hb hX hbl hS rfl (by omega) hL dL_law_816 ?_
  refine lw_cx (g_runV (As := [.int (xs (i + 1)), .int (xs (i + 2))]) (rest := []) ⟨hx, hb, hml, hown, htsL⟩ hK hP (kX8_called l E (aX s.heap.size o) n G x c S wa wn hVi (xs (i + 1)) (xs (i + 2)) hA1 hV hp.1) (cwV 2 htsL gL_law_X8_called rfl rfl rfl (by decide +kernel) ⟨Nat.le_of_ble_eq_true rfl, Nat.le_of_ble_eq_true rfl⟩) hs.1 rfl rfl hl.1 rfl (Nat.le_of_ble_eq_true rfl) dL_law_817 ⟨by show cells + 0 ≤ 600000; omega, by show slots + 0 ≤ 7302250; omega⟩) hS hPm (fun r1 n1 G1 H locs hw hP hPm hS => ?_)
  obtain ⟨hw, hn9, hG9⟩ := hw
  subst hn9
  subst hG9
  have hle := Nat.le_refl n
  refine lv_aload_n hx hb dL_law_820 rfl (lv_at hl 2 rfl) ?_
  refine lv_aload_n hx hb dL_law_821 rfl (lv_at hl 0 rfl) ?_
  refine lv_iload_n hx hb dL_law_822 rfl (lv_at hl 3 rfl) ?_
  refine lv_iconst (v := 1) hx hb dL_law_823 (by decide) ?_
  refine lv_iadd hx hb dL_law_824 ?_
  refine lw_sld (j := 1) hx hb hX hbl hS rfl (by omega) hL dL_law_825 ?_
  refine lv_aload_n hx hb dL_law_826 rfl (lv_at hl 0 rfl) ?_
  refine lv_iload_n hx hb dL_law_827 rfl (lv_at hl 3 rfl) ?_
  refine lv_iconst (v := 2) hx hb dL_law_828 (by decide) ?_
  refine lv_iadd hx hb dL_law_829 ?_
  refine lw_sld (j := 2) hx hb hX hbl hS rfl (by omega) hL dL_law_830 ?_
  refine lw_cm hzo (g_runV (As := [.int (xs (i + 1)), .int (xs (i + 2))]) (rest := [.int r1]) ⟨hx, hb, hml, hown, htsL⟩ hK hPm (kX9_called l E (aM o) n o c S (xs (i + 1)) (xs (i + 2))) (cwV 2 htsL gL_law_X9_called rfl rfl rfl (by decide +kernel) ⟨Nat.le_of_ble_eq_true rfl, Nat.le_of_ble_eq_true rfl⟩) GM_o rfl rfl hl.1 rfl (Nat.le_of_ble_eq_true rfl) dL_law_831 ⟨by show cells + 0 + 0 ≤ 600000; omega, by show slots + 0 + 0 ≤ 7302250; omega⟩) hS hP (fun r2 n2 G2 H locs hw2 hPm hP hS => ?_)
  obtain ⟨hw2, hn2, hG2⟩ := hw2
  subst hn2
  subst hG2
  refine lv_icmp_eq (tgt := 905) hx hb dL_law_834 (by decide) (fun _ => ?_) (fun hne => absurd (hw.symm.trans hw2) hne)
  refine W.widen (k := cells + 7) (n := slots + 118) (by omega) (by omega) ?_
  exact kk H locs ls ⟨n, G, c, S, (ha, la, lt, wa, ww, wn), hP, hPm, ⟨hzo, hon⟩, hp, hs⟩ hS hl
set_option maxHeartbeats 1000000 in
set_option maxRecDepth 100000 in
theorem lwo_arrived {p : Program} {l : Launch} {e : Env} {s : State} {m : MethodId} {below : List Frame} {meth : Method} {c0 : Code} {b L : Nat} {xs : Nat → Int32} {E : gT} {x o i cells slots : Nat} {Q : State → Prop} (C0 : lw_At p s m meth c0 b L xs) (htsL : ∀ w ∈ wsL_law, w.before #[Value.ref b] s = true) (hL : L ≤ 2560) (hK : gK E s) (hi : i + 5 ≤ L) (hc : cells + 7 ≤ 600000) (hsl : slots + 118 ≤ 7302250) (kk : lwW p l e s m below meth c0 b E x o i (cells + 7) (slots + 118) Q 905) : lwW p l e s m below meth c0 b E x o i cells slots Q 839 := by
  obtain ⟨hx, hb, hr, hml, hown, -, hX, hbl, hlocks, hgv⟩ := id C0
  have hown : s.vm.findClass RL = some m.cls := hown
  have hb : c0.code = cL_law := hb
  intro H locs ls hI hS hl
  obtain ⟨n, G, c, S, ⟨ha, la, lt, wa, ww, wn⟩, hP, hPm, ⟨hzo, hon⟩, hp, hs⟩ := hI
  obtain ⟨hA1, hV, hR, hH1, hB, hL1, hPl, hEv, hRo, hVi, hWk, hW, hHo, hHa, hHp⟩ := id hs
  try dsimp only at hH1 hL1 hVi hWk hW hHo hHa hHp
  have hA : ∀ q, n ≤ q → aX s.heap.size o q := fun q h => ⟨by omega, by omega⟩
  have hl : lv_has ls 4 [(0, .ref b), (1, .ref x), (2, .ref o), (3, .int (nI i))] := hl
  refine lv_aload_n hx hb dL_law_839 rfl (lv_at hl 1 rfl) ?_
  refine lv_aload_n hx hb dL_law_840 rfl (lv_at hl 0 rfl) ?_
  refine lv_iload_n hx hb dL_law_841 rfl (lv_at hl 3 rfl) ?_
  refine lv_iconst (v := 1) hx hb dL_law_842 (by decide) ?_
  refine lv_iadd hx hb dL_law_843 ?_
  refine lw_sld (j := 1) hx hb hX hbl hS rfl (by omega) hL dL_law_844 ?_
  refine lv_aload_n hx hb dL_law_845 rfl (lv_at hl 0 rfl) ?_
  refine lv_iload_n hx hb dL_law_846 rfl (lv_at hl 3 rfl) ?_
  refine lv_iconst (v := 2) hx hb dL_law_847 (by decide) ?_
  refine lv_iadd hx hb dL_law_848 ?_
  refine lw_sld (j := 2) hx hb hX hbl hS rfl (by omega) hL dL_law_849 ?_
  refine lv_aload_n hx hb dL_law_850 rfl (lv_at hl 0 rfl) ?_
  refine lv_iload_n hx hb dL_law_851 rfl (lv_at hl 3 rfl) ?_
  refine lv_iconst (v := 3) hx hb dL_law_852 (by decide) ?_
  refine lv_iadd hx hb dL_law_853 ?_
  refine lw_sld (j := 3) hx hb hX hbl hS rfl (by omega) hL dL_law_854 ?_
  refine lw_cx (g_runV (As := [.int (xs (i + 1)), .int (xs (i + 2)), .int (xs (i + 3))]) (rest := []) ⟨hx, hb, hml, hown, htsL⟩ hK hP (kX8_arrived l E (aX s.heap.size o) n G x c S (xs (i + 1)) (xs (i + 2)) (xs (i + 3)) hA1 hV wa wn hVi ha hH1 lt hHo hp.1) (cwV 3 htsL gL_law_X8_arrived rfl rfl rfl (by decide +kernel) ⟨Nat.le_of_ble_eq_true rfl, Nat.le_of_ble_eq_true rfl⟩) hs.1 rfl rfl hl.1 rfl (Nat.le_of_ble_eq_true rfl) dL_law_855 ⟨by show cells + 0 ≤ 600000; omega, by show slots + 0 ≤ 7302250; omega⟩) hS hPm (fun r1 n1 G1 H locs hw hP hPm hS => ?_)
  obtain ⟨hw, hn9, hG9⟩ := hw
  subst hn9
  subst hG9
  have hle := Nat.le_refl n
  refine lv_aload_n hx hb dL_law_858 rfl (lv_at hl 2 rfl) ?_
  refine lv_aload_n hx hb dL_law_859 rfl (lv_at hl 0 rfl) ?_
  refine lv_iload_n hx hb dL_law_860 rfl (lv_at hl 3 rfl) ?_
  refine lv_iconst (v := 1) hx hb dL_law_861 (by decide) ?_
  refine lv_iadd hx hb dL_law_862 ?_
  refine lw_sld (j := 1) hx hb hX hbl hS rfl (by omega) hL dL_law_863 ?_
  refine lv_aload_n hx hb dL_law_864 rfl (lv_at hl 0 rfl) ?_
  refine lv_iload_n hx hb dL_law_865 rfl (lv_at hl 3 rfl) ?_
  refine lv_iconst (v := 2) hx hb dL_law_866 (by decide) ?_
  refine lv_iadd hx hb dL_law_867 ?_
  refine lw_sld (j := 2) hx hb hX hbl hS rfl (by omega) hL dL_law_868 ?_
  refine lv_aload_n hx hb dL_law_869 rfl (lv_at hl 0 rfl) ?_
  refine lv_iload_n hx hb dL_law_870 rfl (lv_at hl 3 rfl) ?_
  refine lv_iconst (v := 3) hx hb dL_law_871 (by decide) ?_
  refine lv_iadd hx hb dL_law_872 ?_
  refine lw_sld (j := 3) hx hb hX hbl hS rfl (by omega) hL dL_law_873 ?_
  refine lw_cm hzo (g_runV (As := [.int (xs (i + 1)), .int (xs (i + 2)), .int (xs (i + 3))]) (rest := [.int r1]) ⟨hx, hb, hml, hown, htsL⟩ hK hPm (kX9_arrived l E (aM o) n o c S (xs (i + 1)) (xs (i + 2)) (xs (i + 3)) hp.1.1) (cwV 3 htsL gL_law_X9_arrived rfl rfl rfl (by decide +kernel) ⟨Nat.le_of_ble_eq_true rfl, Nat.le_of_ble_eq_true rfl⟩) GM_o rfl rfl hl.1 rfl (Nat.le_of_ble_eq_true rfl) dL_law_874 ⟨by show cells + 0 + 0 ≤ 600000; omega, by show slots + 0 + 0 ≤ 7302250; omega⟩) hS hP (fun r2 n2 G2 H locs hw2 hPm hP hS => ?_)
  obtain ⟨hw2, hn2, hG2⟩ := hw2
  subst hn2
  subst hG2
  refine lv_icmp_eq (tgt := 905) hx hb dL_law_877 (by decide) (fun _ => ?_) (fun hne => absurd (hw.symm.trans hw2) hne)
  refine W.widen (k := cells + 7) (n := slots + 118) (by omega) (by omega) ?_
  exact kk H locs ls ⟨n, G, c, S, (ha, la, lt, wa, ww, wn), hP, hPm, ⟨hzo, hon⟩, hp, hs⟩ hS hl
set_option maxHeartbeats 1000000 in
set_option maxRecDepth 100000 in
theorem lwo_count {p : Program} {l : Launch} {e : Env} {s : State} {m : MethodId} {below : List Frame} {meth : Method} {c0 : Code} {b L : Nat} {xs : Nat → Int32} {E : gT} {x o i cells slots : Nat} {Q : State → Prop} (C0 : lw_At p s m meth c0 b L xs) (htsL : ∀ w ∈ wsL_law, w.before #[Value.ref b] s = true) (hL : L ≤ 2560) (hK : gK E s) (hi : i + 5 ≤ L) (hc : cells + 7 ≤ 600000) (hsl : slots + 118 ≤ 7302250) (kk : lwW p l e s m below meth c0 b E x o i (cells + 7) (slots + 118) Q 905) : lwW p l e s m below meth c0 b E x o i cells slots Q 882 := by
  obtain ⟨hx, hb, hr, hml, hown, -, hX, hbl, hlocks, hgv⟩ := id C0
  have hown : s.vm.findClass RL = some m.cls := hown
  have hb : c0.code = cL_law := hb
  intro H locs ls hI hS hl
  obtain ⟨n, G, c, S, ⟨ha, la, lt, wa, ww, wn⟩, hP, hPm, ⟨hzo, hon⟩, hp, hs⟩ := hI
  obtain ⟨hA1, hV, hR, hH1, hB, hL1, hPl, hEv, hRo, hVi, hWk, hW, hHo, hHa, hHp⟩ := id hs
  try dsimp only at hH1 hL1 hVi hWk hW hHo hHa hHp
  have hA : ∀ q, n ≤ q → aX s.heap.size o q := fun q h => ⟨by omega, by omega⟩
  have hl : lv_has ls 4 [(0, .ref b), (1, .ref x), (2, .ref o), (3, .int (nI i))] := hl
  refine lv_aload_n hx hb dL_law_882 rfl (lv_at hl 1 rfl) ?_
  refine lv_aload_n hx hb dL_law_883 rfl (lv_at hl 0 rfl) ?_
  refine lv_iload_n hx hb dL_law_884 rfl (lv_at hl 3 rfl) ?_
  refine lv_iconst (v := 1) hx hb dL_law_885 (by decide) ?_
  refine lv_iadd hx hb dL_law_886 ?_
  refine lw_sld (j := 1) hx hb hX hbl hS rfl (by omega) hL dL_law_887 ?_
  refine lw_cx (g_runV (As := [.int (xs (i + 1))]) (rest := []) ⟨hx, hb, hml, hown, htsL⟩ hK hP (kX8_count l E (aX s.heap.size o) n G x c (xs (i + 1)) hA1 hB.1) (cwV 1 htsL gL_law_X8_count rfl rfl rfl (by decide +kernel) ⟨Nat.le_of_ble_eq_true rfl, Nat.le_of_ble_eq_true rfl⟩) hs.1 rfl rfl hl.1 rfl (Nat.le_of_ble_eq_true rfl) dL_law_888 ⟨by show cells + 0 ≤ 600000; omega, by show slots + 0 ≤ 7302250; omega⟩) hS hPm (fun r1 n1 G1 H locs hw hP hPm hS => ?_)
  obtain ⟨hw, hn9, hG9⟩ := hw
  subst hn9
  subst hG9
  have hle := Nat.le_refl n
  refine lv_aload_n hx hb dL_law_891 rfl (lv_at hl 2 rfl) ?_
  refine lv_aload_n hx hb dL_law_892 rfl (lv_at hl 0 rfl) ?_
  refine lv_iload_n hx hb dL_law_893 rfl (lv_at hl 3 rfl) ?_
  refine lv_iconst (v := 1) hx hb dL_law_894 (by decide) ?_
  refine lv_iadd hx hb dL_law_895 ?_
  refine lw_sld (j := 1) hx hb hX hbl hS rfl (by omega) hL dL_law_896 ?_
  refine lw_cm hzo (g_runV (As := [.int (xs (i + 1))]) (rest := [.int r1]) ⟨hx, hb, hml, hown, htsL⟩ hK hPm (kX9_count l E (aM o) n o c S (xs (i + 1))) (cwV 1 htsL gL_law_X9_count rfl rfl rfl (by decide +kernel) ⟨Nat.le_of_ble_eq_true rfl, Nat.le_of_ble_eq_true rfl⟩) GM_o rfl rfl hl.1 rfl (Nat.le_of_ble_eq_true rfl) dL_law_897 ⟨by show cells + 0 + 0 ≤ 600000; omega, by show slots + 0 + 0 ≤ 7302250; omega⟩) hS hP (fun r2 n2 G2 H locs hw2 hPm hP hS => ?_)
  obtain ⟨hw2, hn2, hG2⟩ := hw2
  subst hn2
  subst hG2
  refine lv_icmp_eq (tgt := 905) hx hb dL_law_900 (by decide) (fun _ => ?_) (fun hne => absurd (hw.symm.trans hw2) hne)
  refine W.widen (k := cells + 7) (n := slots + 118) (by omega) (by omega) ?_
  exact kk H locs ls ⟨n, G, c, S, (ha, la, lt, wa, ww, wn), hP, hPm, ⟨hzo, hon⟩, hp, hs⟩ hS hl
