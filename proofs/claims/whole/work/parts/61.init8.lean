theorem s0_1 {i : Nat} (h : i < 30) : S0 1 i = 1000 := by show (if 0 ≤ i ∧ i < 30 then (1000 : Int32) else 0) = 1000; rw [if_pos ⟨Nat.zero_le _, h⟩]
set_option maxHeartbeats 2000000 in
set_option maxRecDepth 100000 in
theorem kX8_init (l : Launch) (E : gT) (A : Nat → Prop) (G : gH) (x : Nat) (fa : G x = some (.inr (8, [.null, .null, .null, .null, .null, .null, .int 0, .int 0, .int 0, .int 0, .int 0, .int 0, .int 0, .int 0]))) (hA0 : ∀ q, x + 1 ≤ q → A q) : gM l yX8_init wsX8_init ({ frames := 3, cells := 47, slots := 1642, locals := 63 } : Room) E A (x + 1) G [.ref x] (gQv E A (fun n' G' => x + 48 = n' ∧ ∃ Y', Sim E G' x (fun _ => 0) S0 Y')) 47 1642 := by
  refine g_entry (by decide) rfl (Nat.le_of_ble_eq_true rfl) ?_
  intro p e s m below meth c0 hx hb hr hlk hml hown hnm hts hK H locs ls hP hS hl
  have hin2 : ∀ w ∈ u_ws RX2 TX2 3, w ∈ wsX8_init := by decide +kernel
  have hin3 : ∀ w ∈ u_ws RX3 TX3 1, w ∈ wsX8_init := by decide +kernel
  have hin4 : ∀ w ∈ u_ws RX4 TX4 5, w ∈ wsX8_init := by decide +kernel
  have hin6 : ∀ w ∈ u_ws RX6 TX6 3, w ∈ wsX8_init := by decide +kernel
  have hin8 : ∀ w ∈ u_ws RX8 TX8 14, w ∈ wsX8_init := by decide +kernel
  have hf11 := hts (.fieldLink RX8 11 "DikeHands" "villages" "[LDikeHands$Village;") (by decide +kernel)
  have hf17 := hts (.fieldLink RX8 17 "DikeHands" "rods" "[LDikeHands$Rod;") (by decide +kernel)
  have hf23 := hts (.fieldLink RX8 23 "DikeHands" "houses" "[LDikeHands$House;") (by decide +kernel)
  have hf30 := hts (.fieldLink RX8 30 "DikeHands" "laws" "LDikeHands$LawBook;") (by decide +kernel)
  have hf37 := hts (.fieldLink RX8 37 "DikeHands" "plan" "LDikeHands$Plan;") (by decide +kernel)
  have hf41 := hts (.fieldLink RX8 41 "DikeHands" "levels" "[I") (by decide +kernel)
  have hf45 := hts (.fieldLink RX8 45 "DikeHands" "now" "I") (by decide +kernel)
  have hf49 := hts (.fieldLink RX8 49 "DikeHands" "houseCount" "I") (by decide +kernel)
  have hf52 := hts (.fieldLink RX8 52 "DikeHands" "changeCount" "I") (by decide +kernel)
  have hf55 := hts (.fieldLink RX8 55 "DikeHands" "chest" "I") (by decide +kernel)
  have hf58 := hts (.fieldLink RX8 58 "DikeHands" "lossCounted" "I") (by decide +kernel)
  have hf61 := hts (.fieldLink RX8 61 "DikeHands" "daysDone" "I") (by decide +kernel)
  have hf64 := hts (.fieldLink RX8 64 "DikeHands" "daysBought" "I") (by decide +kernel)
  have hf67 := hts (.fieldLink RX8 67 "DikeHands" "daysHired" "I") (by decide +kernel)
  have hl : lv_has ls 2 [(0, .ref x)] := hl
  have hA := hA0
  refine lv_aload_n hx hb dX8_init_0 rfl (lv_at hl 0 rfl) ?_
  refine W.objInit hx hb hown (hts (.methodLink RX8 1 objectInit) (by decide +kernel)) (hts (.instanceMethod objectInit) (by decide +kernel)) (hts (.code objectInit ⟨#[0xb1]⟩ 1 none) (by decide +kernel)) rfl (by rw [hml]; exact hl.1) rfl dX8_init_1 (Nat.le_of_ble_eq_true rfl) (Nat.le_of_ble_eq_true rfl) ?_
  refine W.eq (g2 := F0 m 4 ls []) rfl ?_
  refine lv_aload_n hx hb dX8_init_4 rfl (lv_at hl 0 rfl) ?_
  refine lv_bipush (v := 8) hx hb dX8_init_5 (by decide) ?_
  refine g_newq (t0 := 5) (cA := E.2 5) (N' := 8) hx hb hown (hts (.classLink RX8 9 RX6) (by decide +kernel)) hK.2.2.2.2.2.2.2.2.1 rfl hK hP hS hA (by decide) (by decide) (by decide) (Nat.le_of_ble_eq_true rfl) (Nat.le_of_ble_eq_true rfl) dX8_init_7 (fun H hP hS => ?_)
  have q97_0 : (gup G (x + 1) (.inl (E.2 5, 8, .inr (.inr (.inr (.inr (fun _ => none))))))) x = some (.inr (8, [.null, .null, .null, .null, .null, .null, .int 0, .int 0, .int 0, .int 0, .int 0, .int 0, .int 0, .int 0])) := (gup_n (by omega)).trans fa
  have q97_a : (gup G (x + 1) (.inl (E.2 5, 8, .inr (.inr (.inr (.inr (fun _ => none))))))) (x + 1) = some (.inl (E.2 5, 8, .inr (.inr (.inr (.inr (fun _ => none)))))) := gup_s
  have hP : gP E A (x + 2) (gup G (x + 1) (.inl (E.2 5, 8, .inr (.inr (.inr (.inr (fun _ => none))))))) H := hP
  have hA : ∀ q, x + 2 ≤ q → A q := fun q h => hA0 q (by omega)
  generalize hg_Gr1 : gup G (x + 1) (.inl (E.2 5, 8, .inr (.inr (.inr (.inr (fun _ => none)))))) = Gr1 at hP q97_0 q97_a
  refine g_put (ci := 8) (ty := (.array (.object "DikeHands$Village"))) (v := .ref (x + 1)) hx hb hts hin8 tyX8 tyX8_ok nmX8 hown hK hP hS q97_0 rfl 0 (by decide) hf11 rfl (Or.inr ⟨rfl, hnm, rfl⟩) (by decide +kernel) rfl rfl (Nat.le_of_ble_eq_true rfl) dX8_init_10 (fun H locs hP hS => ?_)
  have q98_0 : (gup Gr1 x (.inr (8, [.ref (x + 1), .null, .null, .null, .null, .null, .int 0, .int 0, .int 0, .int 0, .int 0, .int 0, .int 0, .int 0]))) (x + 1) = some (.inl (E.2 5, 8, .inr (.inr (.inr (.inr (fun _ => none)))))) := (gup_n (by omega)).trans q97_a
  have q98_a : (gup Gr1 x (.inr (8, [.ref (x + 1), .null, .null, .null, .null, .null, .int 0, .int 0, .int 0, .int 0, .int 0, .int 0, .int 0, .int 0]))) x = some (.inr (8, [.ref (x + 1), .null, .null, .null, .null, .null, .int 0, .int 0, .int 0, .int 0, .int 0, .int 0, .int 0, .int 0])) := gup_s
  have hP : gP E A (x + 2) (gup Gr1 x (.inr (8, [.ref (x + 1), .null, .null, .null, .null, .null, .int 0, .int 0, .int 0, .int 0, .int 0, .int 0, .int 0, .int 0]))) H := hP
  generalize hg_Gr2 : gup Gr1 x (.inr (8, [.ref (x + 1), .null, .null, .null, .null, .null, .int 0, .int 0, .int 0, .int 0, .int 0, .int 0, .int 0, .int 0])) = Gr2 at hP q98_0 q98_a
  refine lv_aload_n hx hb dX8_init_13 rfl (lv_at hl 0 rfl) ?_
  refine lv_bipush (v := 30) hx hb dX8_init_14 (by decide) ?_
  refine g_newq (t0 := 4) (cA := E.2 4) (N' := 30) hx hb hown (hts (.classLink RX8 15 RX4) (by decide +kernel)) hK.2.2.2.2.2.2.2.2.2.1 rfl hK hP hS hA (by decide) (by decide) (by decide) (Nat.le_of_ble_eq_true rfl) (Nat.le_of_ble_eq_true rfl) dX8_init_16 (fun H hP hS => ?_)
  have q99_0 : (gup Gr2 (x + 2) (.inl (E.2 4, 30, .inr (.inr (.inr (.inr (fun _ => none))))))) (x + 1) = some (.inl (E.2 5, 8, .inr (.inr (.inr (.inr (fun _ => none)))))) := (gup_n (by omega)).trans q98_0
  have q99_1 : (gup Gr2 (x + 2) (.inl (E.2 4, 30, .inr (.inr (.inr (.inr (fun _ => none))))))) x = some (.inr (8, [.ref (x + 1), .null, .null, .null, .null, .null, .int 0, .int 0, .int 0, .int 0, .int 0, .int 0, .int 0, .int 0])) := (gup_n (by omega)).trans q98_a
  have q99_a : (gup Gr2 (x + 2) (.inl (E.2 4, 30, .inr (.inr (.inr (.inr (fun _ => none))))))) (x + 2) = some (.inl (E.2 4, 30, .inr (.inr (.inr (.inr (fun _ => none)))))) := gup_s
  have hP : gP E A (x + 3) (gup Gr2 (x + 2) (.inl (E.2 4, 30, .inr (.inr (.inr (.inr (fun _ => none))))))) H := hP
  have hA : ∀ q, x + 3 ≤ q → A q := fun q h => hA0 q (by omega)
  generalize hg_Gr3 : gup Gr2 (x + 2) (.inl (E.2 4, 30, .inr (.inr (.inr (.inr (fun _ => none)))))) = Gr3 at hP q99_0 q99_1 q99_a
  refine g_put (ci := 8) (ty := (.array (.object "DikeHands$Rod"))) (v := .ref (x + 2)) hx hb hts hin8 tyX8 tyX8_ok nmX8 hown hK hP hS q99_1 rfl 1 (by decide) hf17 rfl (Or.inr ⟨rfl, hnm, rfl⟩) (by decide +kernel) rfl rfl (Nat.le_of_ble_eq_true rfl) dX8_init_19 (fun H locs hP hS => ?_)
  have q100_0 : (gup Gr3 x (.inr (8, [.ref (x + 1), .ref (x + 2), .null, .null, .null, .null, .int 0, .int 0, .int 0, .int 0, .int 0, .int 0, .int 0, .int 0]))) (x + 1) = some (.inl (E.2 5, 8, .inr (.inr (.inr (.inr (fun _ => none)))))) := (gup_n (by omega)).trans q99_0
  have q100_1 : (gup Gr3 x (.inr (8, [.ref (x + 1), .ref (x + 2), .null, .null, .null, .null, .int 0, .int 0, .int 0, .int 0, .int 0, .int 0, .int 0, .int 0]))) (x + 2) = some (.inl (E.2 4, 30, .inr (.inr (.inr (.inr (fun _ => none)))))) := (gup_n (by omega)).trans q99_a
  have q100_a : (gup Gr3 x (.inr (8, [.ref (x + 1), .ref (x + 2), .null, .null, .null, .null, .int 0, .int 0, .int 0, .int 0, .int 0, .int 0, .int 0, .int 0]))) x = some (.inr (8, [.ref (x + 1), .ref (x + 2), .null, .null, .null, .null, .int 0, .int 0, .int 0, .int 0, .int 0, .int 0, .int 0, .int 0])) := gup_s
  have hP : gP E A (x + 3) (gup Gr3 x (.inr (8, [.ref (x + 1), .ref (x + 2), .null, .null, .null, .null, .int 0, .int 0, .int 0, .int 0, .int 0, .int 0, .int 0, .int 0]))) H := hP
  generalize hg_Gr4 : gup Gr3 x (.inr (8, [.ref (x + 1), .ref (x + 2), .null, .null, .null, .null, .int 0, .int 0, .int 0, .int 0, .int 0, .int 0, .int 0, .int 0])) = Gr4 at hP q100_0 q100_1 q100_a
  refine lv_aload_n hx hb dX8_init_22 rfl (lv_at hl 0 rfl) ?_
  refine lv_bipush (v := 40) hx hb dX8_init_23 (by decide) ?_
  refine g_newq (t0 := 2) (cA := E.2 2) (N' := 40) hx hb hown (hts (.classLink RX8 21 RX0) (by decide +kernel)) hK.2.2.2.2.2.2.2.2.2.2.1 rfl hK hP hS hA (by decide) (by decide) (by decide) (Nat.le_of_ble_eq_true rfl) (Nat.le_of_ble_eq_true rfl) dX8_init_25 (fun H hP hS => ?_)
  have q101_0 : (gup Gr4 (x + 3) (.inl (E.2 2, 40, .inr (.inr (.inr (.inr (fun _ => none))))))) (x + 1) = some (.inl (E.2 5, 8, .inr (.inr (.inr (.inr (fun _ => none)))))) := (gup_n (by omega)).trans q100_0
  have q101_1 : (gup Gr4 (x + 3) (.inl (E.2 2, 40, .inr (.inr (.inr (.inr (fun _ => none))))))) (x + 2) = some (.inl (E.2 4, 30, .inr (.inr (.inr (.inr (fun _ => none)))))) := (gup_n (by omega)).trans q100_1
  have q101_2 : (gup Gr4 (x + 3) (.inl (E.2 2, 40, .inr (.inr (.inr (.inr (fun _ => none))))))) x = some (.inr (8, [.ref (x + 1), .ref (x + 2), .null, .null, .null, .null, .int 0, .int 0, .int 0, .int 0, .int 0, .int 0, .int 0, .int 0])) := (gup_n (by omega)).trans q100_a
  have q101_a : (gup Gr4 (x + 3) (.inl (E.2 2, 40, .inr (.inr (.inr (.inr (fun _ => none))))))) (x + 3) = some (.inl (E.2 2, 40, .inr (.inr (.inr (.inr (fun _ => none)))))) := gup_s
  have hP : gP E A (x + 4) (gup Gr4 (x + 3) (.inl (E.2 2, 40, .inr (.inr (.inr (.inr (fun _ => none))))))) H := hP
  have hA : ∀ q, x + 4 ≤ q → A q := fun q h => hA0 q (by omega)
  generalize hg_Gr5 : gup Gr4 (x + 3) (.inl (E.2 2, 40, .inr (.inr (.inr (.inr (fun _ => none)))))) = Gr5 at hP q101_0 q101_1 q101_2 q101_a
  refine g_put (ci := 8) (ty := (.array (.object "DikeHands$House"))) (v := .ref (x + 3)) hx hb hts hin8 tyX8 tyX8_ok nmX8 hown hK hP hS q101_2 rfl 2 (by decide) hf23 rfl (Or.inr ⟨rfl, hnm, rfl⟩) (by decide +kernel) rfl rfl (Nat.le_of_ble_eq_true rfl) dX8_init_28 (fun H locs hP hS => ?_)
  have q102_0 : (gup Gr5 x (.inr (8, [.ref (x + 1), .ref (x + 2), .ref (x + 3), .null, .null, .null, .int 0, .int 0, .int 0, .int 0, .int 0, .int 0, .int 0, .int 0]))) (x + 1) = some (.inl (E.2 5, 8, .inr (.inr (.inr (.inr (fun _ => none)))))) := (gup_n (by omega)).trans q101_0
  have q102_1 : (gup Gr5 x (.inr (8, [.ref (x + 1), .ref (x + 2), .ref (x + 3), .null, .null, .null, .int 0, .int 0, .int 0, .int 0, .int 0, .int 0, .int 0, .int 0]))) (x + 2) = some (.inl (E.2 4, 30, .inr (.inr (.inr (.inr (fun _ => none)))))) := (gup_n (by omega)).trans q101_1
  have q102_2 : (gup Gr5 x (.inr (8, [.ref (x + 1), .ref (x + 2), .ref (x + 3), .null, .null, .null, .int 0, .int 0, .int 0, .int 0, .int 0, .int 0, .int 0, .int 0]))) (x + 3) = some (.inl (E.2 2, 40, .inr (.inr (.inr (.inr (fun _ => none)))))) := (gup_n (by omega)).trans q101_a
  have q102_a : (gup Gr5 x (.inr (8, [.ref (x + 1), .ref (x + 2), .ref (x + 3), .null, .null, .null, .int 0, .int 0, .int 0, .int 0, .int 0, .int 0, .int 0, .int 0]))) x = some (.inr (8, [.ref (x + 1), .ref (x + 2), .ref (x + 3), .null, .null, .null, .int 0, .int 0, .int 0, .int 0, .int 0, .int 0, .int 0, .int 0])) := gup_s
  have hP : gP E A (x + 4) (gup Gr5 x (.inr (8, [.ref (x + 1), .ref (x + 2), .ref (x + 3), .null, .null, .null, .int 0, .int 0, .int 0, .int 0, .int 0, .int 0, .int 0, .int 0]))) H := hP
  generalize hg_Gr6 : gup Gr5 x (.inr (8, [.ref (x + 1), .ref (x + 2), .ref (x + 3), .null, .null, .null, .int 0, .int 0, .int 0, .int 0, .int 0, .int 0, .int 0, .int 0])) = Gr6 at hP q102_0 q102_1 q102_2 q102_a
  refine lv_aload_n hx hb dX8_init_31 rfl (lv_at hl 0 rfl) ?_
  refine g_new (ci := 2) (fs := [.null, .null, .int 0]) hx hb hts hin2 tyX2 tyX2_ok hown (hts (.classLink RX8 27 RX2) (by decide +kernel)) (hts (.instantiable RX2 3) (by decide +kernel)) (hts (.initialized RX2) (by decide +kernel)) hK hP hS hA rfl (by decide) (Nat.le_of_ble_eq_true rfl) (Nat.le_of_ble_eq_true rfl) dX8_init_32 (fun H hP hS => ?_)
  have q103_0 : (gup Gr6 (x + 4) (.inr (2, [.null, .null, .int 0]))) (x + 1) = some (.inl (E.2 5, 8, .inr (.inr (.inr (.inr (fun _ => none)))))) := (gup_n (by omega)).trans q102_0
  have q103_1 : (gup Gr6 (x + 4) (.inr (2, [.null, .null, .int 0]))) (x + 2) = some (.inl (E.2 4, 30, .inr (.inr (.inr (.inr (fun _ => none)))))) := (gup_n (by omega)).trans q102_1
  have q103_2 : (gup Gr6 (x + 4) (.inr (2, [.null, .null, .int 0]))) (x + 3) = some (.inl (E.2 2, 40, .inr (.inr (.inr (.inr (fun _ => none)))))) := (gup_n (by omega)).trans q102_2
  have q103_3 : (gup Gr6 (x + 4) (.inr (2, [.null, .null, .int 0]))) x = some (.inr (8, [.ref (x + 1), .ref (x + 2), .ref (x + 3), .null, .null, .null, .int 0, .int 0, .int 0, .int 0, .int 0, .int 0, .int 0, .int 0])) := (gup_n (by omega)).trans q102_a
  have q103_a : (gup Gr6 (x + 4) (.inr (2, [.null, .null, .int 0]))) (x + 4) = some (.inr (2, [.null, .null, .int 0])) := gup_s
  have hP : gP E A (x + 5) (gup Gr6 (x + 4) (.inr (2, [.null, .null, .int 0]))) H := hP
  have hA : ∀ q, x + 5 ≤ q → A q := fun q h => hA0 q (by omega)
  generalize hg_Gr7 : gup Gr6 (x + 4) (.inr (2, [.null, .null, .int 0])) = Gr7 at hP q103_0 q103_1 q103_2 q103_3 q103_a
  refine lv_dup hx hb dX8_init_35 rfl ?_
  refine g_cv (g_runIN (As := []) (rest := [.ref (x + 4), .ref x]) ⟨hx, hb, hml, hown, hts⟩ hK hP (kX2_init l E A (x + 5) Gr7 (x + 4) q103_a hA) ⟨va_cnB 0 hts gX8_init_X2_init_n29 rfl rfl rfl hK.2.1 (hts (.initialized RX2) (by decide +kernel)) (by decide +kernel) ⟨Nat.le_of_ble_eq_true rfl, Nat.le_of_ble_eq_true rfl⟩, rfl, hts (.instanceMethod yX2_init) (by decide +kernel)⟩ rfl hl.1 rfl (Nat.le_of_ble_eq_true rfl) dX8_init_36 ⟨Nat.le_of_ble_eq_true rfl, Nat.le_of_ble_eq_true rfl⟩) hS (fun n' G' H locs hw hP hS => ?_)
  obtain ⟨hn9, hb1, hb2, hb3, hbf⟩ := hw
  have hP : gP E A (x + 7) G' H := by rw [show x + 7 = n' from hn9]; exact hP
  have hA : ∀ q, x + 7 ≤ q → A q := fun q h => hA0 q (by omega)
  have l0 : G' (x + 1) = some (.inl (E.2 5, 8, .inr (.inr (.inr (.inr (fun _ => none)))))) := hbf _ _ (by omega) q103_0
  have l1 : G' (x + 2) = some (.inl (E.2 4, 30, .inr (.inr (.inr (.inr (fun _ => none)))))) := hbf _ _ (by omega) q103_1
  have l2 : G' (x + 3) = some (.inl (E.2 2, 40, .inr (.inr (.inr (.inr (fun _ => none)))))) := hbf _ _ (by omega) q103_2
  have l3 : G' x = some (.inr (8, [.ref (x + 1), .ref (x + 2), .ref (x + 3), .null, .null, .null, .int 0, .int 0, .int 0, .int 0, .int 0, .int 0, .int 0, .int 0])) := hbf _ _ (by omega) q103_3
  have mhb1 : G' (x + 4) = some (.inr (2, [.ref (x + 5), .ref (x + 6), .int 0])) := hb1
  have mhb2 : G' (x + 5) = some (.inl (E.2 3, 40, .inr (.inr (.inr (.inr (fun _ => none)))))) := hb2
  have mhb3 : G' (x + 6) = some (.inr (1, [.int 0, .int 0, .int 0, .int 0, .int 0])) := hb3
  generalize G' = GL at hP l0 l1 l2 l3 mhb1 mhb2 mhb3 hb1 hb2 hb3 hbf
  refine g_put (ci := 8) (ty := (.object "DikeHands$LawBook")) (v := .ref (x + 4)) hx hb hts hin8 tyX8 tyX8_ok nmX8 hown hK hP hS l3 rfl 3 (by decide) hf30 rfl (Or.inr ⟨rfl, hnm, rfl⟩) (by decide +kernel) rfl rfl (Nat.le_of_ble_eq_true rfl) dX8_init_39 (fun H locs hP hS => ?_)
  have q104_0 : (gup GL x (.inr (8, [.ref (x + 1), .ref (x + 2), .ref (x + 3), .ref (x + 4), .null, .null, .int 0, .int 0, .int 0, .int 0, .int 0, .int 0, .int 0, .int 0]))) (x + 1) = some (.inl (E.2 5, 8, .inr (.inr (.inr (.inr (fun _ => none)))))) := (gup_n (by omega)).trans l0
  have q104_1 : (gup GL x (.inr (8, [.ref (x + 1), .ref (x + 2), .ref (x + 3), .ref (x + 4), .null, .null, .int 0, .int 0, .int 0, .int 0, .int 0, .int 0, .int 0, .int 0]))) (x + 2) = some (.inl (E.2 4, 30, .inr (.inr (.inr (.inr (fun _ => none)))))) := (gup_n (by omega)).trans l1
  have q104_2 : (gup GL x (.inr (8, [.ref (x + 1), .ref (x + 2), .ref (x + 3), .ref (x + 4), .null, .null, .int 0, .int 0, .int 0, .int 0, .int 0, .int 0, .int 0, .int 0]))) (x + 3) = some (.inl (E.2 2, 40, .inr (.inr (.inr (.inr (fun _ => none)))))) := (gup_n (by omega)).trans l2
  have q104_3 : (gup GL x (.inr (8, [.ref (x + 1), .ref (x + 2), .ref (x + 3), .ref (x + 4), .null, .null, .int 0, .int 0, .int 0, .int 0, .int 0, .int 0, .int 0, .int 0]))) (x + 4) = some (.inr (2, [.ref (x + 5), .ref (x + 6), .int 0])) := (gup_n (by omega)).trans mhb1
  have q104_4 : (gup GL x (.inr (8, [.ref (x + 1), .ref (x + 2), .ref (x + 3), .ref (x + 4), .null, .null, .int 0, .int 0, .int 0, .int 0, .int 0, .int 0, .int 0, .int 0]))) (x + 5) = some (.inl (E.2 3, 40, .inr (.inr (.inr (.inr (fun _ => none)))))) := (gup_n (by omega)).trans mhb2
  have q104_5 : (gup GL x (.inr (8, [.ref (x + 1), .ref (x + 2), .ref (x + 3), .ref (x + 4), .null, .null, .int 0, .int 0, .int 0, .int 0, .int 0, .int 0, .int 0, .int 0]))) (x + 6) = some (.inr (1, [.int 0, .int 0, .int 0, .int 0, .int 0])) := (gup_n (by omega)).trans mhb3
  have q104_a : (gup GL x (.inr (8, [.ref (x + 1), .ref (x + 2), .ref (x + 3), .ref (x + 4), .null, .null, .int 0, .int 0, .int 0, .int 0, .int 0, .int 0, .int 0, .int 0]))) x = some (.inr (8, [.ref (x + 1), .ref (x + 2), .ref (x + 3), .ref (x + 4), .null, .null, .int 0, .int 0, .int 0, .int 0, .int 0, .int 0, .int 0, .int 0])) := gup_s
  have hP : gP E A (x + 7) (gup GL x (.inr (8, [.ref (x + 1), .ref (x + 2), .ref (x + 3), .ref (x + 4), .null, .null, .int 0, .int 0, .int 0, .int 0, .int 0, .int 0, .int 0, .int 0]))) H := hP
  generalize hg_Gr8 : gup GL x (.inr (8, [.ref (x + 1), .ref (x + 2), .ref (x + 3), .ref (x + 4), .null, .null, .int 0, .int 0, .int 0, .int 0, .int 0, .int 0, .int 0, .int 0])) = Gr8 at hP q104_0 q104_1 q104_2 q104_3 q104_4 q104_5 q104_a
  refine lv_aload_n hx hb dX8_init_42 rfl (lv_at hl 0 rfl) ?_
  refine g_new (ci := 3) (fs := [.null]) hx hb hts hin3 tyX3 tyX3_ok hown (hts (.classLink RX8 34 RX3) (by decide +kernel)) (hts (.instantiable RX3 1) (by decide +kernel)) (hts (.initialized RX3) (by decide +kernel)) hK hP hS hA rfl (by decide) (Nat.le_of_ble_eq_true rfl) (Nat.le_of_ble_eq_true rfl) dX8_init_43 (fun H hP hS => ?_)
  have q105_0 : (gup Gr8 (x + 7) (.inr (3, [.null]))) (x + 1) = some (.inl (E.2 5, 8, .inr (.inr (.inr (.inr (fun _ => none)))))) := (gup_n (by omega)).trans q104_0
  have q105_1 : (gup Gr8 (x + 7) (.inr (3, [.null]))) (x + 2) = some (.inl (E.2 4, 30, .inr (.inr (.inr (.inr (fun _ => none)))))) := (gup_n (by omega)).trans q104_1
  have q105_2 : (gup Gr8 (x + 7) (.inr (3, [.null]))) (x + 3) = some (.inl (E.2 2, 40, .inr (.inr (.inr (.inr (fun _ => none)))))) := (gup_n (by omega)).trans q104_2
  have q105_3 : (gup Gr8 (x + 7) (.inr (3, [.null]))) (x + 4) = some (.inr (2, [.ref (x + 5), .ref (x + 6), .int 0])) := (gup_n (by omega)).trans q104_3
  have q105_4 : (gup Gr8 (x + 7) (.inr (3, [.null]))) (x + 5) = some (.inl (E.2 3, 40, .inr (.inr (.inr (.inr (fun _ => none)))))) := (gup_n (by omega)).trans q104_4
  have q105_5 : (gup Gr8 (x + 7) (.inr (3, [.null]))) (x + 6) = some (.inr (1, [.int 0, .int 0, .int 0, .int 0, .int 0])) := (gup_n (by omega)).trans q104_5
  have q105_6 : (gup Gr8 (x + 7) (.inr (3, [.null]))) x = some (.inr (8, [.ref (x + 1), .ref (x + 2), .ref (x + 3), .ref (x + 4), .null, .null, .int 0, .int 0, .int 0, .int 0, .int 0, .int 0, .int 0, .int 0])) := (gup_n (by omega)).trans q104_a
  have q105_a : (gup Gr8 (x + 7) (.inr (3, [.null]))) (x + 7) = some (.inr (3, [.null])) := gup_s
  have hP : gP E A (x + 8) (gup Gr8 (x + 7) (.inr (3, [.null]))) H := hP
  have hA : ∀ q, x + 8 ≤ q → A q := fun q h => hA0 q (by omega)
  generalize hg_Gr9 : gup Gr8 (x + 7) (.inr (3, [.null])) = Gr9 at hP q105_0 q105_1 q105_2 q105_3 q105_4 q105_5 q105_6 q105_a
  refine lv_dup hx hb dX8_init_46 rfl ?_
  refine g_cv (g_runIN (As := []) (rest := [.ref (x + 7), .ref x]) ⟨hx, hb, hml, hown, hts⟩ hK hP (kX3_init l E A (x + 8) Gr9 (x + 7) q105_a hA) ⟨va_cnB 0 hts gX8_init_X3_init_n36 rfl rfl rfl hK.2.2.1 (hts (.initialized RX3) (by decide +kernel)) (by decide +kernel) ⟨Nat.le_of_ble_eq_true rfl, Nat.le_of_ble_eq_true rfl⟩, rfl, hts (.instanceMethod yX3_init) (by decide +kernel)⟩ rfl hl.1 rfl (Nat.le_of_ble_eq_true rfl) dX8_init_47 ⟨Nat.le_of_ble_eq_true rfl, Nat.le_of_ble_eq_true rfl⟩) hS (fun n' G' H locs hw hP hS => ?_)
  obtain ⟨hn8, hc1, hc2, hcf⟩ := hw
  have hP : gP E A (x + 9) G' H := by rw [show x + 9 = n' from hn8]; exact hP
  have hA : ∀ q, x + 9 ≤ q → A q := fun q h => hA0 q (by omega)
  have p0 : G' (x + 1) = some (.inl (E.2 5, 8, .inr (.inr (.inr (.inr (fun _ => none)))))) := hcf _ _ (by omega) q105_0
  have p1 : G' (x + 2) = some (.inl (E.2 4, 30, .inr (.inr (.inr (.inr (fun _ => none)))))) := hcf _ _ (by omega) q105_1
  have p2 : G' (x + 3) = some (.inl (E.2 2, 40, .inr (.inr (.inr (.inr (fun _ => none)))))) := hcf _ _ (by omega) q105_2
  have p3 : G' (x + 4) = some (.inr (2, [.ref (x + 5), .ref (x + 6), .int 0])) := hcf _ _ (by omega) q105_3
  have p4 : G' (x + 5) = some (.inl (E.2 3, 40, .inr (.inr (.inr (.inr (fun _ => none)))))) := hcf _ _ (by omega) q105_4
  have p5 : G' (x + 6) = some (.inr (1, [.int 0, .int 0, .int 0, .int 0, .int 0])) := hcf _ _ (by omega) q105_5
  have p6 : G' x = some (.inr (8, [.ref (x + 1), .ref (x + 2), .ref (x + 3), .ref (x + 4), .null, .null, .int 0, .int 0, .int 0, .int 0, .int 0, .int 0, .int 0, .int 0])) := hcf _ _ (by omega) q105_6
  have mhc1 : G' (x + 7) = some (.inr (3, [.ref (x + 8)])) := hc1
  have mhc2 : G' (x + 8) = some (.inl (E.2 1, 301, .inr (.inl (fun _ => 0)))) := hc2
  generalize G' = GPl at hP p0 p1 p2 p3 p4 p5 p6 mhc1 mhc2 hc1 hc2 hcf
  refine g_put (ci := 8) (ty := (.object "DikeHands$Plan")) (v := .ref (x + 7)) hx hb hts hin8 tyX8 tyX8_ok nmX8 hown hK hP hS p6 rfl 4 (by decide) hf37 rfl (Or.inr ⟨rfl, hnm, rfl⟩) (by decide +kernel) rfl rfl (Nat.le_of_ble_eq_true rfl) dX8_init_50 (fun H locs hP hS => ?_)
  have q106_0 : (gup GPl x (.inr (8, [.ref (x + 1), .ref (x + 2), .ref (x + 3), .ref (x + 4), .ref (x + 7), .null, .int 0, .int 0, .int 0, .int 0, .int 0, .int 0, .int 0, .int 0]))) (x + 1) = some (.inl (E.2 5, 8, .inr (.inr (.inr (.inr (fun _ => none)))))) := (gup_n (by omega)).trans p0
  have q106_1 : (gup GPl x (.inr (8, [.ref (x + 1), .ref (x + 2), .ref (x + 3), .ref (x + 4), .ref (x + 7), .null, .int 0, .int 0, .int 0, .int 0, .int 0, .int 0, .int 0, .int 0]))) (x + 2) = some (.inl (E.2 4, 30, .inr (.inr (.inr (.inr (fun _ => none)))))) := (gup_n (by omega)).trans p1
  have q106_2 : (gup GPl x (.inr (8, [.ref (x + 1), .ref (x + 2), .ref (x + 3), .ref (x + 4), .ref (x + 7), .null, .int 0, .int 0, .int 0, .int 0, .int 0, .int 0, .int 0, .int 0]))) (x + 3) = some (.inl (E.2 2, 40, .inr (.inr (.inr (.inr (fun _ => none)))))) := (gup_n (by omega)).trans p2
  have q106_3 : (gup GPl x (.inr (8, [.ref (x + 1), .ref (x + 2), .ref (x + 3), .ref (x + 4), .ref (x + 7), .null, .int 0, .int 0, .int 0, .int 0, .int 0, .int 0, .int 0, .int 0]))) (x + 4) = some (.inr (2, [.ref (x + 5), .ref (x + 6), .int 0])) := (gup_n (by omega)).trans p3
  have q106_4 : (gup GPl x (.inr (8, [.ref (x + 1), .ref (x + 2), .ref (x + 3), .ref (x + 4), .ref (x + 7), .null, .int 0, .int 0, .int 0, .int 0, .int 0, .int 0, .int 0, .int 0]))) (x + 5) = some (.inl (E.2 3, 40, .inr (.inr (.inr (.inr (fun _ => none)))))) := (gup_n (by omega)).trans p4
  have q106_5 : (gup GPl x (.inr (8, [.ref (x + 1), .ref (x + 2), .ref (x + 3), .ref (x + 4), .ref (x + 7), .null, .int 0, .int 0, .int 0, .int 0, .int 0, .int 0, .int 0, .int 0]))) (x + 6) = some (.inr (1, [.int 0, .int 0, .int 0, .int 0, .int 0])) := (gup_n (by omega)).trans p5
  have q106_6 : (gup GPl x (.inr (8, [.ref (x + 1), .ref (x + 2), .ref (x + 3), .ref (x + 4), .ref (x + 7), .null, .int 0, .int 0, .int 0, .int 0, .int 0, .int 0, .int 0, .int 0]))) (x + 7) = some (.inr (3, [.ref (x + 8)])) := (gup_n (by omega)).trans mhc1
  have q106_7 : (gup GPl x (.inr (8, [.ref (x + 1), .ref (x + 2), .ref (x + 3), .ref (x + 4), .ref (x + 7), .null, .int 0, .int 0, .int 0, .int 0, .int 0, .int 0, .int 0, .int 0]))) (x + 8) = some (.inl (E.2 1, 301, .inr (.inl (fun _ => 0)))) := (gup_n (by omega)).trans mhc2
  have q106_a : (gup GPl x (.inr (8, [.ref (x + 1), .ref (x + 2), .ref (x + 3), .ref (x + 4), .ref (x + 7), .null, .int 0, .int 0, .int 0, .int 0, .int 0, .int 0, .int 0, .int 0]))) x = some (.inr (8, [.ref (x + 1), .ref (x + 2), .ref (x + 3), .ref (x + 4), .ref (x + 7), .null, .int 0, .int 0, .int 0, .int 0, .int 0, .int 0, .int 0, .int 0])) := gup_s
  have hP : gP E A (x + 9) (gup GPl x (.inr (8, [.ref (x + 1), .ref (x + 2), .ref (x + 3), .ref (x + 4), .ref (x + 7), .null, .int 0, .int 0, .int 0, .int 0, .int 0, .int 0, .int 0, .int 0]))) H := hP
  generalize hg_Gr10 : gup GPl x (.inr (8, [.ref (x + 1), .ref (x + 2), .ref (x + 3), .ref (x + 4), .ref (x + 7), .null, .int 0, .int 0, .int 0, .int 0, .int 0, .int 0, .int 0, .int 0])) = Gr10 at hP q106_0 q106_1 q106_2 q106_3 q106_4 q106_5 q106_6 q106_7 q106_a
  refine lv_aload_n hx hb dX8_init_53 rfl (lv_at hl 0 rfl) ?_
  refine lv_sipush (v := 1040) hx hb dX8_init_54 (by decide) ?_
  refine g_newa (atype := .int) (t0 := 0) (cA := E.2 0) (a0 := (1040, .inl (fun _ => 0))) (N' := 1040) hx hb (hts (.arrayClass .int) (by decide +kernel)) rfl rfl hK hP hS hA rfl (by decide) (by decide) (by decide) (Nat.le_of_ble_eq_true rfl) (Nat.le_of_ble_eq_true rfl) dX8_init_57 (fun H hP hS => ?_)
  have q107_0 : (gup Gr10 (x + 9) (.inl (E.2 0, 1040, .inl (fun _ => 0)))) (x + 1) = some (.inl (E.2 5, 8, .inr (.inr (.inr (.inr (fun _ => none)))))) := (gup_n (by omega)).trans q106_0
  have q107_1 : (gup Gr10 (x + 9) (.inl (E.2 0, 1040, .inl (fun _ => 0)))) (x + 2) = some (.inl (E.2 4, 30, .inr (.inr (.inr (.inr (fun _ => none)))))) := (gup_n (by omega)).trans q106_1
  have q107_2 : (gup Gr10 (x + 9) (.inl (E.2 0, 1040, .inl (fun _ => 0)))) (x + 3) = some (.inl (E.2 2, 40, .inr (.inr (.inr (.inr (fun _ => none)))))) := (gup_n (by omega)).trans q106_2
  have q107_3 : (gup Gr10 (x + 9) (.inl (E.2 0, 1040, .inl (fun _ => 0)))) (x + 4) = some (.inr (2, [.ref (x + 5), .ref (x + 6), .int 0])) := (gup_n (by omega)).trans q106_3
  have q107_4 : (gup Gr10 (x + 9) (.inl (E.2 0, 1040, .inl (fun _ => 0)))) (x + 5) = some (.inl (E.2 3, 40, .inr (.inr (.inr (.inr (fun _ => none)))))) := (gup_n (by omega)).trans q106_4
  have q107_5 : (gup Gr10 (x + 9) (.inl (E.2 0, 1040, .inl (fun _ => 0)))) (x + 6) = some (.inr (1, [.int 0, .int 0, .int 0, .int 0, .int 0])) := (gup_n (by omega)).trans q106_5
  have q107_6 : (gup Gr10 (x + 9) (.inl (E.2 0, 1040, .inl (fun _ => 0)))) (x + 7) = some (.inr (3, [.ref (x + 8)])) := (gup_n (by omega)).trans q106_6
  have q107_7 : (gup Gr10 (x + 9) (.inl (E.2 0, 1040, .inl (fun _ => 0)))) (x + 8) = some (.inl (E.2 1, 301, .inr (.inl (fun _ => 0)))) := (gup_n (by omega)).trans q106_7
  have q107_8 : (gup Gr10 (x + 9) (.inl (E.2 0, 1040, .inl (fun _ => 0)))) x = some (.inr (8, [.ref (x + 1), .ref (x + 2), .ref (x + 3), .ref (x + 4), .ref (x + 7), .null, .int 0, .int 0, .int 0, .int 0, .int 0, .int 0, .int 0, .int 0])) := (gup_n (by omega)).trans q106_a
  have q107_a : (gup Gr10 (x + 9) (.inl (E.2 0, 1040, .inl (fun _ => 0)))) (x + 9) = some (.inl (E.2 0, 1040, .inl (fun _ => 0))) := gup_s
  have hP : gP E A (x + 10) (gup Gr10 (x + 9) (.inl (E.2 0, 1040, .inl (fun _ => 0)))) H := hP
  have hA : ∀ q, x + 10 ≤ q → A q := fun q h => hA0 q (by omega)
  generalize hg_Gr11 : gup Gr10 (x + 9) (.inl (E.2 0, 1040, .inl (fun _ => 0))) = Gr11 at hP q107_0 q107_1 q107_2 q107_3 q107_4 q107_5 q107_6 q107_7 q107_8 q107_a
  refine g_put (ci := 8) (ty := (.array .int)) (v := .ref (x + 9)) hx hb hts hin8 tyX8 tyX8_ok nmX8 hown hK hP hS q107_8 rfl 5 (by decide) hf41 rfl (Or.inr ⟨rfl, hnm, rfl⟩) (by decide +kernel) rfl rfl (Nat.le_of_ble_eq_true rfl) dX8_init_59 (fun H locs hP hS => ?_)
  have q108_0 : (gup Gr11 x (.inr (8, [.ref (x + 1), .ref (x + 2), .ref (x + 3), .ref (x + 4), .ref (x + 7), .ref (x + 9), .int 0, .int 0, .int 0, .int 0, .int 0, .int 0, .int 0, .int 0]))) (x + 1) = some (.inl (E.2 5, 8, .inr (.inr (.inr (.inr (fun _ => none)))))) := (gup_n (by omega)).trans q107_0
  have q108_1 : (gup Gr11 x (.inr (8, [.ref (x + 1), .ref (x + 2), .ref (x + 3), .ref (x + 4), .ref (x + 7), .ref (x + 9), .int 0, .int 0, .int 0, .int 0, .int 0, .int 0, .int 0, .int 0]))) (x + 2) = some (.inl (E.2 4, 30, .inr (.inr (.inr (.inr (fun _ => none)))))) := (gup_n (by omega)).trans q107_1
  have q108_2 : (gup Gr11 x (.inr (8, [.ref (x + 1), .ref (x + 2), .ref (x + 3), .ref (x + 4), .ref (x + 7), .ref (x + 9), .int 0, .int 0, .int 0, .int 0, .int 0, .int 0, .int 0, .int 0]))) (x + 3) = some (.inl (E.2 2, 40, .inr (.inr (.inr (.inr (fun _ => none)))))) := (gup_n (by omega)).trans q107_2
  have q108_3 : (gup Gr11 x (.inr (8, [.ref (x + 1), .ref (x + 2), .ref (x + 3), .ref (x + 4), .ref (x + 7), .ref (x + 9), .int 0, .int 0, .int 0, .int 0, .int 0, .int 0, .int 0, .int 0]))) (x + 4) = some (.inr (2, [.ref (x + 5), .ref (x + 6), .int 0])) := (gup_n (by omega)).trans q107_3
  have q108_4 : (gup Gr11 x (.inr (8, [.ref (x + 1), .ref (x + 2), .ref (x + 3), .ref (x + 4), .ref (x + 7), .ref (x + 9), .int 0, .int 0, .int 0, .int 0, .int 0, .int 0, .int 0, .int 0]))) (x + 5) = some (.inl (E.2 3, 40, .inr (.inr (.inr (.inr (fun _ => none)))))) := (gup_n (by omega)).trans q107_4
  have q108_5 : (gup Gr11 x (.inr (8, [.ref (x + 1), .ref (x + 2), .ref (x + 3), .ref (x + 4), .ref (x + 7), .ref (x + 9), .int 0, .int 0, .int 0, .int 0, .int 0, .int 0, .int 0, .int 0]))) (x + 6) = some (.inr (1, [.int 0, .int 0, .int 0, .int 0, .int 0])) := (gup_n (by omega)).trans q107_5
  have q108_6 : (gup Gr11 x (.inr (8, [.ref (x + 1), .ref (x + 2), .ref (x + 3), .ref (x + 4), .ref (x + 7), .ref (x + 9), .int 0, .int 0, .int 0, .int 0, .int 0, .int 0, .int 0, .int 0]))) (x + 7) = some (.inr (3, [.ref (x + 8)])) := (gup_n (by omega)).trans q107_6
  have q108_7 : (gup Gr11 x (.inr (8, [.ref (x + 1), .ref (x + 2), .ref (x + 3), .ref (x + 4), .ref (x + 7), .ref (x + 9), .int 0, .int 0, .int 0, .int 0, .int 0, .int 0, .int 0, .int 0]))) (x + 8) = some (.inl (E.2 1, 301, .inr (.inl (fun _ => 0)))) := (gup_n (by omega)).trans q107_7
  have q108_8 : (gup Gr11 x (.inr (8, [.ref (x + 1), .ref (x + 2), .ref (x + 3), .ref (x + 4), .ref (x + 7), .ref (x + 9), .int 0, .int 0, .int 0, .int 0, .int 0, .int 0, .int 0, .int 0]))) (x + 9) = some (.inl (E.2 0, 1040, .inl (fun _ => 0))) := (gup_n (by omega)).trans q107_a
  have q108_a : (gup Gr11 x (.inr (8, [.ref (x + 1), .ref (x + 2), .ref (x + 3), .ref (x + 4), .ref (x + 7), .ref (x + 9), .int 0, .int 0, .int 0, .int 0, .int 0, .int 0, .int 0, .int 0]))) x = some (.inr (8, [.ref (x + 1), .ref (x + 2), .ref (x + 3), .ref (x + 4), .ref (x + 7), .ref (x + 9), .int 0, .int 0, .int 0, .int 0, .int 0, .int 0, .int 0, .int 0])) := gup_s
  have hP : gP E A (x + 10) (gup Gr11 x (.inr (8, [.ref (x + 1), .ref (x + 2), .ref (x + 3), .ref (x + 4), .ref (x + 7), .ref (x + 9), .int 0, .int 0, .int 0, .int 0, .int 0, .int 0, .int 0, .int 0]))) H := hP
  generalize hg_Gr12 : gup Gr11 x (.inr (8, [.ref (x + 1), .ref (x + 2), .ref (x + 3), .ref (x + 4), .ref (x + 7), .ref (x + 9), .int 0, .int 0, .int 0, .int 0, .int 0, .int 0, .int 0, .int 0])) = Gr12 at hP q108_0 q108_1 q108_2 q108_3 q108_4 q108_5 q108_6 q108_7 q108_8 q108_a
  refine lv_aload_n hx hb dX8_init_62 rfl (lv_at hl 0 rfl) ?_
  refine lv_iconst (v := 0) hx hb dX8_init_63 (by decide) ?_
  refine g_put (ci := 8) (ty := .int) (v := .int 0) hx hb hts hin8 tyX8 tyX8_ok nmX8 hown hK hP hS q108_a rfl 6 (by decide) hf45 rfl (Or.inl rfl) (by decide +kernel) rfl rfl (Nat.le_of_ble_eq_true rfl) dX8_init_64 (fun H locs hP hS => ?_)
  have q109_0 : (gup Gr12 x (.inr (8, [.ref (x + 1), .ref (x + 2), .ref (x + 3), .ref (x + 4), .ref (x + 7), .ref (x + 9), .int 0, .int 0, .int 0, .int 0, .int 0, .int 0, .int 0, .int 0]))) (x + 1) = some (.inl (E.2 5, 8, .inr (.inr (.inr (.inr (fun _ => none)))))) := (gup_n (by omega)).trans q108_0
  have q109_1 : (gup Gr12 x (.inr (8, [.ref (x + 1), .ref (x + 2), .ref (x + 3), .ref (x + 4), .ref (x + 7), .ref (x + 9), .int 0, .int 0, .int 0, .int 0, .int 0, .int 0, .int 0, .int 0]))) (x + 2) = some (.inl (E.2 4, 30, .inr (.inr (.inr (.inr (fun _ => none)))))) := (gup_n (by omega)).trans q108_1
  have q109_2 : (gup Gr12 x (.inr (8, [.ref (x + 1), .ref (x + 2), .ref (x + 3), .ref (x + 4), .ref (x + 7), .ref (x + 9), .int 0, .int 0, .int 0, .int 0, .int 0, .int 0, .int 0, .int 0]))) (x + 3) = some (.inl (E.2 2, 40, .inr (.inr (.inr (.inr (fun _ => none)))))) := (gup_n (by omega)).trans q108_2
  have q109_3 : (gup Gr12 x (.inr (8, [.ref (x + 1), .ref (x + 2), .ref (x + 3), .ref (x + 4), .ref (x + 7), .ref (x + 9), .int 0, .int 0, .int 0, .int 0, .int 0, .int 0, .int 0, .int 0]))) (x + 4) = some (.inr (2, [.ref (x + 5), .ref (x + 6), .int 0])) := (gup_n (by omega)).trans q108_3
  have q109_4 : (gup Gr12 x (.inr (8, [.ref (x + 1), .ref (x + 2), .ref (x + 3), .ref (x + 4), .ref (x + 7), .ref (x + 9), .int 0, .int 0, .int 0, .int 0, .int 0, .int 0, .int 0, .int 0]))) (x + 5) = some (.inl (E.2 3, 40, .inr (.inr (.inr (.inr (fun _ => none)))))) := (gup_n (by omega)).trans q108_4
  have q109_5 : (gup Gr12 x (.inr (8, [.ref (x + 1), .ref (x + 2), .ref (x + 3), .ref (x + 4), .ref (x + 7), .ref (x + 9), .int 0, .int 0, .int 0, .int 0, .int 0, .int 0, .int 0, .int 0]))) (x + 6) = some (.inr (1, [.int 0, .int 0, .int 0, .int 0, .int 0])) := (gup_n (by omega)).trans q108_5
  have q109_6 : (gup Gr12 x (.inr (8, [.ref (x + 1), .ref (x + 2), .ref (x + 3), .ref (x + 4), .ref (x + 7), .ref (x + 9), .int 0, .int 0, .int 0, .int 0, .int 0, .int 0, .int 0, .int 0]))) (x + 7) = some (.inr (3, [.ref (x + 8)])) := (gup_n (by omega)).trans q108_6
  have q109_7 : (gup Gr12 x (.inr (8, [.ref (x + 1), .ref (x + 2), .ref (x + 3), .ref (x + 4), .ref (x + 7), .ref (x + 9), .int 0, .int 0, .int 0, .int 0, .int 0, .int 0, .int 0, .int 0]))) (x + 8) = some (.inl (E.2 1, 301, .inr (.inl (fun _ => 0)))) := (gup_n (by omega)).trans q108_7
  have q109_8 : (gup Gr12 x (.inr (8, [.ref (x + 1), .ref (x + 2), .ref (x + 3), .ref (x + 4), .ref (x + 7), .ref (x + 9), .int 0, .int 0, .int 0, .int 0, .int 0, .int 0, .int 0, .int 0]))) (x + 9) = some (.inl (E.2 0, 1040, .inl (fun _ => 0))) := (gup_n (by omega)).trans q108_8
  have q109_a : (gup Gr12 x (.inr (8, [.ref (x + 1), .ref (x + 2), .ref (x + 3), .ref (x + 4), .ref (x + 7), .ref (x + 9), .int 0, .int 0, .int 0, .int 0, .int 0, .int 0, .int 0, .int 0]))) x = some (.inr (8, [.ref (x + 1), .ref (x + 2), .ref (x + 3), .ref (x + 4), .ref (x + 7), .ref (x + 9), .int 0, .int 0, .int 0, .int 0, .int 0, .int 0, .int 0, .int 0])) := gup_s
  have hP : gP E A (x + 10) (gup Gr12 x (.inr (8, [.ref (x + 1), .ref (x + 2), .ref (x + 3), .ref (x + 4), .ref (x + 7), .ref (x + 9), .int 0, .int 0, .int 0, .int 0, .int 0, .int 0, .int 0, .int 0]))) H := hP
  generalize hg_Gr13 : gup Gr12 x (.inr (8, [.ref (x + 1), .ref (x + 2), .ref (x + 3), .ref (x + 4), .ref (x + 7), .ref (x + 9), .int 0, .int 0, .int 0, .int 0, .int 0, .int 0, .int 0, .int 0])) = Gr13 at hP q109_0 q109_1 q109_2 q109_3 q109_4 q109_5 q109_6 q109_7 q109_8 q109_a
  refine lv_aload_n hx hb dX8_init_67 rfl (lv_at hl 0 rfl) ?_
  refine lv_iconst (v := 0) hx hb dX8_init_68 (by decide) ?_
  refine g_put (ci := 8) (ty := .int) (v := .int 0) hx hb hts hin8 tyX8 tyX8_ok nmX8 hown hK hP hS q109_a rfl 7 (by decide) hf49 rfl (Or.inl rfl) (by decide +kernel) rfl rfl (Nat.le_of_ble_eq_true rfl) dX8_init_69 (fun H locs hP hS => ?_)
  have q110_0 : (gup Gr13 x (.inr (8, [.ref (x + 1), .ref (x + 2), .ref (x + 3), .ref (x + 4), .ref (x + 7), .ref (x + 9), .int 0, .int 0, .int 0, .int 0, .int 0, .int 0, .int 0, .int 0]))) (x + 1) = some (.inl (E.2 5, 8, .inr (.inr (.inr (.inr (fun _ => none)))))) := (gup_n (by omega)).trans q109_0
  have q110_1 : (gup Gr13 x (.inr (8, [.ref (x + 1), .ref (x + 2), .ref (x + 3), .ref (x + 4), .ref (x + 7), .ref (x + 9), .int 0, .int 0, .int 0, .int 0, .int 0, .int 0, .int 0, .int 0]))) (x + 2) = some (.inl (E.2 4, 30, .inr (.inr (.inr (.inr (fun _ => none)))))) := (gup_n (by omega)).trans q109_1
  have q110_2 : (gup Gr13 x (.inr (8, [.ref (x + 1), .ref (x + 2), .ref (x + 3), .ref (x + 4), .ref (x + 7), .ref (x + 9), .int 0, .int 0, .int 0, .int 0, .int 0, .int 0, .int 0, .int 0]))) (x + 3) = some (.inl (E.2 2, 40, .inr (.inr (.inr (.inr (fun _ => none)))))) := (gup_n (by omega)).trans q109_2
  have q110_3 : (gup Gr13 x (.inr (8, [.ref (x + 1), .ref (x + 2), .ref (x + 3), .ref (x + 4), .ref (x + 7), .ref (x + 9), .int 0, .int 0, .int 0, .int 0, .int 0, .int 0, .int 0, .int 0]))) (x + 4) = some (.inr (2, [.ref (x + 5), .ref (x + 6), .int 0])) := (gup_n (by omega)).trans q109_3
  have q110_4 : (gup Gr13 x (.inr (8, [.ref (x + 1), .ref (x + 2), .ref (x + 3), .ref (x + 4), .ref (x + 7), .ref (x + 9), .int 0, .int 0, .int 0, .int 0, .int 0, .int 0, .int 0, .int 0]))) (x + 5) = some (.inl (E.2 3, 40, .inr (.inr (.inr (.inr (fun _ => none)))))) := (gup_n (by omega)).trans q109_4
  have q110_5 : (gup Gr13 x (.inr (8, [.ref (x + 1), .ref (x + 2), .ref (x + 3), .ref (x + 4), .ref (x + 7), .ref (x + 9), .int 0, .int 0, .int 0, .int 0, .int 0, .int 0, .int 0, .int 0]))) (x + 6) = some (.inr (1, [.int 0, .int 0, .int 0, .int 0, .int 0])) := (gup_n (by omega)).trans q109_5
  have q110_6 : (gup Gr13 x (.inr (8, [.ref (x + 1), .ref (x + 2), .ref (x + 3), .ref (x + 4), .ref (x + 7), .ref (x + 9), .int 0, .int 0, .int 0, .int 0, .int 0, .int 0, .int 0, .int 0]))) (x + 7) = some (.inr (3, [.ref (x + 8)])) := (gup_n (by omega)).trans q109_6
  have q110_7 : (gup Gr13 x (.inr (8, [.ref (x + 1), .ref (x + 2), .ref (x + 3), .ref (x + 4), .ref (x + 7), .ref (x + 9), .int 0, .int 0, .int 0, .int 0, .int 0, .int 0, .int 0, .int 0]))) (x + 8) = some (.inl (E.2 1, 301, .inr (.inl (fun _ => 0)))) := (gup_n (by omega)).trans q109_7
  have q110_8 : (gup Gr13 x (.inr (8, [.ref (x + 1), .ref (x + 2), .ref (x + 3), .ref (x + 4), .ref (x + 7), .ref (x + 9), .int 0, .int 0, .int 0, .int 0, .int 0, .int 0, .int 0, .int 0]))) (x + 9) = some (.inl (E.2 0, 1040, .inl (fun _ => 0))) := (gup_n (by omega)).trans q109_8
  have q110_a : (gup Gr13 x (.inr (8, [.ref (x + 1), .ref (x + 2), .ref (x + 3), .ref (x + 4), .ref (x + 7), .ref (x + 9), .int 0, .int 0, .int 0, .int 0, .int 0, .int 0, .int 0, .int 0]))) x = some (.inr (8, [.ref (x + 1), .ref (x + 2), .ref (x + 3), .ref (x + 4), .ref (x + 7), .ref (x + 9), .int 0, .int 0, .int 0, .int 0, .int 0, .int 0, .int 0, .int 0])) := gup_s
  have hP : gP E A (x + 10) (gup Gr13 x (.inr (8, [.ref (x + 1), .ref (x + 2), .ref (x + 3), .ref (x + 4), .ref (x + 7), .ref (x + 9), .int 0, .int 0, .int 0, .int 0, .int 0, .int 0, .int 0, .int 0]))) H := hP
  generalize hg_Gr14 : gup Gr13 x (.inr (8, [.ref (x + 1), .ref (x + 2), .ref (x + 3), .ref (x + 4), .ref (x + 7), .ref (x + 9), .int 0, .int 0, .int 0, .int 0, .int 0, .int 0, .int 0, .int 0])) = Gr14 at hP q110_0 q110_1 q110_2 q110_3 q110_4 q110_5 q110_6 q110_7 q110_8 q110_a
  refine lv_aload_n hx hb dX8_init_72 rfl (lv_at hl 0 rfl) ?_
  refine lv_iconst (v := 0) hx hb dX8_init_73 (by decide) ?_
  refine g_put (ci := 8) (ty := .int) (v := .int 0) hx hb hts hin8 tyX8 tyX8_ok nmX8 hown hK hP hS q110_a rfl 8 (by decide) hf52 rfl (Or.inl rfl) (by decide +kernel) rfl rfl (Nat.le_of_ble_eq_true rfl) dX8_init_74 (fun H locs hP hS => ?_)
  have q111_0 : (gup Gr14 x (.inr (8, [.ref (x + 1), .ref (x + 2), .ref (x + 3), .ref (x + 4), .ref (x + 7), .ref (x + 9), .int 0, .int 0, .int 0, .int 0, .int 0, .int 0, .int 0, .int 0]))) (x + 1) = some (.inl (E.2 5, 8, .inr (.inr (.inr (.inr (fun _ => none)))))) := (gup_n (by omega)).trans q110_0
  have q111_1 : (gup Gr14 x (.inr (8, [.ref (x + 1), .ref (x + 2), .ref (x + 3), .ref (x + 4), .ref (x + 7), .ref (x + 9), .int 0, .int 0, .int 0, .int 0, .int 0, .int 0, .int 0, .int 0]))) (x + 2) = some (.inl (E.2 4, 30, .inr (.inr (.inr (.inr (fun _ => none)))))) := (gup_n (by omega)).trans q110_1
  have q111_2 : (gup Gr14 x (.inr (8, [.ref (x + 1), .ref (x + 2), .ref (x + 3), .ref (x + 4), .ref (x + 7), .ref (x + 9), .int 0, .int 0, .int 0, .int 0, .int 0, .int 0, .int 0, .int 0]))) (x + 3) = some (.inl (E.2 2, 40, .inr (.inr (.inr (.inr (fun _ => none)))))) := (gup_n (by omega)).trans q110_2
  have q111_3 : (gup Gr14 x (.inr (8, [.ref (x + 1), .ref (x + 2), .ref (x + 3), .ref (x + 4), .ref (x + 7), .ref (x + 9), .int 0, .int 0, .int 0, .int 0, .int 0, .int 0, .int 0, .int 0]))) (x + 4) = some (.inr (2, [.ref (x + 5), .ref (x + 6), .int 0])) := (gup_n (by omega)).trans q110_3
  have q111_4 : (gup Gr14 x (.inr (8, [.ref (x + 1), .ref (x + 2), .ref (x + 3), .ref (x + 4), .ref (x + 7), .ref (x + 9), .int 0, .int 0, .int 0, .int 0, .int 0, .int 0, .int 0, .int 0]))) (x + 5) = some (.inl (E.2 3, 40, .inr (.inr (.inr (.inr (fun _ => none)))))) := (gup_n (by omega)).trans q110_4
  have q111_5 : (gup Gr14 x (.inr (8, [.ref (x + 1), .ref (x + 2), .ref (x + 3), .ref (x + 4), .ref (x + 7), .ref (x + 9), .int 0, .int 0, .int 0, .int 0, .int 0, .int 0, .int 0, .int 0]))) (x + 6) = some (.inr (1, [.int 0, .int 0, .int 0, .int 0, .int 0])) := (gup_n (by omega)).trans q110_5
  have q111_6 : (gup Gr14 x (.inr (8, [.ref (x + 1), .ref (x + 2), .ref (x + 3), .ref (x + 4), .ref (x + 7), .ref (x + 9), .int 0, .int 0, .int 0, .int 0, .int 0, .int 0, .int 0, .int 0]))) (x + 7) = some (.inr (3, [.ref (x + 8)])) := (gup_n (by omega)).trans q110_6
  have q111_7 : (gup Gr14 x (.inr (8, [.ref (x + 1), .ref (x + 2), .ref (x + 3), .ref (x + 4), .ref (x + 7), .ref (x + 9), .int 0, .int 0, .int 0, .int 0, .int 0, .int 0, .int 0, .int 0]))) (x + 8) = some (.inl (E.2 1, 301, .inr (.inl (fun _ => 0)))) := (gup_n (by omega)).trans q110_7
  have q111_8 : (gup Gr14 x (.inr (8, [.ref (x + 1), .ref (x + 2), .ref (x + 3), .ref (x + 4), .ref (x + 7), .ref (x + 9), .int 0, .int 0, .int 0, .int 0, .int 0, .int 0, .int 0, .int 0]))) (x + 9) = some (.inl (E.2 0, 1040, .inl (fun _ => 0))) := (gup_n (by omega)).trans q110_8
  have q111_a : (gup Gr14 x (.inr (8, [.ref (x + 1), .ref (x + 2), .ref (x + 3), .ref (x + 4), .ref (x + 7), .ref (x + 9), .int 0, .int 0, .int 0, .int 0, .int 0, .int 0, .int 0, .int 0]))) x = some (.inr (8, [.ref (x + 1), .ref (x + 2), .ref (x + 3), .ref (x + 4), .ref (x + 7), .ref (x + 9), .int 0, .int 0, .int 0, .int 0, .int 0, .int 0, .int 0, .int 0])) := gup_s
  have hP : gP E A (x + 10) (gup Gr14 x (.inr (8, [.ref (x + 1), .ref (x + 2), .ref (x + 3), .ref (x + 4), .ref (x + 7), .ref (x + 9), .int 0, .int 0, .int 0, .int 0, .int 0, .int 0, .int 0, .int 0]))) H := hP
  generalize hg_Gr15 : gup Gr14 x (.inr (8, [.ref (x + 1), .ref (x + 2), .ref (x + 3), .ref (x + 4), .ref (x + 7), .ref (x + 9), .int 0, .int 0, .int 0, .int 0, .int 0, .int 0, .int 0, .int 0])) = Gr15 at hP q111_0 q111_1 q111_2 q111_3 q111_4 q111_5 q111_6 q111_7 q111_8 q111_a
  refine lv_aload_n hx hb dX8_init_77 rfl (lv_at hl 0 rfl) ?_
  refine lv_iconst (v := 0) hx hb dX8_init_78 (by decide) ?_
  refine g_put (ci := 8) (ty := .int) (v := .int 0) hx hb hts hin8 tyX8 tyX8_ok nmX8 hown hK hP hS q111_a rfl 9 (by decide) hf55 rfl (Or.inl rfl) (by decide +kernel) rfl rfl (Nat.le_of_ble_eq_true rfl) dX8_init_79 (fun H locs hP hS => ?_)
  have q112_0 : (gup Gr15 x (.inr (8, [.ref (x + 1), .ref (x + 2), .ref (x + 3), .ref (x + 4), .ref (x + 7), .ref (x + 9), .int 0, .int 0, .int 0, .int 0, .int 0, .int 0, .int 0, .int 0]))) (x + 1) = some (.inl (E.2 5, 8, .inr (.inr (.inr (.inr (fun _ => none)))))) := (gup_n (by omega)).trans q111_0
  have q112_1 : (gup Gr15 x (.inr (8, [.ref (x + 1), .ref (x + 2), .ref (x + 3), .ref (x + 4), .ref (x + 7), .ref (x + 9), .int 0, .int 0, .int 0, .int 0, .int 0, .int 0, .int 0, .int 0]))) (x + 2) = some (.inl (E.2 4, 30, .inr (.inr (.inr (.inr (fun _ => none)))))) := (gup_n (by omega)).trans q111_1
  have q112_2 : (gup Gr15 x (.inr (8, [.ref (x + 1), .ref (x + 2), .ref (x + 3), .ref (x + 4), .ref (x + 7), .ref (x + 9), .int 0, .int 0, .int 0, .int 0, .int 0, .int 0, .int 0, .int 0]))) (x + 3) = some (.inl (E.2 2, 40, .inr (.inr (.inr (.inr (fun _ => none)))))) := (gup_n (by omega)).trans q111_2
  have q112_3 : (gup Gr15 x (.inr (8, [.ref (x + 1), .ref (x + 2), .ref (x + 3), .ref (x + 4), .ref (x + 7), .ref (x + 9), .int 0, .int 0, .int 0, .int 0, .int 0, .int 0, .int 0, .int 0]))) (x + 4) = some (.inr (2, [.ref (x + 5), .ref (x + 6), .int 0])) := (gup_n (by omega)).trans q111_3
  have q112_4 : (gup Gr15 x (.inr (8, [.ref (x + 1), .ref (x + 2), .ref (x + 3), .ref (x + 4), .ref (x + 7), .ref (x + 9), .int 0, .int 0, .int 0, .int 0, .int 0, .int 0, .int 0, .int 0]))) (x + 5) = some (.inl (E.2 3, 40, .inr (.inr (.inr (.inr (fun _ => none)))))) := (gup_n (by omega)).trans q111_4
  have q112_5 : (gup Gr15 x (.inr (8, [.ref (x + 1), .ref (x + 2), .ref (x + 3), .ref (x + 4), .ref (x + 7), .ref (x + 9), .int 0, .int 0, .int 0, .int 0, .int 0, .int 0, .int 0, .int 0]))) (x + 6) = some (.inr (1, [.int 0, .int 0, .int 0, .int 0, .int 0])) := (gup_n (by omega)).trans q111_5
  have q112_6 : (gup Gr15 x (.inr (8, [.ref (x + 1), .ref (x + 2), .ref (x + 3), .ref (x + 4), .ref (x + 7), .ref (x + 9), .int 0, .int 0, .int 0, .int 0, .int 0, .int 0, .int 0, .int 0]))) (x + 7) = some (.inr (3, [.ref (x + 8)])) := (gup_n (by omega)).trans q111_6
  have q112_7 : (gup Gr15 x (.inr (8, [.ref (x + 1), .ref (x + 2), .ref (x + 3), .ref (x + 4), .ref (x + 7), .ref (x + 9), .int 0, .int 0, .int 0, .int 0, .int 0, .int 0, .int 0, .int 0]))) (x + 8) = some (.inl (E.2 1, 301, .inr (.inl (fun _ => 0)))) := (gup_n (by omega)).trans q111_7
  have q112_8 : (gup Gr15 x (.inr (8, [.ref (x + 1), .ref (x + 2), .ref (x + 3), .ref (x + 4), .ref (x + 7), .ref (x + 9), .int 0, .int 0, .int 0, .int 0, .int 0, .int 0, .int 0, .int 0]))) (x + 9) = some (.inl (E.2 0, 1040, .inl (fun _ => 0))) := (gup_n (by omega)).trans q111_8
  have q112_a : (gup Gr15 x (.inr (8, [.ref (x + 1), .ref (x + 2), .ref (x + 3), .ref (x + 4), .ref (x + 7), .ref (x + 9), .int 0, .int 0, .int 0, .int 0, .int 0, .int 0, .int 0, .int 0]))) x = some (.inr (8, [.ref (x + 1), .ref (x + 2), .ref (x + 3), .ref (x + 4), .ref (x + 7), .ref (x + 9), .int 0, .int 0, .int 0, .int 0, .int 0, .int 0, .int 0, .int 0])) := gup_s
  have hP : gP E A (x + 10) (gup Gr15 x (.inr (8, [.ref (x + 1), .ref (x + 2), .ref (x + 3), .ref (x + 4), .ref (x + 7), .ref (x + 9), .int 0, .int 0, .int 0, .int 0, .int 0, .int 0, .int 0, .int 0]))) H := hP
  generalize hg_Gr16 : gup Gr15 x (.inr (8, [.ref (x + 1), .ref (x + 2), .ref (x + 3), .ref (x + 4), .ref (x + 7), .ref (x + 9), .int 0, .int 0, .int 0, .int 0, .int 0, .int 0, .int 0, .int 0])) = Gr16 at hP q112_0 q112_1 q112_2 q112_3 q112_4 q112_5 q112_6 q112_7 q112_8 q112_a
  refine lv_aload_n hx hb dX8_init_82 rfl (lv_at hl 0 rfl) ?_
  refine lv_iconst (v := 0) hx hb dX8_init_83 (by decide) ?_
  refine g_put (ci := 8) (ty := .int) (v := .int 0) hx hb hts hin8 tyX8 tyX8_ok nmX8 hown hK hP hS q112_a rfl 10 (by decide) hf58 rfl (Or.inl rfl) (by decide +kernel) rfl rfl (Nat.le_of_ble_eq_true rfl) dX8_init_84 (fun H locs hP hS => ?_)
  have q113_0 : (gup Gr16 x (.inr (8, [.ref (x + 1), .ref (x + 2), .ref (x + 3), .ref (x + 4), .ref (x + 7), .ref (x + 9), .int 0, .int 0, .int 0, .int 0, .int 0, .int 0, .int 0, .int 0]))) (x + 1) = some (.inl (E.2 5, 8, .inr (.inr (.inr (.inr (fun _ => none)))))) := (gup_n (by omega)).trans q112_0
  have q113_1 : (gup Gr16 x (.inr (8, [.ref (x + 1), .ref (x + 2), .ref (x + 3), .ref (x + 4), .ref (x + 7), .ref (x + 9), .int 0, .int 0, .int 0, .int 0, .int 0, .int 0, .int 0, .int 0]))) (x + 2) = some (.inl (E.2 4, 30, .inr (.inr (.inr (.inr (fun _ => none)))))) := (gup_n (by omega)).trans q112_1
  have q113_2 : (gup Gr16 x (.inr (8, [.ref (x + 1), .ref (x + 2), .ref (x + 3), .ref (x + 4), .ref (x + 7), .ref (x + 9), .int 0, .int 0, .int 0, .int 0, .int 0, .int 0, .int 0, .int 0]))) (x + 3) = some (.inl (E.2 2, 40, .inr (.inr (.inr (.inr (fun _ => none)))))) := (gup_n (by omega)).trans q112_2
  have q113_3 : (gup Gr16 x (.inr (8, [.ref (x + 1), .ref (x + 2), .ref (x + 3), .ref (x + 4), .ref (x + 7), .ref (x + 9), .int 0, .int 0, .int 0, .int 0, .int 0, .int 0, .int 0, .int 0]))) (x + 4) = some (.inr (2, [.ref (x + 5), .ref (x + 6), .int 0])) := (gup_n (by omega)).trans q112_3
  have q113_4 : (gup Gr16 x (.inr (8, [.ref (x + 1), .ref (x + 2), .ref (x + 3), .ref (x + 4), .ref (x + 7), .ref (x + 9), .int 0, .int 0, .int 0, .int 0, .int 0, .int 0, .int 0, .int 0]))) (x + 5) = some (.inl (E.2 3, 40, .inr (.inr (.inr (.inr (fun _ => none)))))) := (gup_n (by omega)).trans q112_4
  have q113_5 : (gup Gr16 x (.inr (8, [.ref (x + 1), .ref (x + 2), .ref (x + 3), .ref (x + 4), .ref (x + 7), .ref (x + 9), .int 0, .int 0, .int 0, .int 0, .int 0, .int 0, .int 0, .int 0]))) (x + 6) = some (.inr (1, [.int 0, .int 0, .int 0, .int 0, .int 0])) := (gup_n (by omega)).trans q112_5
  have q113_6 : (gup Gr16 x (.inr (8, [.ref (x + 1), .ref (x + 2), .ref (x + 3), .ref (x + 4), .ref (x + 7), .ref (x + 9), .int 0, .int 0, .int 0, .int 0, .int 0, .int 0, .int 0, .int 0]))) (x + 7) = some (.inr (3, [.ref (x + 8)])) := (gup_n (by omega)).trans q112_6
  have q113_7 : (gup Gr16 x (.inr (8, [.ref (x + 1), .ref (x + 2), .ref (x + 3), .ref (x + 4), .ref (x + 7), .ref (x + 9), .int 0, .int 0, .int 0, .int 0, .int 0, .int 0, .int 0, .int 0]))) (x + 8) = some (.inl (E.2 1, 301, .inr (.inl (fun _ => 0)))) := (gup_n (by omega)).trans q112_7
  have q113_8 : (gup Gr16 x (.inr (8, [.ref (x + 1), .ref (x + 2), .ref (x + 3), .ref (x + 4), .ref (x + 7), .ref (x + 9), .int 0, .int 0, .int 0, .int 0, .int 0, .int 0, .int 0, .int 0]))) (x + 9) = some (.inl (E.2 0, 1040, .inl (fun _ => 0))) := (gup_n (by omega)).trans q112_8
  have q113_a : (gup Gr16 x (.inr (8, [.ref (x + 1), .ref (x + 2), .ref (x + 3), .ref (x + 4), .ref (x + 7), .ref (x + 9), .int 0, .int 0, .int 0, .int 0, .int 0, .int 0, .int 0, .int 0]))) x = some (.inr (8, [.ref (x + 1), .ref (x + 2), .ref (x + 3), .ref (x + 4), .ref (x + 7), .ref (x + 9), .int 0, .int 0, .int 0, .int 0, .int 0, .int 0, .int 0, .int 0])) := gup_s
  have hP : gP E A (x + 10) (gup Gr16 x (.inr (8, [.ref (x + 1), .ref (x + 2), .ref (x + 3), .ref (x + 4), .ref (x + 7), .ref (x + 9), .int 0, .int 0, .int 0, .int 0, .int 0, .int 0, .int 0, .int 0]))) H := hP
  generalize hg_Gr17 : gup Gr16 x (.inr (8, [.ref (x + 1), .ref (x + 2), .ref (x + 3), .ref (x + 4), .ref (x + 7), .ref (x + 9), .int 0, .int 0, .int 0, .int 0, .int 0, .int 0, .int 0, .int 0])) = Gr17 at hP q113_0 q113_1 q113_2 q113_3 q113_4 q113_5 q113_6 q113_7 q113_8 q113_a
  refine lv_aload_n hx hb dX8_init_87 rfl (lv_at hl 0 rfl) ?_
  refine lv_iconst (v := 0) hx hb dX8_init_88 (by decide) ?_
  refine g_put (ci := 8) (ty := .int) (v := .int 0) hx hb hts hin8 tyX8 tyX8_ok nmX8 hown hK hP hS q113_a rfl 11 (by decide) hf61 rfl (Or.inl rfl) (by decide +kernel) rfl rfl (Nat.le_of_ble_eq_true rfl) dX8_init_89 (fun H locs hP hS => ?_)
  have q114_0 : (gup Gr17 x (.inr (8, [.ref (x + 1), .ref (x + 2), .ref (x + 3), .ref (x + 4), .ref (x + 7), .ref (x + 9), .int 0, .int 0, .int 0, .int 0, .int 0, .int 0, .int 0, .int 0]))) (x + 1) = some (.inl (E.2 5, 8, .inr (.inr (.inr (.inr (fun _ => none)))))) := (gup_n (by omega)).trans q113_0
  have q114_1 : (gup Gr17 x (.inr (8, [.ref (x + 1), .ref (x + 2), .ref (x + 3), .ref (x + 4), .ref (x + 7), .ref (x + 9), .int 0, .int 0, .int 0, .int 0, .int 0, .int 0, .int 0, .int 0]))) (x + 2) = some (.inl (E.2 4, 30, .inr (.inr (.inr (.inr (fun _ => none)))))) := (gup_n (by omega)).trans q113_1
  have q114_2 : (gup Gr17 x (.inr (8, [.ref (x + 1), .ref (x + 2), .ref (x + 3), .ref (x + 4), .ref (x + 7), .ref (x + 9), .int 0, .int 0, .int 0, .int 0, .int 0, .int 0, .int 0, .int 0]))) (x + 3) = some (.inl (E.2 2, 40, .inr (.inr (.inr (.inr (fun _ => none)))))) := (gup_n (by omega)).trans q113_2
  have q114_3 : (gup Gr17 x (.inr (8, [.ref (x + 1), .ref (x + 2), .ref (x + 3), .ref (x + 4), .ref (x + 7), .ref (x + 9), .int 0, .int 0, .int 0, .int 0, .int 0, .int 0, .int 0, .int 0]))) (x + 4) = some (.inr (2, [.ref (x + 5), .ref (x + 6), .int 0])) := (gup_n (by omega)).trans q113_3
  have q114_4 : (gup Gr17 x (.inr (8, [.ref (x + 1), .ref (x + 2), .ref (x + 3), .ref (x + 4), .ref (x + 7), .ref (x + 9), .int 0, .int 0, .int 0, .int 0, .int 0, .int 0, .int 0, .int 0]))) (x + 5) = some (.inl (E.2 3, 40, .inr (.inr (.inr (.inr (fun _ => none)))))) := (gup_n (by omega)).trans q113_4
  have q114_5 : (gup Gr17 x (.inr (8, [.ref (x + 1), .ref (x + 2), .ref (x + 3), .ref (x + 4), .ref (x + 7), .ref (x + 9), .int 0, .int 0, .int 0, .int 0, .int 0, .int 0, .int 0, .int 0]))) (x + 6) = some (.inr (1, [.int 0, .int 0, .int 0, .int 0, .int 0])) := (gup_n (by omega)).trans q113_5
  have q114_6 : (gup Gr17 x (.inr (8, [.ref (x + 1), .ref (x + 2), .ref (x + 3), .ref (x + 4), .ref (x + 7), .ref (x + 9), .int 0, .int 0, .int 0, .int 0, .int 0, .int 0, .int 0, .int 0]))) (x + 7) = some (.inr (3, [.ref (x + 8)])) := (gup_n (by omega)).trans q113_6
  have q114_7 : (gup Gr17 x (.inr (8, [.ref (x + 1), .ref (x + 2), .ref (x + 3), .ref (x + 4), .ref (x + 7), .ref (x + 9), .int 0, .int 0, .int 0, .int 0, .int 0, .int 0, .int 0, .int 0]))) (x + 8) = some (.inl (E.2 1, 301, .inr (.inl (fun _ => 0)))) := (gup_n (by omega)).trans q113_7
  have q114_8 : (gup Gr17 x (.inr (8, [.ref (x + 1), .ref (x + 2), .ref (x + 3), .ref (x + 4), .ref (x + 7), .ref (x + 9), .int 0, .int 0, .int 0, .int 0, .int 0, .int 0, .int 0, .int 0]))) (x + 9) = some (.inl (E.2 0, 1040, .inl (fun _ => 0))) := (gup_n (by omega)).trans q113_8
  have q114_a : (gup Gr17 x (.inr (8, [.ref (x + 1), .ref (x + 2), .ref (x + 3), .ref (x + 4), .ref (x + 7), .ref (x + 9), .int 0, .int 0, .int 0, .int 0, .int 0, .int 0, .int 0, .int 0]))) x = some (.inr (8, [.ref (x + 1), .ref (x + 2), .ref (x + 3), .ref (x + 4), .ref (x + 7), .ref (x + 9), .int 0, .int 0, .int 0, .int 0, .int 0, .int 0, .int 0, .int 0])) := gup_s
  have hP : gP E A (x + 10) (gup Gr17 x (.inr (8, [.ref (x + 1), .ref (x + 2), .ref (x + 3), .ref (x + 4), .ref (x + 7), .ref (x + 9), .int 0, .int 0, .int 0, .int 0, .int 0, .int 0, .int 0, .int 0]))) H := hP
  generalize hg_Gr18 : gup Gr17 x (.inr (8, [.ref (x + 1), .ref (x + 2), .ref (x + 3), .ref (x + 4), .ref (x + 7), .ref (x + 9), .int 0, .int 0, .int 0, .int 0, .int 0, .int 0, .int 0, .int 0])) = Gr18 at hP q114_0 q114_1 q114_2 q114_3 q114_4 q114_5 q114_6 q114_7 q114_8 q114_a
  refine lv_aload_n hx hb dX8_init_92 rfl (lv_at hl 0 rfl) ?_
  refine lv_iconst (v := 0) hx hb dX8_init_93 (by decide) ?_
  refine g_put (ci := 8) (ty := .int) (v := .int 0) hx hb hts hin8 tyX8 tyX8_ok nmX8 hown hK hP hS q114_a rfl 12 (by decide) hf64 rfl (Or.inl rfl) (by decide +kernel) rfl rfl (Nat.le_of_ble_eq_true rfl) dX8_init_94 (fun H locs hP hS => ?_)
  have q115_0 : (gup Gr18 x (.inr (8, [.ref (x + 1), .ref (x + 2), .ref (x + 3), .ref (x + 4), .ref (x + 7), .ref (x + 9), .int 0, .int 0, .int 0, .int 0, .int 0, .int 0, .int 0, .int 0]))) (x + 1) = some (.inl (E.2 5, 8, .inr (.inr (.inr (.inr (fun _ => none)))))) := (gup_n (by omega)).trans q114_0
  have q115_1 : (gup Gr18 x (.inr (8, [.ref (x + 1), .ref (x + 2), .ref (x + 3), .ref (x + 4), .ref (x + 7), .ref (x + 9), .int 0, .int 0, .int 0, .int 0, .int 0, .int 0, .int 0, .int 0]))) (x + 2) = some (.inl (E.2 4, 30, .inr (.inr (.inr (.inr (fun _ => none)))))) := (gup_n (by omega)).trans q114_1
  have q115_2 : (gup Gr18 x (.inr (8, [.ref (x + 1), .ref (x + 2), .ref (x + 3), .ref (x + 4), .ref (x + 7), .ref (x + 9), .int 0, .int 0, .int 0, .int 0, .int 0, .int 0, .int 0, .int 0]))) (x + 3) = some (.inl (E.2 2, 40, .inr (.inr (.inr (.inr (fun _ => none)))))) := (gup_n (by omega)).trans q114_2
  have q115_3 : (gup Gr18 x (.inr (8, [.ref (x + 1), .ref (x + 2), .ref (x + 3), .ref (x + 4), .ref (x + 7), .ref (x + 9), .int 0, .int 0, .int 0, .int 0, .int 0, .int 0, .int 0, .int 0]))) (x + 4) = some (.inr (2, [.ref (x + 5), .ref (x + 6), .int 0])) := (gup_n (by omega)).trans q114_3
  have q115_4 : (gup Gr18 x (.inr (8, [.ref (x + 1), .ref (x + 2), .ref (x + 3), .ref (x + 4), .ref (x + 7), .ref (x + 9), .int 0, .int 0, .int 0, .int 0, .int 0, .int 0, .int 0, .int 0]))) (x + 5) = some (.inl (E.2 3, 40, .inr (.inr (.inr (.inr (fun _ => none)))))) := (gup_n (by omega)).trans q114_4
  have q115_5 : (gup Gr18 x (.inr (8, [.ref (x + 1), .ref (x + 2), .ref (x + 3), .ref (x + 4), .ref (x + 7), .ref (x + 9), .int 0, .int 0, .int 0, .int 0, .int 0, .int 0, .int 0, .int 0]))) (x + 6) = some (.inr (1, [.int 0, .int 0, .int 0, .int 0, .int 0])) := (gup_n (by omega)).trans q114_5
  have q115_6 : (gup Gr18 x (.inr (8, [.ref (x + 1), .ref (x + 2), .ref (x + 3), .ref (x + 4), .ref (x + 7), .ref (x + 9), .int 0, .int 0, .int 0, .int 0, .int 0, .int 0, .int 0, .int 0]))) (x + 7) = some (.inr (3, [.ref (x + 8)])) := (gup_n (by omega)).trans q114_6
  have q115_7 : (gup Gr18 x (.inr (8, [.ref (x + 1), .ref (x + 2), .ref (x + 3), .ref (x + 4), .ref (x + 7), .ref (x + 9), .int 0, .int 0, .int 0, .int 0, .int 0, .int 0, .int 0, .int 0]))) (x + 8) = some (.inl (E.2 1, 301, .inr (.inl (fun _ => 0)))) := (gup_n (by omega)).trans q114_7
  have q115_8 : (gup Gr18 x (.inr (8, [.ref (x + 1), .ref (x + 2), .ref (x + 3), .ref (x + 4), .ref (x + 7), .ref (x + 9), .int 0, .int 0, .int 0, .int 0, .int 0, .int 0, .int 0, .int 0]))) (x + 9) = some (.inl (E.2 0, 1040, .inl (fun _ => 0))) := (gup_n (by omega)).trans q114_8
  have q115_a : (gup Gr18 x (.inr (8, [.ref (x + 1), .ref (x + 2), .ref (x + 3), .ref (x + 4), .ref (x + 7), .ref (x + 9), .int 0, .int 0, .int 0, .int 0, .int 0, .int 0, .int 0, .int 0]))) x = some (.inr (8, [.ref (x + 1), .ref (x + 2), .ref (x + 3), .ref (x + 4), .ref (x + 7), .ref (x + 9), .int 0, .int 0, .int 0, .int 0, .int 0, .int 0, .int 0, .int 0])) := gup_s
  have hP : gP E A (x + 10) (gup Gr18 x (.inr (8, [.ref (x + 1), .ref (x + 2), .ref (x + 3), .ref (x + 4), .ref (x + 7), .ref (x + 9), .int 0, .int 0, .int 0, .int 0, .int 0, .int 0, .int 0, .int 0]))) H := hP
  generalize hg_Gr19 : gup Gr18 x (.inr (8, [.ref (x + 1), .ref (x + 2), .ref (x + 3), .ref (x + 4), .ref (x + 7), .ref (x + 9), .int 0, .int 0, .int 0, .int 0, .int 0, .int 0, .int 0, .int 0])) = Gr19 at hP q115_0 q115_1 q115_2 q115_3 q115_4 q115_5 q115_6 q115_7 q115_8 q115_a
  refine lv_aload_n hx hb dX8_init_97 rfl (lv_at hl 0 rfl) ?_
  refine lv_iconst (v := 0) hx hb dX8_init_98 (by decide) ?_
  refine g_put (ci := 8) (ty := .int) (v := .int 0) hx hb hts hin8 tyX8 tyX8_ok nmX8 hown hK hP hS q115_a rfl 13 (by decide) hf67 rfl (Or.inl rfl) (by decide +kernel) rfl rfl (Nat.le_of_ble_eq_true rfl) dX8_init_99 (fun H locs hP hS => ?_)
  have q116_0 : (gup Gr19 x (.inr (8, [.ref (x + 1), .ref (x + 2), .ref (x + 3), .ref (x + 4), .ref (x + 7), .ref (x + 9), .int 0, .int 0, .int 0, .int 0, .int 0, .int 0, .int 0, .int 0]))) (x + 1) = some (.inl (E.2 5, 8, .inr (.inr (.inr (.inr (fun _ => none)))))) := (gup_n (by omega)).trans q115_0
  have q116_1 : (gup Gr19 x (.inr (8, [.ref (x + 1), .ref (x + 2), .ref (x + 3), .ref (x + 4), .ref (x + 7), .ref (x + 9), .int 0, .int 0, .int 0, .int 0, .int 0, .int 0, .int 0, .int 0]))) (x + 2) = some (.inl (E.2 4, 30, .inr (.inr (.inr (.inr (fun _ => none)))))) := (gup_n (by omega)).trans q115_1
  have q116_2 : (gup Gr19 x (.inr (8, [.ref (x + 1), .ref (x + 2), .ref (x + 3), .ref (x + 4), .ref (x + 7), .ref (x + 9), .int 0, .int 0, .int 0, .int 0, .int 0, .int 0, .int 0, .int 0]))) (x + 3) = some (.inl (E.2 2, 40, .inr (.inr (.inr (.inr (fun _ => none)))))) := (gup_n (by omega)).trans q115_2
  have q116_3 : (gup Gr19 x (.inr (8, [.ref (x + 1), .ref (x + 2), .ref (x + 3), .ref (x + 4), .ref (x + 7), .ref (x + 9), .int 0, .int 0, .int 0, .int 0, .int 0, .int 0, .int 0, .int 0]))) (x + 4) = some (.inr (2, [.ref (x + 5), .ref (x + 6), .int 0])) := (gup_n (by omega)).trans q115_3
  have q116_4 : (gup Gr19 x (.inr (8, [.ref (x + 1), .ref (x + 2), .ref (x + 3), .ref (x + 4), .ref (x + 7), .ref (x + 9), .int 0, .int 0, .int 0, .int 0, .int 0, .int 0, .int 0, .int 0]))) (x + 5) = some (.inl (E.2 3, 40, .inr (.inr (.inr (.inr (fun _ => none)))))) := (gup_n (by omega)).trans q115_4
  have q116_5 : (gup Gr19 x (.inr (8, [.ref (x + 1), .ref (x + 2), .ref (x + 3), .ref (x + 4), .ref (x + 7), .ref (x + 9), .int 0, .int 0, .int 0, .int 0, .int 0, .int 0, .int 0, .int 0]))) (x + 6) = some (.inr (1, [.int 0, .int 0, .int 0, .int 0, .int 0])) := (gup_n (by omega)).trans q115_5
  have q116_6 : (gup Gr19 x (.inr (8, [.ref (x + 1), .ref (x + 2), .ref (x + 3), .ref (x + 4), .ref (x + 7), .ref (x + 9), .int 0, .int 0, .int 0, .int 0, .int 0, .int 0, .int 0, .int 0]))) (x + 7) = some (.inr (3, [.ref (x + 8)])) := (gup_n (by omega)).trans q115_6
  have q116_7 : (gup Gr19 x (.inr (8, [.ref (x + 1), .ref (x + 2), .ref (x + 3), .ref (x + 4), .ref (x + 7), .ref (x + 9), .int 0, .int 0, .int 0, .int 0, .int 0, .int 0, .int 0, .int 0]))) (x + 8) = some (.inl (E.2 1, 301, .inr (.inl (fun _ => 0)))) := (gup_n (by omega)).trans q115_7
  have q116_8 : (gup Gr19 x (.inr (8, [.ref (x + 1), .ref (x + 2), .ref (x + 3), .ref (x + 4), .ref (x + 7), .ref (x + 9), .int 0, .int 0, .int 0, .int 0, .int 0, .int 0, .int 0, .int 0]))) (x + 9) = some (.inl (E.2 0, 1040, .inl (fun _ => 0))) := (gup_n (by omega)).trans q115_8
  have q116_a : (gup Gr19 x (.inr (8, [.ref (x + 1), .ref (x + 2), .ref (x + 3), .ref (x + 4), .ref (x + 7), .ref (x + 9), .int 0, .int 0, .int 0, .int 0, .int 0, .int 0, .int 0, .int 0]))) x = some (.inr (8, [.ref (x + 1), .ref (x + 2), .ref (x + 3), .ref (x + 4), .ref (x + 7), .ref (x + 9), .int 0, .int 0, .int 0, .int 0, .int 0, .int 0, .int 0, .int 0])) := gup_s
  have hP : gP E A (x + 10) (gup Gr19 x (.inr (8, [.ref (x + 1), .ref (x + 2), .ref (x + 3), .ref (x + 4), .ref (x + 7), .ref (x + 9), .int 0, .int 0, .int 0, .int 0, .int 0, .int 0, .int 0, .int 0]))) H := hP
  generalize hg_Gr20 : gup Gr19 x (.inr (8, [.ref (x + 1), .ref (x + 2), .ref (x + 3), .ref (x + 4), .ref (x + 7), .ref (x + 9), .int 0, .int 0, .int 0, .int 0, .int 0, .int 0, .int 0, .int 0])) = Gr20 at hP q116_0 q116_1 q116_2 q116_3 q116_4 q116_5 q116_6 q116_7 q116_8 q116_a
  generalize hg_G9 : Gr20 = G9 at hP q116_0 q116_1 q116_2 q116_3 q116_4 q116_5 q116_6 q116_7 q116_8 q116_a
  refine lv_iconst (v := 0) hx hb dX8_init_102 (by decide) ?_
  refine lv_istore_n (lv' := [(1, .int 0), (0, .ref x)]) hx hb dX8_init_103 rfl hl (by decide) rfl (fun ls hl => ?_)
  refine g_loop (τ := Nat × gH) (fun t => (t.1 ≤ 8 ∧ (∃ f, t.2 (x + 1) = some (rfA E 5 8 f) ∧ ∀ v, v < t.1 → f v = some (x + 10 + v)) ∧ (∀ v, v < t.1 → t.2 (x + 10 + v) = some (.inr (6, [.int 0, .null, .null]))) ∧ ∀ (b : Nat) (e : va_E), b ≠ x + 1 → b < x + 10 → G9 b = some e → t.2 b = some e)) (fun t => 8 - t.1) (fun t => x + 10 + t.1) (fun t => t.2) (fun t => 9 + t.1) (fun t => 1468 + 3 * t.1) (fun t => [(0, .ref x), (1, .int (nI t.1))]) ?_ (0, G9) ⟨Nat.zero_le _, ⟨_, q116_0, fun v hv => absurd hv (Nat.not_lt_zero _)⟩, fun v hv => absurd hv (Nat.not_lt_zero _), fun _ _ _ _ q => q⟩ H locs ls hP hS (lv_sub hl [1, 0] rfl)
  intro t hI ih H locs ls hP hS hl
  obtain ⟨kq, G1⟩ := t
  obtain ⟨hkk, ⟨fq, hf1, hf2⟩, hv1, hfr⟩ := hI
  try dsimp only at hkk hf1 hf2 hv1 hfr
  have hl : lv_has ls 2 [(0, .ref x), (1, .int (nI kq))] := hl
  have hP : gP E A (x + 10 + kq) G1 H := hP
  have qx : G1 x = some (.inr (8, [.ref (x + 1), .ref (x + 2), .ref (x + 3), .ref (x + 4), .ref (x + 7), .ref (x + 9), .int 0, .int 0, .int 0, .int 0, .int 0, .int 0, .int 0, .int 0])) := hfr _ _ (by omega) (by omega) q116_a
  have qa : G1 (x + 1) = some (.inl (E.2 5, 8, .inr (.inr (.inr (.inr fq))))) := hf1
  refine lv_iload_n hx hb dX8_init_104 rfl (lv_at hl 1 rfl) ?_
  refine lv_bipush (v := 8) hx hb dX8_init_105 (by decide) ?_
  refine lv_icmp_ge (tgt := 129) hx hb dX8_init_107 (by decide) (fun b107 => ?_) (fun b107 => ?_)
  · have hk3 := lp_ge (x := 8) (by decide) (by omega) b107
    have hk5 : tn 8 = 8 := by decide
    have hke : kq = 8 := by omega
    subst hke
    have hP : gP E A (x + 18) G1 H := hP
    have w0 : G1 (x + 2) = some (.inl (E.2 4, 30, .inr (.inr (.inr (.inr (fun _ => none)))))) := hfr _ _ (by omega) (by omega) q116_1
    have w1 : G1 (x + 3) = some (.inl (E.2 2, 40, .inr (.inr (.inr (.inr (fun _ => none)))))) := hfr _ _ (by omega) (by omega) q116_2
    have w2 : G1 (x + 4) = some (.inr (2, [.ref (x + 5), .ref (x + 6), .int 0])) := hfr _ _ (by omega) (by omega) q116_3
    have w3 : G1 (x + 5) = some (.inl (E.2 3, 40, .inr (.inr (.inr (.inr (fun _ => none)))))) := hfr _ _ (by omega) (by omega) q116_4
    have w4 : G1 (x + 6) = some (.inr (1, [.int 0, .int 0, .int 0, .int 0, .int 0])) := hfr _ _ (by omega) (by omega) q116_5
    have w5 : G1 (x + 7) = some (.inr (3, [.ref (x + 8)])) := hfr _ _ (by omega) (by omega) q116_6
    have w6 : G1 (x + 8) = some (.inl (E.2 1, 301, .inr (.inl (fun _ => 0)))) := hfr _ _ (by omega) (by omega) q116_7
    have w7 : G1 (x + 9) = some (.inl (E.2 0, 1040, .inl (fun _ => 0))) := hfr _ _ (by omega) (by omega) q116_8
    have w8 : G1 x = some (.inr (8, [.ref (x + 1), .ref (x + 2), .ref (x + 3), .ref (x + 4), .ref (x + 7), .ref (x + 9), .int 0, .int 0, .int 0, .int 0, .int 0, .int 0, .int 0, .int 0])) := hfr _ _ (by omega) (by omega) q116_a
    obtain ⟨f5, hf5, hf6⟩ : ∃ f, G1 (x + 1) = some (rfA E 5 8 f) ∧ ∀ v, v < 8 → f v = some (x + 10 + v) := ⟨fq, hf1, hf2⟩
    have hv5 : ∀ v, v < 8 → G1 (x + 10 + v) = some (.inr (6, [.int 0, .null, .null])) := hv1
    generalize G1 = G10 at hP w0 w1 w2 w3 w4 w5 w6 w7 w8 hf5 hv5 hf1 hv1 hfr qx qa
    have hl : lv_has ls 2 [(0, .ref x), (1, .int (nI 8))] := hl
    refine lv_iconst (v := 0) hx hb dX8_init_129 (by decide) ?_
    refine lv_istore_n (lv' := [(1, .int 0), (0, .ref x)]) hx hb dX8_init_130 rfl hl (by decide) rfl (fun ls hl => ?_)
    refine g_loop (τ := Nat × gH) (fun t => (t.1 ≤ 30 ∧ (∃ f, t.2 (x + 2) = some (rfA E 4 30 f) ∧ ∀ v, v < t.1 → f v = some (x + 18 + v)) ∧ (∀ v, v < t.1 → t.2 (x + 18 + v) = some (.inr (4, [.int 1000, .int 0, .int 0, .int 0, .int 0]))) ∧ ∀ (b : Nat) (e : va_E), b ≠ x + 2 → b < x + 18 → G10 b = some e → t.2 b = some e)) (fun t => 30 - t.1) (fun t => x + 18 + t.1) (fun t => t.2) (fun t => 17 + t.1) (fun t => 1492 + 5 * t.1) (fun t => [(0, .ref x), (1, .int (nI t.1))]) ?_ (0, G10) ⟨Nat.zero_le _, ⟨_, w0, fun v hv => absurd hv (Nat.not_lt_zero _)⟩, fun v hv => absurd hv (Nat.not_lt_zero _), fun _ _ _ _ q => q⟩ H locs ls hP hS (lv_sub hl [1, 0] rfl)
    intro t hI ih2 H locs ls hP hS hl
    obtain ⟨kq, G1⟩ := t
    obtain ⟨hkk, ⟨fq, hf1, hf2⟩, hv1, hfr⟩ := hI
    try dsimp only at hkk hf1 hf2 hv1 hfr
    have hl : lv_has ls 2 [(0, .ref x), (1, .int (nI kq))] := hl
    have hP : gP E A (x + 18 + kq) G1 H := hP
    have qx : G1 x = some (.inr (8, [.ref (x + 1), .ref (x + 2), .ref (x + 3), .ref (x + 4), .ref (x + 7), .ref (x + 9), .int 0, .int 0, .int 0, .int 0, .int 0, .int 0, .int 0, .int 0])) := hfr _ _ (by omega) (by omega) w8
    have qa : G1 (x + 2) = some (.inl (E.2 4, 30, .inr (.inr (.inr (.inr fq))))) := hf1
    refine lv_iload_n hx hb dX8_init_131 rfl (lv_at hl 1 rfl) ?_
    refine lv_bipush (v := 30) hx hb dX8_init_132 (by decide) ?_
    refine lv_icmp_ge (tgt := 156) hx hb dX8_init_134 (by decide) (fun b134 => ?_) (fun b134 => ?_)
    · refine W.widen (k := 47) (n := 1642) (by omega) (by omega) ?_
      refine g_retv hx hb hr hlk hP hS dX8_init_156 ?_
      have hk3 := lp_ge (x := 30) (by decide) (by omega) b134
      have hk5 : tn 30 = 30 := by decide
      have hke : kq = 30 := by omega
      subst hke
      refine ⟨rfl, (fun _ => 0, fun _ => 0, fun _ => none, fun _ _ => 0, fun _ _ => 0, fun _ => 0), ?_⟩
      refine ⟨(hfr _ _ (by omega) (by omega) w8), ⟨f5, hfr _ _ (by omega) (by omega) hf5, hf6⟩, ⟨fq, hf1, hf2⟩, ⟨_, (hfr _ _ (by omega) (by omega) w1), fun h hh => absurd hh (Nat.not_lt_zero _)⟩, ⟨(hfr _ _ (by omega) (by omega) w2), (hfr _ _ (by omega) (by omega) w4)⟩, ⟨_, (hfr _ _ (by omega) (by omega) w3), fun h hh => absurd hh (Nat.not_lt_zero _)⟩, ⟨(hfr _ _ (by omega) (by omega) w5), _, (hfr _ _ (by omega) (by omega) w6)⟩, ⟨_, (hfr _ _ (by omega) (by omega) w7), fun _ _ => rfl⟩, fun i hi => ?_, fun v hv => ?_, fun v hv i hi => absurd hi (Nat.not_lt_zero _), ⟨fun v hv i j h1 h2 => absurd h2 (Nat.not_lt_zero _), fun v hv i hi => absurd hi (Nat.not_lt_zero _), fun _ _ _ _ _ => rfl, fun v hv u hu i hi => absurd hi (Nat.not_lt_zero _)⟩, fun h hh => absurd hh (Nat.not_lt_zero _), fun h hh => absurd hh (Nat.not_lt_zero _), fun h hh => absurd hh (Nat.not_lt_zero _), fun h g h1 h2 => absurd h2 (Nat.not_lt_zero _)⟩
      · show G1 (x + 18 + i) = some (rodE S0 i)
        rw [hv1 i hi, rodE, s0_1 hi]
        rfl
      · show G1 (x + 10 + v) = _
        rw [hfr _ _ (by omega) (by omega) (hv5 v hv)]
        rfl
    · have hA : ∀ q, x + 18 + kq ≤ q → A q := fun q h => hA0 q (by omega)
      have hk3 := lp_lt (x := 30) (by decide) (by omega) b134
      have hk5 : tn 30 = 30 := by decide
      rw [hk5] at hk3
      refine lv_aload_n hx hb dX8_init_137 rfl (lv_at hl 0 rfl) ?_
      refine g_get (ci := 8) hx hb hts hin8 hown hK hP qx rfl 1 (by decide) hf17 rfl rfl dX8_init_138 ?_
      refine lv_iload_n hx hb dX8_init_141 rfl (lv_at hl 1 rfl) ?_
      refine g_new (ci := 4) (fs := [.int 0, .int 0, .int 0, .int 0, .int 0]) hx hb hts hin4 tyX4 tyX4_ok hown (hts (.classLink RX8 15 RX4) (by decide +kernel)) (hts (.instantiable RX4 5) (by decide +kernel)) (hts (.initialized RX4) (by decide +kernel)) hK hP hS hA rfl (by decide) (by show 17 + kq + 1 ≤ 47; omega) (by show 1492 + 5 * kq + 5 ≤ 1642; omega) dX8_init_142 (fun H hP hS => ?_)
      have q117_0 : (gup G1 (x + 18 + kq) (.inr (4, [.int 0, .int 0, .int 0, .int 0, .int 0]))) x = some (.inr (8, [.ref (x + 1), .ref (x + 2), .ref (x + 3), .ref (x + 4), .ref (x + 7), .ref (x + 9), .int 0, .int 0, .int 0, .int 0, .int 0, .int 0, .int 0, .int 0])) := (gup_n (by omega)).trans qx
      have q117_1 : (gup G1 (x + 18 + kq) (.inr (4, [.int 0, .int 0, .int 0, .int 0, .int 0]))) (x + 2) = some (.inl (E.2 4, 30, .inr (.inr (.inr (.inr fq))))) := (gup_n (by omega)).trans qa
      have q117_a : (gup G1 (x + 18 + kq) (.inr (4, [.int 0, .int 0, .int 0, .int 0, .int 0]))) (x + 18 + kq) = some (.inr (4, [.int 0, .int 0, .int 0, .int 0, .int 0])) := gup_s
      have hP : gP E A (x + 18 + kq + 1) (gup G1 (x + 18 + kq) (.inr (4, [.int 0, .int 0, .int 0, .int 0, .int 0]))) H := hP
      refine lv_dup hx hb dX8_init_145 rfl ?_
      refine g_cv (g_runIN (As := []) (rest := [.ref (x + 18 + kq), .int (nI kq), .ref (x + 2)]) ⟨hx, hb, hml, hown, hts⟩ hK hP (kX4_init l E A (x + 18 + kq + 1) (gup G1 (x + 18 + kq) (.inr (4, [.int 0, .int 0, .int 0, .int 0, .int 0]))) (x + 18 + kq) q117_a) ⟨va_cnB 0 hts gX8_init_X4_init_n71 rfl rfl rfl hK.2.2.2.2.1 (hts (.initialized RX4) (by decide +kernel)) (by decide +kernel) ⟨Nat.le_of_ble_eq_true rfl, Nat.le_of_ble_eq_true rfl⟩, rfl, hts (.instanceMethod yX4_init) (by decide +kernel)⟩ rfl hl.1 rfl (Nat.le_of_ble_eq_true rfl) dX8_init_146 ⟨by show 17 + kq + 1 + 0 ≤ 47; omega, by show 1492 + 5 * kq + 5 + 0 ≤ 1642; omega⟩) hS (fun n' G' H locs hw hP hS => ?_)
      obtain ⟨rfl, rfl⟩ := hw
      have q118_0 : (gup (gup G1 (x + 18 + kq) (.inr (4, [.int 0, .int 0, .int 0, .int 0, .int 0]))) (x + 18 + kq) (.inr (4, [.int 1000, .int 0, .int 0, .int 0, .int 0]))) x = some (.inr (8, [.ref (x + 1), .ref (x + 2), .ref (x + 3), .ref (x + 4), .ref (x + 7), .ref (x + 9), .int 0, .int 0, .int 0, .int 0, .int 0, .int 0, .int 0, .int 0])) := (gup_n (by omega)).trans q117_0
      have q118_1 : (gup (gup G1 (x + 18 + kq) (.inr (4, [.int 0, .int 0, .int 0, .int 0, .int 0]))) (x + 18 + kq) (.inr (4, [.int 1000, .int 0, .int 0, .int 0, .int 0]))) (x + 2) = some (.inl (E.2 4, 30, .inr (.inr (.inr (.inr fq))))) := (gup_n (by omega)).trans q117_1
      have q118_a : (gup (gup G1 (x + 18 + kq) (.inr (4, [.int 0, .int 0, .int 0, .int 0, .int 0]))) (x + 18 + kq) (.inr (4, [.int 1000, .int 0, .int 0, .int 0, .int 0]))) (x + 18 + kq) = some (.inr (4, [.int 1000, .int 0, .int 0, .int 0, .int 0])) := gup_s
      have hP : gP E A (x + 18 + kq + 1) (gup (gup G1 (x + 18 + kq) (.inr (4, [.int 0, .int 0, .int 0, .int 0, .int 0]))) (x + 18 + kq) (.inr (4, [.int 1000, .int 0, .int 0, .int 0, .int 0]))) H := hP
      refine g_aast (t0 := 4) (ci := 4) hx hb hK hP hS q118_1 rfl q118_a rfl (vp_in_nI (by omega) (by decide)) dX8_init_149 (fun H locs hP hS => ?_)
      have q119_0 : (gup (gup (gup G1 (x + 18 + kq) (.inr (4, [.int 0, .int 0, .int 0, .int 0, .int 0]))) (x + 18 + kq) (.inr (4, [.int 1000, .int 0, .int 0, .int 0, .int 0]))) (x + 2) (.inl (E.2 4, 30, .inr (.inr (.inr (.inr (va_up fq (tn (nI kq)) (some (x + 18 + kq))))))))) x = some (.inr (8, [.ref (x + 1), .ref (x + 2), .ref (x + 3), .ref (x + 4), .ref (x + 7), .ref (x + 9), .int 0, .int 0, .int 0, .int 0, .int 0, .int 0, .int 0, .int 0])) := (gup_n (by omega)).trans q118_0
      have q119_1 : (gup (gup (gup G1 (x + 18 + kq) (.inr (4, [.int 0, .int 0, .int 0, .int 0, .int 0]))) (x + 18 + kq) (.inr (4, [.int 1000, .int 0, .int 0, .int 0, .int 0]))) (x + 2) (.inl (E.2 4, 30, .inr (.inr (.inr (.inr (va_up fq (tn (nI kq)) (some (x + 18 + kq))))))))) (x + 18 + kq) = some (.inr (4, [.int 1000, .int 0, .int 0, .int 0, .int 0])) := (gup_n (by omega)).trans q118_a
      have q119_a : (gup (gup (gup G1 (x + 18 + kq) (.inr (4, [.int 0, .int 0, .int 0, .int 0, .int 0]))) (x + 18 + kq) (.inr (4, [.int 1000, .int 0, .int 0, .int 0, .int 0]))) (x + 2) (.inl (E.2 4, 30, .inr (.inr (.inr (.inr (va_up fq (tn (nI kq)) (some (x + 18 + kq))))))))) (x + 2) = some (.inl (E.2 4, 30, .inr (.inr (.inr (.inr (va_up fq (tn (nI kq)) (some (x + 18 + kq)))))))) := gup_s
      have hP : gP E A (x + 18 + kq + 1) (gup (gup (gup G1 (x + 18 + kq) (.inr (4, [.int 0, .int 0, .int 0, .int 0, .int 0]))) (x + 18 + kq) (.inr (4, [.int 1000, .int 0, .int 0, .int 0, .int 0]))) (x + 2) (.inl (E.2 4, 30, .inr (.inr (.inr (.inr (va_up fq (tn (nI kq)) (some (x + 18 + kq))))))))) H := hP
      refine lv_iinc (v := (nI kq) + 1) (lv' := [(1, .int ((nI kq) + 1)), (0, .ref x)]) hx hb dX8_init_150 hl (k := 1) rfl rfl (by decide) rfl (fun ls hl => ?_)
      refine lv_goto (tgt := 131) hx hb dX8_init_153 (by decide) ?_
      refine ih2 (kq + 1, (gup (gup (gup G1 (x + 18 + kq) (.inr (4, [.int 0, .int 0, .int 0, .int 0, .int 0]))) (x + 18 + kq) (.inr (4, [.int 1000, .int 0, .int 0, .int 0, .int 0]))) (x + 2) (.inl (E.2 4, 30, .inr (.inr (.inr (.inr (va_up fq (tn (nI kq)) (some (x + 18 + kq)))))))))) ⟨by omega, ⟨_, q119_a, fun v hv => ?_⟩, fun v hv => ?_, fun b e u1 u2 q => ?_⟩ (by show 30 - (kq + 1) < 30 - kq; omega) H locs ls hP hS ?_
      · rcases Nat.lt_succ_iff_lt_or_eq.mp hv with hv2 | hv2
        · rw [va_up_ne _ _ (by rw [tn_nI (by omega)]; omega)]; exact hf2 v hv2
        · rw [hv2, tn_nI (by omega), va_up_self]
      · rcases Nat.lt_succ_iff_lt_or_eq.mp hv with hv2 | hv2
        · have z1 : x + 18 + v ≠ x + 2 := by omega
          have z2 : x + 18 + v ≠ x + 18 + kq := by omega
          show (gup (gup (gup G1 (x + 18 + kq) (.inr (4, [.int 0, .int 0, .int 0, .int 0, .int 0]))) (x + 18 + kq) (.inr (4, [.int 1000, .int 0, .int 0, .int 0, .int 0]))) (x + 2) (.inl (E.2 4, 30, .inr (.inr (.inr (.inr (va_up fq (tn (nI kq)) (some (x + 18 + kq))))))))) (x + 18 + v) = _
          rw [gup_n z1, gup_n z2, gup_n z2]; exact hv1 v hv2
        · rw [hv2]; exact q119_1
      · have z2 : b ≠ x + 18 + kq := by omega
        show (gup (gup (gup G1 (x + 18 + kq) (.inr (4, [.int 0, .int 0, .int 0, .int 0, .int 0]))) (x + 18 + kq) (.inr (4, [.int 1000, .int 0, .int 0, .int 0, .int 0]))) (x + 2) (.inl (E.2 4, 30, .inr (.inr (.inr (.inr (va_up fq (tn (nI kq)) (some (x + 18 + kq))))))))) b = _
        rw [gup_n u1, gup_n z2, gup_n z2]; exact hfr b e u1 u2 q
      · show lv_has ls 2 [(0, .ref x), (1, .int (nI (kq + 1)))]
        rw [← nI_1 kq]
        exact lv_sub hl [1, 0] rfl
  · have hA : ∀ q, x + 10 + kq ≤ q → A q := fun q h => hA0 q (by omega)
    have hk3 := lp_lt (x := 8) (by decide) (by omega) b107
    have hk5 : tn 8 = 8 := by decide
    rw [hk5] at hk3
    refine lv_aload_n hx hb dX8_init_110 rfl (lv_at hl 0 rfl) ?_
    refine g_get (ci := 8) hx hb hts hin8 hown hK hP qx rfl 0 (by decide) hf11 rfl rfl dX8_init_111 ?_
    refine lv_iload_n hx hb dX8_init_114 rfl (lv_at hl 1 rfl) ?_
    refine g_new (ci := 6) (fs := [.int 0, .null, .null]) hx hb hts hin6 tyX6 tyX6_ok hown (hts (.classLink RX8 9 RX6) (by decide +kernel)) (hts (.instantiable RX6 3) (by decide +kernel)) (hts (.initialized RX6) (by decide +kernel)) hK hP hS hA rfl (by decide) (by show 9 + kq + 1 ≤ 47; omega) (by show 1468 + 3 * kq + 3 ≤ 1642; omega) dX8_init_115 (fun H hP hS => ?_)
    have q120_0 : (gup G1 (x + 10 + kq) (.inr (6, [.int 0, .null, .null]))) x = some (.inr (8, [.ref (x + 1), .ref (x + 2), .ref (x + 3), .ref (x + 4), .ref (x + 7), .ref (x + 9), .int 0, .int 0, .int 0, .int 0, .int 0, .int 0, .int 0, .int 0])) := (gup_n (by omega)).trans qx
    have q120_1 : (gup G1 (x + 10 + kq) (.inr (6, [.int 0, .null, .null]))) (x + 1) = some (.inl (E.2 5, 8, .inr (.inr (.inr (.inr fq))))) := (gup_n (by omega)).trans qa
    have q120_a : (gup G1 (x + 10 + kq) (.inr (6, [.int 0, .null, .null]))) (x + 10 + kq) = some (.inr (6, [.int 0, .null, .null])) := gup_s
    have hP : gP E A (x + 10 + kq + 1) (gup G1 (x + 10 + kq) (.inr (6, [.int 0, .null, .null]))) H := hP
    refine lv_dup hx hb dX8_init_118 rfl ?_
    refine g_cv (g_runIN (As := []) (rest := [.ref (x + 10 + kq), .int (nI kq), .ref (x + 1)]) ⟨hx, hb, hml, hown, hts⟩ hK hP (kX6_init l E A (x + 10 + kq + 1) (gup G1 (x + 10 + kq) (.inr (6, [.int 0, .null, .null]))) (x + 10 + kq) q120_a) ⟨va_cnB 0 hts gX8_init_X6_init_n70 rfl rfl rfl hK.2.2.2.1 (hts (.initialized RX6) (by decide +kernel)) (by decide +kernel) ⟨Nat.le_of_ble_eq_true rfl, Nat.le_of_ble_eq_true rfl⟩, rfl, hts (.instanceMethod yX6_init) (by decide +kernel)⟩ rfl hl.1 rfl (Nat.le_of_ble_eq_true rfl) dX8_init_119 ⟨by show 9 + kq + 1 + 0 ≤ 47; omega, by show 1468 + 3 * kq + 3 + 0 ≤ 1642; omega⟩) hS (fun n' G' H locs hw hP hS => ?_)
    obtain ⟨rfl, rfl⟩ := hw
    have q121_0 : (gup (gup G1 (x + 10 + kq) (.inr (6, [.int 0, .null, .null]))) (x + 10 + kq) (.inr (6, [.int 0, .null, .null]))) x = some (.inr (8, [.ref (x + 1), .ref (x + 2), .ref (x + 3), .ref (x + 4), .ref (x + 7), .ref (x + 9), .int 0, .int 0, .int 0, .int 0, .int 0, .int 0, .int 0, .int 0])) := (gup_n (by omega)).trans q120_0
    have q121_1 : (gup (gup G1 (x + 10 + kq) (.inr (6, [.int 0, .null, .null]))) (x + 10 + kq) (.inr (6, [.int 0, .null, .null]))) (x + 1) = some (.inl (E.2 5, 8, .inr (.inr (.inr (.inr fq))))) := (gup_n (by omega)).trans q120_1
    have q121_a : (gup (gup G1 (x + 10 + kq) (.inr (6, [.int 0, .null, .null]))) (x + 10 + kq) (.inr (6, [.int 0, .null, .null]))) (x + 10 + kq) = some (.inr (6, [.int 0, .null, .null])) := gup_s
    have hP : gP E A (x + 10 + kq + 1) (gup (gup G1 (x + 10 + kq) (.inr (6, [.int 0, .null, .null]))) (x + 10 + kq) (.inr (6, [.int 0, .null, .null]))) H := hP
    refine g_aast (t0 := 5) (ci := 6) hx hb hK hP hS q121_1 rfl q121_a rfl (vp_in_nI (by omega) (by decide)) dX8_init_122 (fun H locs hP hS => ?_)
    have q122_0 : (gup (gup (gup G1 (x + 10 + kq) (.inr (6, [.int 0, .null, .null]))) (x + 10 + kq) (.inr (6, [.int 0, .null, .null]))) (x + 1) (.inl (E.2 5, 8, .inr (.inr (.inr (.inr (va_up fq (tn (nI kq)) (some (x + 10 + kq))))))))) x = some (.inr (8, [.ref (x + 1), .ref (x + 2), .ref (x + 3), .ref (x + 4), .ref (x + 7), .ref (x + 9), .int 0, .int 0, .int 0, .int 0, .int 0, .int 0, .int 0, .int 0])) := (gup_n (by omega)).trans q121_0
    have q122_1 : (gup (gup (gup G1 (x + 10 + kq) (.inr (6, [.int 0, .null, .null]))) (x + 10 + kq) (.inr (6, [.int 0, .null, .null]))) (x + 1) (.inl (E.2 5, 8, .inr (.inr (.inr (.inr (va_up fq (tn (nI kq)) (some (x + 10 + kq))))))))) (x + 10 + kq) = some (.inr (6, [.int 0, .null, .null])) := (gup_n (by omega)).trans q121_a
    have q122_a : (gup (gup (gup G1 (x + 10 + kq) (.inr (6, [.int 0, .null, .null]))) (x + 10 + kq) (.inr (6, [.int 0, .null, .null]))) (x + 1) (.inl (E.2 5, 8, .inr (.inr (.inr (.inr (va_up fq (tn (nI kq)) (some (x + 10 + kq))))))))) (x + 1) = some (.inl (E.2 5, 8, .inr (.inr (.inr (.inr (va_up fq (tn (nI kq)) (some (x + 10 + kq)))))))) := gup_s
    have hP : gP E A (x + 10 + kq + 1) (gup (gup (gup G1 (x + 10 + kq) (.inr (6, [.int 0, .null, .null]))) (x + 10 + kq) (.inr (6, [.int 0, .null, .null]))) (x + 1) (.inl (E.2 5, 8, .inr (.inr (.inr (.inr (va_up fq (tn (nI kq)) (some (x + 10 + kq))))))))) H := hP
    refine lv_iinc (v := (nI kq) + 1) (lv' := [(1, .int ((nI kq) + 1)), (0, .ref x)]) hx hb dX8_init_123 hl (k := 1) rfl rfl (by decide) rfl (fun ls hl => ?_)
    refine lv_goto (tgt := 104) hx hb dX8_init_126 (by decide) ?_
    refine ih (kq + 1, (gup (gup (gup G1 (x + 10 + kq) (.inr (6, [.int 0, .null, .null]))) (x + 10 + kq) (.inr (6, [.int 0, .null, .null]))) (x + 1) (.inl (E.2 5, 8, .inr (.inr (.inr (.inr (va_up fq (tn (nI kq)) (some (x + 10 + kq)))))))))) ⟨by omega, ⟨_, q122_a, fun v hv => ?_⟩, fun v hv => ?_, fun b e u1 u2 q => ?_⟩ (by show 8 - (kq + 1) < 8 - kq; omega) H locs ls hP hS ?_
    · rcases Nat.lt_succ_iff_lt_or_eq.mp hv with hv2 | hv2
      · rw [va_up_ne _ _ (by rw [tn_nI (by omega)]; omega)]; exact hf2 v hv2
      · rw [hv2, tn_nI (by omega), va_up_self]
    · rcases Nat.lt_succ_iff_lt_or_eq.mp hv with hv2 | hv2
      · have z1 : x + 10 + v ≠ x + 1 := by omega
        have z2 : x + 10 + v ≠ x + 10 + kq := by omega
        show (gup (gup (gup G1 (x + 10 + kq) (.inr (6, [.int 0, .null, .null]))) (x + 10 + kq) (.inr (6, [.int 0, .null, .null]))) (x + 1) (.inl (E.2 5, 8, .inr (.inr (.inr (.inr (va_up fq (tn (nI kq)) (some (x + 10 + kq))))))))) (x + 10 + v) = _
        rw [gup_n z1, gup_n z2, gup_n z2]; exact hv1 v hv2
      · rw [hv2]; exact q122_1
    · have z2 : b ≠ x + 10 + kq := by omega
      show (gup (gup (gup G1 (x + 10 + kq) (.inr (6, [.int 0, .null, .null]))) (x + 10 + kq) (.inr (6, [.int 0, .null, .null]))) (x + 1) (.inl (E.2 5, 8, .inr (.inr (.inr (.inr (va_up fq (tn (nI kq)) (some (x + 10 + kq))))))))) b = _
      rw [gup_n u1, gup_n z2, gup_n z2]; exact hfr b e u1 u2 q
    · show lv_has ls 2 [(0, .ref x), (1, .int (nI (kq + 1)))]
      rw [← nI_1 kq]
      exact lv_sub hl [1, 0] rfl
