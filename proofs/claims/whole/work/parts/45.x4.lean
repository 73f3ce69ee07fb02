theorem kpn {a b : Nat} (h : a ≠ b) : a ∉ [b] := fun q => h (List.mem_singleton.mp q)
theorem tn_lt {v : Int32} {N : Nat} (h : vp_in v N) : tn v < N := by
  have h1 := vp_in_iff.mp h
  have := tn_of h1.1
  omega
theorem hs_ix {c : Nat → Int32} {S : Nat → Nat → Int32} {h : Int32} (hI : mI c S) (hh : hsB c h = true) : ∃ j, j < tn (c 7) ∧ h = nI j := by
  have h1 := hsB_lt hI hh
  have h2 := tn_of h1.1
  have h3 := hI.2.1
  have h4 := tn_of h3.1
  exact ⟨tn h, by omega, (nI_tn h1.1).symm⟩
theorem law_cell {E : gT} {G : gH} {x : Nat} {c : Nat → Int32} {S : Nat → Nat → Int32} {la : Nat → Nat} (hp : pI c S) (hB : sB G x (c 18)) (hL : sL E G x S la (tn (c 18))) (y : Int32) : ∃ l1 l2 l3 l4 l5 : Int32, G (lbA S la (x + 6) y (tn (c 18))) = some (.inr (1, [.int l1, .int l2, .int l3, .int l4, .int l5])) ∧ l5 = (if lawOf c S y = -1 then 0 else S 17 (tn (lawOf c S y))) ∧ ∀ a b : Int32, (if a < l4 then 0 else a / 10 * l2 + b * l3) = if lawOf c S y = -1 then 0 else (if a < rem32 (S 16 (tn (lawOf c S y))) 1000 then 0 else a / 10 * (S 16 (tn (lawOf c S y)) / 10000) + b * rem32 (S 16 (tn (lawOf c S y)) / 1000) 10) := by
  have h18 := hp.1.2.2.2.1
  have t18 := tn_of h18.1
  unfold lbA lawOf
  rcases lawN_in S y (tn (c 18)) (by omega) with h1 | h1
  · simp only [if_pos h1]
    refine ⟨0, 0, 0, 0, 0, hB.2, rfl, fun a b => ?_⟩
    split
    · rfl
    · rw [Int32.mul_zero, Int32.mul_zero, Int32.add_zero]
  · have h2 : ¬ lawN S y (tn (c 18)) = -1 := fun q => by rw [q] at h1; exact absurd h1.1 (by decide)
    have h3 := tn_of h1.1
    obtain ⟨f, -, hf⟩ := hL
    have h4 := (hf (tn (lawN S y (tn (c 18)))) (by omega)).2
    have h5 := (hp.2.2.2.2.2.2.2 (tn (lawN S y (tn (c 18)))) (by omega)).2
    simp only [if_neg h2]
    exact ⟨_, _, _, _, _, h4, rfl, fun a b => by rw [rem_hand h5.1 h5.2]⟩
theorem nI18 {c : Nat → Int32} {S : Nat → Nat → Int32} (hp : pI c S) : c 18 = nI (tn (c 18)) := (nI_tn hp.1.2.2.2.1.1).symm
theorem le40 {c : Nat → Int32} {S : Nat → Nat → Int32} (hp : pI c S) : tn (c 7) ≤ 40 ∧ tn (c 18) ≤ 40 ∧ tn (c 12) ≤ 200 ∧ tn (c 0) ≤ 1040 := by
  have h7 := hp.1.2.1; have h18 := hp.1.2.2.2.1; have h12 := hp.1.2.2.1; have h0 := hp.1.1
  have t7 := tn_of h7.1; have t18 := tn_of h18.1; have t12 := tn_of h12.1; have t0 := tn_of h0.1
  omega
theorem hrs_eq {a b k : Int32} (ha : 0 ≤ a.toInt ∧ a.toInt ≤ 99) (hb : 0 ≤ b.toInt ∧ b.toInt ≤ 99) (hk : 0 < k.toInt) : divUp (absOf (a - b)) k = hrsOf a b k := by
  have h1 : (a - b).toInt = a.toInt - b.toInt := by rw [fb_subI] <;> omega
  have h2 : (b - a).toInt = b.toInt - a.toInt := by rw [fb_subI] <;> omega
  have e0 : (0 : Int32).toInt = 0 := rfl
  have h3 : ¬ k ≤ 0 := fun q => by have := Int32.le_iff_toInt_le.mp q; omega
  rw [divUp, if_neg h3, hrsOf, absOf]
  by_cases q : a < b
  · have q1 := Int32.lt_iff_toInt_lt.mp q
    rw [if_pos q, if_neg (fun z => by have := Int32.le_iff_toInt_le.mp z; omega)]
    have : 0 - (a - b) = b - a := Int32.toInt_inj.mp (by rw [fb_subI] <;> omega)
    rw [this]
  · have q1 : ¬ a.toInt < b.toInt := fun z => q (Int32.lt_iff_toInt_lt.mpr z)
    rw [if_neg q, if_pos (Int32.le_iff_toInt_le.mpr (by omega))]

set_option maxHeartbeats 1000000 in
set_option maxRecDepth 100000 in
theorem kX8_isHouse (l : Launch) (E : gT) (A : Nat → Prop) (n : Nat) (G : gH) (x : Nat) (c : Nat → Int32) (vq : Int32) (hA1 : sA G x c)  : gM l yX8_isHouse wsX8_isHouse ({ frames := 1, cells := 0, slots := 0, locals := 21 } : Room) E A n G [.ref x, .int vq] (gQi E A (fun r' n' G' => (gb (hsB c vq)) = r' ∧ n = n' ∧ G = G')) 0 0 := by
  refine g_entry (by decide) rfl (Nat.le_of_ble_eq_true rfl) ?_
  intro p e s m below meth c0 hx hb hr hlk hml hown hnm hts hK H locs ls hP hS hl
  have hin8 : ∀ wq ∈ u_ws RX8 TX8 14, wq ∈ wsX8_isHouse := by decide +kernel
  have hf49 := hts (.fieldLink RX8 49 "DikeHands" "houseCount" "I") (by decide +kernel)
  have hl : lv_has ls 2 [(0, .ref x), (1, .int vq)] := hl
  refine lv_iload_n hx hb dX8_isHouse_0 rfl (lv_at hl 1 rfl) ?_
  refine lv_aload_n hx hb dX8_isHouse_1 rfl (lv_at hl 0 rfl) ?_
  refine g_get (ci := 8) hx hb hts hin8 hown hK hP hA1 rfl 7 (by decide) hf49 rfl rfl dX8_isHouse_2 ?_
  refine lv_iconst (v := 1) hx hb dX8_isHouse_5 (by decide) ?_
  refine lv_isub hx hb dX8_isHouse_6 ?_
  refine g_ci (g_runS (As := [.int vq, .int ((c 7) - 1)]) (rest := []) ⟨hx, hb, hml, hown, hts⟩ hK hP (kX8_isWithin l E A n G vq ((c 7) - 1)) (va_cwS 2 hts gX8_isHouse_X8_isWithin rfl rfl rfl (by decide +kernel) ⟨Nat.le_of_ble_eq_true rfl, Nat.le_of_ble_eq_true rfl⟩) rfl hl.1 rfl (Nat.le_of_ble_eq_true rfl) dX8_isHouse_7 ⟨Nat.le_of_ble_eq_true rfl, Nat.le_of_ble_eq_true rfl⟩) hS (fun r7 n' G' H locs hw hP hS => ?_)
  obtain ⟨rfl, rfl, rfl⟩ := hw
  refine g_retz hx hb hr hlk hP hS dX8_isHouse_10 (gb_nar _) ?_
  exact ⟨rfl, rfl, rfl⟩
set_option maxHeartbeats 1000000 in
set_option maxRecDepth 100000 in
theorem kX8_yearNow (l : Launch) (E : gT) (A : Nat → Prop) (n : Nat) (G : gH) (x : Nat) (c : Nat → Int32) (hA1 : sA G x c)  : gM l yX8_yearNow wsX8_yearNow ({ frames := 0, cells := 0, slots := 0, locals := 0 } : Room) E A n G [.ref x] (gQi E A (fun r' n' G' => (c 0 / 52) = r' ∧ n = n' ∧ G = G')) 0 0 := by
  refine g_entry (by decide) rfl (Nat.le_of_ble_eq_true rfl) ?_
  intro p e s m below meth c0 hx hb hr hlk hml hown hnm hts hK H locs ls hP hS hl
  have hin8 : ∀ wq ∈ u_ws RX8 TX8 14, wq ∈ wsX8_yearNow := by decide +kernel
  have hf45 := hts (.fieldLink RX8 45 "DikeHands" "now" "I") (by decide +kernel)
  have hl : lv_has ls 1 [(0, .ref x)] := hl
  refine lv_aload_n hx hb dX8_yearNow_0 rfl (lv_at hl 0 rfl) ?_
  refine g_get (ci := 8) hx hb hts hin8 hown hK hP hA1 rfl 6 (by decide) hf45 rfl rfl dX8_yearNow_1 ?_
  refine lv_bipush (v := 52) hx hb dX8_yearNow_4 (by decide) ?_
  refine lv_idiv hx hb dX8_yearNow_6 (by decide) ?_
  refine g_reti hx hb hr hlk hP hS dX8_yearNow_7 ?_
  exact ⟨rfl, rfl, rfl⟩
set_option maxHeartbeats 1000000 in
set_option maxRecDepth 100000 in
theorem kX8_isYearSoFar (l : Launch) (E : gT) (A : Nat → Prop) (n : Nat) (G : gH) (x : Nat) (c : Nat → Int32) (vq : Int32) (hA1 : sA G x c)  : gM l yX8_isYearSoFar wsX8_isYearSoFar ({ frames := 1, cells := 0, slots := 0, locals := 21 } : Room) E A n G [.ref x, .int vq] (gQi E A (fun r' n' G' => (gb (yrB c vq)) = r' ∧ n = n' ∧ G = G')) 0 0 := by
  refine g_entry (by decide) rfl (Nat.le_of_ble_eq_true rfl) ?_
  intro p e s m below meth c0 hx hb hr hlk hml hown hnm hts hK H locs ls hP hS hl
  have hl : lv_has ls 2 [(0, .ref x), (1, .int vq)] := hl
  refine lv_iload_n hx hb dX8_isYearSoFar_0 rfl (lv_at hl 1 rfl) ?_
  refine lv_aload_n hx hb dX8_isYearSoFar_1 rfl (lv_at hl 0 rfl) ?_
  refine g_ci (g_runV (As := []) (rest := [.int vq]) ⟨hx, hb, hml, hown, hts⟩ hK hP (kX8_yearNow l E A n G x c hA1) (cwV 0 hts gX8_isYearSoFar_X8_yearNow rfl rfl rfl (by decide +kernel) ⟨Nat.le_of_ble_eq_true rfl, Nat.le_of_ble_eq_true rfl⟩) hA1 rfl rfl hl.1 rfl (Nat.le_of_ble_eq_true rfl) dX8_isYearSoFar_2 ⟨Nat.le_of_ble_eq_true rfl, Nat.le_of_ble_eq_true rfl⟩) hS (fun r2 n' G' H locs hw hP hS => ?_)
  obtain ⟨rfl, rfl, rfl⟩ := hw
  refine g_ci (g_runS (As := [.int vq, .int (c 0 / 52)]) (rest := []) ⟨hx, hb, hml, hown, hts⟩ hK hP (kX8_isWithin l E A n G vq (c 0 / 52)) (va_cwS 2 hts gX8_isYearSoFar_X8_isWithin rfl rfl rfl (by decide +kernel) ⟨Nat.le_of_ble_eq_true rfl, Nat.le_of_ble_eq_true rfl⟩) rfl hl.1 rfl (Nat.le_of_ble_eq_true rfl) dX8_isYearSoFar_5 ⟨Nat.le_of_ble_eq_true rfl, Nat.le_of_ble_eq_true rfl⟩) hS (fun r5 n' G' H locs hw hP hS => ?_)
  obtain ⟨rfl, rfl, rfl⟩ := hw
  refine g_retz hx hb hr hlk hP hS dX8_isYearSoFar_8 (gb_nar _) ?_
  exact ⟨rfl, rfl, rfl⟩
set_option maxHeartbeats 1000000 in
set_option maxRecDepth 100000 in
theorem kX8_hourOfCall (l : Launch) (E : gT) (A : Nat → Prop) (n : Nat) (G : gH) (x : Nat) (c : Nat → Int32) (S : Nat → Nat → Int32) (wa : Nat → Nat → Nat) (wn : Nat → Nat) (hVi : sVi G x S wa wn) (a b : Int32) (hA1 : sA G x c) (hV : sV E G x) (hp : pI c S) (h1 : inB a 0 7 = true) (h2 : inB b 0 7 = true) : gM l yX8_hourOfCall wsX8_hourOfCall ({ frames := 2, cells := 0, slots := 0, locals := 43 } : Room) E A n G [.ref x, .int a, .int b] (gQi E A (fun r' n' G' => (hrsOf (S 0 (tn a)) (S 0 (tn b)) 6) = r' ∧ n = n' ∧ G = G')) 0 0 := by
  refine g_entry (by decide) rfl (Nat.le_of_ble_eq_true rfl) ?_
  intro p e s m below meth c0 hx hb hr hlk hml hown hnm hts hK H locs ls hP hS hl
  have hin6 : ∀ wq ∈ u_ws RX6 TX6 3, wq ∈ wsX8_hourOfCall := by decide +kernel
  have hin8 : ∀ wq ∈ u_ws RX8 TX8 14, wq ∈ wsX8_hourOfCall := by decide +kernel
  have hf11 := hts (.fieldLink RX8 11 "DikeHands" "villages" "[LDikeHands$Village;") (by decide +kernel)
  have hf80 := hts (.fieldLink RX8 80 "DikeHands$Village" "mile" "I") (by decide +kernel)
  have hl : lv_has ls 3 [(0, .ref x), (1, .int a), (2, .int b)] := hl
  obtain ⟨fV, hV1, hV2⟩ := id hV
  refine lv_aload_n hx hb dX8_hourOfCall_0 rfl (lv_at hl 0 rfl) ?_
  refine g_get (ci := 8) hx hb hts hin8 hown hK hP hA1 rfl 0 (by decide) hf11 rfl rfl dX8_hourOfCall_1 ?_
  refine lv_iload_n hx hb dX8_hourOfCall_4 rfl (lv_at hl 1 rfl) ?_
  have fv5 := hVi (tn a) (tn_lt (inB_vp (N := 8) h1 (by decide)))
  refine g_aald (t0 := 5) (v := .ref (x + 10 + tn a)) hx hb hK hP hV1 rfl (inB_vp h1 (by decide)) (by rw [hV2 (tn a) (tn_lt (inB_vp (N := 8) h1 (by decide)))]; rfl) dX8_hourOfCall_5 ?_
  refine g_get (ci := 6) hx hb hts hin6 hown hK hP fv5 rfl 0 (by decide) hf80 rfl rfl dX8_hourOfCall_6 ?_
  refine lv_aload_n hx hb dX8_hourOfCall_9 rfl (lv_at hl 0 rfl) ?_
  refine g_get (ci := 8) hx hb hts hin8 hown hK hP hA1 rfl 0 (by decide) hf11 rfl rfl dX8_hourOfCall_10 ?_
  refine lv_iload_n hx hb dX8_hourOfCall_13 rfl (lv_at hl 2 rfl) ?_
  have fv14 := hVi (tn b) (tn_lt (inB_vp (N := 8) h2 (by decide)))
  refine g_aald (t0 := 5) (v := .ref (x + 10 + tn b)) hx hb hK hP hV1 rfl (inB_vp h2 (by decide)) (by rw [hV2 (tn b) (tn_lt (inB_vp (N := 8) h2 (by decide)))]; rfl) dX8_hourOfCall_14 ?_
  refine g_get (ci := 6) hx hb hts hin6 hown hK hP fv14 rfl 0 (by decide) hf80 rfl rfl dX8_hourOfCall_15 ?_
  refine lv_bipush (v := 6) hx hb dX8_hourOfCall_18 (by decide) ?_
  refine g_ci (g_runS (As := [.int (S 0 (tn a)), .int (S 0 (tn b)), .int 6]) (rest := []) ⟨hx, hb, hml, hown, hts⟩ hK hP (kX8_hoursFor l E A n G (S 0 (tn a)) (S 0 (tn b)) 6) (va_cwS 3 hts gX8_hourOfCall_X8_hoursFor rfl rfl rfl (by decide +kernel) ⟨Nat.le_of_ble_eq_true rfl, Nat.le_of_ble_eq_true rfl⟩) rfl hl.1 rfl (Nat.le_of_ble_eq_true rfl) dX8_hourOfCall_20 ⟨Nat.le_of_ble_eq_true rfl, Nat.le_of_ble_eq_true rfl⟩) hS (fun r20 n' G' H locs hw hP hS => ?_)
  obtain ⟨rfl, rfl, rfl⟩ := hw
  refine g_reti hx hb hr hlk hP hS dX8_hourOfCall_23 ?_
  exact ⟨(hrs_eq (hp.2.2.1 _ (tn_lt (inB_vp (N := 8) h1 (by decide)))) (hp.2.2.1 _ (tn_lt (inB_vp (N := 8) h2 (by decide)))) (by decide)).symm, rfl, rfl⟩
set_option maxHeartbeats 1000000 in
set_option maxRecDepth 100000 in
theorem kX8_called (l : Launch) (E : gT) (A : Nat → Prop) (n : Nat) (G : gH) (x : Nat) (c : Nat → Int32) (S : Nat → Nat → Int32) (wa : Nat → Nat → Nat) (wn : Nat → Nat) (hVi : sVi G x S wa wn) (a b : Int32) (hA1 : sA G x c) (hV : sV E G x) (hp : pI c S)  : gM l yX8_called wsX8_called ({ frames := 3, cells := 0, slots := 0, locals := 65 } : Room) E A n G [.ref x, .int a, .int b] (gQi E A (fun r' n' G' => (calOf S a b) = r' ∧ n = n' ∧ G = G')) 0 0 := by
  refine g_entry (by decide) rfl (Nat.le_of_ble_eq_true rfl) ?_
  intro p e s m below meth c0 hx hb hr hlk hml hown hnm hts hK H locs ls hP hS hl
  have hl : lv_has ls 3 [(0, .ref x), (1, .int a), (2, .int b)] := hl
  refine lv_iload_n hx hb dX8_called_0 rfl (lv_at hl 1 rfl) ?_
  refine g_ci (g_runS (As := [.int a]) (rest := []) ⟨hx, hb, hml, hown, hts⟩ hK hP (kX8_isVillage l E A n G a) (va_cwS 1 hts gX8_called_X8_isVillage rfl rfl rfl (by decide +kernel) ⟨Nat.le_of_ble_eq_true rfl, Nat.le_of_ble_eq_true rfl⟩) rfl hl.1 rfl (Nat.le_of_ble_eq_true rfl) dX8_called_1 ⟨Nat.le_of_ble_eq_true rfl, Nat.le_of_ble_eq_true rfl⟩) hS (fun r1 n' G' H locs hw hP hS => ?_)
  obtain ⟨rfl, rfl, rfl⟩ := hw
  refine g_ifeq (tgt := 14) hx hb dX8_called_4 (by decide) (fun b4 => ?_) (fun b4 => ?_)
  · refine lv_iconst (v := (-1)) hx hb dX8_called_14 (by decide) ?_
    refine g_reti hx hb hr hlk hP hS dX8_called_15 ?_
    exact ⟨by first | (simp [calOf, b4]; done) | (exfalso; simp_all; done), rfl, rfl⟩
  · refine lv_iload_n hx hb dX8_called_7 rfl (lv_at hl 2 rfl) ?_
    refine g_ci (g_runS (As := [.int b]) (rest := []) ⟨hx, hb, hml, hown, hts⟩ hK hP (kX8_isVillage l E A n G b) (va_cwS 1 hts gX8_called_X8_isVillage rfl rfl rfl (by decide +kernel) ⟨Nat.le_of_ble_eq_true rfl, Nat.le_of_ble_eq_true rfl⟩) rfl hl.1 rfl (Nat.le_of_ble_eq_true rfl) dX8_called_8 ⟨Nat.le_of_ble_eq_true rfl, Nat.le_of_ble_eq_true rfl⟩) hS (fun r8 n' G' H locs hw hP hS => ?_)
    obtain ⟨rfl, rfl, rfl⟩ := hw
    refine g_ifne (tgt := 16) hx hb dX8_called_11 (by decide) (fun b11 => ?_) (fun b11 => ?_)
    · refine lv_aload_n hx hb dX8_called_16 rfl (lv_at hl 0 rfl) ?_
      refine lv_iload_n hx hb dX8_called_17 rfl (lv_at hl 1 rfl) ?_
      refine lv_iload_n hx hb dX8_called_18 rfl (lv_at hl 2 rfl) ?_
      refine g_ci (g_runV (As := [.int a, .int b]) (rest := []) ⟨hx, hb, hml, hown, hts⟩ hK hP (kX8_hourOfCall l E A n G x c S wa wn hVi a b hA1 hV hp b4 b11) (cwV 2 hts gX8_called_X8_hourOfCall rfl rfl rfl (by decide +kernel) ⟨Nat.le_of_ble_eq_true rfl, Nat.le_of_ble_eq_true rfl⟩) hA1 rfl rfl hl.1 rfl (Nat.le_of_ble_eq_true rfl) dX8_called_19 ⟨Nat.le_of_ble_eq_true rfl, Nat.le_of_ble_eq_true rfl⟩) hS (fun r19 n' G' H locs hw hP hS => ?_)
      obtain ⟨rfl, rfl, rfl⟩ := hw
      refine g_reti hx hb hr hlk hP hS dX8_called_22 ?_
      exact ⟨by first | (simp [calOf, b4, b11]; done) | (exfalso; simp_all; done), rfl, rfl⟩
    · refine lv_iconst (v := (-1)) hx hb dX8_called_14 (by decide) ?_
      refine g_reti hx hb hr hlk hP hS dX8_called_15 ?_
      exact ⟨by first | (simp [calOf, b4, b11]; done) | (exfalso; simp_all; done), rfl, rfl⟩
set_option maxHeartbeats 1000000 in
set_option maxRecDepth 100000 in
theorem kX8_count (l : Launch) (E : gT) (A : Nat → Prop) (n : Nat) (G : gH) (x : Nat) (c : Nat → Int32) (vq : Int32) (hA1 : sA G x c) (h4 : G (x + 4) = some (.inr (2, [.ref (x + 5), .ref (x + 6), .int (c 18)]))) : gM l yX8_count wsX8_count ({ frames := 0, cells := 0, slots := 0, locals := 0 } : Room) E A n G [.ref x, .int vq] (gQi E A (fun r' n' G' => (cntOf c vq) = r' ∧ n = n' ∧ G = G')) 0 0 := by
  refine g_entry (by decide) rfl (Nat.le_of_ble_eq_true rfl) ?_
  intro p e s m below meth c0 hx hb hr hlk hml hown hnm hts hK H locs ls hP hS hl
  have hin2 : ∀ wq ∈ u_ws RX2 TX2 3, wq ∈ wsX8_count := by decide +kernel
  have hin8 : ∀ wq ∈ u_ws RX8 TX8 14, wq ∈ wsX8_count := by decide +kernel
  have hf30 := hts (.fieldLink RX8 30 "DikeHands" "laws" "LDikeHands$LawBook;") (by decide +kernel)
  have hf45 := hts (.fieldLink RX8 45 "DikeHands" "now" "I") (by decide +kernel)
  have hf49 := hts (.fieldLink RX8 49 "DikeHands" "houseCount" "I") (by decide +kernel)
  have hf52 := hts (.fieldLink RX8 52 "DikeHands" "changeCount" "I") (by decide +kernel)
  have hf55 := hts (.fieldLink RX8 55 "DikeHands" "chest" "I") (by decide +kernel)
  have hf58 := hts (.fieldLink RX8 58 "DikeHands" "lossCounted" "I") (by decide +kernel)
  have hf61 := hts (.fieldLink RX8 61 "DikeHands" "daysDone" "I") (by decide +kernel)
  have hf64 := hts (.fieldLink RX8 64 "DikeHands" "daysBought" "I") (by decide +kernel)
  have hf67 := hts (.fieldLink RX8 67 "DikeHands" "daysHired" "I") (by decide +kernel)
  have hf108 := hts (.fieldLink RX8 108 "DikeHands$LawBook" "size" "I") (by decide +kernel)
  have hl : lv_has ls 2 [(0, .ref x), (1, .int vq)] := hl
  refine lv_iload_n hx hb dX8_count_0 rfl (lv_at hl 1 rfl) ?_
  by_cases s1_0 : vq = 0
  · refine lv_tableIn (tgt := 52) hx hb dX8_count_1 (by rw [s1_0]; decide) (by rw [s1_0]; decide) (by rw [s1_0]; rfl) (by decide) ?_
    refine lv_aload_n hx hb dX8_count_52 rfl (lv_at hl 0 rfl) ?_
    refine g_get (ci := 8) hx hb hts hin8 hown hK hP hA1 rfl 6 (by decide) hf45 rfl rfl dX8_count_53 ?_
    refine g_reti hx hb hr hlk hP hS dX8_count_56 ?_
    exact ⟨by first | (simp [cntOf, s1_0]; done) | (exfalso; simp_all; done), rfl, rfl⟩
  by_cases s1_1 : vq = 1
  · refine lv_tableIn (tgt := 57) hx hb dX8_count_1 (by rw [s1_1]; decide) (by rw [s1_1]; decide) (by rw [s1_1]; rfl) (by decide) ?_
    refine lv_aload_n hx hb dX8_count_57 rfl (lv_at hl 0 rfl) ?_
    refine g_get (ci := 8) hx hb hts hin8 hown hK hP hA1 rfl 7 (by decide) hf49 rfl rfl dX8_count_58 ?_
    refine g_reti hx hb hr hlk hP hS dX8_count_61 ?_
    exact ⟨by first | (simp [cntOf, s1_0, s1_1]; done) | (exfalso; simp_all; done), rfl, rfl⟩
  by_cases s1_2 : vq = 2
  · refine lv_tableIn (tgt := 62) hx hb dX8_count_1 (by rw [s1_2]; decide) (by rw [s1_2]; decide) (by rw [s1_2]; rfl) (by decide) ?_
    refine lv_aload_n hx hb dX8_count_62 rfl (lv_at hl 0 rfl) ?_
    refine g_get (ci := 8) hx hb hts hin8 hown hK hP hA1 rfl 3 (by decide) hf30 rfl rfl dX8_count_63 ?_
    refine g_get (ci := 2) hx hb hts hin2 hown hK hP h4 rfl 2 (by decide) hf108 rfl rfl dX8_count_66 ?_
    refine g_reti hx hb hr hlk hP hS dX8_count_69 ?_
    exact ⟨by first | (simp [cntOf, s1_0, s1_1, s1_2]; done) | (exfalso; simp_all; done), rfl, rfl⟩
  by_cases s1_3 : vq = 3
  · refine lv_tableIn (tgt := 70) hx hb dX8_count_1 (by rw [s1_3]; decide) (by rw [s1_3]; decide) (by rw [s1_3]; rfl) (by decide) ?_
    refine lv_aload_n hx hb dX8_count_70 rfl (lv_at hl 0 rfl) ?_
    refine g_get (ci := 8) hx hb hts hin8 hown hK hP hA1 rfl 8 (by decide) hf52 rfl rfl dX8_count_71 ?_
    refine g_reti hx hb hr hlk hP hS dX8_count_74 ?_
    exact ⟨by first | (simp [cntOf, s1_0, s1_1, s1_2, s1_3]; done) | (exfalso; simp_all; done), rfl, rfl⟩
  by_cases s1_4 : vq = 4
  · refine lv_tableIn (tgt := 75) hx hb dX8_count_1 (by rw [s1_4]; decide) (by rw [s1_4]; decide) (by rw [s1_4]; rfl) (by decide) ?_
    refine lv_aload_n hx hb dX8_count_75 rfl (lv_at hl 0 rfl) ?_
    refine g_get (ci := 8) hx hb hts hin8 hown hK hP hA1 rfl 9 (by decide) hf55 rfl rfl dX8_count_76 ?_
    refine g_reti hx hb hr hlk hP hS dX8_count_79 ?_
    exact ⟨by first | (simp [cntOf, s1_0, s1_1, s1_2, s1_3, s1_4]; done) | (exfalso; simp_all; done), rfl, rfl⟩
  by_cases s1_5 : vq = 5
  · refine lv_tableIn (tgt := 80) hx hb dX8_count_1 (by rw [s1_5]; decide) (by rw [s1_5]; decide) (by rw [s1_5]; rfl) (by decide) ?_
    refine lv_aload_n hx hb dX8_count_80 rfl (lv_at hl 0 rfl) ?_
    refine g_get (ci := 8) hx hb hts hin8 hown hK hP hA1 rfl 10 (by decide) hf58 rfl rfl dX8_count_81 ?_
    refine g_reti hx hb hr hlk hP hS dX8_count_84 ?_
    exact ⟨by first | (simp [cntOf, s1_0, s1_1, s1_2, s1_3, s1_4, s1_5]; done) | (exfalso; simp_all; done), rfl, rfl⟩
  by_cases s1_6 : vq = 6
  · refine lv_tableIn (tgt := 85) hx hb dX8_count_1 (by rw [s1_6]; decide) (by rw [s1_6]; decide) (by rw [s1_6]; rfl) (by decide) ?_
    refine lv_aload_n hx hb dX8_count_85 rfl (lv_at hl 0 rfl) ?_
    refine g_get (ci := 8) hx hb hts hin8 hown hK hP hA1 rfl 11 (by decide) hf61 rfl rfl dX8_count_86 ?_
    refine g_reti hx hb hr hlk hP hS dX8_count_89 ?_
    exact ⟨by first | (simp [cntOf, s1_0, s1_1, s1_2, s1_3, s1_4, s1_5, s1_6]; done) | (exfalso; simp_all; done), rfl, rfl⟩
  by_cases s1_7 : vq = 7
  · refine lv_tableIn (tgt := 90) hx hb dX8_count_1 (by rw [s1_7]; decide) (by rw [s1_7]; decide) (by rw [s1_7]; rfl) (by decide) ?_
    refine lv_aload_n hx hb dX8_count_90 rfl (lv_at hl 0 rfl) ?_
    refine g_get (ci := 8) hx hb hts hin8 hown hK hP hA1 rfl 12 (by decide) hf64 rfl rfl dX8_count_91 ?_
    refine g_reti hx hb hr hlk hP hS dX8_count_94 ?_
    exact ⟨by first | (simp [cntOf, s1_0, s1_1, s1_2, s1_3, s1_4, s1_5, s1_6, s1_7]; done) | (exfalso; simp_all; done), rfl, rfl⟩
  by_cases s1_8 : vq = 8
  · refine lv_tableIn (tgt := 95) hx hb dX8_count_1 (by rw [s1_8]; decide) (by rw [s1_8]; decide) (by rw [s1_8]; rfl) (by decide) ?_
    refine lv_aload_n hx hb dX8_count_95 rfl (lv_at hl 0 rfl) ?_
    refine g_get (ci := 8) hx hb hts hin8 hown hK hP hA1 rfl 13 (by decide) hf67 rfl rfl dX8_count_96 ?_
    refine g_reti hx hb hr hlk hP hS dX8_count_99 ?_
    exact ⟨by first | (simp [cntOf, s1_0, s1_1, s1_2, s1_3, s1_4, s1_5, s1_6, s1_7, s1_8]; done) | (exfalso; simp_all; done), rfl, rfl⟩
  refine lv_tableOut (tgt := 100) hx hb dX8_count_1 (sw_out8 s1_0 s1_1 s1_2 s1_3 s1_4 s1_5 s1_6 s1_7 s1_8) (by decide) ?_
  refine lv_iconst (v := (-1)) hx hb dX8_count_100 (by decide) ?_
  refine g_reti hx hb hr hlk hP hS dX8_count_101 ?_
  exact ⟨by first | (simp [cntOf, s1_0, s1_1, s1_2, s1_3, s1_4, s1_5, s1_6, s1_7, s1_8]; done) | (exfalso; simp_all; done), rfl, rfl⟩
set_option maxHeartbeats 1000000 in
set_option maxRecDepth 100000 in
theorem kX8_trueHands (l : Launch) (E : gT) (A : Nat → Prop) (n : Nat) (G : gH) (x : Nat) (c : Nat → Int32) (S : Nat → Nat → Int32) (vq wq : Int32) (hA1 : sA G x c) (ha : Nat → Nat) (hH1 : sH E G x ha (tn (c 7))) (lt : Nat → Option Nat) (hHo : sHo G S ha lt (tn (c 7)) (tn (c 12))) (hp : pI c S)  : gM l yX8_trueHands wsX8_trueHands ({ frames := 1, cells := 0, slots := 0, locals := 24 } : Room) E A n G [.ref x, .int vq, .int wq] (gQi E A (fun r' n' G' => (vilOf c S vq wq) = r' ∧ n = n' ∧ G = G')) 0 0 := by
  refine g_entry (by decide) rfl (Nat.le_of_ble_eq_true rfl) ?_
  intro p e s m below meth c0 hx hb hr hlk hml hown hnm hts hK H locs ls hP hS hl
  have hin0 : ∀ wq ∈ u_ws RX0 TX0 8, wq ∈ wsX8_trueHands := by decide +kernel
  have hin8 : ∀ wq ∈ u_ws RX8 TX8 14, wq ∈ wsX8_trueHands := by decide +kernel
  have hf23 := hts (.fieldLink RX8 23 "DikeHands" "houses" "[LDikeHands$House;") (by decide +kernel)
  have hf49 := hts (.fieldLink RX8 49 "DikeHands" "houseCount" "I") (by decide +kernel)
  have hf168 := hts (.fieldLink RX8 168 "DikeHands$House" "home" "I") (by decide +kernel)
  have hl : lv_has ls 5 [(0, .ref x), (1, .int vq), (2, .int wq)] := hl
  obtain ⟨fH, hH2, hH3⟩ := id hH1
  have h40 := le40 hp
  refine lv_iconst (v := 0) hx hb dX8_trueHands_0 (by decide) ?_
  refine lv_istore_n (lv' := [(3, .int 0), (0, .ref x), (1, .int vq), (2, .int wq)]) hx hb dX8_trueHands_1 rfl hl (by decide) rfl (fun ls hl => ?_)
  refine lv_iconst (v := 0) hx hb dX8_trueHands_2 (by decide) ?_
  refine lv_istore (lv' := [(4, .int 0), (3, .int 0), (0, .ref x), (1, .int vq), (2, .int wq)]) hx hb dX8_trueHands_3 hl (by decide) rfl (fun ls hl => ?_)
  refine g_loop (τ := Nat) (fun kq => kq ≤ tn (c 7)) (fun kq => tn (c 7) - kq) (fun kq => n) (fun kq => G) (fun kq => 0) (fun kq => 0) (fun kq => [(0, .ref x), (1, .int vq), (2, .int wq), (3, .int (vilN c S vq wq kq)), (4, .int (nI kq))]) ?_ 0 (Nat.zero_le _) H locs ls hP hS (lv_sub hl [2, 3, 4, 1, 0] rfl)
  intro kq hI5 ih H locs ls hP hS hl
  try dsimp only at hI5
  have hl : lv_has ls 5 [(0, .ref x), (1, .int vq), (2, .int wq), (3, .int (vilN c S vq wq kq)), (4, .int (nI kq))] := hl
  have hP : gP E A n G H := hP
  refine lv_iload hx hb dX8_trueHands_5 (lv_at hl 4 rfl) ?_
  refine lv_aload_n hx hb dX8_trueHands_7 rfl (lv_at hl 0 rfl) ?_
  refine g_get (ci := 8) hx hb hts hin8 hown hK hP hA1 rfl 7 (by decide) hf49 rfl rfl dX8_trueHands_8 ?_
  refine lv_icmp_ge (tgt := 48) hx hb dX8_trueHands_11 (by decide) (fun b11 => ?_) (fun b11 => ?_)
  · have hk3 := lp_ge hp.1.2.1.1 (by omega) b11
    have hke : kq = tn (c 7) := by omega
    refine lv_iload_n hx hb dX8_trueHands_48 rfl (lv_at hl 3 rfl) ?_
    refine g_reti hx hb hr hlk hP hS dX8_trueHands_49 ?_
    exact ⟨by rw [vilOf, ← hke], rfl, rfl⟩
  · have hk3 := lp_lt hp.1.2.1.1 (by omega) b11
    refine lv_aload_n hx hb dX8_trueHands_14 rfl (lv_at hl 0 rfl) ?_
    refine g_get (ci := 8) hx hb hts hin8 hown hK hP hA1 rfl 2 (by decide) hf23 rfl rfl dX8_trueHands_15 ?_
    refine lv_iload hx hb dX8_trueHands_18 (lv_at hl 4 rfl) ?_
    have fh20 := (hHo (kq) hk3).1
    refine g_aald (t0 := 2) (v := .ref (ha kq)) hx hb hK hP hH2 rfl (vp_in_nI (by omega) (by decide)) (by rw [nI_clamp (by omega), hH3 (kq) hk3]; rfl) dX8_trueHands_20 ?_
    refine g_get (ci := 0) hx hb hts hin0 hown hK hP fh20 rfl 0 (by decide) hf168 rfl rfl dX8_trueHands_21 ?_
    refine lv_iload_n hx hb dX8_trueHands_24 rfl (lv_at hl 1 rfl) ?_
    refine lv_icmp_ne (tgt := 42) hx hb dX8_trueHands_25 (by decide) (fun b25 => ?_) (fun b25 => ?_)
    · refine lv_iinc (v := (nI kq) + 1) (lv' := [(4, .int ((nI kq) + 1)), (0, .ref x), (1, .int vq), (2, .int wq), (3, .int (vilN c S vq wq kq))]) hx hb dX8_trueHands_42 hl (k := 4) rfl rfl (by decide) rfl (fun ls hl => ?_)
      refine lv_goto (tgt := 5) hx hb dX8_trueHands_45 (by decide) ?_
      refine ih (kq + 1) (by omega) (by omega) H locs ls hP hS ?_
      show lv_has ls 5 [(0, .ref x), (1, .int vq), (2, .int wq), (3, .int (vilN c S vq wq (kq + 1))), (4, .int (nI (kq + 1)))]
      rw [show vilN c S vq wq (kq + 1) = vilN c S vq wq kq from by first | (simp [vilN, b11, Int32.not_le.mp b11, b25]; done) | (exfalso; simp_all; done), ← nI_1 kq]
      exact lv_sub hl [1, 2, 3, 4, 0] rfl
    · refine lv_iload_n hx hb dX8_trueHands_28 rfl (lv_at hl 3 rfl) ?_
      refine lv_aload_n hx hb dX8_trueHands_29 rfl (lv_at hl 0 rfl) ?_
      refine g_get (ci := 8) hx hb hts hin8 hown hK hP hA1 rfl 2 (by decide) hf23 rfl rfl dX8_trueHands_30 ?_
      refine lv_iload hx hb dX8_trueHands_33 (lv_at hl 4 rfl) ?_
      have fh35 := (hHo (kq) hk3).1
      refine g_aald (t0 := 2) (v := .ref (ha kq)) hx hb hK hP hH2 rfl (vp_in_nI (by omega) (by decide)) (by rw [nI_clamp (by omega), hH3 (kq) hk3]; rfl) dX8_trueHands_35 ?_
      refine lv_iload_n hx hb dX8_trueHands_36 rfl (lv_at hl 2 rfl) ?_
      refine g_ci (g_runV (As := [.int wq]) (rest := [.int (vilN c S vq wq kq)]) ⟨hx, hb, hml, hown, hts⟩ hK hP (kX0_handsIn l E A n G (ha kq) (ha kq + 1) (ha kq + 2) (ha kq + 3) (ha kq + 4) (ha kq + 5) (lt kq) (S 6 kq) (S 7 kq) (telL S kq (tn (c 12))) wq fh35 (hHo kq hk3).2) (cwV 1 hts gX8_trueHands_X0_handsIn rfl rfl rfl (by decide +kernel) ⟨Nat.le_of_ble_eq_true rfl, Nat.le_of_ble_eq_true rfl⟩) fh35 rfl rfl hl.1 rfl (Nat.le_of_ble_eq_true rfl) dX8_trueHands_37 ⟨Nat.le_of_ble_eq_true rfl, Nat.le_of_ble_eq_true rfl⟩) hS (fun r37 n' G' H locs hw hP hS => ?_)
      obtain ⟨rfl, rfl, rfl⟩ := hw
      rw [han_tru hp hk3]
      refine lv_iadd hx hb dX8_trueHands_40 ?_
      refine lv_istore_n (lv' := [(3, .int ((vilN c S vq wq kq) + (truOf c S (nI kq) wq))), (0, .ref x), (1, .int vq), (2, .int wq), (4, .int (nI kq))]) hx hb dX8_trueHands_41 rfl hl (by decide) rfl (fun ls hl => ?_)
      refine lv_iinc (v := (nI kq) + 1) (lv' := [(4, .int ((nI kq) + 1)), (3, .int ((vilN c S vq wq kq) + (truOf c S (nI kq) wq))), (0, .ref x), (1, .int vq), (2, .int wq)]) hx hb dX8_trueHands_42 hl (k := 4) rfl rfl (by decide) rfl (fun ls hl => ?_)
      refine lv_goto (tgt := 5) hx hb dX8_trueHands_45 (by decide) ?_
      refine ih (kq + 1) (by omega) (by omega) H locs ls hP hS ?_
      show lv_has ls 5 [(0, .ref x), (1, .int vq), (2, .int wq), (3, .int (vilN c S vq wq (kq + 1))), (4, .int (nI (kq + 1)))]
      rw [show vilN c S vq wq (kq + 1) = (vilN c S vq wq kq) + (truOf c S (nI kq) wq) from by first | (simp [vilN, b11, Int32.not_le.mp b11, b25]; done) | (exfalso; simp_all; done), ← nI_1 kq]
      exact lv_sub hl [2, 3, 4, 1, 0] rfl
set_option maxHeartbeats 1000000 in
set_option maxRecDepth 100000 in
theorem kX8_daysOwed (l : Launch) (E : gT) (A : Nat → Prop) (n : Nat) (G : gH) (x : Nat) (c : Nat → Int32) (S : Nat → Nat → Int32) (hi : Nat) (y : Int32) (ha : Nat → Nat) (hA1 : sA G x c) (hB : sB G x (c 18)) (la : Nat → Nat) (hL : sL E G x S la (tn (c 18))) (lt : Nat → Option Nat) (hHo : sHo G S ha lt (tn (c 7)) (tn (c 12))) (hp : pI c S) (hh : hi < tn (c 7)) : gM l yX8_daysOwed wsX8_daysOwed ({ frames := 1, cells := 0, slots := 0, locals := 23 } : Room) E A n G [.ref x, .ref (ha hi), .int y] (gQi E A (fun r' n' G' => (oweOf c S (nI hi) y) = r' ∧ n = n' ∧ G = G')) 0 0 := by
  refine g_entry (by decide) rfl (Nat.le_of_ble_eq_true rfl) ?_
  intro p e s m below meth c0 hx hb hr hlk hml hown hnm hts hK H locs ls hP hS hl
  have hin8 : ∀ wq ∈ u_ws RX8 TX8 14, wq ∈ wsX8_daysOwed := by decide +kernel
  have hf30 := hts (.fieldLink RX8 30 "DikeHands" "laws" "LDikeHands$LawBook;") (by decide +kernel)
  have hl : lv_has ls 4 [(0, .ref x), (1, .ref (ha hi)), (2, .int y)] := hl
  have h40 := le40 hp
  obtain ⟨fL, hL1, hL2⟩ := id hL
  have hB4 : G (x + 4) = some (.inr (2, [.ref (x + 5), .ref (x + 6), .int (nI (tn (c 18)))])) := by rw [← nI18 hp]; exact hB.1
  have fh0 := (hHo hi hh).1
  refine lv_aload_n hx hb dX8_daysOwed_0 rfl (lv_at hl 1 rfl) ?_
  refine lv_iload_n hx hb dX8_daysOwed_1 rfl (lv_at hl 2 rfl) ?_
  refine lv_bipush (v := 52) hx hb dX8_daysOwed_2 (by decide) ?_
  refine lv_imul hx hb dX8_daysOwed_4 ?_
  refine g_cq (g_runV (As := [.int (y * 52)]) (rest := []) ⟨hx, hb, hml, hown, hts⟩ hK hP (kX0_toldAheadOf l E A n G (ha hi) (ha hi + 1) (ha hi + 2) (ha hi + 3) (ha hi + 4) (ha hi + 5) (lt hi) (S 6 hi) (S 7 hi) (telL S hi (tn (c 12))) (y * 52) fh0 (hHo hi hh).2) (cwV 1 hts gX8_daysOwed_X0_toldAheadOf rfl rfl rfl (by decide +kernel) ⟨Nat.le_of_ble_eq_true rfl, Nat.le_of_ble_eq_true rfl⟩) fh0 rfl rfl hl.1 rfl (Nat.le_of_ble_eq_true rfl) dX8_daysOwed_5 ⟨Nat.le_of_ble_eq_true rfl, Nat.le_of_ble_eq_true rfl⟩) hS (fun rq n' G' H locs hw hP hS => ?_)
  obtain ⟨hw, rfl, rfl⟩ := hw
  by_cases hc : S 7 hi < 52 * y
  · obtain ⟨q, e1, e2, e3⟩ := fst_lis S y (by omega) hc (tn (c 12))
    rw [Int32.mul_comm y 52, e1] at hw
    obtain ⟨aq, nx, hrq, fq⟩ := hw
    subst hrq
    refine W.eq (g2 := F0 m 8 ls [.ref aq]) rfl ?_
    refine lv_astore_n (lv' := [(3, .ref aq), (0, .ref x), (1, .ref (ha hi)), (2, .int y)]) hx hb dX8_daysOwed_8 rfl hl (by decide) rfl (fun ls hl => ?_)
    refine lv_aload_n hx hb dX8_daysOwed_9 rfl (lv_at hl 0 rfl) ?_
    refine lv_ifnonnull (tgt := 17) hx hb dX8_daysOwed_10 (by decide) ?_
    refine lv_aload_n hx hb dX8_daysOwed_17 rfl (lv_at hl 1 rfl) ?_
    refine g_get (ci := 8) hx hb hts hin8 hown hK hP hA1 rfl 3 (by decide) hf30 rfl rfl dX8_daysOwed_18 ?_
    refine lv_iload_n hx hb dX8_daysOwed_21 rfl (lv_at hl 3 rfl) ?_
    refine g_cq (g_runV (As := [.int y]) (rest := []) ⟨hx, hb, hml, hown, hts⟩ hK hP (kX2_ofYear l E A n G (x + 4) (x + 5) (x + 6) S la (tn (c 18)) fL y h40.2.1 hB4 hL1 hB.2 hL2 (fun i hi => (hp.2.2.2.2.2.2.2 i hi).1)) (cwV 1 hts gX8_daysOwed_X2_ofYear rfl rfl rfl (by decide +kernel) ⟨Nat.le_of_ble_eq_true rfl, Nat.le_of_ble_eq_true rfl⟩) hB4 rfl rfl hl.1 rfl (Nat.le_of_ble_eq_true rfl) dX8_daysOwed_22 ⟨Nat.le_of_ble_eq_true rfl, Nat.le_of_ble_eq_true rfl⟩) hS (fun r22 n' G' H locs hw hP hS => ?_)
    obtain ⟨rfl, rfl, rfl⟩ := hw
    obtain ⟨l1, l2, l3, l4, l5, fl, el5, el⟩ := law_cell hp hB hL y
    refine lv_aload_n hx hb dX8_daysOwed_25 rfl (lv_at hl 0 rfl) ?_
    refine g_ci (g_runV (As := [.ref aq]) (rest := []) ⟨hx, hb, hml, hown, hts⟩ hK hP (kX1_daysFor l E A n G (lbA S la (x + 6) y (tn (c 18))) aq q nx l1 l2 l3 l4 l5 fl fq) (cwV 1 hts gX8_daysOwed_X1_daysFor rfl rfl rfl (by decide +kernel) ⟨Nat.le_of_ble_eq_true rfl, Nat.le_of_ble_eq_true rfl⟩) fl rfl rfl hl.1 rfl (Nat.le_of_ble_eq_true rfl) dX8_daysOwed_26 ⟨Nat.le_of_ble_eq_true rfl, Nat.le_of_ble_eq_true rfl⟩) hS (fun r26 n' G' H locs hw hP hS => ?_)
    obtain ⟨rfl, rfl, rfl⟩ := hw
    refine g_reti hx hb hr hlk hP hS dX8_daysOwed_29 ?_
    refine ⟨?_, rfl, rfl⟩
    have hl1 : lstB S (nI hi) y = true := by rw [lstB, tn_nI (by omega)]; exact decide_eq_true hc
    rw [el _ _, oweOf, hl1]
    rw [← e2, ← e3 1 (by decide)]
    by_cases z : lawOf c S y = -1
    · rw [if_pos z, if_pos z]
    · rw [if_neg z, if_neg z, if_neg (by decide)]; rfl
  · rw [Int32.mul_comm y 52, fst_no S (52 * y) hc (tn (c 12)) (fun j hj he => by have := (hp.2.2.2.2.2.2.1 j hj).2.1.1; rw [he, tn_nI (by omega)] at this; exact this)] at hw
    have hrq : rq = none := hw
    subst hrq
    refine W.eq (g2 := F0 m 8 ls [.null]) rfl ?_
    refine lv_astore_nN (lv' := [(3, .null), (0, .ref x), (1, .ref (ha hi)), (2, .int y)]) hx hb dX8_daysOwed_8 rfl hl (by decide) rfl (fun ls hl => ?_)
    refine lv_aload_nN hx hb dX8_daysOwed_9 rfl (lv_at hl 0 rfl) ?_
    refine lv_ifnonnullN hx hb dX8_daysOwed_10 ?_
    refine lv_iconst (v := 0) hx hb dX8_daysOwed_13 (by decide) ?_
    refine lv_goto (tgt := 29) hx hb dX8_daysOwed_14 (by decide) ?_
    refine g_reti hx hb hr hlk hP hS dX8_daysOwed_29 ?_
    exact ⟨by rw [oweOf]; split <;> first | rfl | (rw [if_pos]; rw [lstB, tn_nI (by omega)]; exact decide_eq_false hc), rfl, rfl⟩
