set_option maxHeartbeats 1000000 in
set_option maxRecDepth 100000 in
theorem kX8_isWithin (l : Launch) (E : gT) (A : Nat → Prop) (n : Nat) (G : gH) (v hi : Int32) : gM l yX8_isWithin wsX8_isWithin ({ frames := 0, cells := 0, slots := 0, locals := 0 } : Room) E A n G [.int v, .int hi] (gQi E A (fun r' n' G' => (gb (inB v 0 hi)) = r' ∧ n = n' ∧ G = G')) 0 0 := by
  refine g_entry (by decide) rfl (Nat.le_of_ble_eq_true rfl) ?_
  intro p e s m below meth c0 hx hb hr hlk hml hown hnm hts hK H locs ls hP hS hl
  have hl : lv_has ls 2 [(0, .int v), (1, .int hi)] := hl
  refine lv_iload_n hx hb dX8_isWithin_0 rfl (lv_at hl 0 rfl) ?_
  refine lv_if_lt (tgt := 13) hx hb dX8_isWithin_1 (by decide) (fun b1 => ?_) (fun b1 => ?_)
  · refine lv_iconst (v := 0) hx hb dX8_isWithin_13 (by decide) ?_
    refine g_retz hx hb hr hlk hP hS dX8_isWithin_14 rfl ?_
    exact ⟨by first | (simp [inB, gb, b1, Int32.not_le.mpr b1]; done) | (exfalso; simp_all; done), rfl, rfl⟩
  · refine lv_iload_n hx hb dX8_isWithin_4 rfl (lv_at hl 0 rfl) ?_
    refine lv_iload_n hx hb dX8_isWithin_5 rfl (lv_at hl 1 rfl) ?_
    refine lv_icmp_gt (tgt := 13) hx hb dX8_isWithin_6 (by decide) (fun b6 => ?_) (fun b6 => ?_)
    · refine lv_iconst (v := 0) hx hb dX8_isWithin_13 (by decide) ?_
      refine g_retz hx hb hr hlk hP hS dX8_isWithin_14 rfl ?_
      exact ⟨by first | (simp [inB, gb, b1, Int32.not_lt.mp b1, b6, Int32.not_le.mpr b6]; done) | (exfalso; simp_all; done), rfl, rfl⟩
    · refine lv_iconst (v := 1) hx hb dX8_isWithin_9 (by decide) ?_
      refine lv_goto (tgt := 14) hx hb dX8_isWithin_10 (by decide) ?_
      refine g_retz hx hb hr hlk hP hS dX8_isWithin_14 rfl ?_
      exact ⟨by first | (simp [inB, gb, b1, Int32.not_lt.mp b1, b6, Int32.not_lt.mp b6]; done) | (exfalso; simp_all; done), rfl, rfl⟩
set_option maxHeartbeats 1000000 in
set_option maxRecDepth 100000 in
theorem kX8_isVillage (l : Launch) (E : gT) (A : Nat → Prop) (n : Nat) (G : gH) (v : Int32) : gM l yX8_isVillage wsX8_isVillage ({ frames := 1, cells := 0, slots := 0, locals := 21 } : Room) E A n G [.int v] (gQi E A (fun r' n' G' => (gb (inB v 0 7)) = r' ∧ n = n' ∧ G = G')) 0 0 := by
  refine g_entry (by decide) rfl (Nat.le_of_ble_eq_true rfl) ?_
  intro p e s m below meth c0 hx hb hr hlk hml hown hnm hts hK H locs ls hP hS hl
  have hl : lv_has ls 1 [(0, .int v)] := hl
  refine lv_iload_n hx hb dX8_isVillage_0 rfl (lv_at hl 0 rfl) ?_
  refine lv_bipush (v := 7) hx hb dX8_isVillage_1 (by decide) ?_
  refine g_ci (g_runS (As := [.int v, .int 7]) (rest := []) ⟨hx, hb, hml, hown, hts⟩ hK hP (kX8_isWithin l E A n G v 7) (va_cwS 2 hts gX8_isVillage_X8_isWithin rfl rfl rfl (by decide +kernel) ⟨Nat.le_of_ble_eq_true rfl, Nat.le_of_ble_eq_true rfl⟩) rfl hl.1 rfl (Nat.le_of_ble_eq_true rfl) dX8_isVillage_3 ⟨Nat.le_of_ble_eq_true rfl, Nat.le_of_ble_eq_true rfl⟩) hS (fun r3 n' G' H locs hw hP hS => ?_)
  obtain ⟨rfl, rfl, rfl⟩ := hw
  refine g_retz hx hb hr hlk hP hS dX8_isVillage_6 (gb_nar _) ?_
  exact ⟨rfl, rfl, rfl⟩
set_option maxHeartbeats 1000000 in
set_option maxRecDepth 100000 in
theorem kX8_isRod (l : Launch) (E : gT) (A : Nat → Prop) (n : Nat) (G : gH) (v : Int32) : gM l yX8_isRod wsX8_isRod ({ frames := 1, cells := 0, slots := 0, locals := 21 } : Room) E A n G [.int v] (gQi E A (fun r' n' G' => (gb (inB v 0 29)) = r' ∧ n = n' ∧ G = G')) 0 0 := by
  refine g_entry (by decide) rfl (Nat.le_of_ble_eq_true rfl) ?_
  intro p e s m below meth c0 hx hb hr hlk hml hown hnm hts hK H locs ls hP hS hl
  have hl : lv_has ls 1 [(0, .int v)] := hl
  refine lv_iload_n hx hb dX8_isRod_0 rfl (lv_at hl 0 rfl) ?_
  refine lv_bipush (v := 29) hx hb dX8_isRod_1 (by decide) ?_
  refine g_ci (g_runS (As := [.int v, .int 29]) (rest := []) ⟨hx, hb, hml, hown, hts⟩ hK hP (kX8_isWithin l E A n G v 29) (va_cwS 2 hts gX8_isRod_X8_isWithin rfl rfl rfl (by decide +kernel) ⟨Nat.le_of_ble_eq_true rfl, Nat.le_of_ble_eq_true rfl⟩) rfl hl.1 rfl (Nat.le_of_ble_eq_true rfl) dX8_isRod_3 ⟨Nat.le_of_ble_eq_true rfl, Nat.le_of_ble_eq_true rfl⟩) hS (fun r3 n' G' H locs hw hP hS => ?_)
  obtain ⟨rfl, rfl, rfl⟩ := hw
  refine g_retz hx hb hr hlk hP hS dX8_isRod_6 (gb_nar _) ?_
  exact ⟨rfl, rfl, rfl⟩
set_option maxHeartbeats 1000000 in
set_option maxRecDepth 100000 in
theorem kX8_isHolding (l : Launch) (E : gT) (A : Nat → Prop) (n : Nat) (G : gH) (a b : Int32) : gM l yX8_isHolding wsX8_isHolding ({ frames := 1, cells := 0, slots := 0, locals := 21 } : Room) E A n G [.int a, .int b] (gQi E A (fun r' n' G' => (gb (inB a 0 500 && inB b 0 20)) = r' ∧ n = n' ∧ G = G')) 0 0 := by
  refine g_entry (by decide) rfl (Nat.le_of_ble_eq_true rfl) ?_
  intro p e s m below meth c0 hx hb hr hlk hml hown hnm hts hK H locs ls hP hS hl
  have hl : lv_has ls 2 [(0, .int a), (1, .int b)] := hl
  refine lv_iload_n hx hb dX8_isHolding_0 rfl (lv_at hl 0 rfl) ?_
  refine lv_sipush (v := 500) hx hb dX8_isHolding_1 (by decide) ?_
  refine g_ci (g_runS (As := [.int a, .int 500]) (rest := []) ⟨hx, hb, hml, hown, hts⟩ hK hP (kX8_isWithin l E A n G a 500) (va_cwS 2 hts gX8_isHolding_X8_isWithin rfl rfl rfl (by decide +kernel) ⟨Nat.le_of_ble_eq_true rfl, Nat.le_of_ble_eq_true rfl⟩) rfl hl.1 rfl (Nat.le_of_ble_eq_true rfl) dX8_isHolding_4 ⟨Nat.le_of_ble_eq_true rfl, Nat.le_of_ble_eq_true rfl⟩) hS (fun r4 n' G' H locs hw hP hS => ?_)
  obtain ⟨rfl, rfl, rfl⟩ := hw
  refine g_ifeq (tgt := 23) hx hb dX8_isHolding_7 (by decide) (fun b7 => ?_) (fun b7 => ?_)
  · refine lv_iconst (v := 0) hx hb dX8_isHolding_23 (by decide) ?_
    refine g_retz hx hb hr hlk hP hS dX8_isHolding_24 rfl ?_
    exact ⟨by first | (simp [gb, b7]; done) | (exfalso; simp_all; done), rfl, rfl⟩
  · refine lv_iload_n hx hb dX8_isHolding_10 rfl (lv_at hl 1 rfl) ?_
    refine lv_bipush (v := 20) hx hb dX8_isHolding_11 (by decide) ?_
    refine g_ci (g_runS (As := [.int b, .int 20]) (rest := []) ⟨hx, hb, hml, hown, hts⟩ hK hP (kX8_isWithin l E A n G b 20) (va_cwS 2 hts gX8_isHolding_X8_isWithin rfl rfl rfl (by decide +kernel) ⟨Nat.le_of_ble_eq_true rfl, Nat.le_of_ble_eq_true rfl⟩) rfl hl.1 rfl (Nat.le_of_ble_eq_true rfl) dX8_isHolding_13 ⟨Nat.le_of_ble_eq_true rfl, Nat.le_of_ble_eq_true rfl⟩) hS (fun r13 n' G' H locs hw hP hS => ?_)
    obtain ⟨rfl, rfl, rfl⟩ := hw
    refine g_ifeq (tgt := 23) hx hb dX8_isHolding_16 (by decide) (fun b16 => ?_) (fun b16 => ?_)
    · refine lv_iconst (v := 0) hx hb dX8_isHolding_23 (by decide) ?_
      refine g_retz hx hb hr hlk hP hS dX8_isHolding_24 rfl ?_
      exact ⟨by first | (simp [gb, b7, b16]; done) | (exfalso; simp_all; done), rfl, rfl⟩
    · refine lv_iconst (v := 1) hx hb dX8_isHolding_19 (by decide) ?_
      refine lv_goto (tgt := 24) hx hb dX8_isHolding_20 (by decide) ?_
      refine g_retz hx hb hr hlk hP hS dX8_isHolding_24 rfl ?_
      exact ⟨by first | (simp [gb, b7, b16]; done) | (exfalso; simp_all; done), rfl, rfl⟩
set_option maxHeartbeats 1000000 in
set_option maxRecDepth 100000 in
theorem kX8_dividedUp (l : Launch) (E : gT) (A : Nat → Prop) (n : Nat) (G : gH) (a d : Int32) : gM l yX8_dividedUp wsX8_dividedUp ({ frames := 0, cells := 0, slots := 0, locals := 0 } : Room) E A n G [.int a, .int d] (gQi E A (fun r' n' G' => (divUp a d) = r' ∧ n = n' ∧ G = G')) 0 0 := by
  refine g_entry (by decide) rfl (Nat.le_of_ble_eq_true rfl) ?_
  intro p e s m below meth c0 hx hb hr hlk hml hown hnm hts hK H locs ls hP hS hl
  have hl : lv_has ls 2 [(0, .int a), (1, .int d)] := hl
  refine lv_iload_n hx hb dX8_dividedUp_0 rfl (lv_at hl 1 rfl) ?_
  refine lv_if_gt (tgt := 8) hx hb dX8_dividedUp_1 (by decide) (fun b1 => ?_) (fun b1 => ?_)
  · refine lv_iload_n hx hb dX8_dividedUp_8 rfl (lv_at hl 0 rfl) ?_
    refine lv_iload_n hx hb dX8_dividedUp_9 rfl (lv_at hl 1 rfl) ?_
    refine lv_iadd hx hb dX8_dividedUp_10 ?_
    refine lv_iconst (v := 1) hx hb dX8_dividedUp_11 (by decide) ?_
    refine lv_isub hx hb dX8_dividedUp_12 ?_
    refine lv_iload_n hx hb dX8_dividedUp_13 rfl (lv_at hl 1 rfl) ?_
    refine lv_idiv hx hb dX8_dividedUp_14 (fun q => absurd b1 (by rw [q]; decide)) ?_
    refine g_reti hx hb hr hlk hP hS dX8_dividedUp_15 ?_
    exact ⟨by first | (simp [divUp, b1, Int32.not_le.mpr b1]; done) | (exfalso; simp_all; done), rfl, rfl⟩
  · refine lv_iconst (v := 0) hx hb dX8_dividedUp_4 (by decide) ?_
    refine lv_goto (tgt := 15) hx hb dX8_dividedUp_5 (by decide) ?_
    refine g_reti hx hb hr hlk hP hS dX8_dividedUp_15 ?_
    exact ⟨by first | (simp [divUp, b1, Int32.not_lt.mp b1]; done) | (exfalso; simp_all; done), rfl, rfl⟩
set_option maxHeartbeats 1000000 in
set_option maxRecDepth 100000 in
theorem kX8_hoursFor (l : Launch) (E : gT) (A : Nat → Prop) (n : Nat) (G : gH) (a b d : Int32) : gM l yX8_hoursFor wsX8_hoursFor ({ frames := 1, cells := 0, slots := 0, locals := 21 } : Room) E A n G [.int a, .int b, .int d] (gQi E A (fun r' n' G' => (divUp (absOf (a - b)) d) = r' ∧ n = n' ∧ G = G')) 0 0 := by
  refine g_entry (by decide) rfl (Nat.le_of_ble_eq_true rfl) ?_
  intro p e s m below meth c0 hx hb hr hlk hml hown hnm hts hK H locs ls hP hS hl
  have hl : lv_has ls 3 [(0, .int a), (1, .int b), (2, .int d)] := hl
  refine lv_iload_n hx hb dX8_hoursFor_0 rfl (lv_at hl 0 rfl) ?_
  refine lv_iload_n hx hb dX8_hoursFor_1 rfl (lv_at hl 1 rfl) ?_
  refine lv_isub hx hb dX8_hoursFor_2 ?_
  refine va_mabs hx hb (by rw [hml]; exact hl.1.symm) hown (hts (.methodLink RX8 261 Lib.Math.abs.name) (by decide +kernel)) (hts (.static Lib.Math.abs.name) (by decide +kernel)) (hts (.initialized "java/lang/Math") (by decide +kernel)) (hts (.code Lib.Math.abs.name Lib.Math.abs.code 1 (some .int)) (by decide +kernel)) (Nat.le_of_ble_eq_true rfl) (Nat.le_of_ble_eq_true rfl) (Nat.le_of_ble_eq_true rfl) (Nat.le_of_ble_eq_true rfl) dX8_hoursFor_3 ?_
  refine lv_iload_n hx hb dX8_hoursFor_6 rfl (lv_at hl 2 rfl) ?_
  refine g_ci (g_runS (As := [.int (if 0 ≤ (a - b) then (a - b) else 0 - (a - b)), .int d]) (rest := []) ⟨hx, hb, hml, hown, hts⟩ hK hP (kX8_dividedUp l E A n G (if 0 ≤ (a - b) then (a - b) else 0 - (a - b)) d) (va_cwS 2 hts gX8_hoursFor_X8_dividedUp rfl rfl rfl (by decide +kernel) ⟨Nat.le_of_ble_eq_true rfl, Nat.le_of_ble_eq_true rfl⟩) rfl hl.1 rfl (Nat.le_of_ble_eq_true rfl) dX8_hoursFor_7 ⟨Nat.le_of_ble_eq_true rfl, Nat.le_of_ble_eq_true rfl⟩) hS (fun r7 n' G' H locs hw hP hS => ?_)
  obtain ⟨rfl, rfl, rfl⟩ := hw
  refine g_reti hx hb hr hlk hP hS dX8_hoursFor_10 ?_
  exact ⟨rfl, rfl, rfl⟩
set_option maxHeartbeats 1000000 in
set_option maxRecDepth 100000 in
theorem kX1_canBe (l : Launch) (E : gT) (A : Nat → Prop) (n : Nat) (G : gH) (w : Int32) : gM l yX1_canBe wsX1_canBe ({ frames := 1, cells := 0, slots := 0, locals := 21 } : Room) E A n G [.int w] (gQi E A (fun r' n' G' => (gb (inB w 0 99999 && decide (rem32 w 1000 ≤ 500))) = r' ∧ n = n' ∧ G = G')) 0 0 := by
  refine g_entry (by decide) rfl (Nat.le_of_ble_eq_true rfl) ?_
  intro p e s m below meth c0 hx hb hr hlk hml hown hnm hts hK H locs ls hP hS hl
  have hl : lv_has ls 1 [(0, .int w)] := hl
  refine lv_iload_n hx hb dX1_canBe_0 rfl (lv_at hl 0 rfl) ?_
  refine lv_ldc (v := 99999) hx hb hown (hts (.constant RX1 27 (99999)) (by decide +kernel)) dX1_canBe_1 ?_
  refine g_ci (g_runSN (As := [.int w, .int 99999]) (rest := []) ⟨hx, hb, hml, hown, hts⟩ hK hP (kX8_isWithin l E A n G w 99999) ⟨va_cnB 2 hts gX1_canBe_X8_isWithin_n28 rfl rfl rfl hK.2.2.2.2.2.1 (hts (.initialized RX8) (by decide +kernel)) (by decide +kernel) ⟨Nat.le_of_ble_eq_true rfl, Nat.le_of_ble_eq_true rfl⟩, hts (.static yX8_isWithin) (by decide +kernel), trivial⟩ rfl hl.1 rfl (Nat.le_of_ble_eq_true rfl) dX1_canBe_3 ⟨Nat.le_of_ble_eq_true rfl, Nat.le_of_ble_eq_true rfl⟩) hS (fun r3 n' G' H locs hw hP hS => ?_)
  obtain ⟨rfl, rfl, rfl⟩ := hw
  refine g_ifeq (tgt := 24) hx hb dX1_canBe_6 (by decide) (fun b6 => ?_) (fun b6 => ?_)
  · refine lv_iconst (v := 0) hx hb dX1_canBe_24 (by decide) ?_
    refine g_retz hx hb hr hlk hP hS dX1_canBe_25 rfl ?_
    exact ⟨by first | (simp [gb, rem32, b6]; done) | (exfalso; simp_all; done), rfl, rfl⟩
  · refine lv_iload_n hx hb dX1_canBe_9 rfl (lv_at hl 0 rfl) ?_
    refine lv_sipush (v := 1000) hx hb dX1_canBe_10 (by decide) ?_
    refine lv_irem hx hb dX1_canBe_13 (by decide) ?_
    refine lv_sipush (v := 500) hx hb dX1_canBe_14 (by decide) ?_
    refine lv_icmp_gt (tgt := 24) hx hb dX1_canBe_17 (by decide) (fun b17 => ?_) (fun b17 => ?_)
    · refine lv_iconst (v := 0) hx hb dX1_canBe_24 (by decide) ?_
      refine g_retz hx hb hr hlk hP hS dX1_canBe_25 rfl ?_
      exact ⟨by first | (simp [gb, rem32, b6, b17, Int32.not_le.mpr b17]; done) | (exfalso; simp_all; done), rfl, rfl⟩
    · refine lv_iconst (v := 1) hx hb dX1_canBe_20 (by decide) ?_
      refine lv_goto (tgt := 25) hx hb dX1_canBe_21 (by decide) ?_
      refine g_retz hx hb hr hlk hP hS dX1_canBe_25 rfl ?_
      exact ⟨by first | (simp [gb, rem32, b6, b17, Int32.not_lt.mp b17]; done) | (exfalso; simp_all; done), rfl, rfl⟩
set_option maxHeartbeats 1000000 in
set_option maxRecDepth 100000 in
theorem kX4_growthOfDay (l : Launch) (E : gT) (A : Nat → Prop) (n : Nat) (G : gH) (a : Nat) (ht so lo br da : Int32) (fa : G a = some (.inr (4, [.int ht, .int so, .int lo, .int br, .int da]))) : gM l yX4_growthOfDay wsX4_growthOfDay ({ frames := 0, cells := 0, slots := 0, locals := 0 } : Room) E A n G [.ref a] (gQi E A (fun r' n' G' => (groOf so) = r' ∧ n = n' ∧ G = G')) 0 0 := by
  refine g_entry (by decide) rfl (Nat.le_of_ble_eq_true rfl) ?_
  intro p e s m below meth c0 hx hb hr hlk hml hown hnm hts hK H locs ls hP hS hl
  have hin4 : ∀ w ∈ u_ws RX4 TX4 5, w ∈ wsX4_growthOfDay := by decide +kernel
  have hf13 := hts (.fieldLink RX4 13 "DikeHands$Rod" "soil" "I") (by decide +kernel)
  have hl : lv_has ls 1 [(0, .ref a)] := hl
  refine lv_aload_n hx hb dX4_growthOfDay_0 rfl (lv_at hl 0 rfl) ?_
  refine g_get (ci := 4) hx hb hts hin4 hown hK hP fa rfl 1 (by decide) hf13 rfl rfl dX4_growthOfDay_1 ?_
  by_cases s4_0 : so = 0
  · refine lv_lookup (tgt := 32) hx hb dX4_growthOfDay_4 (by decide) (by first | (rw [s4_0]; done) | (rw [s4_0]; rfl)) (by decide) ?_
    refine lv_bipush (v := 30) hx hb dX4_growthOfDay_32 (by decide) ?_
    refine g_reti hx hb hr hlk hP hS dX4_growthOfDay_34 ?_
    exact ⟨by first | (simp [groOf, s4_0]; done) | (exfalso; simp_all; done), rfl, rfl⟩
  by_cases s4_1 : so = 1
  · refine lv_lookup (tgt := 35) hx hb dX4_growthOfDay_4 (by decide) (by first | (rw [s4_1]; done) | (rw [s4_1]; rfl)) (by decide) ?_
    refine lv_bipush (v := 20) hx hb dX4_growthOfDay_35 (by decide) ?_
    refine g_reti hx hb hr hlk hP hS dX4_growthOfDay_37 ?_
    exact ⟨by first | (simp [groOf, s4_0, s4_1]; done) | (exfalso; simp_all; done), rfl, rfl⟩
  refine lv_lookup (off := 34) (tgt := 38) hx hb dX4_growthOfDay_4 (by decide) (by show Op.lookupswitch.offset [(0, 28), (1, 31)] _ _ = _; rw [lv_osw (a := 0) s4_0 rfl]; rw [lv_osw (a := 1) s4_1 rfl]; first | done | rfl) (by decide) ?_
  refine lv_bipush (v := 10) hx hb dX4_growthOfDay_38 (by decide) ?_
  refine g_reti hx hb hr hlk hP hS dX4_growthOfDay_40 ?_
  exact ⟨by first | (simp [groOf, s4_0, s4_1]; done) | (exfalso; simp_all; done), rfl, rfl⟩
set_option maxHeartbeats 1000000 in
set_option maxRecDepth 100000 in
theorem kX4_raise (l : Launch) (E : gT) (A : Nat → Prop) (n : Nat) (G : gH) (a : Nat) (ht so lo br da : Int32) (k : Int32) (fa : G a = some (.inr (4, [.int ht, .int so, .int lo, .int br, .int da]))) : gM l yX4_raise wsX4_raise ({ frames := 1, cells := 0, slots := 0, locals := 21 } : Room) E A n G [.ref a, .int k] (gQv E A (fun n' G' => n = n' ∧ (gup G a (.inr (4, [.int (minOf 3000 (ht + k * groOf so)), .int so, .int lo, .int br, .int (da + k)]))) = G')) 0 0 := by
  refine g_entry (by decide) rfl (Nat.le_of_ble_eq_true rfl) ?_
  intro p e s m below meth c0 hx hb hr hlk hml hown hnm hts hK H locs ls hP hS hl
  have hin4 : ∀ w ∈ u_ws RX4 TX4 5, w ∈ wsX4_raise := by decide +kernel
  have hf9 := hts (.fieldLink RX4 9 "DikeHands$Rod" "height" "I") (by decide +kernel)
  have hf22 := hts (.fieldLink RX4 22 "DikeHands$Rod" "days" "I") (by decide +kernel)
  have hl : lv_has ls 2 [(0, .ref a), (1, .int k)] := hl
  refine lv_aload_n hx hb dX4_raise_0 rfl (lv_at hl 0 rfl) ?_
  refine lv_sipush (v := 3000) hx hb dX4_raise_1 (by decide) ?_
  refine lv_aload_n hx hb dX4_raise_4 rfl (lv_at hl 0 rfl) ?_
  refine g_get (ci := 4) hx hb hts hin4 hown hK hP fa rfl 0 (by decide) hf9 rfl rfl dX4_raise_5 ?_
  refine lv_iload_n hx hb dX4_raise_8 rfl (lv_at hl 1 rfl) ?_
  refine lv_aload_n hx hb dX4_raise_9 rfl (lv_at hl 0 rfl) ?_
  refine g_ci (g_runV (As := []) (rest := [.int k, .int ht, .int 3000, .ref a]) ⟨hx, hb, hml, hown, hts⟩ hK hP (kX4_growthOfDay l E A n G a ht so lo br da  fa) (cwV 0 hts gX4_raise_X4_growthOfDay rfl rfl rfl (by decide +kernel) ⟨Nat.le_of_ble_eq_true rfl, Nat.le_of_ble_eq_true rfl⟩) fa rfl rfl hl.1 rfl (Nat.le_of_ble_eq_true rfl) dX4_raise_10 ⟨Nat.le_of_ble_eq_true rfl, Nat.le_of_ble_eq_true rfl⟩) hS (fun r10 n' G' H locs hw hP hS => ?_)
  obtain ⟨rfl, rfl, rfl⟩ := hw
  refine lv_imul hx hb dX4_raise_13 ?_
  refine lv_iadd hx hb dX4_raise_14 ?_
  refine va_mmin hx hb (by rw [hml]; exact hl.1.symm) hown (hts (.methodLink RX4 29 Lib.Math.min.name) (by decide +kernel)) (hts (.static Lib.Math.min.name) (by decide +kernel)) (hts (.initialized "java/lang/Math") (by decide +kernel)) (hts (.code Lib.Math.min.name Lib.Math.min.code 2 (some .int)) (by decide +kernel)) (Nat.le_of_ble_eq_true rfl) (Nat.le_of_ble_eq_true rfl) (Nat.le_of_ble_eq_true rfl) (Nat.le_of_ble_eq_true rfl) dX4_raise_15 ?_
  refine g_put (ci := 4) (ty := .int) (v := .int (if (ht + (k * (groOf so))) < 3000 then (ht + (k * (groOf so))) else 3000)) hx hb hts hin4 tyX4 tyX4_ok nmX4 hown hK hP hS fa rfl 0 (by decide) hf9 rfl (Or.inl rfl) (by decide +kernel) rfl rfl (Nat.le_of_ble_eq_true rfl) dX4_raise_18 (fun H locs hP hS => ?_)
  have q1_a : (gup G a (.inr (4, [.int (if (ht + (k * (groOf so))) < 3000 then (ht + (k * (groOf so))) else 3000), .int so, .int lo, .int br, .int da]))) a = some (.inr (4, [.int (if (ht + (k * (groOf so))) < 3000 then (ht + (k * (groOf so))) else 3000), .int so, .int lo, .int br, .int da])) := gup_s
  have hP : gP E A n (gup G a (.inr (4, [.int (if (ht + (k * (groOf so))) < 3000 then (ht + (k * (groOf so))) else 3000), .int so, .int lo, .int br, .int da]))) H := hP
  refine lv_aload_n hx hb dX4_raise_21 rfl (lv_at hl 0 rfl) ?_
  refine lv_dup hx hb dX4_raise_22 rfl ?_
  refine g_get (ci := 4) hx hb hts hin4 hown hK hP q1_a rfl 4 (by decide) hf22 rfl rfl dX4_raise_23 ?_
  refine lv_iload_n hx hb dX4_raise_26 rfl (lv_at hl 1 rfl) ?_
  refine lv_iadd hx hb dX4_raise_27 ?_
  refine g_put (ci := 4) (ty := .int) (v := .int (da + k)) hx hb hts hin4 tyX4 tyX4_ok nmX4 hown hK hP hS q1_a rfl 4 (by decide) hf22 rfl (Or.inl rfl) (by decide +kernel) rfl rfl (Nat.le_of_ble_eq_true rfl) dX4_raise_28 (fun H locs hP hS => ?_)
  have q2_a : (gup (gup G a (.inr (4, [.int (if (ht + (k * (groOf so))) < 3000 then (ht + (k * (groOf so))) else 3000), .int so, .int lo, .int br, .int da]))) a (.inr (4, [.int (if (ht + (k * (groOf so))) < 3000 then (ht + (k * (groOf so))) else 3000), .int so, .int lo, .int br, .int (da + k)]))) a = some (.inr (4, [.int (if (ht + (k * (groOf so))) < 3000 then (ht + (k * (groOf so))) else 3000), .int so, .int lo, .int br, .int (da + k)])) := gup_s
  have hP : gP E A n (gup (gup G a (.inr (4, [.int (if (ht + (k * (groOf so))) < 3000 then (ht + (k * (groOf so))) else 3000), .int so, .int lo, .int br, .int da]))) a (.inr (4, [.int (if (ht + (k * (groOf so))) < 3000 then (ht + (k * (groOf so))) else 3000), .int so, .int lo, .int br, .int (da + k)]))) H := hP
  refine g_retv hx hb hr hlk hP hS dX4_raise_31 ?_
  exact ⟨rfl, by rw [gup_gup]; rfl⟩
set_option maxHeartbeats 1000000 in
set_option maxRecDepth 100000 in
theorem kX4_daysTo (l : Launch) (E : gT) (A : Nat → Prop) (n : Nat) (G : gH) (a : Nat) (ht so lo br da : Int32) (k : Int32) (fa : G a = some (.inr (4, [.int ht, .int so, .int lo, .int br, .int da]))) : gM l yX4_daysTo wsX4_daysTo ({ frames := 1, cells := 0, slots := 0, locals := 21 } : Room) E A n G [.ref a, .int k] (gQi E A (fun r' n' G' => (if ht < k then divUp (k - ht) (groOf so) else 0) = r' ∧ n = n' ∧ G = G')) 0 0 := by
  refine g_entry (by decide) rfl (Nat.le_of_ble_eq_true rfl) ?_
  intro p e s m below meth c0 hx hb hr hlk hml hown hnm hts hK H locs ls hP hS hl
  have hin4 : ∀ w ∈ u_ws RX4 TX4 5, w ∈ wsX4_daysTo := by decide +kernel
  have hf9 := hts (.fieldLink RX4 9 "DikeHands$Rod" "height" "I") (by decide +kernel)
  have hl : lv_has ls 2 [(0, .ref a), (1, .int k)] := hl
  refine lv_iload_n hx hb dX4_daysTo_0 rfl (lv_at hl 1 rfl) ?_
  refine lv_aload_n hx hb dX4_daysTo_1 rfl (lv_at hl 0 rfl) ?_
  refine g_get (ci := 4) hx hb hts hin4 hown hK hP fa rfl 0 (by decide) hf9 rfl rfl dX4_daysTo_2 ?_
  refine lv_icmp_gt (tgt := 12) hx hb dX4_daysTo_5 (by decide) (fun b5 => ?_) (fun b5 => ?_)
  · refine lv_iload_n hx hb dX4_daysTo_12 rfl (lv_at hl 1 rfl) ?_
    refine lv_aload_n hx hb dX4_daysTo_13 rfl (lv_at hl 0 rfl) ?_
    refine g_get (ci := 4) hx hb hts hin4 hown hK hP fa rfl 0 (by decide) hf9 rfl rfl dX4_daysTo_14 ?_
    refine lv_isub hx hb dX4_daysTo_17 ?_
    refine lv_aload_n hx hb dX4_daysTo_18 rfl (lv_at hl 0 rfl) ?_
    refine g_ci (g_runV (As := []) (rest := [.int (k - ht)]) ⟨hx, hb, hml, hown, hts⟩ hK hP (kX4_growthOfDay l E A n G a ht so lo br da  fa) (cwV 0 hts gX4_daysTo_X4_growthOfDay rfl rfl rfl (by decide +kernel) ⟨Nat.le_of_ble_eq_true rfl, Nat.le_of_ble_eq_true rfl⟩) fa rfl rfl hl.1 rfl (Nat.le_of_ble_eq_true rfl) dX4_daysTo_19 ⟨Nat.le_of_ble_eq_true rfl, Nat.le_of_ble_eq_true rfl⟩) hS (fun r19 n' G' H locs hw hP hS => ?_)
    obtain ⟨rfl, rfl, rfl⟩ := hw
    refine g_ci (g_runSN (As := [.int (k - ht), .int (groOf so)]) (rest := []) ⟨hx, hb, hml, hown, hts⟩ hK hP (kX8_dividedUp l E A n G (k - ht) (groOf so)) ⟨va_cnB 2 hts gX4_daysTo_X8_dividedUp_n35 rfl rfl rfl hK.2.2.2.2.2.2.1 (hts (.initialized RX8) (by decide +kernel)) (by decide +kernel) ⟨Nat.le_of_ble_eq_true rfl, Nat.le_of_ble_eq_true rfl⟩, hts (.static yX8_dividedUp) (by decide +kernel), trivial⟩ rfl hl.1 rfl (Nat.le_of_ble_eq_true rfl) dX4_daysTo_22 ⟨Nat.le_of_ble_eq_true rfl, Nat.le_of_ble_eq_true rfl⟩) hS (fun r22 n' G' H locs hw hP hS => ?_)
    obtain ⟨rfl, rfl, rfl⟩ := hw
    refine g_reti hx hb hr hlk hP hS dX4_daysTo_25 ?_
    exact ⟨by first | (simp [b5, Int32.not_le.mpr b5]; done) | (exfalso; simp_all; done), rfl, rfl⟩
  · refine lv_iconst (v := 0) hx hb dX4_daysTo_8 (by decide) ?_
    refine lv_goto (tgt := 25) hx hb dX4_daysTo_9 (by decide) ?_
    refine g_reti hx hb hr hlk hP hS dX4_daysTo_25 ?_
    exact ⟨by first | (simp [b5, Int32.not_lt.mp b5]; done) | (exfalso; simp_all; done), rfl, rfl⟩
set_option maxHeartbeats 1000000 in
set_option maxRecDepth 100000 in
theorem kX4_wear (l : Launch) (E : gT) (A : Nat → Prop) (n : Nat) (G : gH) (a : Nat) (ht so lo br da : Int32) (k : Int32) (fa : G a = some (.inr (4, [.int ht, .int so, .int lo, .int br, .int da]))) : gM l yX4_wear wsX4_wear ({ frames := 0, cells := 0, slots := 0, locals := 0 } : Room) E A n G [.ref a, .int k] (gQi E A (fun r' n' G' => (if k ≤ ht then 0 else lo) = r' ∧ n = n' ∧ (gup G a (if k ≤ ht then .inr (4, [.int (ht - k / 100), .int so, .int lo, .int br, .int da]) else .inr (4, [.int 0, .int so, .int lo, .int (br + 1), .int da]))) = G')) 0 0 := by
  refine g_entry (by decide) rfl (Nat.le_of_ble_eq_true rfl) ?_
  intro p e s m below meth c0 hx hb hr hlk hml hown hnm hts hK H locs ls hP hS hl
  have hin4 : ∀ w ∈ u_ws RX4 TX4 5, w ∈ wsX4_wear := by decide +kernel
  have hf9 := hts (.fieldLink RX4 9 "DikeHands$Rod" "height" "I") (by decide +kernel)
  have hf16 := hts (.fieldLink RX4 16 "DikeHands$Rod" "loss" "I") (by decide +kernel)
  have hf19 := hts (.fieldLink RX4 19 "DikeHands$Rod" "breaks" "I") (by decide +kernel)
  have hl : lv_has ls 2 [(0, .ref a), (1, .int k)] := hl
  refine lv_iload_n hx hb dX4_wear_0 rfl (lv_at hl 1 rfl) ?_
  refine lv_aload_n hx hb dX4_wear_1 rfl (lv_at hl 0 rfl) ?_
  refine g_get (ci := 4) hx hb hts hin4 hown hK hP fa rfl 0 (by decide) hf9 rfl rfl dX4_wear_2 ?_
  refine lv_icmp_le (tgt := 28) hx hb dX4_wear_5 (by decide) (fun b5 => ?_) (fun b5 => ?_)
  · refine lv_aload_n hx hb dX4_wear_28 rfl (lv_at hl 0 rfl) ?_
    refine lv_dup hx hb dX4_wear_29 rfl ?_
    refine g_get (ci := 4) hx hb hts hin4 hown hK hP fa rfl 0 (by decide) hf9 rfl rfl dX4_wear_30 ?_
    refine lv_iload_n hx hb dX4_wear_33 rfl (lv_at hl 1 rfl) ?_
    refine lv_bipush (v := 100) hx hb dX4_wear_34 (by decide) ?_
    refine lv_idiv hx hb dX4_wear_36 (by decide) ?_
    refine lv_isub hx hb dX4_wear_37 ?_
    refine g_put (ci := 4) (ty := .int) (v := .int (ht - (k / 100))) hx hb hts hin4 tyX4 tyX4_ok nmX4 hown hK hP hS fa rfl 0 (by decide) hf9 rfl (Or.inl rfl) (by decide +kernel) rfl rfl (Nat.le_of_ble_eq_true rfl) dX4_wear_38 (fun H locs hP hS => ?_)
    have q3_a : (gup G a (.inr (4, [.int (ht - (k / 100)), .int so, .int lo, .int br, .int da]))) a = some (.inr (4, [.int (ht - (k / 100)), .int so, .int lo, .int br, .int da])) := gup_s
    have hP : gP E A n (gup G a (.inr (4, [.int (ht - (k / 100)), .int so, .int lo, .int br, .int da]))) H := hP
    refine lv_iconst (v := 0) hx hb dX4_wear_41 (by decide) ?_
    refine g_reti hx hb hr hlk hP hS dX4_wear_42 ?_
    exact ⟨by first | (simp [b5, Int32.not_lt.mpr b5]; done) | (exfalso; simp_all; done), rfl, by first | (simp [gup_gup, b5, Int32.not_lt.mpr b5]; done) | (exfalso; simp_all; done)⟩
  · refine lv_aload_n hx hb dX4_wear_8 rfl (lv_at hl 0 rfl) ?_
    refine lv_iconst (v := 0) hx hb dX4_wear_9 (by decide) ?_
    refine g_put (ci := 4) (ty := .int) (v := .int 0) hx hb hts hin4 tyX4 tyX4_ok nmX4 hown hK hP hS fa rfl 0 (by decide) hf9 rfl (Or.inl rfl) (by decide +kernel) rfl rfl (Nat.le_of_ble_eq_true rfl) dX4_wear_10 (fun H locs hP hS => ?_)
    have q4_a : (gup G a (.inr (4, [.int 0, .int so, .int lo, .int br, .int da]))) a = some (.inr (4, [.int 0, .int so, .int lo, .int br, .int da])) := gup_s
    have hP : gP E A n (gup G a (.inr (4, [.int 0, .int so, .int lo, .int br, .int da]))) H := hP
    refine lv_aload_n hx hb dX4_wear_13 rfl (lv_at hl 0 rfl) ?_
    refine lv_dup hx hb dX4_wear_14 rfl ?_
    refine g_get (ci := 4) hx hb hts hin4 hown hK hP q4_a rfl 3 (by decide) hf19 rfl rfl dX4_wear_15 ?_
    refine lv_iconst (v := 1) hx hb dX4_wear_18 (by decide) ?_
    refine lv_iadd hx hb dX4_wear_19 ?_
    refine g_put (ci := 4) (ty := .int) (v := .int (br + 1)) hx hb hts hin4 tyX4 tyX4_ok nmX4 hown hK hP hS q4_a rfl 3 (by decide) hf19 rfl (Or.inl rfl) (by decide +kernel) rfl rfl (Nat.le_of_ble_eq_true rfl) dX4_wear_20 (fun H locs hP hS => ?_)
    have q5_a : (gup (gup G a (.inr (4, [.int 0, .int so, .int lo, .int br, .int da]))) a (.inr (4, [.int 0, .int so, .int lo, .int (br + 1), .int da]))) a = some (.inr (4, [.int 0, .int so, .int lo, .int (br + 1), .int da])) := gup_s
    have hP : gP E A n (gup (gup G a (.inr (4, [.int 0, .int so, .int lo, .int br, .int da]))) a (.inr (4, [.int 0, .int so, .int lo, .int (br + 1), .int da]))) H := hP
    refine lv_aload_n hx hb dX4_wear_23 rfl (lv_at hl 0 rfl) ?_
    refine g_get (ci := 4) hx hb hts hin4 hown hK hP q5_a rfl 2 (by decide) hf16 rfl rfl dX4_wear_24 ?_
    refine g_reti hx hb hr hlk hP hS dX4_wear_27 ?_
    exact ⟨by first | (simp [b5, Int32.not_le.mp b5]; done) | (exfalso; simp_all; done), rfl, by first | (simp [gup_gup, b5, Int32.not_le.mp b5]; done) | (exfalso; simp_all; done)⟩
set_option maxHeartbeats 1000000 in
set_option maxRecDepth 100000 in
theorem kX4_init (l : Launch) (E : gT) (A : Nat → Prop) (n : Nat) (G : gH) (a : Nat) (fa : G a = some (.inr (4, [.int 0, .int 0, .int 0, .int 0, .int 0]))) : gM l yX4_init wsX4_init ({ frames := 1, cells := 0, slots := 0, locals := 20 } : Room) E A n G [.ref a] (gQv E A (fun n' G' => n = n' ∧ (gup G a (.inr (4, [.int 1000, .int 0, .int 0, .int 0, .int 0]))) = G')) 0 0 := by
  refine g_entry (by decide) rfl (Nat.le_of_ble_eq_true rfl) ?_
  intro p e s m below meth c0 hx hb hr hlk hml hown hnm hts hK H locs ls hP hS hl
  have hin4 : ∀ w ∈ u_ws RX4 TX4 5, w ∈ wsX4_init := by decide +kernel
  have hf9 := hts (.fieldLink RX4 9 "DikeHands$Rod" "height" "I") (by decide +kernel)
  have hf13 := hts (.fieldLink RX4 13 "DikeHands$Rod" "soil" "I") (by decide +kernel)
  have hf16 := hts (.fieldLink RX4 16 "DikeHands$Rod" "loss" "I") (by decide +kernel)
  have hf19 := hts (.fieldLink RX4 19 "DikeHands$Rod" "breaks" "I") (by decide +kernel)
  have hf22 := hts (.fieldLink RX4 22 "DikeHands$Rod" "days" "I") (by decide +kernel)
  have hl : lv_has ls 1 [(0, .ref a)] := hl
  refine lv_aload_n hx hb dX4_init_0 rfl (lv_at hl 0 rfl) ?_
  refine W.objInit hx hb hown (hts (.methodLink RX4 1 objectInit) (by decide +kernel)) (hts (.instanceMethod objectInit) (by decide +kernel)) (hts (.code objectInit ⟨#[0xb1]⟩ 1 none) (by decide +kernel)) rfl (by rw [hml]; exact hl.1) rfl dX4_init_1 (Nat.le_of_ble_eq_true rfl) (Nat.le_of_ble_eq_true rfl) ?_
  refine W.eq (g2 := F0 m 4 ls []) rfl ?_
  refine lv_aload_n hx hb dX4_init_4 rfl (lv_at hl 0 rfl) ?_
  refine lv_sipush (v := 1000) hx hb dX4_init_5 (by decide) ?_
  refine g_put (ci := 4) (ty := .int) (v := .int 1000) hx hb hts hin4 tyX4 tyX4_ok nmX4 hown hK hP hS fa rfl 0 (by decide) hf9 rfl (Or.inl rfl) (by decide +kernel) rfl rfl (Nat.le_of_ble_eq_true rfl) dX4_init_8 (fun H locs hP hS => ?_)
  have q6_a : (gup G a (.inr (4, [.int 1000, .int 0, .int 0, .int 0, .int 0]))) a = some (.inr (4, [.int 1000, .int 0, .int 0, .int 0, .int 0])) := gup_s
  have hP : gP E A n (gup G a (.inr (4, [.int 1000, .int 0, .int 0, .int 0, .int 0]))) H := hP
  refine lv_aload_n hx hb dX4_init_11 rfl (lv_at hl 0 rfl) ?_
  refine lv_iconst (v := 0) hx hb dX4_init_12 (by decide) ?_
  refine g_put (ci := 4) (ty := .int) (v := .int 0) hx hb hts hin4 tyX4 tyX4_ok nmX4 hown hK hP hS q6_a rfl 1 (by decide) hf13 rfl (Or.inl rfl) (by decide +kernel) rfl rfl (Nat.le_of_ble_eq_true rfl) dX4_init_13 (fun H locs hP hS => ?_)
  have q7_a : (gup (gup G a (.inr (4, [.int 1000, .int 0, .int 0, .int 0, .int 0]))) a (.inr (4, [.int 1000, .int 0, .int 0, .int 0, .int 0]))) a = some (.inr (4, [.int 1000, .int 0, .int 0, .int 0, .int 0])) := gup_s
  have hP : gP E A n (gup (gup G a (.inr (4, [.int 1000, .int 0, .int 0, .int 0, .int 0]))) a (.inr (4, [.int 1000, .int 0, .int 0, .int 0, .int 0]))) H := hP
  refine lv_aload_n hx hb dX4_init_16 rfl (lv_at hl 0 rfl) ?_
  refine lv_iconst (v := 0) hx hb dX4_init_17 (by decide) ?_
  refine g_put (ci := 4) (ty := .int) (v := .int 0) hx hb hts hin4 tyX4 tyX4_ok nmX4 hown hK hP hS q7_a rfl 2 (by decide) hf16 rfl (Or.inl rfl) (by decide +kernel) rfl rfl (Nat.le_of_ble_eq_true rfl) dX4_init_18 (fun H locs hP hS => ?_)
  have q8_a : (gup (gup (gup G a (.inr (4, [.int 1000, .int 0, .int 0, .int 0, .int 0]))) a (.inr (4, [.int 1000, .int 0, .int 0, .int 0, .int 0]))) a (.inr (4, [.int 1000, .int 0, .int 0, .int 0, .int 0]))) a = some (.inr (4, [.int 1000, .int 0, .int 0, .int 0, .int 0])) := gup_s
  have hP : gP E A n (gup (gup (gup G a (.inr (4, [.int 1000, .int 0, .int 0, .int 0, .int 0]))) a (.inr (4, [.int 1000, .int 0, .int 0, .int 0, .int 0]))) a (.inr (4, [.int 1000, .int 0, .int 0, .int 0, .int 0]))) H := hP
  refine lv_aload_n hx hb dX4_init_21 rfl (lv_at hl 0 rfl) ?_
  refine lv_iconst (v := 0) hx hb dX4_init_22 (by decide) ?_
  refine g_put (ci := 4) (ty := .int) (v := .int 0) hx hb hts hin4 tyX4 tyX4_ok nmX4 hown hK hP hS q8_a rfl 3 (by decide) hf19 rfl (Or.inl rfl) (by decide +kernel) rfl rfl (Nat.le_of_ble_eq_true rfl) dX4_init_23 (fun H locs hP hS => ?_)
  have q9_a : (gup (gup (gup (gup G a (.inr (4, [.int 1000, .int 0, .int 0, .int 0, .int 0]))) a (.inr (4, [.int 1000, .int 0, .int 0, .int 0, .int 0]))) a (.inr (4, [.int 1000, .int 0, .int 0, .int 0, .int 0]))) a (.inr (4, [.int 1000, .int 0, .int 0, .int 0, .int 0]))) a = some (.inr (4, [.int 1000, .int 0, .int 0, .int 0, .int 0])) := gup_s
  have hP : gP E A n (gup (gup (gup (gup G a (.inr (4, [.int 1000, .int 0, .int 0, .int 0, .int 0]))) a (.inr (4, [.int 1000, .int 0, .int 0, .int 0, .int 0]))) a (.inr (4, [.int 1000, .int 0, .int 0, .int 0, .int 0]))) a (.inr (4, [.int 1000, .int 0, .int 0, .int 0, .int 0]))) H := hP
  refine lv_aload_n hx hb dX4_init_26 rfl (lv_at hl 0 rfl) ?_
  refine lv_iconst (v := 0) hx hb dX4_init_27 (by decide) ?_
  refine g_put (ci := 4) (ty := .int) (v := .int 0) hx hb hts hin4 tyX4 tyX4_ok nmX4 hown hK hP hS q9_a rfl 4 (by decide) hf22 rfl (Or.inl rfl) (by decide +kernel) rfl rfl (Nat.le_of_ble_eq_true rfl) dX4_init_28 (fun H locs hP hS => ?_)
  have q10_a : (gup (gup (gup (gup (gup G a (.inr (4, [.int 1000, .int 0, .int 0, .int 0, .int 0]))) a (.inr (4, [.int 1000, .int 0, .int 0, .int 0, .int 0]))) a (.inr (4, [.int 1000, .int 0, .int 0, .int 0, .int 0]))) a (.inr (4, [.int 1000, .int 0, .int 0, .int 0, .int 0]))) a (.inr (4, [.int 1000, .int 0, .int 0, .int 0, .int 0]))) a = some (.inr (4, [.int 1000, .int 0, .int 0, .int 0, .int 0])) := gup_s
  have hP : gP E A n (gup (gup (gup (gup (gup G a (.inr (4, [.int 1000, .int 0, .int 0, .int 0, .int 0]))) a (.inr (4, [.int 1000, .int 0, .int 0, .int 0, .int 0]))) a (.inr (4, [.int 1000, .int 0, .int 0, .int 0, .int 0]))) a (.inr (4, [.int 1000, .int 0, .int 0, .int 0, .int 0]))) a (.inr (4, [.int 1000, .int 0, .int 0, .int 0, .int 0]))) H := hP
  refine g_retv hx hb hr hlk hP hS dX4_init_31 ?_
  exact ⟨rfl, by simp only [gup_gup]⟩
set_option maxHeartbeats 1000000 in
set_option maxRecDepth 100000 in
theorem kX6_init (l : Launch) (E : gT) (A : Nat → Prop) (n : Nat) (G : gH) (a : Nat) (fa : G a = some (.inr (6, [.int 0, .null, .null]))) : gM l yX6_init wsX6_init ({ frames := 1, cells := 0, slots := 0, locals := 20 } : Room) E A n G [.ref a] (gQv E A (fun n' G' => n = n' ∧ (gup G a (.inr (6, [.int 0, .null, .null]))) = G')) 0 0 := by
  refine g_entry (by decide) rfl (Nat.le_of_ble_eq_true rfl) ?_
  intro p e s m below meth c0 hx hb hr hlk hml hown hnm hts hK H locs ls hP hS hl
  have hin6 : ∀ w ∈ u_ws RX6 TX6 3, w ∈ wsX6_init := by decide +kernel
  have hf7 := hts (.fieldLink RX6 7 "DikeHands$Village" "mile" "I") (by decide +kernel)
  have hl : lv_has ls 1 [(0, .ref a)] := hl
  refine lv_aload_n hx hb dX6_init_0 rfl (lv_at hl 0 rfl) ?_
  refine W.objInit hx hb hown (hts (.methodLink RX6 1 objectInit) (by decide +kernel)) (hts (.instanceMethod objectInit) (by decide +kernel)) (hts (.code objectInit ⟨#[0xb1]⟩ 1 none) (by decide +kernel)) rfl (by rw [hml]; exact hl.1) rfl dX6_init_1 (Nat.le_of_ble_eq_true rfl) (Nat.le_of_ble_eq_true rfl) ?_
  refine W.eq (g2 := F0 m 4 ls []) rfl ?_
  refine lv_aload_n hx hb dX6_init_4 rfl (lv_at hl 0 rfl) ?_
  refine lv_iconst (v := 0) hx hb dX6_init_5 (by decide) ?_
  refine g_put (ci := 6) (ty := .int) (v := .int 0) hx hb hts hin6 tyX6 tyX6_ok nmX6 hown hK hP hS fa rfl 0 (by decide) hf7 rfl (Or.inl rfl) (by decide +kernel) rfl rfl (Nat.le_of_ble_eq_true rfl) dX6_init_6 (fun H locs hP hS => ?_)
  have q11_a : (gup G a (.inr (6, [.int 0, .null, .null]))) a = some (.inr (6, [.int 0, .null, .null])) := gup_s
  have hP : gP E A n (gup G a (.inr (6, [.int 0, .null, .null]))) H := hP
  refine g_retv hx hb hr hlk hP hS dX6_init_9 ?_
  exact ⟨rfl, rfl⟩
set_option maxHeartbeats 1000000 in
set_option maxRecDepth 100000 in
theorem kX7_init (l : Launch) (E : gT) (A : Nat → Prop) (n : Nat) (G : gH) (a : Nat) (k : Int32) (fa : G a = some (.inr (7, [.int 0, .int 0, .null]))) : gM l yX7_init wsX7_init ({ frames := 1, cells := 0, slots := 0, locals := 20 } : Room) E A n G [.ref a, .int k] (gQv E A (fun n' G' => n = n' ∧ (gup G a (.inr (7, [.int k, .int 0, .null]))) = G')) 0 0 := by
  refine g_entry (by decide) rfl (Nat.le_of_ble_eq_true rfl) ?_
  intro p e s m below meth c0 hx hb hr hlk hml hown hnm hts hK H locs ls hP hS hl
  have hin7 : ∀ w ∈ u_ws RX7 TX7 3, w ∈ wsX7_init := by decide +kernel
  have hf7 := hts (.fieldLink RX7 7 "DikeHands$WorkWeek" "week" "I") (by decide +kernel)
  have hl : lv_has ls 2 [(0, .ref a), (1, .int k)] := hl
  refine lv_aload_n hx hb dX7_init_0 rfl (lv_at hl 0 rfl) ?_
  refine W.objInit hx hb hown (hts (.methodLink RX7 1 objectInit) (by decide +kernel)) (hts (.instanceMethod objectInit) (by decide +kernel)) (hts (.code objectInit ⟨#[0xb1]⟩ 1 none) (by decide +kernel)) rfl (by rw [hml]; exact hl.1) rfl dX7_init_1 (Nat.le_of_ble_eq_true rfl) (Nat.le_of_ble_eq_true rfl) ?_
  refine W.eq (g2 := F0 m 4 ls []) rfl ?_
  refine lv_aload_n hx hb dX7_init_4 rfl (lv_at hl 0 rfl) ?_
  refine lv_iload_n hx hb dX7_init_5 rfl (lv_at hl 1 rfl) ?_
  refine g_put (ci := 7) (ty := .int) (v := .int k) hx hb hts hin7 tyX7 tyX7_ok nmX7 hown hK hP hS fa rfl 0 (by decide) hf7 rfl (Or.inr ⟨rfl, hnm, rfl⟩) (by decide +kernel) rfl rfl (Nat.le_of_ble_eq_true rfl) dX7_init_6 (fun H locs hP hS => ?_)
  have q12_a : (gup G a (.inr (7, [.int k, .int 0, .null]))) a = some (.inr (7, [.int k, .int 0, .null])) := gup_s
  have hP : gP E A n (gup G a (.inr (7, [.int k, .int 0, .null]))) H := hP
  refine g_retv hx hb hr hlk hP hS dX7_init_9 ?_
  exact ⟨rfl, rfl⟩
set_option maxHeartbeats 1000000 in
set_option maxRecDepth 100000 in
theorem kX5_init (l : Launch) (E : gT) (A : Nat → Prop) (n : Nat) (G : gH) (a : Nat) (x y z w : Int32) (r : Option Nat) (fa : G a = some (.inr (5, [.int 0, .int 0, .int 0, .int 0, .null]))) : gM l yX5_init wsX5_init ({ frames := 1, cells := 0, slots := 0, locals := 20 } : Room) E A n G [.ref a, .int x, .int y, .int z, .int w, va_rf r] (gQv E A (fun n' G' => n = n' ∧ (gup G a (.inr (5, [.int x, .int y, .int z, .int w, va_rf r]))) = G')) 0 0 := by
  refine g_entry (by decide) rfl (by cases r <;> exact Nat.le_of_ble_eq_true rfl) ?_
  intro p e s m below meth c0 hx hb hr hlk hml hown hnm hts hK H locs ls hP hS hl
  have hin5 : ∀ w ∈ u_ws RX5 TX5 5, w ∈ wsX5_init := by decide +kernel
  have hf7 := hts (.fieldLink RX5 7 "DikeHands$Telling" "told" "I") (by decide +kernel)
  have hf13 := hts (.fieldLink RX5 13 "DikeHands$Telling" "from" "I") (by decide +kernel)
  have hf16 := hts (.fieldLink RX5 16 "DikeHands$Telling" "acres" "I") (by decide +kernel)
  have hf19 := hts (.fieldLink RX5 19 "DikeHands$Telling" "hands" "I") (by decide +kernel)
  have hf22 := hts (.fieldLink RX5 22 "DikeHands$Telling" "earlier" "LDikeHands$Telling;") (by decide +kernel)
  have hl : lv_has ls 6 [(0, .ref a), (1, .int x), (2, .int y), (3, .int z), (4, .int w), (5, va_rf r)] := hl
  refine lv_aload_n hx hb dX5_init_0 rfl (lv_at hl 0 rfl) ?_
  refine W.objInit hx hb hown (hts (.methodLink RX5 1 objectInit) (by decide +kernel)) (hts (.instanceMethod objectInit) (by decide +kernel)) (hts (.code objectInit ⟨#[0xb1]⟩ 1 none) (by decide +kernel)) rfl (by rw [hml]; exact hl.1) rfl dX5_init_1 (Nat.le_of_ble_eq_true rfl) (Nat.le_of_ble_eq_true rfl) ?_
  refine W.eq (g2 := F0 m 4 ls []) rfl ?_
  refine lv_aload_n hx hb dX5_init_4 rfl (lv_at hl 0 rfl) ?_
  refine lv_iload_n hx hb dX5_init_5 rfl (lv_at hl 1 rfl) ?_
  refine g_put (ci := 5) (ty := .int) (v := .int x) hx hb hts hin5 tyX5 tyX5_ok nmX5 hown hK hP hS fa rfl 0 (by decide) hf7 rfl (Or.inr ⟨rfl, hnm, rfl⟩) (by decide +kernel) rfl rfl (Nat.le_of_ble_eq_true rfl) dX5_init_6 (fun H locs hP hS => ?_)
  have q13_a : (gup G a (.inr (5, [.int x, .int 0, .int 0, .int 0, .null]))) a = some (.inr (5, [.int x, .int 0, .int 0, .int 0, .null])) := gup_s
  have hP : gP E A n (gup G a (.inr (5, [.int x, .int 0, .int 0, .int 0, .null]))) H := hP
  refine lv_aload_n hx hb dX5_init_9 rfl (lv_at hl 0 rfl) ?_
  refine lv_iload_n hx hb dX5_init_10 rfl (lv_at hl 2 rfl) ?_
  refine g_put (ci := 5) (ty := .int) (v := .int y) hx hb hts hin5 tyX5 tyX5_ok nmX5 hown hK hP hS q13_a rfl 1 (by decide) hf13 rfl (Or.inr ⟨rfl, hnm, rfl⟩) (by decide +kernel) rfl rfl (Nat.le_of_ble_eq_true rfl) dX5_init_11 (fun H locs hP hS => ?_)
  have q14_a : (gup (gup G a (.inr (5, [.int x, .int 0, .int 0, .int 0, .null]))) a (.inr (5, [.int x, .int y, .int 0, .int 0, .null]))) a = some (.inr (5, [.int x, .int y, .int 0, .int 0, .null])) := gup_s
  have hP : gP E A n (gup (gup G a (.inr (5, [.int x, .int 0, .int 0, .int 0, .null]))) a (.inr (5, [.int x, .int y, .int 0, .int 0, .null]))) H := hP
  refine lv_aload_n hx hb dX5_init_14 rfl (lv_at hl 0 rfl) ?_
  refine lv_iload_n hx hb dX5_init_15 rfl (lv_at hl 3 rfl) ?_
  refine g_put (ci := 5) (ty := .int) (v := .int z) hx hb hts hin5 tyX5 tyX5_ok nmX5 hown hK hP hS q14_a rfl 2 (by decide) hf16 rfl (Or.inr ⟨rfl, hnm, rfl⟩) (by decide +kernel) rfl rfl (Nat.le_of_ble_eq_true rfl) dX5_init_16 (fun H locs hP hS => ?_)
  have q15_a : (gup (gup (gup G a (.inr (5, [.int x, .int 0, .int 0, .int 0, .null]))) a (.inr (5, [.int x, .int y, .int 0, .int 0, .null]))) a (.inr (5, [.int x, .int y, .int z, .int 0, .null]))) a = some (.inr (5, [.int x, .int y, .int z, .int 0, .null])) := gup_s
  have hP : gP E A n (gup (gup (gup G a (.inr (5, [.int x, .int 0, .int 0, .int 0, .null]))) a (.inr (5, [.int x, .int y, .int 0, .int 0, .null]))) a (.inr (5, [.int x, .int y, .int z, .int 0, .null]))) H := hP
  refine lv_aload_n hx hb dX5_init_19 rfl (lv_at hl 0 rfl) ?_
  refine lv_iload hx hb dX5_init_20 (lv_at hl 4 rfl) ?_
  refine g_put (ci := 5) (ty := .int) (v := .int w) hx hb hts hin5 tyX5 tyX5_ok nmX5 hown hK hP hS q15_a rfl 3 (by decide) hf19 rfl (Or.inr ⟨rfl, hnm, rfl⟩) (by decide +kernel) rfl rfl (Nat.le_of_ble_eq_true rfl) dX5_init_22 (fun H locs hP hS => ?_)
  have q16_a : (gup (gup (gup (gup G a (.inr (5, [.int x, .int 0, .int 0, .int 0, .null]))) a (.inr (5, [.int x, .int y, .int 0, .int 0, .null]))) a (.inr (5, [.int x, .int y, .int z, .int 0, .null]))) a (.inr (5, [.int x, .int y, .int z, .int w, .null]))) a = some (.inr (5, [.int x, .int y, .int z, .int w, .null])) := gup_s
  have hP : gP E A n (gup (gup (gup (gup G a (.inr (5, [.int x, .int 0, .int 0, .int 0, .null]))) a (.inr (5, [.int x, .int y, .int 0, .int 0, .null]))) a (.inr (5, [.int x, .int y, .int z, .int 0, .null]))) a (.inr (5, [.int x, .int y, .int z, .int w, .null]))) H := hP
  refine lv_aload_n hx hb dX5_init_25 rfl (lv_at hl 0 rfl) ?_
  refine lv_aloadQ hx hb dX5_init_26 (lv_at hl 5 rfl) ?_
  refine g_put (ci := 5) (ty := (.object "DikeHands$Telling")) (v := va_rf r) hx hb hts hin5 tyX5 tyX5_ok nmX5 hown hK hP hS q16_a rfl 4 (by decide) hf22 rfl (Or.inr ⟨rfl, hnm, rfl⟩) (by decide +kernel) (nar_q _ _) (fit_q _ _) (Nat.le_of_ble_eq_true rfl) dX5_init_28 (fun H locs hP hS => ?_)
  have q17_a : (gup (gup (gup (gup (gup G a (.inr (5, [.int x, .int 0, .int 0, .int 0, .null]))) a (.inr (5, [.int x, .int y, .int 0, .int 0, .null]))) a (.inr (5, [.int x, .int y, .int z, .int 0, .null]))) a (.inr (5, [.int x, .int y, .int z, .int w, .null]))) a (.inr (5, [.int x, .int y, .int z, .int w, va_rf r]))) a = some (.inr (5, [.int x, .int y, .int z, .int w, va_rf r])) := gup_s
  have hP : gP E A n (gup (gup (gup (gup (gup G a (.inr (5, [.int x, .int 0, .int 0, .int 0, .null]))) a (.inr (5, [.int x, .int y, .int 0, .int 0, .null]))) a (.inr (5, [.int x, .int y, .int z, .int 0, .null]))) a (.inr (5, [.int x, .int y, .int z, .int w, .null]))) a (.inr (5, [.int x, .int y, .int z, .int w, va_rf r]))) H := hP
  refine g_retv hx hb hr hlk hP hS dX5_init_31 ?_
  exact ⟨rfl, by simp only [gup_gup]⟩
set_option maxHeartbeats 1000000 in
set_option maxRecDepth 100000 in
theorem kX1_init (l : Launch) (E : gT) (A : Nat → Prop) (n : Nat) (G : gH) (a : Nat) (y w k : Int32) (fa : G a = some (.inr (1, [.int 0, .int 0, .int 0, .int 0, .int 0]))) : gM l yX1_init wsX1_init ({ frames := 1, cells := 0, slots := 0, locals := 20 } : Room) E A n G [.ref a, .int y, .int w, .int k] (gQv E A (fun n' G' => n = n' ∧ (gup G a (.inr (1, [.int y, .int (w / 10000), .int (rem32 w 10000 / 1000), .int (rem32 w 1000), .int k]))) = G')) 0 0 := by
  refine g_entry (by decide) rfl (Nat.le_of_ble_eq_true rfl) ?_
  intro p e s m below meth c0 hx hb hr hlk hml hown hnm hts hK H locs ls hP hS hl
  have hin1 : ∀ w ∈ u_ws RX1 TX1 5, w ∈ wsX1_init := by decide +kernel
  have hf9 := hts (.fieldLink RX1 9 "DikeHands$Law" "year" "I") (by decide +kernel)
  have hf15 := hts (.fieldLink RX1 15 "DikeHands$Law" "daysForTenAcres" "I") (by decide +kernel)
  have hf18 := hts (.fieldLink RX1 18 "DikeHands$Law" "daysForHand" "I") (by decide +kernel)
  have hf21 := hts (.fieldLink RX1 21 "DikeHands$Law" "exempt" "I") (by decide +kernel)
  have hf24 := hts (.fieldLink RX1 24 "DikeHands$Law" "coin" "I") (by decide +kernel)
  have hl : lv_has ls 4 [(0, .ref a), (1, .int y), (2, .int w), (3, .int k)] := hl
  refine lv_aload_n hx hb dX1_init_0 rfl (lv_at hl 0 rfl) ?_
  refine W.objInit hx hb hown (hts (.methodLink RX1 3 objectInit) (by decide +kernel)) (hts (.instanceMethod objectInit) (by decide +kernel)) (hts (.code objectInit ⟨#[0xb1]⟩ 1 none) (by decide +kernel)) rfl (by rw [hml]; exact hl.1) rfl dX1_init_1 (Nat.le_of_ble_eq_true rfl) (Nat.le_of_ble_eq_true rfl) ?_
  refine W.eq (g2 := F0 m 4 ls []) rfl ?_
  refine lv_aload_n hx hb dX1_init_4 rfl (lv_at hl 0 rfl) ?_
  refine lv_iload_n hx hb dX1_init_5 rfl (lv_at hl 1 rfl) ?_
  refine g_put (ci := 1) (ty := .int) (v := .int y) hx hb hts hin1 tyX1 tyX1_ok nmX1 hown hK hP hS fa rfl 0 (by decide) hf9 rfl (Or.inr ⟨rfl, hnm, rfl⟩) (by decide +kernel) rfl rfl (Nat.le_of_ble_eq_true rfl) dX1_init_6 (fun H locs hP hS => ?_)
  have q18_a : (gup G a (.inr (1, [.int y, .int 0, .int 0, .int 0, .int 0]))) a = some (.inr (1, [.int y, .int 0, .int 0, .int 0, .int 0])) := gup_s
  have hP : gP E A n (gup G a (.inr (1, [.int y, .int 0, .int 0, .int 0, .int 0]))) H := hP
  refine lv_aload_n hx hb dX1_init_9 rfl (lv_at hl 0 rfl) ?_
  refine lv_iload_n hx hb dX1_init_10 rfl (lv_at hl 2 rfl) ?_
  refine lv_sipush (v := 10000) hx hb dX1_init_11 (by decide) ?_
  refine lv_idiv hx hb dX1_init_14 (by decide) ?_
  refine g_put (ci := 1) (ty := .int) (v := .int (w / 10000)) hx hb hts hin1 tyX1 tyX1_ok nmX1 hown hK hP hS q18_a rfl 1 (by decide) hf15 rfl (Or.inr ⟨rfl, hnm, rfl⟩) (by decide +kernel) rfl rfl (Nat.le_of_ble_eq_true rfl) dX1_init_15 (fun H locs hP hS => ?_)
  have q19_a : (gup (gup G a (.inr (1, [.int y, .int 0, .int 0, .int 0, .int 0]))) a (.inr (1, [.int y, .int (w / 10000), .int 0, .int 0, .int 0]))) a = some (.inr (1, [.int y, .int (w / 10000), .int 0, .int 0, .int 0])) := gup_s
  have hP : gP E A n (gup (gup G a (.inr (1, [.int y, .int 0, .int 0, .int 0, .int 0]))) a (.inr (1, [.int y, .int (w / 10000), .int 0, .int 0, .int 0]))) H := hP
  refine lv_aload_n hx hb dX1_init_18 rfl (lv_at hl 0 rfl) ?_
  refine lv_iload_n hx hb dX1_init_19 rfl (lv_at hl 2 rfl) ?_
  refine lv_sipush (v := 10000) hx hb dX1_init_20 (by decide) ?_
  refine lv_irem hx hb dX1_init_23 (by decide) ?_
  refine lv_sipush (v := 1000) hx hb dX1_init_24 (by decide) ?_
  refine lv_idiv hx hb dX1_init_27 (by decide) ?_
  refine g_put (ci := 1) (ty := .int) (v := .int ((w - w / 10000 * 10000) / 1000)) hx hb hts hin1 tyX1 tyX1_ok nmX1 hown hK hP hS q19_a rfl 2 (by decide) hf18 rfl (Or.inr ⟨rfl, hnm, rfl⟩) (by decide +kernel) rfl rfl (Nat.le_of_ble_eq_true rfl) dX1_init_28 (fun H locs hP hS => ?_)
  have q20_a : (gup (gup (gup G a (.inr (1, [.int y, .int 0, .int 0, .int 0, .int 0]))) a (.inr (1, [.int y, .int (w / 10000), .int 0, .int 0, .int 0]))) a (.inr (1, [.int y, .int (w / 10000), .int ((w - w / 10000 * 10000) / 1000), .int 0, .int 0]))) a = some (.inr (1, [.int y, .int (w / 10000), .int ((w - w / 10000 * 10000) / 1000), .int 0, .int 0])) := gup_s
  have hP : gP E A n (gup (gup (gup G a (.inr (1, [.int y, .int 0, .int 0, .int 0, .int 0]))) a (.inr (1, [.int y, .int (w / 10000), .int 0, .int 0, .int 0]))) a (.inr (1, [.int y, .int (w / 10000), .int ((w - w / 10000 * 10000) / 1000), .int 0, .int 0]))) H := hP
  refine lv_aload_n hx hb dX1_init_31 rfl (lv_at hl 0 rfl) ?_
  refine lv_iload_n hx hb dX1_init_32 rfl (lv_at hl 2 rfl) ?_
  refine lv_sipush (v := 1000) hx hb dX1_init_33 (by decide) ?_
  refine lv_irem hx hb dX1_init_36 (by decide) ?_
  refine g_put (ci := 1) (ty := .int) (v := .int (w - w / 1000 * 1000)) hx hb hts hin1 tyX1 tyX1_ok nmX1 hown hK hP hS q20_a rfl 3 (by decide) hf21 rfl (Or.inr ⟨rfl, hnm, rfl⟩) (by decide +kernel) rfl rfl (Nat.le_of_ble_eq_true rfl) dX1_init_37 (fun H locs hP hS => ?_)
  have q21_a : (gup (gup (gup (gup G a (.inr (1, [.int y, .int 0, .int 0, .int 0, .int 0]))) a (.inr (1, [.int y, .int (w / 10000), .int 0, .int 0, .int 0]))) a (.inr (1, [.int y, .int (w / 10000), .int ((w - w / 10000 * 10000) / 1000), .int 0, .int 0]))) a (.inr (1, [.int y, .int (w / 10000), .int ((w - w / 10000 * 10000) / 1000), .int (w - w / 1000 * 1000), .int 0]))) a = some (.inr (1, [.int y, .int (w / 10000), .int ((w - w / 10000 * 10000) / 1000), .int (w - w / 1000 * 1000), .int 0])) := gup_s
  have hP : gP E A n (gup (gup (gup (gup G a (.inr (1, [.int y, .int 0, .int 0, .int 0, .int 0]))) a (.inr (1, [.int y, .int (w / 10000), .int 0, .int 0, .int 0]))) a (.inr (1, [.int y, .int (w / 10000), .int ((w - w / 10000 * 10000) / 1000), .int 0, .int 0]))) a (.inr (1, [.int y, .int (w / 10000), .int ((w - w / 10000 * 10000) / 1000), .int (w - w / 1000 * 1000), .int 0]))) H := hP
  refine lv_aload_n hx hb dX1_init_40 rfl (lv_at hl 0 rfl) ?_
  refine lv_iload_n hx hb dX1_init_41 rfl (lv_at hl 3 rfl) ?_
  refine g_put (ci := 1) (ty := .int) (v := .int k) hx hb hts hin1 tyX1 tyX1_ok nmX1 hown hK hP hS q21_a rfl 4 (by decide) hf24 rfl (Or.inr ⟨rfl, hnm, rfl⟩) (by decide +kernel) rfl rfl (Nat.le_of_ble_eq_true rfl) dX1_init_42 (fun H locs hP hS => ?_)
  have q22_a : (gup (gup (gup (gup (gup G a (.inr (1, [.int y, .int 0, .int 0, .int 0, .int 0]))) a (.inr (1, [.int y, .int (w / 10000), .int 0, .int 0, .int 0]))) a (.inr (1, [.int y, .int (w / 10000), .int ((w - w / 10000 * 10000) / 1000), .int 0, .int 0]))) a (.inr (1, [.int y, .int (w / 10000), .int ((w - w / 10000 * 10000) / 1000), .int (w - w / 1000 * 1000), .int 0]))) a (.inr (1, [.int y, .int (w / 10000), .int ((w - w / 10000 * 10000) / 1000), .int (w - w / 1000 * 1000), .int k]))) a = some (.inr (1, [.int y, .int (w / 10000), .int ((w - w / 10000 * 10000) / 1000), .int (w - w / 1000 * 1000), .int k])) := gup_s
  have hP : gP E A n (gup (gup (gup (gup (gup G a (.inr (1, [.int y, .int 0, .int 0, .int 0, .int 0]))) a (.inr (1, [.int y, .int (w / 10000), .int 0, .int 0, .int 0]))) a (.inr (1, [.int y, .int (w / 10000), .int ((w - w / 10000 * 10000) / 1000), .int 0, .int 0]))) a (.inr (1, [.int y, .int (w / 10000), .int ((w - w / 10000 * 10000) / 1000), .int (w - w / 1000 * 1000), .int 0]))) a (.inr (1, [.int y, .int (w / 10000), .int ((w - w / 10000 * 10000) / 1000), .int (w - w / 1000 * 1000), .int k]))) H := hP
  refine g_retv hx hb hr hlk hP hS dX1_init_45 ?_
  exact ⟨rfl, by simp only [gup_gup]; rfl⟩
