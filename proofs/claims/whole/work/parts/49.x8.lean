theorem nI_ne {a b : Nat} (ha : a < 2 ^ 31) (hb : b < 2 ^ 31) (h : a ≠ b) : nI a ≠ nI b := fun q => h ((nI_eq ha hb).mp q)

set_option maxHeartbeats 2000000 in
set_option maxRecDepth 100000 in
theorem kX8_change (l : Launch) (E : gT) (A : Nat → Prop) (n : Nat) (G : gH) (x : Nat) (c : Nat → Int32) (S : Nat → Nat → Int32) (Y : gL) (h wq a b : Int32) (hs : Sim E G x c S Y) (hp : pI c S) (hA : ∀ q, n ≤ q → A q)  : gM l yX8_change wsX8_change ({ frames := 3, cells := 1, slots := 5, locals := 69 } : Room) E A n G [.ref x, .int h, .int wq, .int a, .int b] (gQi E A (fun r' n' G' => (gb (chgB c S h wq a b)) = r' ∧ n ≤ n' ∧ ∃ Y', Sim E G' x (chgC c S h wq a b) (chgS c S h wq a b) Y')) 1 5 := by
  refine g_entry (by decide) rfl (Nat.le_of_ble_eq_true rfl) ?_
  intro p e s m below meth c0 hx hb hr hlk hml hown hnm hts hK H locs ls hP hS hl
  have hin0 : ∀ wq ∈ u_ws RX0 TX0 8, wq ∈ wsX8_change := by decide +kernel
  have hin8 : ∀ wq ∈ u_ws RX8 TX8 14, wq ∈ wsX8_change := by decide +kernel
  have hf23 := hts (.fieldLink RX8 23 "DikeHands" "houses" "[LDikeHands$House;") (by decide +kernel)
  have hf45 := hts (.fieldLink RX8 45 "DikeHands" "now" "I") (by decide +kernel)
  have hf52 := hts (.fieldLink RX8 52 "DikeHands" "changeCount" "I") (by decide +kernel)
  have hf120 := hts (.fieldLink RX8 120 "DikeHands$House" "came" "I") (by decide +kernel)
  have hl : lv_has ls 5 [(0, .ref x), (1, .int h), (2, .int wq), (3, .int a), (4, .int b)] := hl
  have h40 := le40 hp
  obtain ⟨ha, la, lt, wa, ww, wn⟩ := Y
  obtain ⟨hA1, hV, hR, hH1, hB, hL, hPl, hEv, hRo, hVi, hWk, hW, hHo, hHa, hHp⟩ := id hs
  try dsimp only at hH1 hL hVi hWk hW hHo hHa hHp
  obtain ⟨fH, hH2, hH3⟩ := id hH1
  refine lv_aload_n hx hb dX8_change_0 rfl (lv_at hl 0 rfl) ?_
  refine lv_iload_n hx hb dX8_change_1 rfl (lv_at hl 1 rfl) ?_
  refine g_ci (g_runV (As := [.int h]) (rest := []) ⟨hx, hb, hml, hown, hts⟩ hK hP (kX8_isHouse l E A n G x c h hA1) (cwV 1 hts gX8_change_X8_isHouse rfl rfl rfl (by decide +kernel) ⟨Nat.le_of_ble_eq_true rfl, Nat.le_of_ble_eq_true rfl⟩) hA1 rfl rfl hl.1 rfl (Nat.le_of_ble_eq_true rfl) dX8_change_2 ⟨Nat.le_of_ble_eq_true rfl, Nat.le_of_ble_eq_true rfl⟩) hS (fun r2 n' G' H locs hw hP hS => ?_)
  obtain ⟨rfl, rfl, rfl⟩ := hw
  refine g_ifeq (tgt := 27) hx hb dX8_change_5 (by decide) (fun b5 => ?_) (fun b5 => ?_)
  · refine lv_iconst (v := 0) hx hb dX8_change_27 (by decide) ?_
    refine W.widen (k := 1) (n := 5) (by omega) (by omega) ?_
    refine g_retz hx hb hr hlk hP hS dX8_change_28 rfl ?_
    have hB0 : chgB c S h wq a b = false := by
      cases hz : chgB c S h wq a b
      · rfl
      · exfalso
        simp only [chgB, Bool.and_eq_true] at hz
        rw [b5] at hz; exact absurd hz.1.1.1.1 (by decide)
    exact ⟨by rw [hB0]; rfl, Nat.le_refl _, _, by rw [chgS, chgC, if_neg (by rw [hB0]; decide), if_neg (by rw [hB0]; decide)]; exact hs⟩
  · refine lv_iload_n hx hb dX8_change_8 rfl (lv_at hl 3 rfl) ?_
    refine lv_iload hx hb dX8_change_9 (lv_at hl 4 rfl) ?_
    refine g_ci (g_runS (As := [.int a, .int b]) (rest := []) ⟨hx, hb, hml, hown, hts⟩ hK hP (kX8_isHolding l E A n G a b) (va_cwS 2 hts gX8_change_X8_isHolding rfl rfl rfl (by decide +kernel) ⟨Nat.le_of_ble_eq_true rfl, Nat.le_of_ble_eq_true rfl⟩) rfl hl.1 rfl (Nat.le_of_ble_eq_true rfl) dX8_change_11 ⟨Nat.le_of_ble_eq_true rfl, Nat.le_of_ble_eq_true rfl⟩) hS (fun r11 n' G' H locs hw hP hS => ?_)
    obtain ⟨rfl, rfl, rfl⟩ := hw
    refine g_ifeq (tgt := 27) hx hb dX8_change_14 (by decide) (fun b14 => ?_) (fun b14 => ?_)
    · refine lv_iconst (v := 0) hx hb dX8_change_27 (by decide) ?_
      refine W.widen (k := 1) (n := 5) (by omega) (by omega) ?_
      refine g_retz hx hb hr hlk hP hS dX8_change_28 rfl ?_
      have hB0 : chgB c S h wq a b = false := by
        cases hz : chgB c S h wq a b
        · rfl
        · exfalso
          simp only [chgB, Bool.and_eq_true] at hz
          rw [hz.1.1.2, hz.1.2] at b14; exact absurd b14 (by decide)
      exact ⟨by rw [hB0]; rfl, Nat.le_refl _, _, by rw [chgS, chgC, if_neg (by rw [hB0]; decide), if_neg (by rw [hB0]; decide)]; exact hs⟩
    · refine lv_aload_n hx hb dX8_change_17 rfl (lv_at hl 0 rfl) ?_
      refine g_get (ci := 8) hx hb hts hin8 hown hK hP hA1 rfl 8 (by decide) hf52 rfl rfl dX8_change_18 ?_
      refine lv_sipush (v := 200) hx hb dX8_change_21 (by decide) ?_
      refine lv_icmp_lt (tgt := 29) hx hb dX8_change_24 (by decide) (fun b24 => ?_) (fun b24 => ?_)
      · obtain ⟨hi, hh, rfl⟩ := hs_ix hp.1 b5
        have hx48 := hHp.1 hi hh
        refine lv_iload_n hx hb dX8_change_29 rfl (lv_at hl 2 rfl) ?_
        refine lv_aload_n hx hb dX8_change_30 rfl (lv_at hl 0 rfl) ?_
        refine g_get (ci := 8) hx hb hts hin8 hown hK hP hA1 rfl 6 (by decide) hf45 rfl rfl dX8_change_31 ?_
        refine lv_icmp_gt (tgt := 50) hx hb dX8_change_34 (by decide) (fun b34 => ?_) (fun b34 => ?_)
        · refine lv_iconst (v := 0) hx hb dX8_change_50 (by decide) ?_
          refine W.widen (k := 1) (n := 5) (by omega) (by omega) ?_
          refine g_retz hx hb hr hlk hP hS dX8_change_51 rfl ?_
          have hB0 : chgB c S (nI hi) wq a b = false := by
            cases hz : chgB c S (nI hi) wq a b
            · rfl
            · exfalso
              simp only [chgB, Bool.and_eq_true] at hz
              have z := (inB_i hz.1.1.1.2).2; have := Int32.lt_iff_toInt_lt.mp b34; omega
          exact ⟨by rw [hB0]; rfl, Nat.le_refl _, _, by rw [chgS, chgC, if_neg (by rw [hB0]; decide), if_neg (by rw [hB0]; decide)]; exact hs⟩
        · refine lv_iload_n hx hb dX8_change_37 rfl (lv_at hl 2 rfl) ?_
          refine lv_aload_n hx hb dX8_change_38 rfl (lv_at hl 0 rfl) ?_
          refine g_get (ci := 8) hx hb hts hin8 hown hK hP hA1 rfl 2 (by decide) hf23 rfl rfl dX8_change_39 ?_
          refine lv_iload_n hx hb dX8_change_42 rfl (lv_at hl 1 rfl) ?_
          have fh43 := (hHo (hi) hh).1
          refine g_aald (t0 := 2) (v := .ref (ha hi)) hx hb hK hP hH2 rfl (vp_in_nI (by omega) (by decide)) (by rw [nI_clamp (by omega), hH3 (hi) hh]; rfl) dX8_change_43 ?_
          refine g_get (ci := 0) hx hb hts hin0 hown hK hP fh43 rfl 1 (by decide) hf120 rfl rfl dX8_change_44 ?_
          refine lv_icmp_ge (tgt := 52) hx hb dX8_change_47 (by decide) (fun b47 => ?_) (fun b47 => ?_)
          · refine lv_aload_n hx hb dX8_change_52 rfl (lv_at hl 0 rfl) ?_
            refine g_get (ci := 8) hx hb hts hin8 hown hK hP hA1 rfl 2 (by decide) hf23 rfl rfl dX8_change_53 ?_
            refine lv_iload_n hx hb dX8_change_56 rfl (lv_at hl 1 rfl) ?_
            refine g_aald (t0 := 2) (v := .ref (ha hi)) hx hb hK hP hH2 rfl (vp_in_nI (by omega) (by decide)) (by rw [nI_clamp (by omega), hH3 hi hh]; rfl) dX8_change_57 ?_
            refine lv_aload_n hx hb dX8_change_58 rfl (lv_at hl 0 rfl) ?_
            refine g_get (ci := 8) hx hb hts hin8 hown hK hP hA1 rfl 6 (by decide) hf45 rfl rfl dX8_change_59 ?_
            refine lv_iload_n hx hb dX8_change_62 rfl (lv_at hl 2 rfl) ?_
            refine lv_iload_n hx hb dX8_change_63 rfl (lv_at hl 3 rfl) ?_
            refine lv_iload hx hb dX8_change_64 (lv_at hl 4 rfl) ?_
            have hP1 := hP
            refine g_cv (g_runV (As := [.int (c 0), .int wq, .int a, .int b]) (rest := []) ⟨hx, hb, hml, hown, hts⟩ hK hP (kX0_learn l E A n G (ha hi) (ha hi + 1) (ha hi + 2) (ha hi + 3) (ha hi + 4) (ha hi + 5) (lt hi) (S 6 hi) (S 7 hi) (c 0) wq a b fh43 hA) (cwV 4 hts gX8_change_X0_learn rfl rfl rfl (by decide +kernel) ⟨Nat.le_of_ble_eq_true rfl, Nat.le_of_ble_eq_true rfl⟩) fh43 rfl rfl hl.1 rfl (Nat.le_of_ble_eq_true rfl) dX8_change_66 ⟨Nat.le_of_ble_eq_true rfl, Nat.le_of_ble_eq_true rfl⟩) hS (fun n' G' H locs hw hP hS => ?_)
            obtain ⟨rfl, rfl⟩ := hw
            have hno127 := hP1.none (Nat.le_refl _)
            have q127_0 : (gup G n (.inr (5, [.int (c 0), .int wq, .int a, .int b, va_rf (lt hi)]))) x = some (.inr (8, [.ref (x + 1), .ref (x + 2), .ref (x + 3), .ref (x + 4), .ref (x + 7), .ref (x + 9), .int (c 0), .int (c 7), .int (c 12), .int (c 29), .int (c 30), .int (c 31), .int (c 32), .int (c 33)])) := (gup_n (ne_none hA1 hno127)).trans hA1
            have q127_1 : (gup G n (.inr (5, [.int (c 0), .int wq, .int a, .int b, va_rf (lt hi)]))) (x + 3) = some (.inl (E.2 2, 40, .inr (.inr (.inr (.inr fH))))) := (gup_n (ne_none hH2 hno127)).trans hH2
            have q127_2 : (gup G n (.inr (5, [.int (c 0), .int wq, .int a, .int b, va_rf (lt hi)]))) (ha hi) = some (.inr (0, [.int (S 6 hi), .int (S 7 hi), .ref (ha hi + 1), .ref (ha hi + 2), .ref (ha hi + 3), .ref (ha hi + 4), .ref (ha hi + 5), va_rf (lt hi)])) := (gup_n (ne_none fh43 hno127)).trans fh43
            have q127_a : (gup G n (.inr (5, [.int (c 0), .int wq, .int a, .int b, va_rf (lt hi)]))) n = some (.inr (5, [.int (c 0), .int wq, .int a, .int b, va_rf (lt hi)])) := gup_s
            have hA1_128 := sA.kp (kp_new (e1 := .inr (5, [.int (c 0), .int wq, .int a, .int b, va_rf (lt hi)])) hno127) List.not_mem_nil hA1
            have hV_128 := sV.kp (kp_new (e1 := .inr (5, [.int (c 0), .int wq, .int a, .int b, va_rf (lt hi)])) hno127) List.not_mem_nil hV
            have hR_128 := sR.kp (kp_new (e1 := .inr (5, [.int (c 0), .int wq, .int a, .int b, va_rf (lt hi)])) hno127) List.not_mem_nil hR
            have hH1_128 := sH.kp (kp_new (e1 := .inr (5, [.int (c 0), .int wq, .int a, .int b, va_rf (lt hi)])) hno127) List.not_mem_nil hH1
            have hB_128 := sB.kp (kp_new (e1 := .inr (5, [.int (c 0), .int wq, .int a, .int b, va_rf (lt hi)])) hno127) List.not_mem_nil List.not_mem_nil hB
            have hL_128 := sL.kp (kp_new (e1 := .inr (5, [.int (c 0), .int wq, .int a, .int b, va_rf (lt hi)])) hno127) List.not_mem_nil List.not_mem_nil hL
            have hPl_128 := sP.kp (kp_new (e1 := .inr (5, [.int (c 0), .int wq, .int a, .int b, va_rf (lt hi)])) hno127) List.not_mem_nil List.not_mem_nil hPl
            have hEv_128 := sE.kp (kp_new (e1 := .inr (5, [.int (c 0), .int wq, .int a, .int b, va_rf (lt hi)])) hno127) List.not_mem_nil hEv
            have hRo_128 := sRo.kp (kp_new (e1 := .inr (5, [.int (c 0), .int wq, .int a, .int b, va_rf (lt hi)])) hno127) List.not_mem_nil hRo
            have hVi_128 := sVi.kp (kp_new (e1 := .inr (5, [.int (c 0), .int wq, .int a, .int b, va_rf (lt hi)])) hno127) List.not_mem_nil hVi
            have hWk_128 := sWk.kp (kp_new (e1 := .inr (5, [.int (c 0), .int wq, .int a, .int b, va_rf (lt hi)])) hno127) List.not_mem_nil hWk
            have hHo_128 := sHo.kp (kp_new (e1 := .inr (5, [.int (c 0), .int wq, .int a, .int b, va_rf (lt hi)])) hno127) List.not_mem_nil List.not_mem_nil hHo
            have hHa_128 := sHa.kp (kp_new (e1 := .inr (5, [.int (c 0), .int wq, .int a, .int b, va_rf (lt hi)])) hno127) List.not_mem_nil hHa
            have q129_0 : (gup (gup G n (.inr (5, [.int (c 0), .int wq, .int a, .int b, va_rf (lt hi)]))) (ha hi) (.inr (0, [.int (S 6 hi), .int (S 7 hi), .ref (ha hi + 1), .ref (ha hi + 2), .ref (ha hi + 3), .ref (ha hi + 4), .ref (ha hi + 5), .ref n]))) x = some (.inr (8, [.ref (x + 1), .ref (x + 2), .ref (x + 3), .ref (x + 4), .ref (x + 7), .ref (x + 9), .int (c 0), .int (c 7), .int (c 12), .int (c 29), .int (c 30), .int (c 31), .int (c 32), .int (c 33)])) := (gup_n (ne_oo q127_0 q127_2 (by decide))).trans q127_0
            have q129_1 : (gup (gup G n (.inr (5, [.int (c 0), .int wq, .int a, .int b, va_rf (lt hi)]))) (ha hi) (.inr (0, [.int (S 6 hi), .int (S 7 hi), .ref (ha hi + 1), .ref (ha hi + 2), .ref (ha hi + 3), .ref (ha hi + 4), .ref (ha hi + 5), .ref n]))) (x + 3) = some (.inl (E.2 2, 40, .inr (.inr (.inr (.inr fH))))) := (gup_n (ne_ao q127_1 q127_2)).trans q127_1
            have q129_2 : (gup (gup G n (.inr (5, [.int (c 0), .int wq, .int a, .int b, va_rf (lt hi)]))) (ha hi) (.inr (0, [.int (S 6 hi), .int (S 7 hi), .ref (ha hi + 1), .ref (ha hi + 2), .ref (ha hi + 3), .ref (ha hi + 4), .ref (ha hi + 5), .ref n]))) n = some (.inr (5, [.int (c 0), .int wq, .int a, .int b, va_rf (lt hi)])) := (gup_n (ne_oo q127_a q127_2 (by decide))).trans q127_a
            have q129_a : (gup (gup G n (.inr (5, [.int (c 0), .int wq, .int a, .int b, va_rf (lt hi)]))) (ha hi) (.inr (0, [.int (S 6 hi), .int (S 7 hi), .ref (ha hi + 1), .ref (ha hi + 2), .ref (ha hi + 3), .ref (ha hi + 4), .ref (ha hi + 5), .ref n]))) (ha hi) = some (.inr (0, [.int (S 6 hi), .int (S 7 hi), .ref (ha hi + 1), .ref (ha hi + 2), .ref (ha hi + 3), .ref (ha hi + 4), .ref (ha hi + 5), .ref n])) := gup_s
            have hP : gP E A (n + 1) (gup (gup G n (.inr (5, [.int (c 0), .int wq, .int a, .int b, va_rf (lt hi)]))) (ha hi) (.inr (0, [.int (S 6 hi), .int (S 7 hi), .ref (ha hi + 1), .ref (ha hi + 2), .ref (ha hi + 3), .ref (ha hi + 4), .ref (ha hi + 5), .ref n]))) H := hP
            have hA1_130 := sA.kp (kp_up (e1 := .inr (0, [.int (S 6 hi), .int (S 7 hi), .ref (ha hi + 1), .ref (ha hi + 2), .ref (ha hi + 3), .ref (ha hi + 4), .ref (ha hi + 5), .ref n])) q127_2) (kpn (by decide : (8 : Nat) ≠ 0)) hA1_128
            have hV_130 := sV.kp (kp_up (e1 := .inr (0, [.int (S 6 hi), .int (S 7 hi), .ref (ha hi + 1), .ref (ha hi + 2), .ref (ha hi + 3), .ref (ha hi + 4), .ref (ha hi + 5), .ref n])) q127_2) (kpn (by decide : (22 : Nat) ≠ 0)) hV_128
            have hR_130 := sR.kp (kp_up (e1 := .inr (0, [.int (S 6 hi), .int (S 7 hi), .ref (ha hi + 1), .ref (ha hi + 2), .ref (ha hi + 3), .ref (ha hi + 4), .ref (ha hi + 5), .ref n])) q127_2) (kpn (by decide : (22 : Nat) ≠ 0)) hR_128
            have hH1_130 := sH.kp (kp_up (e1 := .inr (0, [.int (S 6 hi), .int (S 7 hi), .ref (ha hi + 1), .ref (ha hi + 2), .ref (ha hi + 3), .ref (ha hi + 4), .ref (ha hi + 5), .ref n])) q127_2) (kpn (by decide : (22 : Nat) ≠ 0)) hH1_128
            have hB_130 := sB.kp (kp_up (e1 := .inr (0, [.int (S 6 hi), .int (S 7 hi), .ref (ha hi + 1), .ref (ha hi + 2), .ref (ha hi + 3), .ref (ha hi + 4), .ref (ha hi + 5), .ref n])) q127_2) (kpn (by decide : (2 : Nat) ≠ 0)) (kpn (by decide : (1 : Nat) ≠ 0)) hB_128
            have hL_130 := sL.kp (kp_up (e1 := .inr (0, [.int (S 6 hi), .int (S 7 hi), .ref (ha hi + 1), .ref (ha hi + 2), .ref (ha hi + 3), .ref (ha hi + 4), .ref (ha hi + 5), .ref n])) q127_2) (kpn (by decide : (22 : Nat) ≠ 0)) (kpn (by decide : (1 : Nat) ≠ 0)) hL_128
            have hPl_130 := sP.kp (kp_up (e1 := .inr (0, [.int (S 6 hi), .int (S 7 hi), .ref (ha hi + 1), .ref (ha hi + 2), .ref (ha hi + 3), .ref (ha hi + 4), .ref (ha hi + 5), .ref n])) q127_2) (kpn (by decide : (21 : Nat) ≠ 0)) (kpn (by decide : (3 : Nat) ≠ 0)) hPl_128
            have hEv_130 := sE.kp (kp_up (e1 := .inr (0, [.int (S 6 hi), .int (S 7 hi), .ref (ha hi + 1), .ref (ha hi + 2), .ref (ha hi + 3), .ref (ha hi + 4), .ref (ha hi + 5), .ref n])) q127_2) (kpn (by decide : (20 : Nat) ≠ 0)) hEv_128
            have hRo_130 := sRo.kp (kp_up (e1 := .inr (0, [.int (S 6 hi), .int (S 7 hi), .ref (ha hi + 1), .ref (ha hi + 2), .ref (ha hi + 3), .ref (ha hi + 4), .ref (ha hi + 5), .ref n])) q127_2) (kpn (by decide : (4 : Nat) ≠ 0)) hRo_128
            have hVi_130 := sVi.kp (kp_up (e1 := .inr (0, [.int (S 6 hi), .int (S 7 hi), .ref (ha hi + 1), .ref (ha hi + 2), .ref (ha hi + 3), .ref (ha hi + 4), .ref (ha hi + 5), .ref n])) q127_2) (kpn (by decide : (6 : Nat) ≠ 0)) hVi_128
            have hWk_130 := sWk.kp (kp_up (e1 := .inr (0, [.int (S 6 hi), .int (S 7 hi), .ref (ha hi + 1), .ref (ha hi + 2), .ref (ha hi + 3), .ref (ha hi + 4), .ref (ha hi + 5), .ref n])) q127_2) (kpn (by decide : (7 : Nat) ≠ 0)) hWk_128
            have hHa_130 := sHa.kp (kp_up (e1 := .inr (0, [.int (S 6 hi), .int (S 7 hi), .ref (ha hi + 1), .ref (ha hi + 2), .ref (ha hi + 3), .ref (ha hi + 4), .ref (ha hi + 5), .ref n])) q127_2) (kpn (by decide : (20 : Nat) ≠ 0)) hHa_128
            have h12 := hp.1.2.2.1
            have t12 : tn (c 12 + 1) = tn (c 12) + 1 := tn_s h12.1 h12.2 (by decide)
            have hHo_c : sHo (gup (gup G n (.inr (5, [.int (c 0), .int wq, .int a, .int b, va_rf (lt hi)]))) (ha hi) (.inr (0, [.int (S 6 hi), .int (S 7 hi), .ref (ha hi + 1), .ref (ha hi + 2), .ref (ha hi + 3), .ref (ha hi + 4), .ref (ha hi + 5), .ref n]))) (va_up (va_up (va_up (va_up (va_up S 10 (upd (S 10) (tn (c 12)) (nI hi))) 11 (upd (S 11) (tn (c 12)) wq)) 12 (upd (S 12) (tn (c 12)) (c 0))) 13 (upd (S 13) (tn (c 12)) a)) 14 (upd (S 14) (tn (c 12)) b)) ha (va_up lt hi (some n)) (tn (c 7)) (tn (c 12 + 1)) := by
              intro g hg
              have hold : ∀ j i, 10 ≤ j → j ≤ 14 → i < tn (c 12) → (va_up (va_up (va_up (va_up (va_up S 10 (upd (S 10) (tn (c 12)) (nI hi))) 11 (upd (S 11) (tn (c 12)) wq)) 12 (upd (S 12) (tn (c 12)) (c 0))) 13 (upd (S 13) (tn (c 12)) a)) 14 (upd (S 14) (tn (c 12)) b)) j i = S j i := by
                intro j i h1 h2 h3
                have h4 : i ≠ tn (c 12) := by omega
                rcases (show j = 10 ∨ j = 11 ∨ j = 12 ∨ j = 13 ∨ j = 14 by omega) with z | z | z | z | z <;> subst z <;> simp [va_up, upd, h4]
              rw [t12]
              have hold2 := fun (z : Nat) (z7 : _) (z8 : _) (z9 : _) => telL_lt (S := S) (S' := (va_up (va_up (va_up (va_up (va_up S 10 (upd (S 10) (tn (c 12)) (nI hi))) 11 (upd (S 11) (tn (c 12)) wq)) 12 (upd (S 12) (tn (c 12)) (c 0))) 13 (upd (S 13) (tn (c 12)) a)) 14 (upd (S 14) (tn (c 12)) b))) (a := z) z7 z8 z9 (tn (c 12)) hold
              by_cases hz : g = hi
              · have hz2 : hi = g := hz.symm
                subst hz2
                refine ⟨?_, ?_⟩
                · rw [q129_a]
                  simp [houE, va_up, va_rf]
                · have e1 : telL (va_up (va_up (va_up (va_up (va_up S 10 (upd (S 10) (tn (c 12)) (nI hi))) 11 (upd (S 11) (tn (c 12)) wq)) 12 (upd (S 12) (tn (c 12)) (c 0))) 13 (upd (S 13) (tn (c 12)) a)) 14 (upd (S 14) (tn (c 12)) b)) hi (tn (c 12) + 1) = (c 0, wq, a, b) :: telL S hi (tn (c 12)) := by
                    rw [telL, hold2 hi rfl rfl rfl, if_pos (by simp [va_up, upd])]
                    simp [va_up, upd]
                  rw [e1, va_up_self]
                  exact ⟨n, lt hi, rfl, q129_2, tel.kp (kp_up (e1 := .inr (0, [.int (S 6 hi), .int (S 7 hi), .ref (ha hi + 1), .ref (ha hi + 2), .ref (ha hi + 3), .ref (ha hi + 4), .ref (ha hi + 5), .ref n])) q127_2) (kpn (by decide : (5 : Nat) ≠ 0)) _ _ (hHo_128 hi hg).2⟩
              · have hgn : nI hi ≠ nI g := nI_ne (by omega) (by omega) (fun q => hz q.symm)
                have e1 : telL (va_up (va_up (va_up (va_up (va_up S 10 (upd (S 10) (tn (c 12)) (nI hi))) 11 (upd (S 11) (tn (c 12)) wq)) 12 (upd (S 12) (tn (c 12)) (c 0))) 13 (upd (S 13) (tn (c 12)) a)) 14 (upd (S 14) (tn (c 12)) b)) g (tn (c 12) + 1) = telL S g (tn (c 12)) := by
                  rw [telL, hold2 g rfl rfl rfl, if_neg (by simp [va_up, upd, hgn])]
                rw [e1, va_up_ne _ _ hz]
                refine ⟨?_, tel.kp (kp_up (e1 := .inr (0, [.int (S 6 hi), .int (S 7 hi), .ref (ha hi + 1), .ref (ha hi + 2), .ref (ha hi + 3), .ref (ha hi + 4), .ref (ha hi + 5), .ref n])) q127_2) (kpn (by decide : (5 : Nat) ≠ 0)) _ _ (hHo_128 g hg).2⟩
                have hne : ha g ≠ ha hi := by
                  rcases Nat.lt_or_ge g hi with z | z
                  · have := hHp.2 g hi z hh; omega
                  · have := hHp.2 hi g (by omega) hg; omega
                rw [gup_n hne]
                refine (hHo_128 g hg).1.trans ?_
                simp [houE, va_up, hz]
            refine lv_aload_n hx hb dX8_change_69 rfl (lv_at hl 0 rfl) ?_
            refine lv_dup hx hb dX8_change_70 rfl ?_
            refine g_get (ci := 8) hx hb hts hin8 hown hK hP q129_0 rfl 8 (by decide) hf52 rfl rfl dX8_change_71 ?_
            refine lv_iconst (v := 1) hx hb dX8_change_74 (by decide) ?_
            refine lv_iadd hx hb dX8_change_75 ?_
            refine g_put (ci := 8) (ty := .int) (v := .int ((c 12) + 1)) hx hb hts hin8 tyX8 tyX8_ok nmX8 hown hK hP hS q129_0 rfl 8 (by decide) hf52 rfl (Or.inl rfl) (by decide +kernel) rfl rfl (Nat.le_of_ble_eq_true rfl) dX8_change_76 (fun H locs hP hS => ?_)
            have q131_0 : (gup (gup (gup G n (.inr (5, [.int (c 0), .int wq, .int a, .int b, va_rf (lt hi)]))) (ha hi) (.inr (0, [.int (S 6 hi), .int (S 7 hi), .ref (ha hi + 1), .ref (ha hi + 2), .ref (ha hi + 3), .ref (ha hi + 4), .ref (ha hi + 5), .ref n]))) x (.inr (8, [.ref (x + 1), .ref (x + 2), .ref (x + 3), .ref (x + 4), .ref (x + 7), .ref (x + 9), .int (c 0), .int (c 7), .int ((c 12) + 1), .int (c 29), .int (c 30), .int (c 31), .int (c 32), .int (c 33)]))) (x + 3) = some (.inl (E.2 2, 40, .inr (.inr (.inr (.inr fH))))) := (gup_n (ne_ao q129_1 q129_0)).trans q129_1
            have q131_1 : (gup (gup (gup G n (.inr (5, [.int (c 0), .int wq, .int a, .int b, va_rf (lt hi)]))) (ha hi) (.inr (0, [.int (S 6 hi), .int (S 7 hi), .ref (ha hi + 1), .ref (ha hi + 2), .ref (ha hi + 3), .ref (ha hi + 4), .ref (ha hi + 5), .ref n]))) x (.inr (8, [.ref (x + 1), .ref (x + 2), .ref (x + 3), .ref (x + 4), .ref (x + 7), .ref (x + 9), .int (c 0), .int (c 7), .int ((c 12) + 1), .int (c 29), .int (c 30), .int (c 31), .int (c 32), .int (c 33)]))) n = some (.inr (5, [.int (c 0), .int wq, .int a, .int b, va_rf (lt hi)])) := (gup_n (ne_oo q129_2 q129_0 (by decide))).trans q129_2
            have q131_2 : (gup (gup (gup G n (.inr (5, [.int (c 0), .int wq, .int a, .int b, va_rf (lt hi)]))) (ha hi) (.inr (0, [.int (S 6 hi), .int (S 7 hi), .ref (ha hi + 1), .ref (ha hi + 2), .ref (ha hi + 3), .ref (ha hi + 4), .ref (ha hi + 5), .ref n]))) x (.inr (8, [.ref (x + 1), .ref (x + 2), .ref (x + 3), .ref (x + 4), .ref (x + 7), .ref (x + 9), .int (c 0), .int (c 7), .int ((c 12) + 1), .int (c 29), .int (c 30), .int (c 31), .int (c 32), .int (c 33)]))) (ha hi) = some (.inr (0, [.int (S 6 hi), .int (S 7 hi), .ref (ha hi + 1), .ref (ha hi + 2), .ref (ha hi + 3), .ref (ha hi + 4), .ref (ha hi + 5), .ref n])) := (gup_n (ne_oo q129_a q129_0 (by decide))).trans q129_a
            have q131_a : (gup (gup (gup G n (.inr (5, [.int (c 0), .int wq, .int a, .int b, va_rf (lt hi)]))) (ha hi) (.inr (0, [.int (S 6 hi), .int (S 7 hi), .ref (ha hi + 1), .ref (ha hi + 2), .ref (ha hi + 3), .ref (ha hi + 4), .ref (ha hi + 5), .ref n]))) x (.inr (8, [.ref (x + 1), .ref (x + 2), .ref (x + 3), .ref (x + 4), .ref (x + 7), .ref (x + 9), .int (c 0), .int (c 7), .int ((c 12) + 1), .int (c 29), .int (c 30), .int (c 31), .int (c 32), .int (c 33)]))) x = some (.inr (8, [.ref (x + 1), .ref (x + 2), .ref (x + 3), .ref (x + 4), .ref (x + 7), .ref (x + 9), .int (c 0), .int (c 7), .int ((c 12) + 1), .int (c 29), .int (c 30), .int (c 31), .int (c 32), .int (c 33)])) := gup_s
            have hP : gP E A (n + 1) (gup (gup (gup G n (.inr (5, [.int (c 0), .int wq, .int a, .int b, va_rf (lt hi)]))) (ha hi) (.inr (0, [.int (S 6 hi), .int (S 7 hi), .ref (ha hi + 1), .ref (ha hi + 2), .ref (ha hi + 3), .ref (ha hi + 4), .ref (ha hi + 5), .ref n]))) x (.inr (8, [.ref (x + 1), .ref (x + 2), .ref (x + 3), .ref (x + 4), .ref (x + 7), .ref (x + 9), .int (c 0), .int (c 7), .int ((c 12) + 1), .int (c 29), .int (c 30), .int (c 31), .int (c 32), .int (c 33)]))) H := hP
            have hV_132 := sV.kp (kp_up (e1 := .inr (8, [.ref (x + 1), .ref (x + 2), .ref (x + 3), .ref (x + 4), .ref (x + 7), .ref (x + 9), .int (c 0), .int (c 7), .int ((c 12) + 1), .int (c 29), .int (c 30), .int (c 31), .int (c 32), .int (c 33)])) q129_0) (kpn (by decide : (22 : Nat) ≠ 8)) hV_130
            have hR_132 := sR.kp (kp_up (e1 := .inr (8, [.ref (x + 1), .ref (x + 2), .ref (x + 3), .ref (x + 4), .ref (x + 7), .ref (x + 9), .int (c 0), .int (c 7), .int ((c 12) + 1), .int (c 29), .int (c 30), .int (c 31), .int (c 32), .int (c 33)])) q129_0) (kpn (by decide : (22 : Nat) ≠ 8)) hR_130
            have hH1_132 := sH.kp (kp_up (e1 := .inr (8, [.ref (x + 1), .ref (x + 2), .ref (x + 3), .ref (x + 4), .ref (x + 7), .ref (x + 9), .int (c 0), .int (c 7), .int ((c 12) + 1), .int (c 29), .int (c 30), .int (c 31), .int (c 32), .int (c 33)])) q129_0) (kpn (by decide : (22 : Nat) ≠ 8)) hH1_130
            have hB_132 := sB.kp (kp_up (e1 := .inr (8, [.ref (x + 1), .ref (x + 2), .ref (x + 3), .ref (x + 4), .ref (x + 7), .ref (x + 9), .int (c 0), .int (c 7), .int ((c 12) + 1), .int (c 29), .int (c 30), .int (c 31), .int (c 32), .int (c 33)])) q129_0) (kpn (by decide : (2 : Nat) ≠ 8)) (kpn (by decide : (1 : Nat) ≠ 8)) hB_130
            have hL_132 := sL.kp (kp_up (e1 := .inr (8, [.ref (x + 1), .ref (x + 2), .ref (x + 3), .ref (x + 4), .ref (x + 7), .ref (x + 9), .int (c 0), .int (c 7), .int ((c 12) + 1), .int (c 29), .int (c 30), .int (c 31), .int (c 32), .int (c 33)])) q129_0) (kpn (by decide : (22 : Nat) ≠ 8)) (kpn (by decide : (1 : Nat) ≠ 8)) hL_130
            have hPl_132 := sP.kp (kp_up (e1 := .inr (8, [.ref (x + 1), .ref (x + 2), .ref (x + 3), .ref (x + 4), .ref (x + 7), .ref (x + 9), .int (c 0), .int (c 7), .int ((c 12) + 1), .int (c 29), .int (c 30), .int (c 31), .int (c 32), .int (c 33)])) q129_0) (kpn (by decide : (21 : Nat) ≠ 8)) (kpn (by decide : (3 : Nat) ≠ 8)) hPl_130
            have hEv_132 := sE.kp (kp_up (e1 := .inr (8, [.ref (x + 1), .ref (x + 2), .ref (x + 3), .ref (x + 4), .ref (x + 7), .ref (x + 9), .int (c 0), .int (c 7), .int ((c 12) + 1), .int (c 29), .int (c 30), .int (c 31), .int (c 32), .int (c 33)])) q129_0) (kpn (by decide : (20 : Nat) ≠ 8)) hEv_130
            have hRo_132 := sRo.kp (kp_up (e1 := .inr (8, [.ref (x + 1), .ref (x + 2), .ref (x + 3), .ref (x + 4), .ref (x + 7), .ref (x + 9), .int (c 0), .int (c 7), .int ((c 12) + 1), .int (c 29), .int (c 30), .int (c 31), .int (c 32), .int (c 33)])) q129_0) (kpn (by decide : (4 : Nat) ≠ 8)) hRo_130
            have hVi_132 := sVi.kp (kp_up (e1 := .inr (8, [.ref (x + 1), .ref (x + 2), .ref (x + 3), .ref (x + 4), .ref (x + 7), .ref (x + 9), .int (c 0), .int (c 7), .int ((c 12) + 1), .int (c 29), .int (c 30), .int (c 31), .int (c 32), .int (c 33)])) q129_0) (kpn (by decide : (6 : Nat) ≠ 8)) hVi_130
            have hWk_132 := sWk.kp (kp_up (e1 := .inr (8, [.ref (x + 1), .ref (x + 2), .ref (x + 3), .ref (x + 4), .ref (x + 7), .ref (x + 9), .int (c 0), .int (c 7), .int ((c 12) + 1), .int (c 29), .int (c 30), .int (c 31), .int (c 32), .int (c 33)])) q129_0) (kpn (by decide : (7 : Nat) ≠ 8)) hWk_130
            have hHa_132 := sHa.kp (kp_up (e1 := .inr (8, [.ref (x + 1), .ref (x + 2), .ref (x + 3), .ref (x + 4), .ref (x + 7), .ref (x + 9), .int (c 0), .int (c 7), .int ((c 12) + 1), .int (c 29), .int (c 30), .int (c 31), .int (c 32), .int (c 33)])) q129_0) (kpn (by decide : (20 : Nat) ≠ 8)) hHa_130
            have hHo_132 := sHo.kp (kp_up (e1 := .inr (8, [.ref (x + 1), .ref (x + 2), .ref (x + 3), .ref (x + 4), .ref (x + 7), .ref (x + 9), .int (c 0), .int (c 7), .int ((c 12) + 1), .int (c 29), .int (c 30), .int (c 31), .int (c 32), .int (c 33)])) q129_0) (kpn (by decide : (0 : Nat) ≠ 8)) (kpn (by decide : (5 : Nat) ≠ 8)) hHo_c
            refine lv_iconst (v := 1) hx hb dX8_change_79 (by decide) ?_
            refine W.widen (k := 1) (n := 5) (by omega) (by omega) ?_
            refine g_retz hx hb hr hlk hP hS dX8_change_80 rfl ?_
            have hB0 : chgB c S (nI hi) wq a b = true := by
              have z1 : inB wq (S 7 (tn (nI hi))) (c 0) = true := by
                rw [tn_nI (by omega)]
                exact inB_of (Int32.le_iff_toInt_le.mp b47) (Int32.le_iff_toInt_le.mp (Int32.not_lt.mp b34))
              have z2 : ¬ c 12 = 200 := fun z => by rw [z] at b24; exact absurd b24 (by decide)
              have z3 : inB a 0 500 = true ∧ inB b 0 20 = true := by simpa using b14
              simp [chgB, b5, z1, z2, z3.1, z3.2]
            refine ⟨by rw [hB0]; rfl, by omega, ⟨ha, la, va_up lt hi (some n), wa, ww, wn⟩, ?_⟩
            rw [chgS, chgC, if_pos hB0, if_pos hB0]
            exact ⟨q131_a, hV_132, hR_132, hH1_132, hB_132, hL_132, hPl_132, hEv_132, hRo_132, hVi_132, hWk_132, hW, hHo_132, (sHa.cg (fun j h1 h2 => by simp only [va_up]; repeat (first | rfl | (rw [if_neg (by omega)]))) hHa_132), hHp⟩
          · refine lv_iconst (v := 0) hx hb dX8_change_50 (by decide) ?_
            refine W.widen (k := 1) (n := 5) (by omega) (by omega) ?_
            refine g_retz hx hb hr hlk hP hS dX8_change_51 rfl ?_
            have hB0 : chgB c S (nI hi) wq a b = false := by
              cases hz : chgB c S (nI hi) wq a b
              · rfl
              · exfalso
                simp only [chgB, Bool.and_eq_true] at hz
                have z := (inB_i hz.1.1.1.2).1; rw [tn_nI (by omega)] at z; exact b47 (Int32.le_iff_toInt_le.mpr z)
            exact ⟨by rw [hB0]; rfl, Nat.le_refl _, _, by rw [chgS, chgC, if_neg (by rw [hB0]; decide), if_neg (by rw [hB0]; decide)]; exact hs⟩
      · refine lv_iconst (v := 0) hx hb dX8_change_27 (by decide) ?_
        refine W.widen (k := 1) (n := 5) (by omega) (by omega) ?_
        refine g_retz hx hb hr hlk hP hS dX8_change_28 rfl ?_
        have hB0 : chgB c S h wq a b = false := by
          cases hz : chgB c S h wq a b
          · rfl
          · exfalso
            simp only [chgB, Bool.and_eq_true] at hz
            have z : ¬ c 12 = 200 := by have := hz.2; simpa using this
            have z1 := Int32.le_iff_toInt_le.mp (Int32.not_lt.mp b24)
            have z2 := hp.1.2.2.1
            have e1 : (200 : Int32).toInt = 200 := rfl
            exact z (Int32.toInt_inj.mp (by omega))
        exact ⟨by rw [hB0]; rfl, Nat.le_refl _, _, by rw [chgS, chgC, if_neg (by rw [hB0]; decide), if_neg (by rw [hB0]; decide)]; exact hs⟩
set_option maxHeartbeats 2000000 in
set_option maxRecDepth 100000 in
theorem kX8_house (l : Launch) (E : gT) (A : Nat → Prop) (n : Nat) (G : gH) (x : Nat) (c : Nat → Int32) (S : Nat → Nat → Int32) (Y : gL) (vq a b : Int32) (hs : Sim E G x c S Y) (hp : pI c S) (hA : ∀ q, n ≤ q → A q) (hz0 : pZ c S)  : gM l yX8_house wsX8_house ({ frames := 3, cells := 7, slots := 118, locals := 70 } : Room) E A n G [.ref x, .int vq, .int a, .int b] (gQi E A (fun r' n' G' => (houR c vq a b) = r' ∧ n ≤ n' ∧ ∃ Y', Sim E G' x (houC c vq a b) (houS c S vq a b) Y')) 7 118 := by
  refine g_entry (by decide) rfl (Nat.le_of_ble_eq_true rfl) ?_
  intro p e s m below meth c0 hx hb hr hlk hml hown hnm hts hK H locs ls hP hS hl
  have hin0 : ∀ wq ∈ u_ws RX0 TX0 8, wq ∈ wsX8_house := by decide +kernel
  have hin8 : ∀ wq ∈ u_ws RX8 TX8 14, wq ∈ wsX8_house := by decide +kernel
  have hf23 := hts (.fieldLink RX8 23 "DikeHands" "houses" "[LDikeHands$House;") (by decide +kernel)
  have hf45 := hts (.fieldLink RX8 45 "DikeHands" "now" "I") (by decide +kernel)
  have hf49 := hts (.fieldLink RX8 49 "DikeHands" "houseCount" "I") (by decide +kernel)
  have hl : lv_has ls 4 [(0, .ref x), (1, .int vq), (2, .int a), (3, .int b)] := hl
  have h40 := le40 hp
  obtain ⟨ha, la, lt, wa, ww, wn⟩ := Y
  obtain ⟨hA1, hV, hR, hH1, hB, hL, hPl, hEv, hRo, hVi, hWk, hW, hHo, hHa, hHp⟩ := id hs
  try dsimp only at hH1 hL hVi hWk hW hHo hHa hHp
  obtain ⟨fH, hH2, hH3⟩ := id hH1
  refine lv_iload_n hx hb dX8_house_0 rfl (lv_at hl 1 rfl) ?_
  refine g_ci (g_runS (As := [.int vq]) (rest := []) ⟨hx, hb, hml, hown, hts⟩ hK hP (kX8_isVillage l E A n G vq) (va_cwS 1 hts gX8_house_X8_isVillage rfl rfl rfl (by decide +kernel) ⟨Nat.le_of_ble_eq_true rfl, Nat.le_of_ble_eq_true rfl⟩) rfl hl.1 rfl (Nat.le_of_ble_eq_true rfl) dX8_house_1 ⟨Nat.le_of_ble_eq_true rfl, Nat.le_of_ble_eq_true rfl⟩) hS (fun r1 n' G' H locs hw hP hS => ?_)
  obtain ⟨rfl, rfl, rfl⟩ := hw
  refine g_ifeq (tgt := 24) hx hb dX8_house_4 (by decide) (fun b4 => ?_) (fun b4 => ?_)
  · refine lv_iconst (v := (-1)) hx hb dX8_house_24 (by decide) ?_
    refine W.widen (k := 7) (n := 118) (by omega) (by omega) ?_
    refine g_reti hx hb hr hlk hP hS dX8_house_25 ?_
    have hB0 : houB c vq a b = false := by
      cases hz : houB c vq a b
      · rfl
      · exfalso
        simp only [houB, Bool.and_eq_true] at hz
        rw [b4] at hz; exact absurd hz.1.1.1 (by decide)
    exact ⟨by rw [houR, if_neg (by rw [hB0]; decide)], Nat.le_refl _, _, by rw [houS, houC, if_neg (by rw [hB0]; decide), if_neg (by rw [hB0]; decide)]; exact hs⟩
  · refine lv_iload_n hx hb dX8_house_7 rfl (lv_at hl 2 rfl) ?_
    refine lv_iload_n hx hb dX8_house_8 rfl (lv_at hl 3 rfl) ?_
    refine g_ci (g_runS (As := [.int a, .int b]) (rest := []) ⟨hx, hb, hml, hown, hts⟩ hK hP (kX8_isHolding l E A n G a b) (va_cwS 2 hts gX8_house_X8_isHolding rfl rfl rfl (by decide +kernel) ⟨Nat.le_of_ble_eq_true rfl, Nat.le_of_ble_eq_true rfl⟩) rfl hl.1 rfl (Nat.le_of_ble_eq_true rfl) dX8_house_9 ⟨Nat.le_of_ble_eq_true rfl, Nat.le_of_ble_eq_true rfl⟩) hS (fun r9 n' G' H locs hw hP hS => ?_)
    obtain ⟨rfl, rfl, rfl⟩ := hw
    refine g_ifeq (tgt := 24) hx hb dX8_house_12 (by decide) (fun b12 => ?_) (fun b12 => ?_)
    · refine lv_iconst (v := (-1)) hx hb dX8_house_24 (by decide) ?_
      refine W.widen (k := 7) (n := 118) (by omega) (by omega) ?_
      refine g_reti hx hb hr hlk hP hS dX8_house_25 ?_
      have hB0 : houB c vq a b = false := by
        cases hz : houB c vq a b
        · rfl
        · exfalso
          simp only [houB, Bool.and_eq_true] at hz
          rw [hz.1.1.2, hz.1.2] at b12; exact absurd b12 (by decide)
      exact ⟨by rw [houR, if_neg (by rw [hB0]; decide)], Nat.le_refl _, _, by rw [houS, houC, if_neg (by rw [hB0]; decide), if_neg (by rw [hB0]; decide)]; exact hs⟩
    · refine lv_aload_n hx hb dX8_house_15 rfl (lv_at hl 0 rfl) ?_
      refine g_get (ci := 8) hx hb hts hin8 hown hK hP hA1 rfl 7 (by decide) hf49 rfl rfl dX8_house_16 ?_
      refine lv_bipush (v := 40) hx hb dX8_house_19 (by decide) ?_
      refine lv_icmp_lt (tgt := 26) hx hb dX8_house_21 (by decide) (fun b21 => ?_) (fun b21 => ?_)
      · have hP00 := hP
        have hxn : x + 18 + 29 < n := hP.lt (hRo 29 (by decide))
        have h7 := hp.1.2.1
        have hc7 : vp_in (c 7) 40 := vp_in_iff.mpr ⟨h7.1, Int32.lt_iff_toInt_lt.mp b21⟩
        have hno0 : G n = none := hP.none (Nat.le_refl _)
        refine lv_aload_n hx hb dX8_house_26 rfl (lv_at hl 0 rfl) ?_
        refine g_get (ci := 8) hx hb hts hin8 hown hK hP hA1 rfl 2 (by decide) hf23 rfl rfl dX8_house_27 ?_
        refine lv_aload_n hx hb dX8_house_30 rfl (lv_at hl 0 rfl) ?_
        refine g_get (ci := 8) hx hb hts hin8 hown hK hP hA1 rfl 7 (by decide) hf49 rfl rfl dX8_house_31 ?_
        have hno133 := hP.none (Nat.le_refl _)
        have z134_0 := Nat.ne_of_lt (hP.lt hA1)
        have z134_1 := Nat.ne_of_lt (hP.lt hH2)
        refine g_new (ci := 0) (fs := [.int 0, .int 0, .null, .null, .null, .null, .null, .null]) hx hb hts hin0 tyX0 tyX0_ok hown (hts (.classLink RX8 21 RX0) (by decide +kernel)) (hts (.instantiable RX0 8) (by decide +kernel)) (hts (.initialized RX0) (by decide +kernel)) hK hP hS hA rfl (by decide) (Nat.le_of_ble_eq_true rfl) (Nat.le_of_ble_eq_true rfl) dX8_house_34 (fun H hP hS => ?_)
        have q134_0 : (gup G n (.inr (0, [.int 0, .int 0, .null, .null, .null, .null, .null, .null]))) x = some (.inr (8, [.ref (x + 1), .ref (x + 2), .ref (x + 3), .ref (x + 4), .ref (x + 7), .ref (x + 9), .int (c 0), .int (c 7), .int (c 12), .int (c 29), .int (c 30), .int (c 31), .int (c 32), .int (c 33)])) := (gup_n z134_0).trans hA1
        have q134_1 : (gup G n (.inr (0, [.int 0, .int 0, .null, .null, .null, .null, .null, .null]))) (x + 3) = some (.inl (E.2 2, 40, .inr (.inr (.inr (.inr fH))))) := (gup_n z134_1).trans hH2
        have q134_a : (gup G n (.inr (0, [.int 0, .int 0, .null, .null, .null, .null, .null, .null]))) n = some (.inr (0, [.int 0, .int 0, .null, .null, .null, .null, .null, .null])) := gup_s
        have hP : gP E A (n + 1) (gup G n (.inr (0, [.int 0, .int 0, .null, .null, .null, .null, .null, .null]))) H := hP
        have hA : ∀ q, n + 1 ≤ q → A q := fun q h => hA q (by omega)
        have hA1_135 := sA.kp (kp_new (e1 := .inr (0, [.int 0, .int 0, .null, .null, .null, .null, .null, .null])) hno133) List.not_mem_nil hA1
        have hV_135 := sV.kp (kp_new (e1 := .inr (0, [.int 0, .int 0, .null, .null, .null, .null, .null, .null])) hno133) List.not_mem_nil hV
        have hR_135 := sR.kp (kp_new (e1 := .inr (0, [.int 0, .int 0, .null, .null, .null, .null, .null, .null])) hno133) List.not_mem_nil hR
        have hH1_135 := sH.kp (kp_new (e1 := .inr (0, [.int 0, .int 0, .null, .null, .null, .null, .null, .null])) hno133) List.not_mem_nil hH1
        have hB_135 := sB.kp (kp_new (e1 := .inr (0, [.int 0, .int 0, .null, .null, .null, .null, .null, .null])) hno133) List.not_mem_nil List.not_mem_nil hB
        have hL_135 := sL.kp (kp_new (e1 := .inr (0, [.int 0, .int 0, .null, .null, .null, .null, .null, .null])) hno133) List.not_mem_nil List.not_mem_nil hL
        have hPl_135 := sP.kp (kp_new (e1 := .inr (0, [.int 0, .int 0, .null, .null, .null, .null, .null, .null])) hno133) List.not_mem_nil List.not_mem_nil hPl
        have hEv_135 := sE.kp (kp_new (e1 := .inr (0, [.int 0, .int 0, .null, .null, .null, .null, .null, .null])) hno133) List.not_mem_nil hEv
        have hRo_135 := sRo.kp (kp_new (e1 := .inr (0, [.int 0, .int 0, .null, .null, .null, .null, .null, .null])) hno133) List.not_mem_nil hRo
        have hVi_135 := sVi.kp (kp_new (e1 := .inr (0, [.int 0, .int 0, .null, .null, .null, .null, .null, .null])) hno133) List.not_mem_nil hVi
        have hWk_135 := sWk.kp (kp_new (e1 := .inr (0, [.int 0, .int 0, .null, .null, .null, .null, .null, .null])) hno133) List.not_mem_nil hWk
        have hHo_135 := sHo.kp (kp_new (e1 := .inr (0, [.int 0, .int 0, .null, .null, .null, .null, .null, .null])) hno133) List.not_mem_nil List.not_mem_nil hHo
        have hHa_135 := sHa.kp (kp_new (e1 := .inr (0, [.int 0, .int 0, .null, .null, .null, .null, .null, .null])) hno133) List.not_mem_nil hHa
        refine lv_dup hx hb dX8_house_37 rfl ?_
        refine lv_iload_n hx hb dX8_house_38 rfl (lv_at hl 1 rfl) ?_
        refine lv_aload_n hx hb dX8_house_39 rfl (lv_at hl 0 rfl) ?_
        refine g_get (ci := 8) hx hb hts hin8 hown hK hP q134_0 rfl 6 (by decide) hf45 rfl rfl dX8_house_40 ?_
        refine lv_iload_n hx hb dX8_house_43 rfl (lv_at hl 2 rfl) ?_
        refine lv_iload_n hx hb dX8_house_44 rfl (lv_at hl 3 rfl) ?_
        refine g_cv (g_runI (As := [.int vq, .int (c 0), .int a, .int b]) (rest := [.ref n, .int (c 7), .ref (x + 3)]) ⟨hx, hb, hml, hown, hts⟩ hK hP (kX0_init l E A (n + 1) (gup G n (.inr (0, [.int 0, .int 0, .null, .null, .null, .null, .null, .null]))) n vq (c 0) a b q134_a hA) (cwI 4 hts gX8_house_X0_init rfl rfl rfl (hts (.initialized RX0) (by decide +kernel)) (hts (.methodLink RX8 114 yX0_init) (by decide +kernel)) (hts (.instanceMethod yX0_init) (by decide +kernel)) rfl (by decide +kernel) ⟨Nat.le_of_ble_eq_true rfl, Nat.le_of_ble_eq_true rfl⟩) rfl hl.1 rfl (Nat.le_of_ble_eq_true rfl) dX8_house_45 ⟨Nat.le_of_ble_eq_true rfl, Nat.le_of_ble_eq_true rfl⟩) hS (fun n' G' H locs hw hP hS => ?_)
        obtain ⟨rfl, hN⟩ := hw
        have hK0 : Kp [] G G' := fun b e _ hb => hN.2.2.2.2.2.2.2 b e (ne_none hb hno0) ((gup_n (ne_none hb hno0)).trans hb)
        have hP : gP E A (n + 7) G' H := hP
        have qh_0 : G' x = some (.inr (8, [.ref (x + 1), .ref (x + 2), .ref (x + 3), .ref (x + 4), .ref (x + 7), .ref (x + 9), .int (c 0), .int (c 7), .int (c 12), .int (c 29), .int (c 30), .int (c 31), .int (c 32), .int (c 33)])) := hK0 _ _ List.not_mem_nil hA1
        have qh_1 : G' (x + 3) = some (.inl (E.2 2, 40, .inr (.inr (.inr (.inr fH))))) := hK0 _ _ List.not_mem_nil hH2
        have hA1_136 := sA.kp (hK0) List.not_mem_nil hA1
        have hV_136 := sV.kp (hK0) List.not_mem_nil hV
        have hR_136 := sR.kp (hK0) List.not_mem_nil hR
        have hH1_136 := sH.kp (hK0) List.not_mem_nil hH1
        have hB_136 := sB.kp (hK0) List.not_mem_nil List.not_mem_nil hB
        have hL_136 := sL.kp (hK0) List.not_mem_nil List.not_mem_nil hL
        have hPl_136 := sP.kp (hK0) List.not_mem_nil List.not_mem_nil hPl
        have hEv_136 := sE.kp (hK0) List.not_mem_nil hEv
        have hRo_136 := sRo.kp (hK0) List.not_mem_nil hRo
        have hVi_136 := sVi.kp (hK0) List.not_mem_nil hVi
        have hWk_136 := sWk.kp (hK0) List.not_mem_nil hWk
        have hHo_136 := sHo.kp (hK0) List.not_mem_nil List.not_mem_nil hHo
        have hHa_136 := sHa.kp (hK0) List.not_mem_nil hHa
        have hN0 := hN.1
        refine g_aast (t0 := 2) (ci := 0) hx hb hK hP hS qh_1 rfl hN0 rfl hc7 dX8_house_48 (fun H locs hP hS => ?_)
        have q137_0 : (gup G' (x + 3) (.inl (E.2 2, 40, .inr (.inr (.inr (.inr (va_up fH (tn (c 7)) (some n)))))))) x = some (.inr (8, [.ref (x + 1), .ref (x + 2), .ref (x + 3), .ref (x + 4), .ref (x + 7), .ref (x + 9), .int (c 0), .int (c 7), .int (c 12), .int (c 29), .int (c 30), .int (c 31), .int (c 32), .int (c 33)])) := (gup_n (ne_oa qh_0 qh_1)).trans qh_0
        have q137_1 : (gup G' (x + 3) (.inl (E.2 2, 40, .inr (.inr (.inr (.inr (va_up fH (tn (c 7)) (some n)))))))) n = some (.inr (0, [.int vq, .int (c 0), .ref (n + 1), .ref (n + 1 + 1), .ref (n + 1 + 2), .ref (n + 1 + 3), .ref (n + 1 + 4), .ref (n + 1 + 5)])) := (gup_n (ne_oa hN0 qh_1)).trans hN0
        have q137_a : (gup G' (x + 3) (.inl (E.2 2, 40, .inr (.inr (.inr (.inr (va_up fH (tn (c 7)) (some n)))))))) (x + 3) = some (.inl (E.2 2, 40, .inr (.inr (.inr (.inr (va_up fH (tn (c 7)) (some n))))))) := gup_s
        have hP : gP E A (n + 7) (gup G' (x + 3) (.inl (E.2 2, 40, .inr (.inr (.inr (.inr (va_up fH (tn (c 7)) (some n)))))))) H := hP
        have hA1_138 := sA.kp (kp_up (e1 := .inl (E.2 2, 40, .inr (.inr (.inr (.inr (va_up fH (tn (c 7)) (some n))))))) qh_1) (kpn (by decide : (8 : Nat) ≠ 22)) hA1_136
        have hB_138 := sB.kp (kp_up (e1 := .inl (E.2 2, 40, .inr (.inr (.inr (.inr (va_up fH (tn (c 7)) (some n))))))) qh_1) (kpn (by decide : (2 : Nat) ≠ 22)) (kpn (by decide : (1 : Nat) ≠ 22)) hB_136
        have hPl_138 := sP.kp (kp_up (e1 := .inl (E.2 2, 40, .inr (.inr (.inr (.inr (va_up fH (tn (c 7)) (some n))))))) qh_1) (kpn (by decide : (21 : Nat) ≠ 22)) (kpn (by decide : (3 : Nat) ≠ 22)) hPl_136
        have hEv_138 := sE.kp (kp_up (e1 := .inl (E.2 2, 40, .inr (.inr (.inr (.inr (va_up fH (tn (c 7)) (some n))))))) qh_1) (kpn (by decide : (20 : Nat) ≠ 22)) hEv_136
        have hRo_138 := sRo.kp (kp_up (e1 := .inl (E.2 2, 40, .inr (.inr (.inr (.inr (va_up fH (tn (c 7)) (some n))))))) qh_1) (kpn (by decide : (4 : Nat) ≠ 22)) hRo_136
        have hVi_138 := sVi.kp (kp_up (e1 := .inl (E.2 2, 40, .inr (.inr (.inr (.inr (va_up fH (tn (c 7)) (some n))))))) qh_1) (kpn (by decide : (6 : Nat) ≠ 22)) hVi_136
        have hWk_138 := sWk.kp (kp_up (e1 := .inl (E.2 2, 40, .inr (.inr (.inr (.inr (va_up fH (tn (c 7)) (some n))))))) qh_1) (kpn (by decide : (7 : Nat) ≠ 22)) hWk_136
        have hHo_138 := sHo.kp (kp_up (e1 := .inl (E.2 2, 40, .inr (.inr (.inr (.inr (va_up fH (tn (c 7)) (some n))))))) qh_1) (kpn (by decide : (0 : Nat) ≠ 22)) (kpn (by decide : (5 : Nat) ≠ 22)) hHo_136
        have hHa_138 := sHa.kp (kp_up (e1 := .inl (E.2 2, 40, .inr (.inr (.inr (.inr (va_up fH (tn (c 7)) (some n))))))) qh_1) (kpn (by decide : (20 : Nat) ≠ 22)) hHa_136
        obtain ⟨fsV, gsV1, gsV2⟩ := hV_136
        have hsV_m : sV E (gup G' (x + 3) (.inl (E.2 2, 40, .inr (.inr (.inr (.inr (va_up fH (tn (c 7)) (some n)))))))) x := ⟨fsV, (gup_n (by omega)).trans gsV1, gsV2⟩
        obtain ⟨fsR, gsR1, gsR2⟩ := hR_136
        have hsR_m : sR E (gup G' (x + 3) (.inl (E.2 2, 40, .inr (.inr (.inr (.inr (va_up fH (tn (c 7)) (some n)))))))) x := ⟨fsR, (gup_n (by omega)).trans gsR1, gsR2⟩
        obtain ⟨fL, gL1, gL2⟩ := hL_136
        have hsL_m : sL E (gup G' (x + 3) (.inl (E.2 2, 40, .inr (.inr (.inr (.inr (va_up fH (tn (c 7)) (some n)))))))) x S la (tn (c 18)) := ⟨fL, (gup_n (by omega)).trans gL1, fun i hi => ⟨(gL2 i hi).1, (gup_n (ne_oa (gL2 i hi).2 qh_1)).trans (gL2 i hi).2⟩⟩
        refine lv_aload_n hx hb dX8_house_49 rfl (lv_at hl 0 rfl) ?_
        refine lv_dup hx hb dX8_house_50 rfl ?_
        refine g_get (ci := 8) hx hb hts hin8 hown hK hP q137_0 rfl 7 (by decide) hf49 rfl rfl dX8_house_51 ?_
        refine lv_iconst (v := 1) hx hb dX8_house_54 (by decide) ?_
        refine lv_iadd hx hb dX8_house_55 ?_
        refine g_put (ci := 8) (ty := .int) (v := .int ((c 7) + 1)) hx hb hts hin8 tyX8 tyX8_ok nmX8 hown hK hP hS q137_0 rfl 7 (by decide) hf49 rfl (Or.inl rfl) (by decide +kernel) rfl rfl (Nat.le_of_ble_eq_true rfl) dX8_house_56 (fun H locs hP hS => ?_)
        have q139_0 : (gup (gup G' (x + 3) (.inl (E.2 2, 40, .inr (.inr (.inr (.inr (va_up fH (tn (c 7)) (some n)))))))) x (.inr (8, [.ref (x + 1), .ref (x + 2), .ref (x + 3), .ref (x + 4), .ref (x + 7), .ref (x + 9), .int (c 0), .int ((c 7) + 1), .int (c 12), .int (c 29), .int (c 30), .int (c 31), .int (c 32), .int (c 33)]))) n = some (.inr (0, [.int vq, .int (c 0), .ref (n + 1), .ref (n + 1 + 1), .ref (n + 1 + 2), .ref (n + 1 + 3), .ref (n + 1 + 4), .ref (n + 1 + 5)])) := (gup_n (ne_oo q137_1 q137_0 (by decide))).trans q137_1
        have q139_1 : (gup (gup G' (x + 3) (.inl (E.2 2, 40, .inr (.inr (.inr (.inr (va_up fH (tn (c 7)) (some n)))))))) x (.inr (8, [.ref (x + 1), .ref (x + 2), .ref (x + 3), .ref (x + 4), .ref (x + 7), .ref (x + 9), .int (c 0), .int ((c 7) + 1), .int (c 12), .int (c 29), .int (c 30), .int (c 31), .int (c 32), .int (c 33)]))) (x + 3) = some (.inl (E.2 2, 40, .inr (.inr (.inr (.inr (va_up fH (tn (c 7)) (some n))))))) := (gup_n (ne_ao q137_a q137_0)).trans q137_a
        have q139_a : (gup (gup G' (x + 3) (.inl (E.2 2, 40, .inr (.inr (.inr (.inr (va_up fH (tn (c 7)) (some n)))))))) x (.inr (8, [.ref (x + 1), .ref (x + 2), .ref (x + 3), .ref (x + 4), .ref (x + 7), .ref (x + 9), .int (c 0), .int ((c 7) + 1), .int (c 12), .int (c 29), .int (c 30), .int (c 31), .int (c 32), .int (c 33)]))) x = some (.inr (8, [.ref (x + 1), .ref (x + 2), .ref (x + 3), .ref (x + 4), .ref (x + 7), .ref (x + 9), .int (c 0), .int ((c 7) + 1), .int (c 12), .int (c 29), .int (c 30), .int (c 31), .int (c 32), .int (c 33)])) := gup_s
        have hP : gP E A (n + 7) (gup (gup G' (x + 3) (.inl (E.2 2, 40, .inr (.inr (.inr (.inr (va_up fH (tn (c 7)) (some n)))))))) x (.inr (8, [.ref (x + 1), .ref (x + 2), .ref (x + 3), .ref (x + 4), .ref (x + 7), .ref (x + 9), .int (c 0), .int ((c 7) + 1), .int (c 12), .int (c 29), .int (c 30), .int (c 31), .int (c 32), .int (c 33)]))) H := hP
        have hB_140 := sB.kp (kp_up (e1 := .inr (8, [.ref (x + 1), .ref (x + 2), .ref (x + 3), .ref (x + 4), .ref (x + 7), .ref (x + 9), .int (c 0), .int ((c 7) + 1), .int (c 12), .int (c 29), .int (c 30), .int (c 31), .int (c 32), .int (c 33)])) q137_0) (kpn (by decide : (2 : Nat) ≠ 8)) (kpn (by decide : (1 : Nat) ≠ 8)) hB_138
        have hPl_140 := sP.kp (kp_up (e1 := .inr (8, [.ref (x + 1), .ref (x + 2), .ref (x + 3), .ref (x + 4), .ref (x + 7), .ref (x + 9), .int (c 0), .int ((c 7) + 1), .int (c 12), .int (c 29), .int (c 30), .int (c 31), .int (c 32), .int (c 33)])) q137_0) (kpn (by decide : (21 : Nat) ≠ 8)) (kpn (by decide : (3 : Nat) ≠ 8)) hPl_138
        have hEv_140 := sE.kp (kp_up (e1 := .inr (8, [.ref (x + 1), .ref (x + 2), .ref (x + 3), .ref (x + 4), .ref (x + 7), .ref (x + 9), .int (c 0), .int ((c 7) + 1), .int (c 12), .int (c 29), .int (c 30), .int (c 31), .int (c 32), .int (c 33)])) q137_0) (kpn (by decide : (20 : Nat) ≠ 8)) hEv_138
        have hRo_140 := sRo.kp (kp_up (e1 := .inr (8, [.ref (x + 1), .ref (x + 2), .ref (x + 3), .ref (x + 4), .ref (x + 7), .ref (x + 9), .int (c 0), .int ((c 7) + 1), .int (c 12), .int (c 29), .int (c 30), .int (c 31), .int (c 32), .int (c 33)])) q137_0) (kpn (by decide : (4 : Nat) ≠ 8)) hRo_138
        have hVi_140 := sVi.kp (kp_up (e1 := .inr (8, [.ref (x + 1), .ref (x + 2), .ref (x + 3), .ref (x + 4), .ref (x + 7), .ref (x + 9), .int (c 0), .int ((c 7) + 1), .int (c 12), .int (c 29), .int (c 30), .int (c 31), .int (c 32), .int (c 33)])) q137_0) (kpn (by decide : (6 : Nat) ≠ 8)) hVi_138
        have hWk_140 := sWk.kp (kp_up (e1 := .inr (8, [.ref (x + 1), .ref (x + 2), .ref (x + 3), .ref (x + 4), .ref (x + 7), .ref (x + 9), .int (c 0), .int ((c 7) + 1), .int (c 12), .int (c 29), .int (c 30), .int (c 31), .int (c 32), .int (c 33)])) q137_0) (kpn (by decide : (7 : Nat) ≠ 8)) hWk_138
        have hHo_140 := sHo.kp (kp_up (e1 := .inr (8, [.ref (x + 1), .ref (x + 2), .ref (x + 3), .ref (x + 4), .ref (x + 7), .ref (x + 9), .int (c 0), .int ((c 7) + 1), .int (c 12), .int (c 29), .int (c 30), .int (c 31), .int (c 32), .int (c 33)])) q137_0) (kpn (by decide : (0 : Nat) ≠ 8)) (kpn (by decide : (5 : Nat) ≠ 8)) hHo_138
        have hHa_140 := sHa.kp (kp_up (e1 := .inr (8, [.ref (x + 1), .ref (x + 2), .ref (x + 3), .ref (x + 4), .ref (x + 7), .ref (x + 9), .int (c 0), .int ((c 7) + 1), .int (c 12), .int (c 29), .int (c 30), .int (c 31), .int (c 32), .int (c 33)])) q137_0) (kpn (by decide : (20 : Nat) ≠ 8)) hHa_138
        have hV_140 := sV.kp (kp_up (e1 := .inr (8, [.ref (x + 1), .ref (x + 2), .ref (x + 3), .ref (x + 4), .ref (x + 7), .ref (x + 9), .int (c 0), .int ((c 7) + 1), .int (c 12), .int (c 29), .int (c 30), .int (c 31), .int (c 32), .int (c 33)])) q137_0) (kpn (by decide : (22 : Nat) ≠ 8)) hsV_m
        have hR_140 := sR.kp (kp_up (e1 := .inr (8, [.ref (x + 1), .ref (x + 2), .ref (x + 3), .ref (x + 4), .ref (x + 7), .ref (x + 9), .int (c 0), .int ((c 7) + 1), .int (c 12), .int (c 29), .int (c 30), .int (c 31), .int (c 32), .int (c 33)])) q137_0) (kpn (by decide : (22 : Nat) ≠ 8)) hsR_m
        have hL_140 := sL.kp (kp_up (e1 := .inr (8, [.ref (x + 1), .ref (x + 2), .ref (x + 3), .ref (x + 4), .ref (x + 7), .ref (x + 9), .int (c 0), .int ((c 7) + 1), .int (c 12), .int (c 29), .int (c 30), .int (c 31), .int (c 32), .int (c 33)])) q137_0) (kpn (by decide : (22 : Nat) ≠ 8)) (kpn (by decide : (1 : Nat) ≠ 8)) hsL_m
        refine lv_aload_n hx hb dX8_house_59 rfl (lv_at hl 0 rfl) ?_
        refine g_get (ci := 8) hx hb hts hin8 hown hK hP q139_a rfl 7 (by decide) hf49 rfl rfl dX8_house_60 ?_
        refine lv_iconst (v := 1) hx hb dX8_house_63 (by decide) ?_
        refine lv_isub hx hb dX8_house_64 ?_
        refine W.widen (k := 7) (n := 118) (by omega) (by omega) ?_
        refine g_reti hx hb hr hlk hP hS dX8_house_65 ?_
        have hB0 : houB c vq a b = true := by
          have z2 : ¬ c 7 = 40 := fun z => by rw [z] at b21; exact absurd b21 (by decide)
          have z3 : inB a 0 500 = true ∧ inB b 0 20 = true := by simpa using b12
          simp [houB, b4, z2, z3.1, z3.2]
        have t7 : tn (c 7 + 1) = tn (c 7) + 1 := tn_s h7.1 h7.2 (by decide)
        have hk7 : tn (c 7) < 40 := tn_lt hc7
        have up : ∀ (q : Nat) (e : va_E), n ≤ q → G' q = some e → (gup (gup G' (x + 3) (.inl (E.2 2, 40, .inr (.inr (.inr (.inr (va_up fH (tn (c 7)) (some n)))))))) x (.inr (8, [.ref (x + 1), .ref (x + 2), .ref (x + 3), .ref (x + 4), .ref (x + 7), .ref (x + 9), .int (c 0), .int ((c 7) + 1), .int (c 12), .int (c 29), .int (c 30), .int (c 31), .int (c 32), .int (c 33)]))) q = some e := fun q e h1 h2 => (gup_n (by omega)).trans ((gup_n (by omega)).trans h2)
        refine ⟨by rw [houR, if_pos hB0], by omega, ⟨va_up ha (tn (c 7)) n, la, va_up lt (tn (c 7)) (some (n + 1 + 5)), wa, ww, wn⟩, ?_⟩
        rw [houS, houC, if_pos hB0, if_pos hB0]
        have hHn : sH E (gup (gup G' (x + 3) (.inl (E.2 2, 40, .inr (.inr (.inr (.inr (va_up fH (tn (c 7)) (some n)))))))) x (.inr (8, [.ref (x + 1), .ref (x + 2), .ref (x + 3), .ref (x + 4), .ref (x + 7), .ref (x + 9), .int (c 0), .int ((c 7) + 1), .int (c 12), .int (c 29), .int (c 30), .int (c 31), .int (c 32), .int (c 33)]))) x (va_up ha (tn (c 7)) n) (tn (c 7 + 1)) := by
          refine ⟨_, q139_1, fun g hg => ?_⟩
          rw [t7] at hg
          by_cases hz : g = tn (c 7)
          · rw [hz, va_up_self, va_up_self]
          · rw [va_up_ne _ _ hz, va_up_ne _ _ hz]; exact hH3 g (by omega)
        have hHon : sHo (gup (gup G' (x + 3) (.inl (E.2 2, 40, .inr (.inr (.inr (.inr (va_up fH (tn (c 7)) (some n)))))))) x (.inr (8, [.ref (x + 1), .ref (x + 2), .ref (x + 3), .ref (x + 4), .ref (x + 7), .ref (x + 9), .int (c 0), .int ((c 7) + 1), .int (c 12), .int (c 29), .int (c 30), .int (c 31), .int (c 32), .int (c 33)]))) (va_up (va_up (va_up (va_up S 6 (upd (S 6) (tn (c 7)) vq)) 7 (upd (S 7) (tn (c 7)) (c 0))) 8 (upd (S 8) (tn (c 7)) a)) 9 (upd (S 9) (tn (c 7)) b)) (va_up ha (tn (c 7)) n) (va_up lt (tn (c 7)) (some (n + 1 + 5))) (tn (c 7 + 1)) (tn (c 12)) := by
          intro g hg
          rw [t7] at hg
          by_cases hz : g = tn (c 7)
          · subst hz
            refine ⟨?_, ?_⟩
            · rw [va_up_self]
              refine (up n _ (Nat.le_refl _) hN0).trans ?_
              simp [houE, va_up, upd, va_rf]
            · rw [telL_none _ (fun j hj he => ?_), va_up_self]
              · have e1 : telL (va_up (va_up (va_up (va_up S 6 (upd (S 6) (tn (c 7)) vq)) 7 (upd (S 7) (tn (c 7)) (c 0))) 8 (upd (S 8) (tn (c 7)) a)) 9 (upd (S 9) (tn (c 7)) b)) (tn (c 7)) 0 = [(c 0, c 0, a, b)] := by simp [telL, va_up, upd]
                rw [e1]
                exact ⟨n + 1 + 5, none, rfl, up _ _ (by omega) hN.2.2.2.2.2.2.1, rfl⟩
              · have h1 := (hp.2.2.2.2.2.2.1 j hj).1
                have h2 : S 10 j = nI (tn (c 7)) := he
                rw [nI_tn h7.1] at h2
                rw [h2] at h1
                omega
          · have hg2 : g < tn (c 7) := by omega
            have e1 : telL (va_up (va_up (va_up (va_up S 6 (upd (S 6) (tn (c 7)) vq)) 7 (upd (S 7) (tn (c 7)) (c 0))) 8 (upd (S 8) (tn (c 7)) a)) 9 (upd (S 9) (tn (c 7)) b)) g (tn (c 12)) = telL S g (tn (c 12)) := telL_lt (by simp [va_up, upd, hz]) (by simp [va_up, upd, hz]) (by simp [va_up, upd, hz]) _ (fun j i h1 h2 _ => by rw [va_up_ne _ _ (by omega), va_up_ne _ _ (by omega), va_up_ne _ _ (by omega), va_up_ne _ _ (by omega)])
            have h3 := hHo_140 g hg2
            rw [e1, va_up_ne _ _ hz]
            refine ⟨?_, by rw [va_up_ne _ _ hz]; exact h3.2⟩
            refine h3.1.trans ?_
            simp [houE, va_up, upd, hz]
        have hHan : sHa E (gup (gup G' (x + 3) (.inl (E.2 2, 40, .inr (.inr (.inr (.inr (va_up fH (tn (c 7)) (some n)))))))) x (.inr (8, [.ref (x + 1), .ref (x + 2), .ref (x + 3), .ref (x + 4), .ref (x + 7), .ref (x + 9), .int (c 0), .int ((c 7) + 1), .int (c 12), .int (c 29), .int (c 30), .int (c 31), .int (c 32), .int (c 33)]))) (va_up (va_up (va_up (va_up S 6 (upd (S 6) (tn (c 7)) vq)) 7 (upd (S 7) (tn (c 7)) (c 0))) 8 (upd (S 8) (tn (c 7)) a)) 9 (upd (S 9) (tn (c 7)) b)) (va_up ha (tn (c 7)) n) (tn (c 7 + 1)) := by
          intro g hg j hj
          rw [t7] at hg
          have eS : (va_up (va_up (va_up (va_up S 6 (upd (S 6) (tn (c 7)) vq)) 7 (upd (S 7) (tn (c 7)) (c 0))) 8 (upd (S 8) (tn (c 7)) a)) 9 (upd (S 9) (tn (c 7)) b)) (18 + j) = S (18 + j) := by rw [va_up_ne _ _ (by omega), va_up_ne _ _ (by omega), va_up_ne _ _ (by omega), va_up_ne _ _ (by omega)]
          rw [eS]
          by_cases hz : g = tn (c 7)
          · subst hz
            rw [va_up_self]
            have hZ : ∀ y, y < 21 → S 18 (21 * tn (c 7) + y) = 0 ∧ S 19 (21 * tn (c 7) + y) = 0 ∧ S 20 (21 * tn (c 7) + y) = 0 ∧ S 21 (21 * tn (c 7) + y) = 0 ∧ S 22 (21 * tn (c 7) + y) = -1 := fun y hy => hz0 _ (by omega) (by omega)
            rcases (show j = 0 ∨ j = 1 ∨ j = 2 ∨ j = 3 ∨ j = 4 by omega) with z | z | z | z | z <;> subst z
            · exact ⟨_, up _ _ (by omega) hN.2.1, fun y hy => (hZ y hy).1.symm⟩
            · exact ⟨_, up _ _ (by omega) hN.2.2.1, fun y hy => (hZ y hy).2.1.symm⟩
            · exact ⟨_, up _ _ (by omega) hN.2.2.2.1, fun y hy => (hZ y hy).2.2.1.symm⟩
            · exact ⟨_, up _ _ (by omega) hN.2.2.2.2.1, fun y hy => (hZ y hy).2.2.2.1.symm⟩
            · exact ⟨_, up _ _ (by omega) hN.2.2.2.2.2.1, fun y hy => by rw [show S (18 + 4) = S 22 from rfl, (hZ y hy).2.2.2.2]; simp only [rivF]; rw [if_pos ⟨Nat.zero_le _, hy⟩]⟩
          · rw [va_up_ne _ _ hz]; exact hHa_140 g (by omega) j hj
        have hHpn : pHa x (va_up ha (tn (c 7)) n) (tn (c 7 + 1)) := by
          refine ⟨fun g hg => ?_, fun g g2 h1 h2 => ?_⟩
          · rw [t7] at hg
            by_cases hz : g = tn (c 7)
            · rw [hz, va_up_self]; omega
            · rw [va_up_ne _ _ hz]; exact hHp.1 g (by omega)
          · rw [t7] at h2
            have hz : g ≠ tn (c 7) := by omega
            rw [va_up_ne _ _ hz]
            by_cases hz2 : g2 = tn (c 7)
            · rw [hz2, va_up_self]
              obtain ⟨f, h3, -⟩ := hHa g (by omega) 4 (by decide)
              have := hP00.lt h3
              omega
            · rw [va_up_ne _ _ hz2]; exact hHp.2 g g2 h1 (by omega)
        exact ⟨q139_a, hV_140, hR_140, hHn, hB_140, hL_140, hPl_140, hEv_140, hRo_140, hVi_140, hWk_140, hW, hHon, hHan, hHpn⟩
      · refine lv_iconst (v := (-1)) hx hb dX8_house_24 (by decide) ?_
        refine W.widen (k := 7) (n := 118) (by omega) (by omega) ?_
        refine g_reti hx hb hr hlk hP hS dX8_house_25 ?_
        have hB0 : houB c vq a b = false := by
          cases hz : houB c vq a b
          · rfl
          · exfalso
            simp only [houB, Bool.and_eq_true] at hz
            have z : ¬ c 7 = 40 := by have := hz.2; simpa using this
            have z1 := Int32.le_iff_toInt_le.mp (Int32.not_lt.mp b21)
            have z2 := hp.1.2.1
            have e1 : (40 : Int32).toInt = 40 := rfl
            exact z (Int32.toInt_inj.mp (by omega))
        exact ⟨by rw [houR, if_neg (by rw [hB0]; decide)], Nat.le_refl _, _, by rw [houS, houC, if_neg (by rw [hB0]; decide), if_neg (by rw [hB0]; decide)]; exact hs⟩
