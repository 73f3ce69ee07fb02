theorem telL_cg {S S' : Nat → Nat → Int32} (h : ∀ j, 7 ≤ j → j ≤ 14 → S' j = S j) (a : Nat) : ∀ k, telL S' a k = telL S a k
  | 0 => by simp only [telL, h 7 (by omega) (by omega), h 8 (by omega) (by omega), h 9 (by omega) (by omega)]
  | k + 1 => by simp only [telL, h 10 (by omega) (by omega), h 11 (by omega) (by omega), h 12 (by omega) (by omega), h 13 (by omega) (by omega), h 14 (by omega) (by omega), telL_cg h a k]
theorem sHo.cg {G : gH} {S S' : Nat → Nat → Int32} {ha : Nat → Nat} {lt : Nat → Option Nat} {k nc : Nat} (h : ∀ j, 6 ≤ j → j ≤ 14 → S' j = S j) (q : sHo G S ha lt k nc) : sHo G S' ha lt k nc := fun i hi => by
  refine ⟨?_, ?_⟩
  · rw [houE, h 6 (by omega) (by omega), h 7 (by omega) (by omega)]; exact (q i hi).1
  · rw [telL_cg (fun j h1 h2 => h j (by omega) h2)]; exact (q i hi).2
theorem sHa.cg {E : gT} {G : gH} {S S' : Nat → Nat → Int32} {ha : Nat → Nat} {k : Nat} (h : ∀ j, 18 ≤ j → j ≤ 22 → S' j = S j) (q : sHa E G S ha k) : sHa E G S' ha k := fun i hi j hj => by
  obtain ⟨f, h1, h2⟩ := q i hi j hj
  exact ⟨f, h1, fun y hy => by rw [h (18 + j) (by omega) (by omega)]; exact h2 y hy⟩
theorem sVi_put {G : gH} {x : Nat} {S : Nat → Nat → Int32} {wa : Nat → Nat → Nat} {wn : Nat → Nat} {t : Nat} {b : Int32} (q : sVi G x S wa wn) : sVi (gup G (x + 10 + t) (.inr (6, [.int b, va_rf (wFs wa wn t), va_rf (wLs wa wn t)]))) x (va_up S 0 (upd (S 0) t b)) wa wn := by
  intro v hv
  by_cases h : v = t
  · subst h; rw [gup_s]; simp [va_up, upd]
  · rw [gup_n (by omega), q v hv]; simp [va_up, upd, h]
theorem sRo_put {G : gH} {x : Nat} {S S' : Nat → Nat → Int32} {t : Nat} {e : va_E} (q : sRo G x S) (he : rodE S' t = e) (ho : ∀ i, i ≠ t → rodE S' i = rodE S i) : sRo (gup G (x + 18 + t) e) x S' := by
  intro i hi
  by_cases h : i = t
  · subst h; rw [gup_s, he]
  · rw [gup_n (by omega), q i hi, ho i h]
theorem coin_cg {c c' : Nat → Int32} {S S' : Nat → Nat → Int32} (h0 : c' 0 = c 0) (h18 : c' 18 = c 18) (h15 : S' 15 = S 15) (h17 : S' 17 = S 17) : coinOf c' S' = coinOf c S := by
  have key : ∀ y k, lawN S' y k = lawN S y k := by
    intro y k
    induction k with
    | zero => rfl
    | succ k ih => simp only [lawN, ih, h15]
  unfold coinOf lawOf
  rw [h0, h18, key, h17]
theorem rai_rod (S : Nat → Nat → Int32) (a k : Int32) : rodE (raiS S a k) (tn a) = .inr (4, [.int (minOf 3000 (S 1 (tn a) + k * groOf (S 2 (tn a)))), .int (S 2 (tn a)), .int (S 3 (tn a)), .int (S 4 (tn a)), .int (S 5 (tn a) + k)]) := by
  have e : groOf (S 2 (tn a)) = perOf S a := rfl
  have e2 : minOf 3000 (S 1 (tn a) + k * perOf S a) = raiH S a k := by
    rw [minOf, raiH]
    by_cases q : S 1 (tn a) + k * perOf S a ≤ 3000
    · rw [if_pos q]
      split
      · rfl
      · rename_i z
        apply Int32.toInt_inj.mp
        have z1 : ¬ (S 1 (tn a) + k * perOf S a).toInt < (3000 : Int32).toInt := fun z2 => z (Int32.lt_iff_toInt_lt.mpr z2)
        have z3 := Int32.le_iff_toInt_le.mp q
        omega
    · rw [if_neg q, if_neg (fun z => q (Int32.le_of_lt z))]
  rw [e, e2]
  simp [rodE, raiS, va_up, upd]
theorem rai_other (S : Nat → Nat → Int32) (a k : Int32) (i : Nat) (h : i ≠ tn a) : rodE (raiS S a k) i = rodE S i := by
  simp [rodE, raiS, va_up, upd, h]

set_option maxHeartbeats 2000000 in
set_option maxRecDepth 100000 in
theorem kX8_village (l : Launch) (E : gT) (A : Nat → Prop) (n : Nat) (G : gH) (x : Nat) (c : Nat → Int32) (S : Nat → Nat → Int32) (Y : gL) (a b : Int32) (hs : Sim E G x c S Y) (hp : pI c S)  : gM l yX8_village wsX8_village ({ frames := 2, cells := 0, slots := 0, locals := 41 } : Room) E A n G [.ref x, .int a, .int b] (gQi E A (fun r' n' G' => (gb (vilB a b)) = r' ∧ n ≤ n' ∧ ∃ Y', Sim E G' x c (vilS S a b) Y')) 0 0 := by
  refine g_entry (by decide) rfl (Nat.le_of_ble_eq_true rfl) ?_
  intro p e s m below meth c0 hx hb hr hlk hml hown hnm hts hK H locs ls hP hS hl
  have hin6 : ∀ wq ∈ u_ws RX6 TX6 3, wq ∈ wsX8_village := by decide +kernel
  have hin8 : ∀ wq ∈ u_ws RX8 TX8 14, wq ∈ wsX8_village := by decide +kernel
  have hf11 := hts (.fieldLink RX8 11 "DikeHands" "villages" "[LDikeHands$Village;") (by decide +kernel)
  have hf80 := hts (.fieldLink RX8 80 "DikeHands$Village" "mile" "I") (by decide +kernel)
  have hl : lv_has ls 3 [(0, .ref x), (1, .int a), (2, .int b)] := hl
  have h40 := le40 hp
  obtain ⟨ha, la, lt, wa, ww, wn⟩ := Y
  obtain ⟨hA1, hV, hR, hH1, hB, hL, hPl, hEv, hRo, hVi, hWk, hW, hHo, hHa, hHp⟩ := id hs
  try dsimp only at hH1 hL hVi hWk hW hHo hHa hHp
  obtain ⟨fV, hV1, hV2⟩ := id hV
  refine lv_iload_n hx hb dX8_village_0 rfl (lv_at hl 1 rfl) ?_
  refine g_ci (g_runS (As := [.int a]) (rest := []) ⟨hx, hb, hml, hown, hts⟩ hK hP (kX8_isVillage l E A n G a) (va_cwS 1 hts gX8_village_X8_isVillage rfl rfl rfl (by decide +kernel) ⟨Nat.le_of_ble_eq_true rfl, Nat.le_of_ble_eq_true rfl⟩) rfl hl.1 rfl (Nat.le_of_ble_eq_true rfl) dX8_village_1 ⟨Nat.le_of_ble_eq_true rfl, Nat.le_of_ble_eq_true rfl⟩) hS (fun r1 n' G' H locs hw hP hS => ?_)
  obtain ⟨rfl, rfl, rfl⟩ := hw
  refine g_ifeq (tgt := 16) hx hb dX8_village_4 (by decide) (fun b4 => ?_) (fun b4 => ?_)
  · refine lv_iconst (v := 0) hx hb dX8_village_16 (by decide) ?_
    refine g_retz hx hb hr hlk hP hS dX8_village_17 rfl ?_
    have hB0 : vilB a b = false := by first | (simp [vilB, b4]; done) | (exfalso; simp_all; done)
    exact ⟨by rw [hB0]; rfl, Nat.le_refl _, _, by rw [vilS, if_neg (by rw [hB0]; decide)]; exact hs⟩
  · refine lv_iload_n hx hb dX8_village_7 rfl (lv_at hl 2 rfl) ?_
    refine lv_bipush (v := 99) hx hb dX8_village_8 (by decide) ?_
    refine g_ci (g_runS (As := [.int b, .int 99]) (rest := []) ⟨hx, hb, hml, hown, hts⟩ hK hP (kX8_isWithin l E A n G b 99) (va_cwS 2 hts gX8_village_X8_isWithin rfl rfl rfl (by decide +kernel) ⟨Nat.le_of_ble_eq_true rfl, Nat.le_of_ble_eq_true rfl⟩) rfl hl.1 rfl (Nat.le_of_ble_eq_true rfl) dX8_village_10 ⟨Nat.le_of_ble_eq_true rfl, Nat.le_of_ble_eq_true rfl⟩) hS (fun r10 n' G' H locs hw hP hS => ?_)
    obtain ⟨rfl, rfl, rfl⟩ := hw
    refine g_ifne (tgt := 18) hx hb dX8_village_13 (by decide) (fun b13 => ?_) (fun b13 => ?_)
    · refine lv_aload_n hx hb dX8_village_18 rfl (lv_at hl 0 rfl) ?_
      refine g_get (ci := 8) hx hb hts hin8 hown hK hP hA1 rfl 0 (by decide) hf11 rfl rfl dX8_village_19 ?_
      refine lv_iload_n hx hb dX8_village_22 rfl (lv_at hl 1 rfl) ?_
      have fv23 := hVi (tn a) (tn_lt (inB_vp (N := 8) b4 (by decide)))
      refine g_aald (t0 := 5) (v := .ref (x + 10 + tn a)) hx hb hK hP hV1 rfl (inB_vp b4 (by decide)) (by rw [hV2 (tn a) (tn_lt (inB_vp (N := 8) b4 (by decide)))]; rfl) dX8_village_23 ?_
      refine lv_iload_n hx hb dX8_village_24 rfl (lv_at hl 2 rfl) ?_
      refine g_put (ci := 6) (ty := .int) (v := .int b) hx hb hts hin6 tyX6 tyX6_ok nmX6 hown hK hP hS fv23 rfl 0 (by decide) hf80 rfl (Or.inl rfl) (by decide +kernel) rfl rfl (Nat.le_of_ble_eq_true rfl) dX8_village_25 (fun H locs hP hS => ?_)
      have q97_0 : (gup G (x + 10 + tn a) (.inr (6, [.int b, va_rf (wFs wa wn (tn a)), va_rf (wLs wa wn (tn a))]))) x = some (.inr (8, [.ref (x + 1), .ref (x + 2), .ref (x + 3), .ref (x + 4), .ref (x + 7), .ref (x + 9), .int (c 0), .int (c 7), .int (c 12), .int (c 29), .int (c 30), .int (c 31), .int (c 32), .int (c 33)])) := (gup_n (ne_oo hA1 fv23 (by decide))).trans hA1
      have q97_1 : (gup G (x + 10 + tn a) (.inr (6, [.int b, va_rf (wFs wa wn (tn a)), va_rf (wLs wa wn (tn a))]))) (x + 1) = some (.inl (E.2 5, 8, .inr (.inr (.inr (.inr fV))))) := (gup_n (ne_ao hV1 fv23)).trans hV1
      have q97_a : (gup G (x + 10 + tn a) (.inr (6, [.int b, va_rf (wFs wa wn (tn a)), va_rf (wLs wa wn (tn a))]))) (x + 10 + tn a) = some (.inr (6, [.int b, va_rf (wFs wa wn (tn a)), va_rf (wLs wa wn (tn a))])) := gup_s
      have hP : gP E A n (gup G (x + 10 + tn a) (.inr (6, [.int b, va_rf (wFs wa wn (tn a)), va_rf (wLs wa wn (tn a))]))) H := hP
      have hA1_98 := sA.kp (kp_up (e1 := .inr (6, [.int b, va_rf (wFs wa wn (tn a)), va_rf (wLs wa wn (tn a))])) fv23) (kpn (by decide : (8 : Nat) ≠ 6)) hA1
      have hV_98 := sV.kp (kp_up (e1 := .inr (6, [.int b, va_rf (wFs wa wn (tn a)), va_rf (wLs wa wn (tn a))])) fv23) (kpn (by decide : (22 : Nat) ≠ 6)) hV
      have hR_98 := sR.kp (kp_up (e1 := .inr (6, [.int b, va_rf (wFs wa wn (tn a)), va_rf (wLs wa wn (tn a))])) fv23) (kpn (by decide : (22 : Nat) ≠ 6)) hR
      have hH1_98 := sH.kp (kp_up (e1 := .inr (6, [.int b, va_rf (wFs wa wn (tn a)), va_rf (wLs wa wn (tn a))])) fv23) (kpn (by decide : (22 : Nat) ≠ 6)) hH1
      have hB_98 := sB.kp (kp_up (e1 := .inr (6, [.int b, va_rf (wFs wa wn (tn a)), va_rf (wLs wa wn (tn a))])) fv23) (kpn (by decide : (2 : Nat) ≠ 6)) (kpn (by decide : (1 : Nat) ≠ 6)) hB
      have hL_98 := sL.kp (kp_up (e1 := .inr (6, [.int b, va_rf (wFs wa wn (tn a)), va_rf (wLs wa wn (tn a))])) fv23) (kpn (by decide : (22 : Nat) ≠ 6)) (kpn (by decide : (1 : Nat) ≠ 6)) hL
      have hPl_98 := sP.kp (kp_up (e1 := .inr (6, [.int b, va_rf (wFs wa wn (tn a)), va_rf (wLs wa wn (tn a))])) fv23) (kpn (by decide : (21 : Nat) ≠ 6)) (kpn (by decide : (3 : Nat) ≠ 6)) hPl
      have hEv_98 := sE.kp (kp_up (e1 := .inr (6, [.int b, va_rf (wFs wa wn (tn a)), va_rf (wLs wa wn (tn a))])) fv23) (kpn (by decide : (20 : Nat) ≠ 6)) hEv
      have hRo_98 := sRo.kp (kp_up (e1 := .inr (6, [.int b, va_rf (wFs wa wn (tn a)), va_rf (wLs wa wn (tn a))])) fv23) (kpn (by decide : (4 : Nat) ≠ 6)) hRo
      have hWk_98 := sWk.kp (kp_up (e1 := .inr (6, [.int b, va_rf (wFs wa wn (tn a)), va_rf (wLs wa wn (tn a))])) fv23) (kpn (by decide : (7 : Nat) ≠ 6)) hWk
      have hHo_98 := sHo.kp (kp_up (e1 := .inr (6, [.int b, va_rf (wFs wa wn (tn a)), va_rf (wLs wa wn (tn a))])) fv23) (kpn (by decide : (0 : Nat) ≠ 6)) (kpn (by decide : (5 : Nat) ≠ 6)) hHo
      have hHa_98 := sHa.kp (kp_up (e1 := .inr (6, [.int b, va_rf (wFs wa wn (tn a)), va_rf (wLs wa wn (tn a))])) fv23) (kpn (by decide : (20 : Nat) ≠ 6)) hHa
      refine lv_iconst (v := 1) hx hb dX8_village_28 (by decide) ?_
      refine g_retz hx hb hr hlk hP hS dX8_village_29 rfl ?_
      have hB0 : vilB a b = true := by first | (simp [vilB, b4, b13]; done) | (exfalso; simp_all; done)
      refine ⟨by rw [hB0]; rfl, Nat.le_refl _, ⟨ha, la, lt, wa, ww, wn⟩, ?_⟩
      rw [vilS, if_pos hB0]
      exact ⟨hA1_98, hV_98, hR_98, hH1_98, hB_98, hL_98, hPl_98, hEv_98, hRo_98, sVi_put hVi, hWk_98, hW, (sHo.cg (fun j h1 h2 => by simp only [va_up]; repeat (first | rfl | (rw [if_neg (by omega)]))) hHo_98), (sHa.cg (fun j h1 h2 => by simp only [va_up]; repeat (first | rfl | (rw [if_neg (by omega)]))) hHa_98), hHp⟩
    · refine lv_iconst (v := 0) hx hb dX8_village_16 (by decide) ?_
      refine g_retz hx hb hr hlk hP hS dX8_village_17 rfl ?_
      have hB0 : vilB a b = false := by first | (simp [vilB, b4, b13]; done) | (exfalso; simp_all; done)
      exact ⟨by rw [hB0]; rfl, Nat.le_refl _, _, by rw [vilS, if_neg (by rw [hB0]; decide)]; exact hs⟩
set_option maxHeartbeats 2000000 in
set_option maxRecDepth 100000 in
theorem kX8_rod (l : Launch) (E : gT) (A : Nat → Prop) (n : Nat) (G : gH) (x : Nat) (c : Nat → Int32) (S : Nat → Nat → Int32) (Y : gL) (a b dq : Int32) (hs : Sim E G x c S Y) (hp : pI c S)  : gM l yX8_rod wsX8_rod ({ frames := 2, cells := 0, slots := 0, locals := 41 } : Room) E A n G [.ref x, .int a, .int b, .int dq] (gQi E A (fun r' n' G' => (gb (rodB a b dq)) = r' ∧ n ≤ n' ∧ ∃ Y', Sim E G' x c (rodS S a b dq) Y')) 0 0 := by
  refine g_entry (by decide) rfl (Nat.le_of_ble_eq_true rfl) ?_
  intro p e s m below meth c0 hx hb hr hlk hml hown hnm hts hK H locs ls hP hS hl
  have hin4 : ∀ wq ∈ u_ws RX4 TX4 5, wq ∈ wsX8_rod := by decide +kernel
  have hin8 : ∀ wq ∈ u_ws RX8 TX8 14, wq ∈ wsX8_rod := by decide +kernel
  have hf17 := hts (.fieldLink RX8 17 "DikeHands" "rods" "[LDikeHands$Rod;") (by decide +kernel)
  have hf86 := hts (.fieldLink RX8 86 "DikeHands$Rod" "soil" "I") (by decide +kernel)
  have hf89 := hts (.fieldLink RX8 89 "DikeHands$Rod" "loss" "I") (by decide +kernel)
  have hl : lv_has ls 4 [(0, .ref x), (1, .int a), (2, .int b), (3, .int dq)] := hl
  have h40 := le40 hp
  obtain ⟨ha, la, lt, wa, ww, wn⟩ := Y
  obtain ⟨hA1, hV, hR, hH1, hB, hL, hPl, hEv, hRo, hVi, hWk, hW, hHo, hHa, hHp⟩ := id hs
  try dsimp only at hH1 hL hVi hWk hW hHo hHa hHp
  obtain ⟨fR, hR1, hR2⟩ := id hR
  refine lv_iload_n hx hb dX8_rod_0 rfl (lv_at hl 1 rfl) ?_
  refine g_ci (g_runS (As := [.int a]) (rest := []) ⟨hx, hb, hml, hown, hts⟩ hK hP (kX8_isRod l E A n G a) (va_cwS 1 hts gX8_rod_X8_isRod rfl rfl rfl (by decide +kernel) ⟨Nat.le_of_ble_eq_true rfl, Nat.le_of_ble_eq_true rfl⟩) rfl hl.1 rfl (Nat.le_of_ble_eq_true rfl) dX8_rod_1 ⟨Nat.le_of_ble_eq_true rfl, Nat.le_of_ble_eq_true rfl⟩) hS (fun r1 n' G' H locs hw hP hS => ?_)
  obtain ⟨rfl, rfl, rfl⟩ := hw
  refine g_ifeq (tgt := 25) hx hb dX8_rod_4 (by decide) (fun b4 => ?_) (fun b4 => ?_)
  · refine lv_iconst (v := 0) hx hb dX8_rod_25 (by decide) ?_
    refine g_retz hx hb hr hlk hP hS dX8_rod_26 rfl ?_
    have hB0 : rodB a b dq = false := by first | (simp [rodB, b4]; done) | (exfalso; simp_all; done)
    exact ⟨by rw [hB0]; rfl, Nat.le_refl _, _, by rw [rodS, if_neg (by rw [hB0]; decide)]; exact hs⟩
  · refine lv_iload_n hx hb dX8_rod_7 rfl (lv_at hl 2 rfl) ?_
    refine lv_iconst (v := 2) hx hb dX8_rod_8 (by decide) ?_
    refine g_ci (g_runS (As := [.int b, .int 2]) (rest := []) ⟨hx, hb, hml, hown, hts⟩ hK hP (kX8_isWithin l E A n G b 2) (va_cwS 2 hts gX8_rod_X8_isWithin rfl rfl rfl (by decide +kernel) ⟨Nat.le_of_ble_eq_true rfl, Nat.le_of_ble_eq_true rfl⟩) rfl hl.1 rfl (Nat.le_of_ble_eq_true rfl) dX8_rod_9 ⟨Nat.le_of_ble_eq_true rfl, Nat.le_of_ble_eq_true rfl⟩) hS (fun r9 n' G' H locs hw hP hS => ?_)
    obtain ⟨rfl, rfl, rfl⟩ := hw
    refine g_ifeq (tgt := 25) hx hb dX8_rod_12 (by decide) (fun b12 => ?_) (fun b12 => ?_)
    · refine lv_iconst (v := 0) hx hb dX8_rod_25 (by decide) ?_
      refine g_retz hx hb hr hlk hP hS dX8_rod_26 rfl ?_
      have hB0 : rodB a b dq = false := by first | (simp [rodB, b4, b12]; done) | (exfalso; simp_all; done)
      exact ⟨by rw [hB0]; rfl, Nat.le_refl _, _, by rw [rodS, if_neg (by rw [hB0]; decide)]; exact hs⟩
    · refine lv_iload_n hx hb dX8_rod_15 rfl (lv_at hl 3 rfl) ?_
      refine lv_sipush (v := 10000) hx hb dX8_rod_16 (by decide) ?_
      refine g_ci (g_runS (As := [.int dq, .int 10000]) (rest := []) ⟨hx, hb, hml, hown, hts⟩ hK hP (kX8_isWithin l E A n G dq 10000) (va_cwS 2 hts gX8_rod_X8_isWithin rfl rfl rfl (by decide +kernel) ⟨Nat.le_of_ble_eq_true rfl, Nat.le_of_ble_eq_true rfl⟩) rfl hl.1 rfl (Nat.le_of_ble_eq_true rfl) dX8_rod_19 ⟨Nat.le_of_ble_eq_true rfl, Nat.le_of_ble_eq_true rfl⟩) hS (fun r19 n' G' H locs hw hP hS => ?_)
      obtain ⟨rfl, rfl, rfl⟩ := hw
      refine g_ifne (tgt := 27) hx hb dX8_rod_22 (by decide) (fun b22 => ?_) (fun b22 => ?_)
      · refine lv_aload_n hx hb dX8_rod_27 rfl (lv_at hl 0 rfl) ?_
        refine g_get (ci := 8) hx hb hts hin8 hown hK hP hA1 rfl 1 (by decide) hf17 rfl rfl dX8_rod_28 ?_
        refine lv_iload_n hx hb dX8_rod_31 rfl (lv_at hl 1 rfl) ?_
        have fr32 := hRo (tn a) (tn_lt (inB_vp (N := 30) b4 (by decide)))
        refine g_aald (t0 := 4) (v := .ref (x + 18 + tn a)) hx hb hK hP hR1 rfl (inB_vp b4 (by decide)) (by rw [hR2 (tn a) (tn_lt (inB_vp (N := 30) b4 (by decide)))]; rfl) dX8_rod_32 ?_
        refine lv_iload_n hx hb dX8_rod_33 rfl (lv_at hl 2 rfl) ?_
        refine g_put (ci := 4) (ty := .int) (v := .int b) hx hb hts hin4 tyX4 tyX4_ok nmX4 hown hK hP hS fr32 rfl 1 (by decide) hf86 rfl (Or.inl rfl) (by decide +kernel) rfl rfl (Nat.le_of_ble_eq_true rfl) dX8_rod_34 (fun H locs hP hS => ?_)
        have q99_0 : (gup G (x + 18 + tn a) (.inr (4, [.int (S 1 (tn a)), .int b, .int (S 3 (tn a)), .int (S 4 (tn a)), .int (S 5 (tn a))]))) x = some (.inr (8, [.ref (x + 1), .ref (x + 2), .ref (x + 3), .ref (x + 4), .ref (x + 7), .ref (x + 9), .int (c 0), .int (c 7), .int (c 12), .int (c 29), .int (c 30), .int (c 31), .int (c 32), .int (c 33)])) := (gup_n (ne_oo hA1 fr32 (by decide))).trans hA1
        have q99_1 : (gup G (x + 18 + tn a) (.inr (4, [.int (S 1 (tn a)), .int b, .int (S 3 (tn a)), .int (S 4 (tn a)), .int (S 5 (tn a))]))) (x + 2) = some (.inl (E.2 4, 30, .inr (.inr (.inr (.inr fR))))) := (gup_n (ne_ao hR1 fr32)).trans hR1
        have q99_a : (gup G (x + 18 + tn a) (.inr (4, [.int (S 1 (tn a)), .int b, .int (S 3 (tn a)), .int (S 4 (tn a)), .int (S 5 (tn a))]))) (x + 18 + tn a) = some (.inr (4, [.int (S 1 (tn a)), .int b, .int (S 3 (tn a)), .int (S 4 (tn a)), .int (S 5 (tn a))])) := gup_s
        have hP : gP E A n (gup G (x + 18 + tn a) (.inr (4, [.int (S 1 (tn a)), .int b, .int (S 3 (tn a)), .int (S 4 (tn a)), .int (S 5 (tn a))]))) H := hP
        have hA1_100 := sA.kp (kp_up (e1 := .inr (4, [.int (S 1 (tn a)), .int b, .int (S 3 (tn a)), .int (S 4 (tn a)), .int (S 5 (tn a))])) fr32) (kpn (by decide : (8 : Nat) ≠ 4)) hA1
        have hV_100 := sV.kp (kp_up (e1 := .inr (4, [.int (S 1 (tn a)), .int b, .int (S 3 (tn a)), .int (S 4 (tn a)), .int (S 5 (tn a))])) fr32) (kpn (by decide : (22 : Nat) ≠ 4)) hV
        have hR_100 := sR.kp (kp_up (e1 := .inr (4, [.int (S 1 (tn a)), .int b, .int (S 3 (tn a)), .int (S 4 (tn a)), .int (S 5 (tn a))])) fr32) (kpn (by decide : (22 : Nat) ≠ 4)) hR
        have hH1_100 := sH.kp (kp_up (e1 := .inr (4, [.int (S 1 (tn a)), .int b, .int (S 3 (tn a)), .int (S 4 (tn a)), .int (S 5 (tn a))])) fr32) (kpn (by decide : (22 : Nat) ≠ 4)) hH1
        have hB_100 := sB.kp (kp_up (e1 := .inr (4, [.int (S 1 (tn a)), .int b, .int (S 3 (tn a)), .int (S 4 (tn a)), .int (S 5 (tn a))])) fr32) (kpn (by decide : (2 : Nat) ≠ 4)) (kpn (by decide : (1 : Nat) ≠ 4)) hB
        have hL_100 := sL.kp (kp_up (e1 := .inr (4, [.int (S 1 (tn a)), .int b, .int (S 3 (tn a)), .int (S 4 (tn a)), .int (S 5 (tn a))])) fr32) (kpn (by decide : (22 : Nat) ≠ 4)) (kpn (by decide : (1 : Nat) ≠ 4)) hL
        have hPl_100 := sP.kp (kp_up (e1 := .inr (4, [.int (S 1 (tn a)), .int b, .int (S 3 (tn a)), .int (S 4 (tn a)), .int (S 5 (tn a))])) fr32) (kpn (by decide : (21 : Nat) ≠ 4)) (kpn (by decide : (3 : Nat) ≠ 4)) hPl
        have hEv_100 := sE.kp (kp_up (e1 := .inr (4, [.int (S 1 (tn a)), .int b, .int (S 3 (tn a)), .int (S 4 (tn a)), .int (S 5 (tn a))])) fr32) (kpn (by decide : (20 : Nat) ≠ 4)) hEv
        have hVi_100 := sVi.kp (kp_up (e1 := .inr (4, [.int (S 1 (tn a)), .int b, .int (S 3 (tn a)), .int (S 4 (tn a)), .int (S 5 (tn a))])) fr32) (kpn (by decide : (6 : Nat) ≠ 4)) hVi
        have hWk_100 := sWk.kp (kp_up (e1 := .inr (4, [.int (S 1 (tn a)), .int b, .int (S 3 (tn a)), .int (S 4 (tn a)), .int (S 5 (tn a))])) fr32) (kpn (by decide : (7 : Nat) ≠ 4)) hWk
        have hHo_100 := sHo.kp (kp_up (e1 := .inr (4, [.int (S 1 (tn a)), .int b, .int (S 3 (tn a)), .int (S 4 (tn a)), .int (S 5 (tn a))])) fr32) (kpn (by decide : (0 : Nat) ≠ 4)) (kpn (by decide : (5 : Nat) ≠ 4)) hHo
        have hHa_100 := sHa.kp (kp_up (e1 := .inr (4, [.int (S 1 (tn a)), .int b, .int (S 3 (tn a)), .int (S 4 (tn a)), .int (S 5 (tn a))])) fr32) (kpn (by decide : (20 : Nat) ≠ 4)) hHa
        refine lv_aload_n hx hb dX8_rod_37 rfl (lv_at hl 0 rfl) ?_
        refine g_get (ci := 8) hx hb hts hin8 hown hK hP q99_0 rfl 1 (by decide) hf17 rfl rfl dX8_rod_38 ?_
        refine lv_iload_n hx hb dX8_rod_41 rfl (lv_at hl 1 rfl) ?_
        refine g_aald (t0 := 4) (v := .ref (x + 18 + tn a)) hx hb hK hP q99_1 rfl (inB_vp b4 (by decide)) (by rw [hR2 (tn a) (tn_lt (inB_vp (N := 30) b4 (by decide)))]; rfl) dX8_rod_42 ?_
        refine lv_iload_n hx hb dX8_rod_43 rfl (lv_at hl 3 rfl) ?_
        refine g_put (ci := 4) (ty := .int) (v := .int dq) hx hb hts hin4 tyX4 tyX4_ok nmX4 hown hK hP hS q99_a rfl 2 (by decide) hf89 rfl (Or.inl rfl) (by decide +kernel) rfl rfl (Nat.le_of_ble_eq_true rfl) dX8_rod_44 (fun H locs hP hS => ?_)
        have q101_0 : (gup (gup G (x + 18 + tn a) (.inr (4, [.int (S 1 (tn a)), .int b, .int (S 3 (tn a)), .int (S 4 (tn a)), .int (S 5 (tn a))]))) (x + 18 + tn a) (.inr (4, [.int (S 1 (tn a)), .int b, .int dq, .int (S 4 (tn a)), .int (S 5 (tn a))]))) x = some (.inr (8, [.ref (x + 1), .ref (x + 2), .ref (x + 3), .ref (x + 4), .ref (x + 7), .ref (x + 9), .int (c 0), .int (c 7), .int (c 12), .int (c 29), .int (c 30), .int (c 31), .int (c 32), .int (c 33)])) := (gup_n (ne_oo q99_0 q99_a (by decide))).trans q99_0
        have q101_1 : (gup (gup G (x + 18 + tn a) (.inr (4, [.int (S 1 (tn a)), .int b, .int (S 3 (tn a)), .int (S 4 (tn a)), .int (S 5 (tn a))]))) (x + 18 + tn a) (.inr (4, [.int (S 1 (tn a)), .int b, .int dq, .int (S 4 (tn a)), .int (S 5 (tn a))]))) (x + 2) = some (.inl (E.2 4, 30, .inr (.inr (.inr (.inr fR))))) := (gup_n (ne_ao q99_1 q99_a)).trans q99_1
        have q101_a : (gup (gup G (x + 18 + tn a) (.inr (4, [.int (S 1 (tn a)), .int b, .int (S 3 (tn a)), .int (S 4 (tn a)), .int (S 5 (tn a))]))) (x + 18 + tn a) (.inr (4, [.int (S 1 (tn a)), .int b, .int dq, .int (S 4 (tn a)), .int (S 5 (tn a))]))) (x + 18 + tn a) = some (.inr (4, [.int (S 1 (tn a)), .int b, .int dq, .int (S 4 (tn a)), .int (S 5 (tn a))])) := gup_s
        have hP : gP E A n (gup (gup G (x + 18 + tn a) (.inr (4, [.int (S 1 (tn a)), .int b, .int (S 3 (tn a)), .int (S 4 (tn a)), .int (S 5 (tn a))]))) (x + 18 + tn a) (.inr (4, [.int (S 1 (tn a)), .int b, .int dq, .int (S 4 (tn a)), .int (S 5 (tn a))]))) H := hP
        have hA1_102 := sA.kp (kp_up (e1 := .inr (4, [.int (S 1 (tn a)), .int b, .int dq, .int (S 4 (tn a)), .int (S 5 (tn a))])) q99_a) (kpn (by decide : (8 : Nat) ≠ 4)) hA1_100
        have hV_102 := sV.kp (kp_up (e1 := .inr (4, [.int (S 1 (tn a)), .int b, .int dq, .int (S 4 (tn a)), .int (S 5 (tn a))])) q99_a) (kpn (by decide : (22 : Nat) ≠ 4)) hV_100
        have hR_102 := sR.kp (kp_up (e1 := .inr (4, [.int (S 1 (tn a)), .int b, .int dq, .int (S 4 (tn a)), .int (S 5 (tn a))])) q99_a) (kpn (by decide : (22 : Nat) ≠ 4)) hR_100
        have hH1_102 := sH.kp (kp_up (e1 := .inr (4, [.int (S 1 (tn a)), .int b, .int dq, .int (S 4 (tn a)), .int (S 5 (tn a))])) q99_a) (kpn (by decide : (22 : Nat) ≠ 4)) hH1_100
        have hB_102 := sB.kp (kp_up (e1 := .inr (4, [.int (S 1 (tn a)), .int b, .int dq, .int (S 4 (tn a)), .int (S 5 (tn a))])) q99_a) (kpn (by decide : (2 : Nat) ≠ 4)) (kpn (by decide : (1 : Nat) ≠ 4)) hB_100
        have hL_102 := sL.kp (kp_up (e1 := .inr (4, [.int (S 1 (tn a)), .int b, .int dq, .int (S 4 (tn a)), .int (S 5 (tn a))])) q99_a) (kpn (by decide : (22 : Nat) ≠ 4)) (kpn (by decide : (1 : Nat) ≠ 4)) hL_100
        have hPl_102 := sP.kp (kp_up (e1 := .inr (4, [.int (S 1 (tn a)), .int b, .int dq, .int (S 4 (tn a)), .int (S 5 (tn a))])) q99_a) (kpn (by decide : (21 : Nat) ≠ 4)) (kpn (by decide : (3 : Nat) ≠ 4)) hPl_100
        have hEv_102 := sE.kp (kp_up (e1 := .inr (4, [.int (S 1 (tn a)), .int b, .int dq, .int (S 4 (tn a)), .int (S 5 (tn a))])) q99_a) (kpn (by decide : (20 : Nat) ≠ 4)) hEv_100
        have hVi_102 := sVi.kp (kp_up (e1 := .inr (4, [.int (S 1 (tn a)), .int b, .int dq, .int (S 4 (tn a)), .int (S 5 (tn a))])) q99_a) (kpn (by decide : (6 : Nat) ≠ 4)) hVi_100
        have hWk_102 := sWk.kp (kp_up (e1 := .inr (4, [.int (S 1 (tn a)), .int b, .int dq, .int (S 4 (tn a)), .int (S 5 (tn a))])) q99_a) (kpn (by decide : (7 : Nat) ≠ 4)) hWk_100
        have hHo_102 := sHo.kp (kp_up (e1 := .inr (4, [.int (S 1 (tn a)), .int b, .int dq, .int (S 4 (tn a)), .int (S 5 (tn a))])) q99_a) (kpn (by decide : (0 : Nat) ≠ 4)) (kpn (by decide : (5 : Nat) ≠ 4)) hHo_100
        have hHa_102 := sHa.kp (kp_up (e1 := .inr (4, [.int (S 1 (tn a)), .int b, .int dq, .int (S 4 (tn a)), .int (S 5 (tn a))])) q99_a) (kpn (by decide : (20 : Nat) ≠ 4)) hHa_100
        refine lv_iconst (v := 1) hx hb dX8_rod_47 (by decide) ?_
        refine g_retz hx hb hr hlk hP hS dX8_rod_48 rfl ?_
        have hB0 : rodB a b dq = true := by first | (simp [rodB, b4, b12, b22]; done) | (exfalso; simp_all; done)
        refine ⟨by rw [hB0]; rfl, Nat.le_refl _, ⟨ha, la, lt, wa, ww, wn⟩, ?_⟩
        rw [rodS, if_pos hB0]
        exact ⟨hA1_102, hV_102, hR_102, hH1_102, hB_102, hL_102, hPl_102, hEv_102, (sRo_put (t := tn a) (sRo_put (S' := va_up S 2 (upd (S 2) (tn a) b)) (t := tn a) hRo (by simp [rodE, va_up, upd]) (fun i hi => by simp [rodE, va_up, upd, hi])) (by simp [rodE, va_up, upd]) (fun i hi => by simp [rodE, va_up, upd, hi])), hVi_102, hWk_102, hW, (sHo.cg (fun j h1 h2 => by simp only [va_up]; repeat (first | rfl | (rw [if_neg (by omega)]))) hHo_102), (sHa.cg (fun j h1 h2 => by simp only [va_up]; repeat (first | rfl | (rw [if_neg (by omega)]))) hHa_102), hHp⟩
      · refine lv_iconst (v := 0) hx hb dX8_rod_25 (by decide) ?_
        refine g_retz hx hb hr hlk hP hS dX8_rod_26 rfl ?_
        have hB0 : rodB a b dq = false := by first | (simp [rodB, b4, b12, b22]; done) | (exfalso; simp_all; done)
        exact ⟨by rw [hB0]; rfl, Nat.le_refl _, _, by rw [rodS, if_neg (by rw [hB0]; decide)]; exact hs⟩
set_option maxHeartbeats 2000000 in
set_option maxRecDepth 100000 in
theorem kX8_river (l : Launch) (E : gT) (A : Nat → Prop) (n : Nat) (G : gH) (x : Nat) (c : Nat → Int32) (S : Nat → Nat → Int32) (Y : gL) (a b kq : Int32) (hs : Sim E G x c S Y) (hp : pI c S)  : gM l yX8_river wsX8_river ({ frames := 1, cells := 0, slots := 0, locals := 21 } : Room) E A n G [.ref x, .int a, .int b, .int kq] (gQi E A (fun r' n' G' => (gb (rivB c a b kq)) = r' ∧ n ≤ n' ∧ ∃ Y', Sim E G' x c (rivS c S a b kq) Y')) 0 0 := by
  refine g_entry (by decide) rfl (Nat.le_of_ble_eq_true rfl) ?_
  intro p e s m below meth c0 hx hb hr hlk hml hown hnm hts hK H locs ls hP hS hl
  have hin8 : ∀ wq ∈ u_ws RX8 TX8 14, wq ∈ wsX8_river := by decide +kernel
  have hf41 := hts (.fieldLink RX8 41 "DikeHands" "levels" "[I") (by decide +kernel)
  have hf45 := hts (.fieldLink RX8 45 "DikeHands" "now" "I") (by decide +kernel)
  have hl : lv_has ls 5 [(0, .ref x), (1, .int a), (2, .int b), (3, .int kq)] := hl
  have h40 := le40 hp
  obtain ⟨ha, la, lt, wa, ww, wn⟩ := Y
  obtain ⟨hA1, hV, hR, hH1, hB, hL, hPl, hEv, hRo, hVi, hWk, hW, hHo, hHa, hHp⟩ := id hs
  try dsimp only at hH1 hL hVi hWk hW hHo hHa hHp
  refine lv_iload_n hx hb dX8_river_0 rfl (lv_at hl 1 rfl) ?_
  refine lv_aload_n hx hb dX8_river_1 rfl (lv_at hl 0 rfl) ?_
  refine g_get (ci := 8) hx hb hts hin8 hown hK hP hA1 rfl 6 (by decide) hf45 rfl rfl dX8_river_2 ?_
  refine lv_icmp_lt (tgt := 30) hx hb dX8_river_5 (by decide) (fun b5 => ?_) (fun b5 => ?_)
  · refine lv_iconst (v := 0) hx hb dX8_river_30 (by decide) ?_
    refine g_retz hx hb hr hlk hP hS dX8_river_31 rfl ?_
    have hB0 : rivB c a b kq = false := by
      cases hz : rivB c a b kq
      · rfl
      · exfalso
        simp only [rivB, Bool.and_eq_true] at hz
        have z1 := inB_i hz.1.1
        have z2 := inB_i hz.1.2
        have e9 : (1039 : Int32).toInt = 1039 := rfl
        have e10 : (1040 : Int32).toInt = 1040 := rfl
        have := Int32.lt_iff_toInt_lt.mp b5; omega
    exact ⟨by rw [hB0]; rfl, Nat.le_refl _, _, by rw [rivS, if_neg (by rw [hB0]; decide)]; exact hs⟩
  · refine lv_iload_n hx hb dX8_river_8 rfl (lv_at hl 2 rfl) ?_
    refine lv_iload_n hx hb dX8_river_9 rfl (lv_at hl 1 rfl) ?_
    refine lv_icmp_lt (tgt := 30) hx hb dX8_river_10 (by decide) (fun b10 => ?_) (fun b10 => ?_)
    · refine lv_iconst (v := 0) hx hb dX8_river_30 (by decide) ?_
      refine g_retz hx hb hr hlk hP hS dX8_river_31 rfl ?_
      have hB0 : rivB c a b kq = false := by
        cases hz : rivB c a b kq
        · rfl
        · exfalso
          simp only [rivB, Bool.and_eq_true] at hz
          have z1 := inB_i hz.1.1
          have z2 := inB_i hz.1.2
          have e9 : (1039 : Int32).toInt = 1039 := rfl
          have e10 : (1040 : Int32).toInt = 1040 := rfl
          have := Int32.lt_iff_toInt_lt.mp b10; omega
      exact ⟨by rw [hB0]; rfl, Nat.le_refl _, _, by rw [rivS, if_neg (by rw [hB0]; decide)]; exact hs⟩
    · refine lv_iload_n hx hb dX8_river_13 rfl (lv_at hl 2 rfl) ?_
      refine lv_sipush (v := 1040) hx hb dX8_river_14 (by decide) ?_
      refine lv_icmp_ge (tgt := 30) hx hb dX8_river_17 (by decide) (fun b17 => ?_) (fun b17 => ?_)
      · refine lv_iconst (v := 0) hx hb dX8_river_30 (by decide) ?_
        refine g_retz hx hb hr hlk hP hS dX8_river_31 rfl ?_
        have hB0 : rivB c a b kq = false := by
          cases hz : rivB c a b kq
          · rfl
          · exfalso
            simp only [rivB, Bool.and_eq_true] at hz
            have z1 := inB_i hz.1.1
            have z2 := inB_i hz.1.2
            have e9 : (1039 : Int32).toInt = 1039 := rfl
            have e10 : (1040 : Int32).toInt = 1040 := rfl
            have := Int32.le_iff_toInt_le.mp b17; omega
        exact ⟨by rw [hB0]; rfl, Nat.le_refl _, _, by rw [rivS, if_neg (by rw [hB0]; decide)]; exact hs⟩
      · refine lv_iload_n hx hb dX8_river_20 rfl (lv_at hl 3 rfl) ?_
        refine lv_sipush (v := 3000) hx hb dX8_river_21 (by decide) ?_
        refine g_ci (g_runS (As := [.int kq, .int 3000]) (rest := []) ⟨hx, hb, hml, hown, hts⟩ hK hP (kX8_isWithin l E A n G kq 3000) (va_cwS 2 hts gX8_river_X8_isWithin rfl rfl rfl (by decide +kernel) ⟨Nat.le_of_ble_eq_true rfl, Nat.le_of_ble_eq_true rfl⟩) rfl hl.1 rfl (Nat.le_of_ble_eq_true rfl) dX8_river_24 ⟨Nat.le_of_ble_eq_true rfl, Nat.le_of_ble_eq_true rfl⟩) hS (fun r24 n' G' H locs hw hP hS => ?_)
        obtain ⟨rfl, rfl, rfl⟩ := hw
        refine g_ifne (tgt := 32) hx hb dX8_river_27 (by decide) (fun b27 => ?_) (fun b27 => ?_)
        · have hr1 : inB a (c 0) 1039 = true ∧ inB b a 1039 = true := by
            have q1 : ¬ a.toInt < (c 0).toInt := fun z => b5 (Int32.lt_iff_toInt_lt.mpr z)
            have q2 : ¬ b.toInt < a.toInt := fun z => b10 (Int32.lt_iff_toInt_lt.mpr z)
            have q3 : ¬ (1040 : Int) ≤ b.toInt := fun z => b17 (Int32.le_iff_toInt_le.mpr z)
            have e9 : (1039 : Int32).toInt = 1039 := rfl
            exact ⟨inB_of (by omega) (by omega), inB_of (by omega) (by omega)⟩
          obtain ⟨ai, hai, rfl⟩ := vp_in_of (inB_of3 (c := c) hp.1.1.1 hr1.1) (by decide)
          have hb2 : vp_in b 1040 := inB_of3 (c := c) (by rw [nI_toInt (by omega)]; omega) hr1.2
          obtain ⟨bi, hbi, rfl⟩ := vp_in_of hb2 (by decide)
          have hab : ai ≤ bi := by
            have h1 := inB_i hr1.2
            rw [nI_toInt (by omega), nI_toInt (by omega)] at h1
            omega
          obtain ⟨fe, hE1, hE2⟩ := id hEv
          have hE1 : G (x + 9) = some (.inl (E.2 0, 1040, .inl fe)) := hE1
          have hP : gP E A n (gup G (x + 9) (.inl (E.2 0, 1040, .inl (rivF fe ai ai kq)))) H := by rw [rivF_0, gup_id hE1]; exact hP
          refine lv_iload_n hx hb dX8_river_32 rfl (lv_at hl 1 rfl) ?_
          refine lv_istore (lv' := [(4, .int (nI ai)), (0, .ref x), (1, .int (nI ai)), (2, .int (nI bi)), (3, .int kq)]) hx hb dX8_river_33 hl (by decide) rfl (fun ls hl => ?_)
          refine g_loop (τ := Nat) (fun i => ai ≤ i ∧ i ≤ bi + 1) (fun i => bi + 1 - i) (fun i => n) (fun i => gup G (x + 9) (.inl (E.2 0, 1040, .inl (rivF fe ai i kq)))) (fun i => 0) (fun i => 0) (fun i => [(0, .ref x), (1, .int (nI ai)), (2, .int (nI bi)), (3, .int kq), (4, .int (nI i))]) ?_ ai (⟨Nat.le_refl _, by omega⟩) H locs ls hP hS (lv_sub hl [1, 2, 3, 4, 0] rfl)
          intro i hI35 ih H locs ls hP hS hl
          try dsimp only at hI35
          have hl : lv_has ls 5 [(0, .ref x), (1, .int (nI ai)), (2, .int (nI bi)), (3, .int kq), (4, .int (nI i))] := hl
          have hP : gP E A n (gup G (x + 9) (.inl (E.2 0, 1040, .inl (rivF fe ai i kq)))) H := hP
          have qx : gup G (x + 9) (.inl (E.2 0, 1040, .inl (rivF fe ai i kq))) x = some (.inr (8, objX x c)) := (gup_n (by omega)).trans hA1
          have q9 : gup G (x + 9) (.inl (E.2 0, 1040, .inl (rivF fe ai i kq))) (x + 9) = some (.inl (E.2 0, 1040, .inl (rivF fe ai i kq))) := gup_s
          refine lv_iload hx hb dX8_river_35 (lv_at hl 4 rfl) ?_
          refine lv_iload_n hx hb dX8_river_37 rfl (lv_at hl 2 rfl) ?_
          refine lv_icmp_gt (tgt := 55) hx hb dX8_river_38 (by decide) (fun b38 => ?_) (fun b38 => ?_)
          · have hk3 := lp_gt (by rw [nI_toInt (by omega)]; omega) (by omega) b38
            rw [tn_nI (by omega)] at hk3
            have hke : i = bi + 1 := by omega
            refine lv_iconst (v := 1) hx hb dX8_river_55 (by decide) ?_
            refine g_retz hx hb hr hlk hP hS dX8_river_56 rfl ?_
            have hHa2 : sHa E (gup G (x + 9) (.inl (E.2 0, 1040, .inl (rivF fe ai i kq)))) S ha (tn (c 7)) := fun hq h1 j hj => by
              obtain ⟨f, g1, g2⟩ := hHa hq h1 j hj
              exact ⟨f, (gup_n (by have := hHp.1 hq h1; omega)).trans g1, g2⟩
            have hB0 : rivB c (nI ai) (nI bi) kq = true := by simp [rivB, hr1.1, hr1.2, b27]
            refine ⟨by rw [hB0]; rfl, Nat.le_refl _, ⟨ha, la, lt, wa, ww, wn⟩, ?_⟩
            rw [rivS, if_pos hB0, tn_nI (by omega), tn_nI (by omega), ← hke]
            exact ⟨(sA.kp (kp_up (e1 := .inl (E.2 0, 1040, .inl (rivF fe ai i kq))) hE1) (kpn (by decide : (8 : Nat) ≠ 20)) hA1), (sV.kp (kp_up (e1 := .inl (E.2 0, 1040, .inl (rivF fe ai i kq))) hE1) (kpn (by decide : (22 : Nat) ≠ 20)) hV), (sR.kp (kp_up (e1 := .inl (E.2 0, 1040, .inl (rivF fe ai i kq))) hE1) (kpn (by decide : (22 : Nat) ≠ 20)) hR), (sH.kp (kp_up (e1 := .inl (E.2 0, 1040, .inl (rivF fe ai i kq))) hE1) (kpn (by decide : (22 : Nat) ≠ 20)) hH1), (sB.kp (kp_up (e1 := .inl (E.2 0, 1040, .inl (rivF fe ai i kq))) hE1) (kpn (by decide : (2 : Nat) ≠ 20)) (kpn (by decide : (1 : Nat) ≠ 20)) hB), (sL.kp (kp_up (e1 := .inl (E.2 0, 1040, .inl (rivF fe ai i kq))) hE1) (kpn (by decide : (22 : Nat) ≠ 20)) (kpn (by decide : (1 : Nat) ≠ 20)) hL), (sP.kp (kp_up (e1 := .inl (E.2 0, 1040, .inl (rivF fe ai i kq))) hE1) (kpn (by decide : (21 : Nat) ≠ 20)) (kpn (by decide : (3 : Nat) ≠ 20)) hPl), ⟨_, q9, fun z hz => by rw [va_up_self]; simp only [rivF]; split <;> first | rfl | exact hE2 z hz⟩, (sRo.kp (kp_up (e1 := .inl (E.2 0, 1040, .inl (rivF fe ai i kq))) hE1) (kpn (by decide : (4 : Nat) ≠ 20)) hRo), (sVi.kp (kp_up (e1 := .inl (E.2 0, 1040, .inl (rivF fe ai i kq))) hE1) (kpn (by decide : (6 : Nat) ≠ 20)) hVi), (sWk.kp (kp_up (e1 := .inl (E.2 0, 1040, .inl (rivF fe ai i kq))) hE1) (kpn (by decide : (7 : Nat) ≠ 20)) hWk), hW, (sHo.cg (fun j h1 h2 => by simp only [va_up]; repeat (first | rfl | (rw [if_neg (by omega)]))) (sHo.kp (kp_up (e1 := .inl (E.2 0, 1040, .inl (rivF fe ai i kq))) hE1) (kpn (by decide : (0 : Nat) ≠ 20)) (kpn (by decide : (5 : Nat) ≠ 20)) hHo)), (sHa.cg (fun j h1 h2 => by simp only [va_up]; repeat (first | rfl | (rw [if_neg (by omega)]))) hHa2), hHp⟩
          · have hk3 := lp_ngt (by rw [nI_toInt (by omega)]; omega) (by omega) b38
            rw [tn_nI (by omega)] at hk3
            refine lv_aload_n hx hb dX8_river_41 rfl (lv_at hl 0 rfl) ?_
            refine g_get (ci := 8) hx hb hts hin8 hown hK hP qx rfl 5 (by decide) hf41 rfl rfl dX8_river_42 ?_
            refine lv_iload hx hb dX8_river_45 (lv_at hl 4 rfl) ?_
            refine lv_iload_n hx hb dX8_river_47 rfl (lv_at hl 3 rfl) ?_
            refine g_iast_n hx hb hK hP hS q9 (by omega) (by decide) dX8_river_48 (fun H locs hP hS => ?_)
            have q103_0 : (gup (gup G (x + 9) (.inl (E.2 0, 1040, .inl (rivF fe ai i kq)))) (x + 9) (.inl (E.2 0, 1040, .inl (upd (rivF fe ai i kq) i kq)))) x = some (.inr (8, [.ref (x + 1), .ref (x + 2), .ref (x + 3), .ref (x + 4), .ref (x + 7), .ref (x + 9), .int (c 0), .int (c 7), .int (c 12), .int (c 29), .int (c 30), .int (c 31), .int (c 32), .int (c 33)])) := (gup_n (ne_oa qx q9)).trans qx
            have q103_a : (gup (gup G (x + 9) (.inl (E.2 0, 1040, .inl (rivF fe ai i kq)))) (x + 9) (.inl (E.2 0, 1040, .inl (upd (rivF fe ai i kq) i kq)))) (x + 9) = some (.inl (E.2 0, 1040, .inl (upd (rivF fe ai i kq) i kq))) := gup_s
            have hP : gP E A n (gup (gup G (x + 9) (.inl (E.2 0, 1040, .inl (rivF fe ai i kq)))) (x + 9) (.inl (E.2 0, 1040, .inl (upd (rivF fe ai i kq) i kq)))) H := hP
            refine lv_iinc (v := (nI i) + 1) (lv' := [(4, .int ((nI i) + 1)), (0, .ref x), (1, .int (nI ai)), (2, .int (nI bi)), (3, .int kq)]) hx hb dX8_river_49 hl (k := 4) rfl rfl (by decide) rfl (fun ls hl => ?_)
            refine lv_goto (tgt := 35) hx hb dX8_river_52 (by decide) ?_
            rw [gup_gup, rivF_s _ _ (by omega)] at hP
            refine ih (i + 1) (by omega) (by omega) H locs ls hP hS ?_
            show lv_has ls 5 [(0, .ref x), (1, .int (nI ai)), (2, .int (nI bi)), (3, .int kq), (4, .int (nI (i + 1)))]
            rw [← nI_1 i]
            exact lv_sub hl [1, 2, 3, 4, 0] rfl
        · refine lv_iconst (v := 0) hx hb dX8_river_30 (by decide) ?_
          refine g_retz hx hb hr hlk hP hS dX8_river_31 rfl ?_
          have hB0 : rivB c a b kq = false := by
            cases hz : rivB c a b kq
            · rfl
            · exfalso
              simp only [rivB, Bool.and_eq_true] at hz
              have z1 := inB_i hz.1.1
              have z2 := inB_i hz.1.2
              have e9 : (1039 : Int32).toInt = 1039 := rfl
              have e10 : (1040 : Int32).toInt = 1040 := rfl
              rw [b27] at hz; exact absurd hz.2 (by decide)
          exact ⟨by rw [hB0]; rfl, Nat.le_refl _, _, by rw [rivS, if_neg (by rw [hB0]; decide)]; exact hs⟩
set_option maxHeartbeats 2000000 in
set_option maxRecDepth 100000 in
theorem kX8_hire (l : Launch) (E : gT) (A : Nat → Prop) (n : Nat) (G : gH) (x : Nat) (c : Nat → Int32) (S : Nat → Nat → Int32) (Y : gL) (a kq : Int32) (hs : Sim E G x c S Y) (hp : pI c S)  : gM l yX8_hire wsX8_hire ({ frames := 2, cells := 0, slots := 0, locals := 42 } : Room) E A n G [.ref x, .int a, .int kq] (gQi E A (fun r' n' G' => (hirR c S a kq) = r' ∧ n ≤ n' ∧ ∃ Y', Sim E G' x (hirC c S a kq) (hirS c S a kq) Y')) 0 0 := by
  refine g_entry (by decide) rfl (Nat.le_of_ble_eq_true rfl) ?_
  intro p e s m below meth c0 hx hb hr hlk hml hown hnm hts hK H locs ls hP hS hl
  have hin1 : ∀ wq ∈ u_ws RX1 TX1 5, wq ∈ wsX8_hire := by decide +kernel
  have hin8 : ∀ wq ∈ u_ws RX8 TX8 14, wq ∈ wsX8_hire := by decide +kernel
  have hf17 := hts (.fieldLink RX8 17 "DikeHands" "rods" "[LDikeHands$Rod;") (by decide +kernel)
  have hf30 := hts (.fieldLink RX8 30 "DikeHands" "laws" "LDikeHands$LawBook;") (by decide +kernel)
  have hf55 := hts (.fieldLink RX8 55 "DikeHands" "chest" "I") (by decide +kernel)
  have hf67 := hts (.fieldLink RX8 67 "DikeHands" "daysHired" "I") (by decide +kernel)
  have hf186 := hts (.fieldLink RX8 186 "DikeHands$Law" "coin" "I") (by decide +kernel)
  have hl : lv_has ls 4 [(0, .ref x), (1, .int a), (2, .int kq)] := hl
  have h40 := le40 hp
  obtain ⟨ha, la, lt, wa, ww, wn⟩ := Y
  obtain ⟨hA1, hV, hR, hH1, hB, hL, hPl, hEv, hRo, hVi, hWk, hW, hHo, hHa, hHp⟩ := id hs
  try dsimp only at hH1 hL hVi hWk hW hHo hHa hHp
  obtain ⟨fR, hR1, hR2⟩ := id hR
  have h4 := hB.1
  refine lv_iload_n hx hb dX8_hire_0 rfl (lv_at hl 1 rfl) ?_
  refine g_ci (g_runS (As := [.int a]) (rest := []) ⟨hx, hb, hml, hown, hts⟩ hK hP (kX8_isRod l E A n G a) (va_cwS 1 hts gX8_hire_X8_isRod rfl rfl rfl (by decide +kernel) ⟨Nat.le_of_ble_eq_true rfl, Nat.le_of_ble_eq_true rfl⟩) rfl hl.1 rfl (Nat.le_of_ble_eq_true rfl) dX8_hire_1 ⟨Nat.le_of_ble_eq_true rfl, Nat.le_of_ble_eq_true rfl⟩) hS (fun r1 n' G' H locs hw hP hS => ?_)
  obtain ⟨rfl, rfl, rfl⟩ := hw
  refine g_ifeq (tgt := 19) hx hb dX8_hire_4 (by decide) (fun b4 => ?_) (fun b4 => ?_)
  · refine lv_iconst (v := (-1)) hx hb dX8_hire_19 (by decide) ?_
    refine g_reti hx hb hr hlk hP hS dX8_hire_20 ?_
    have hB0 : hirB c S a kq = false := by
      cases hz : hirB c S a kq
      · rfl
      · exfalso
        simp only [hirB, Bool.and_eq_true] at hz
        rw [b4] at hz; exact absurd hz.1.1.1 (by decide)
    exact ⟨by rw [hirR, if_neg (by rw [hB0]; decide)], Nat.le_refl _, _, by rw [hirS, hirC, if_neg (by rw [hB0]; decide), if_neg (by rw [hB0]; decide)]; exact hs⟩
  · refine lv_iload_n hx hb dX8_hire_7 rfl (lv_at hl 2 rfl) ?_
    refine lv_iconst (v := 1) hx hb dX8_hire_8 (by decide) ?_
    refine lv_icmp_lt (tgt := 19) hx hb dX8_hire_9 (by decide) (fun b9 => ?_) (fun b9 => ?_)
    · refine lv_iconst (v := (-1)) hx hb dX8_hire_19 (by decide) ?_
      refine g_reti hx hb hr hlk hP hS dX8_hire_20 ?_
      have hB0 : hirB c S a kq = false := by
        cases hz : hirB c S a kq
        · rfl
        · exfalso
          simp only [hirB, Bool.and_eq_true] at hz
          have z := (inB_i hz.1.1.2).1; have := Int32.lt_iff_toInt_lt.mp b9; omega
      exact ⟨by rw [hirR, if_neg (by rw [hB0]; decide)], Nat.le_refl _, _, by rw [hirS, hirC, if_neg (by rw [hB0]; decide), if_neg (by rw [hB0]; decide)]; exact hs⟩
    · refine lv_iload_n hx hb dX8_hire_12 rfl (lv_at hl 2 rfl) ?_
      refine lv_sipush (v := 1000) hx hb dX8_hire_13 (by decide) ?_
      refine lv_icmp_le (tgt := 21) hx hb dX8_hire_16 (by decide) (fun b16 => ?_) (fun b16 => ?_)
      · refine lv_aload_n hx hb dX8_hire_21 rfl (lv_at hl 0 rfl) ?_
        refine g_get (ci := 8) hx hb hts hin8 hown hK hP hA1 rfl 3 (by decide) hf30 rfl rfl dX8_hire_22 ?_
        refine lv_aload_n hx hb dX8_hire_25 rfl (lv_at hl 0 rfl) ?_
        refine g_ci (g_runV (As := []) (rest := [.ref (x + 4)]) ⟨hx, hb, hml, hown, hts⟩ hK hP (kX8_yearNow l E A n G x c hA1) (cwV 0 hts gX8_hire_X8_yearNow rfl rfl rfl (by decide +kernel) ⟨Nat.le_of_ble_eq_true rfl, Nat.le_of_ble_eq_true rfl⟩) hA1 rfl rfl hl.1 rfl (Nat.le_of_ble_eq_true rfl) dX8_hire_26 ⟨Nat.le_of_ble_eq_true rfl, Nat.le_of_ble_eq_true rfl⟩) hS (fun r26 n' G' H locs hw hP hS => ?_)
        obtain ⟨rfl, rfl, rfl⟩ := hw
        obtain ⟨fL, hL1, hL2⟩ := id hL
        have hB4 : G (x + 4) = some (.inr (2, [.ref (x + 5), .ref (x + 6), .int (nI (tn (c 18)))])) := by rw [← nI18 hp]; exact hB.1
        refine g_cq (g_runV (As := [.int (c 0 / 52)]) (rest := []) ⟨hx, hb, hml, hown, hts⟩ hK hP (kX2_ofYear l E A n G (x + 4) (x + 5) (x + 6) S la (tn (c 18)) fL (c 0 / 52) h40.2.1 hB4 hL1 hB.2 hL2 (fun i hi => (hp.2.2.2.2.2.2.2 i hi).1)) (cwV 1 hts gX8_hire_X2_ofYear rfl rfl rfl (by decide +kernel) ⟨Nat.le_of_ble_eq_true rfl, Nat.le_of_ble_eq_true rfl⟩) hB4 rfl rfl hl.1 rfl (Nat.le_of_ble_eq_true rfl) dX8_hire_29 ⟨Nat.le_of_ble_eq_true rfl, Nat.le_of_ble_eq_true rfl⟩) hS (fun r29 n' G' H locs hw hP hS => ?_)
        obtain ⟨rfl, rfl, rfl⟩ := hw
        obtain ⟨l1, l2, l3, l4, l5, fl, el5, el⟩ := law_cell hp hB hL (c 0 / 52)
        refine g_get (ci := 1) hx hb hts hin1 hown hK hP fl rfl 4 (by decide) hf186 rfl rfl dX8_hire_32 ?_
        have hco : coinOf c S = l5 := el5.symm
        refine lv_istore_n (lv' := [(3, .int l5), (0, .ref x), (1, .int a), (2, .int kq)]) hx hb dX8_hire_35 rfl hl (by decide) rfl (fun ls hl => ?_)
        refine lv_iload_n hx hb dX8_hire_36 rfl (lv_at hl 0 rfl) ?_
        refine lv_if_eq (tgt := 50) hx hb dX8_hire_37 (by decide) (fun b37 => ?_) (fun b37 => ?_)
        · refine lv_iconst (v := (-1)) hx hb dX8_hire_50 (by decide) ?_
          refine g_reti hx hb hr hlk hP hS dX8_hire_51 ?_
          have hB0 : hirB c S a kq = false := by
            cases hz : hirB c S a kq
            · rfl
            · exfalso
              simp only [hirB, Bool.and_eq_true] at hz
              have z := hz.1.2; rw [hco, b37] at z; exact absurd z (by decide)
          exact ⟨by rw [hirR, if_neg (by rw [hB0]; decide)], Nat.le_refl _, _, by rw [hirS, hirC, if_neg (by rw [hB0]; decide), if_neg (by rw [hB0]; decide)]; exact hs⟩
        · refine lv_iload_n hx hb dX8_hire_40 rfl (lv_at hl 3 rfl) ?_
          refine lv_iload_n hx hb dX8_hire_41 rfl (lv_at hl 0 rfl) ?_
          refine lv_imul hx hb dX8_hire_42 ?_
          refine lv_aload_n hx hb dX8_hire_43 rfl (lv_at hl 1 rfl) ?_
          refine g_get (ci := 8) hx hb hts hin8 hown hK hP hA1 rfl 9 (by decide) hf55 rfl rfl dX8_hire_44 ?_
          refine lv_icmp_le (tgt := 52) hx hb dX8_hire_47 (by decide) (fun b47 => ?_) (fun b47 => ?_)
          · refine lv_aload_n hx hb dX8_hire_52 rfl (lv_at hl 1 rfl) ?_
            refine lv_dup hx hb dX8_hire_53 rfl ?_
            refine g_get (ci := 8) hx hb hts hin8 hown hK hP hA1 rfl 9 (by decide) hf55 rfl rfl dX8_hire_54 ?_
            refine lv_iload_n hx hb dX8_hire_57 rfl (lv_at hl 3 rfl) ?_
            refine lv_iload_n hx hb dX8_hire_58 rfl (lv_at hl 0 rfl) ?_
            refine lv_imul hx hb dX8_hire_59 ?_
            refine lv_isub hx hb dX8_hire_60 ?_
            refine g_put (ci := 8) (ty := .int) (v := .int ((c 29) - (kq * l5))) hx hb hts hin8 tyX8 tyX8_ok nmX8 hown hK hP hS hA1 rfl 9 (by decide) hf55 rfl (Or.inl rfl) (by decide +kernel) rfl rfl (Nat.le_of_ble_eq_true rfl) dX8_hire_61 (fun H locs hP hS => ?_)
            have q105_0 : (gup G x (.inr (8, [.ref (x + 1), .ref (x + 2), .ref (x + 3), .ref (x + 4), .ref (x + 7), .ref (x + 9), .int (c 0), .int (c 7), .int (c 12), .int ((c 29) - (kq * l5)), .int (c 30), .int (c 31), .int (c 32), .int (c 33)]))) (x + 2) = some (.inl (E.2 4, 30, .inr (.inr (.inr (.inr fR))))) := (gup_n (ne_ao hR1 hA1)).trans hR1
            have q105_1 : (gup G x (.inr (8, [.ref (x + 1), .ref (x + 2), .ref (x + 3), .ref (x + 4), .ref (x + 7), .ref (x + 9), .int (c 0), .int (c 7), .int (c 12), .int ((c 29) - (kq * l5)), .int (c 30), .int (c 31), .int (c 32), .int (c 33)]))) (x + 4) = some (.inr (2, [.ref (x + 5), .ref (x + 6), .int (c 18)])) := (gup_n (ne_oo h4 hA1 (by decide))).trans h4
            have q105_2 : (gup G x (.inr (8, [.ref (x + 1), .ref (x + 2), .ref (x + 3), .ref (x + 4), .ref (x + 7), .ref (x + 9), .int (c 0), .int (c 7), .int (c 12), .int ((c 29) - (kq * l5)), .int (c 30), .int (c 31), .int (c 32), .int (c 33)]))) (lbA S la (x + 6) (c 0 / 52) (tn (c 18))) = some (.inr (1, [.int l1, .int l2, .int l3, .int l4, .int l5])) := (gup_n (ne_oo fl hA1 (by decide))).trans fl
            have q105_a : (gup G x (.inr (8, [.ref (x + 1), .ref (x + 2), .ref (x + 3), .ref (x + 4), .ref (x + 7), .ref (x + 9), .int (c 0), .int (c 7), .int (c 12), .int ((c 29) - (kq * l5)), .int (c 30), .int (c 31), .int (c 32), .int (c 33)]))) x = some (.inr (8, [.ref (x + 1), .ref (x + 2), .ref (x + 3), .ref (x + 4), .ref (x + 7), .ref (x + 9), .int (c 0), .int (c 7), .int (c 12), .int ((c 29) - (kq * l5)), .int (c 30), .int (c 31), .int (c 32), .int (c 33)])) := gup_s
            have hP : gP E A n (gup G x (.inr (8, [.ref (x + 1), .ref (x + 2), .ref (x + 3), .ref (x + 4), .ref (x + 7), .ref (x + 9), .int (c 0), .int (c 7), .int (c 12), .int ((c 29) - (kq * l5)), .int (c 30), .int (c 31), .int (c 32), .int (c 33)]))) H := hP
            have hV_106 := sV.kp (kp_up (e1 := .inr (8, [.ref (x + 1), .ref (x + 2), .ref (x + 3), .ref (x + 4), .ref (x + 7), .ref (x + 9), .int (c 0), .int (c 7), .int (c 12), .int ((c 29) - (kq * l5)), .int (c 30), .int (c 31), .int (c 32), .int (c 33)])) hA1) (kpn (by decide : (22 : Nat) ≠ 8)) hV
            have hR_106 := sR.kp (kp_up (e1 := .inr (8, [.ref (x + 1), .ref (x + 2), .ref (x + 3), .ref (x + 4), .ref (x + 7), .ref (x + 9), .int (c 0), .int (c 7), .int (c 12), .int ((c 29) - (kq * l5)), .int (c 30), .int (c 31), .int (c 32), .int (c 33)])) hA1) (kpn (by decide : (22 : Nat) ≠ 8)) hR
            have hH1_106 := sH.kp (kp_up (e1 := .inr (8, [.ref (x + 1), .ref (x + 2), .ref (x + 3), .ref (x + 4), .ref (x + 7), .ref (x + 9), .int (c 0), .int (c 7), .int (c 12), .int ((c 29) - (kq * l5)), .int (c 30), .int (c 31), .int (c 32), .int (c 33)])) hA1) (kpn (by decide : (22 : Nat) ≠ 8)) hH1
            have hB_106 := sB.kp (kp_up (e1 := .inr (8, [.ref (x + 1), .ref (x + 2), .ref (x + 3), .ref (x + 4), .ref (x + 7), .ref (x + 9), .int (c 0), .int (c 7), .int (c 12), .int ((c 29) - (kq * l5)), .int (c 30), .int (c 31), .int (c 32), .int (c 33)])) hA1) (kpn (by decide : (2 : Nat) ≠ 8)) (kpn (by decide : (1 : Nat) ≠ 8)) hB
            have hL_106 := sL.kp (kp_up (e1 := .inr (8, [.ref (x + 1), .ref (x + 2), .ref (x + 3), .ref (x + 4), .ref (x + 7), .ref (x + 9), .int (c 0), .int (c 7), .int (c 12), .int ((c 29) - (kq * l5)), .int (c 30), .int (c 31), .int (c 32), .int (c 33)])) hA1) (kpn (by decide : (22 : Nat) ≠ 8)) (kpn (by decide : (1 : Nat) ≠ 8)) hL
            have hPl_106 := sP.kp (kp_up (e1 := .inr (8, [.ref (x + 1), .ref (x + 2), .ref (x + 3), .ref (x + 4), .ref (x + 7), .ref (x + 9), .int (c 0), .int (c 7), .int (c 12), .int ((c 29) - (kq * l5)), .int (c 30), .int (c 31), .int (c 32), .int (c 33)])) hA1) (kpn (by decide : (21 : Nat) ≠ 8)) (kpn (by decide : (3 : Nat) ≠ 8)) hPl
            have hEv_106 := sE.kp (kp_up (e1 := .inr (8, [.ref (x + 1), .ref (x + 2), .ref (x + 3), .ref (x + 4), .ref (x + 7), .ref (x + 9), .int (c 0), .int (c 7), .int (c 12), .int ((c 29) - (kq * l5)), .int (c 30), .int (c 31), .int (c 32), .int (c 33)])) hA1) (kpn (by decide : (20 : Nat) ≠ 8)) hEv
            have hRo_106 := sRo.kp (kp_up (e1 := .inr (8, [.ref (x + 1), .ref (x + 2), .ref (x + 3), .ref (x + 4), .ref (x + 7), .ref (x + 9), .int (c 0), .int (c 7), .int (c 12), .int ((c 29) - (kq * l5)), .int (c 30), .int (c 31), .int (c 32), .int (c 33)])) hA1) (kpn (by decide : (4 : Nat) ≠ 8)) hRo
            have hVi_106 := sVi.kp (kp_up (e1 := .inr (8, [.ref (x + 1), .ref (x + 2), .ref (x + 3), .ref (x + 4), .ref (x + 7), .ref (x + 9), .int (c 0), .int (c 7), .int (c 12), .int ((c 29) - (kq * l5)), .int (c 30), .int (c 31), .int (c 32), .int (c 33)])) hA1) (kpn (by decide : (6 : Nat) ≠ 8)) hVi
            have hWk_106 := sWk.kp (kp_up (e1 := .inr (8, [.ref (x + 1), .ref (x + 2), .ref (x + 3), .ref (x + 4), .ref (x + 7), .ref (x + 9), .int (c 0), .int (c 7), .int (c 12), .int ((c 29) - (kq * l5)), .int (c 30), .int (c 31), .int (c 32), .int (c 33)])) hA1) (kpn (by decide : (7 : Nat) ≠ 8)) hWk
            have hHo_106 := sHo.kp (kp_up (e1 := .inr (8, [.ref (x + 1), .ref (x + 2), .ref (x + 3), .ref (x + 4), .ref (x + 7), .ref (x + 9), .int (c 0), .int (c 7), .int (c 12), .int ((c 29) - (kq * l5)), .int (c 30), .int (c 31), .int (c 32), .int (c 33)])) hA1) (kpn (by decide : (0 : Nat) ≠ 8)) (kpn (by decide : (5 : Nat) ≠ 8)) hHo
            have hHa_106 := sHa.kp (kp_up (e1 := .inr (8, [.ref (x + 1), .ref (x + 2), .ref (x + 3), .ref (x + 4), .ref (x + 7), .ref (x + 9), .int (c 0), .int (c 7), .int (c 12), .int ((c 29) - (kq * l5)), .int (c 30), .int (c 31), .int (c 32), .int (c 33)])) hA1) (kpn (by decide : (20 : Nat) ≠ 8)) hHa
            refine lv_aload_n hx hb dX8_hire_64 rfl (lv_at hl 1 rfl) ?_
            refine g_get (ci := 8) hx hb hts hin8 hown hK hP q105_a rfl 1 (by decide) hf17 rfl rfl dX8_hire_65 ?_
            refine lv_iload_n hx hb dX8_hire_68 rfl (lv_at hl 2 rfl) ?_
            have fr69 := hRo_106 (tn a) (tn_lt (inB_vp (N := 30) b4 (by decide)))
            refine g_aald (t0 := 4) (v := .ref (x + 18 + tn a)) hx hb hK hP q105_0 rfl (inB_vp b4 (by decide)) (by rw [hR2 (tn a) (tn_lt (inB_vp (N := 30) b4 (by decide)))]; rfl) dX8_hire_69 ?_
            refine lv_iload_n hx hb dX8_hire_70 rfl (lv_at hl 3 rfl) ?_
            refine g_cv (g_runV (As := [.int kq]) (rest := []) ⟨hx, hb, hml, hown, hts⟩ hK hP (kX4_raise l E A n (gup G x (.inr (8, [.ref (x + 1), .ref (x + 2), .ref (x + 3), .ref (x + 4), .ref (x + 7), .ref (x + 9), .int (c 0), .int (c 7), .int (c 12), .int ((c 29) - (kq * l5)), .int (c 30), .int (c 31), .int (c 32), .int (c 33)]))) (x + 18 + tn a) (S 1 (tn a)) (S 2 (tn a)) (S 3 (tn a)) (S 4 (tn a)) (S 5 (tn a)) kq fr69) (cwV 1 hts gX8_hire_X4_raise rfl rfl rfl (by decide +kernel) ⟨Nat.le_of_ble_eq_true rfl, Nat.le_of_ble_eq_true rfl⟩) fr69 rfl rfl hl.1 rfl (Nat.le_of_ble_eq_true rfl) dX8_hire_71 ⟨Nat.le_of_ble_eq_true rfl, Nat.le_of_ble_eq_true rfl⟩) hS (fun n' G' H locs hw hP hS => ?_)
            obtain ⟨rfl, rfl⟩ := hw
            have q107_0 : (gup (gup G x (.inr (8, [.ref (x + 1), .ref (x + 2), .ref (x + 3), .ref (x + 4), .ref (x + 7), .ref (x + 9), .int (c 0), .int (c 7), .int (c 12), .int ((c 29) - (kq * l5)), .int (c 30), .int (c 31), .int (c 32), .int (c 33)]))) (x + 18 + tn a) (.inr (4, [.int (minOf 3000 ((S 1 (tn a)) + kq * groOf (S 2 (tn a)))), .int (S 2 (tn a)), .int (S 3 (tn a)), .int (S 4 (tn a)), .int ((S 5 (tn a)) + kq)]))) (x + 2) = some (.inl (E.2 4, 30, .inr (.inr (.inr (.inr fR))))) := (gup_n (ne_ao q105_0 fr69)).trans q105_0
            have q107_1 : (gup (gup G x (.inr (8, [.ref (x + 1), .ref (x + 2), .ref (x + 3), .ref (x + 4), .ref (x + 7), .ref (x + 9), .int (c 0), .int (c 7), .int (c 12), .int ((c 29) - (kq * l5)), .int (c 30), .int (c 31), .int (c 32), .int (c 33)]))) (x + 18 + tn a) (.inr (4, [.int (minOf 3000 ((S 1 (tn a)) + kq * groOf (S 2 (tn a)))), .int (S 2 (tn a)), .int (S 3 (tn a)), .int (S 4 (tn a)), .int ((S 5 (tn a)) + kq)]))) (x + 4) = some (.inr (2, [.ref (x + 5), .ref (x + 6), .int (c 18)])) := (gup_n (ne_oo q105_1 fr69 (by decide))).trans q105_1
            have q107_2 : (gup (gup G x (.inr (8, [.ref (x + 1), .ref (x + 2), .ref (x + 3), .ref (x + 4), .ref (x + 7), .ref (x + 9), .int (c 0), .int (c 7), .int (c 12), .int ((c 29) - (kq * l5)), .int (c 30), .int (c 31), .int (c 32), .int (c 33)]))) (x + 18 + tn a) (.inr (4, [.int (minOf 3000 ((S 1 (tn a)) + kq * groOf (S 2 (tn a)))), .int (S 2 (tn a)), .int (S 3 (tn a)), .int (S 4 (tn a)), .int ((S 5 (tn a)) + kq)]))) (lbA S la (x + 6) (c 0 / 52) (tn (c 18))) = some (.inr (1, [.int l1, .int l2, .int l3, .int l4, .int l5])) := (gup_n (ne_oo q105_2 fr69 (by decide))).trans q105_2
            have q107_3 : (gup (gup G x (.inr (8, [.ref (x + 1), .ref (x + 2), .ref (x + 3), .ref (x + 4), .ref (x + 7), .ref (x + 9), .int (c 0), .int (c 7), .int (c 12), .int ((c 29) - (kq * l5)), .int (c 30), .int (c 31), .int (c 32), .int (c 33)]))) (x + 18 + tn a) (.inr (4, [.int (minOf 3000 ((S 1 (tn a)) + kq * groOf (S 2 (tn a)))), .int (S 2 (tn a)), .int (S 3 (tn a)), .int (S 4 (tn a)), .int ((S 5 (tn a)) + kq)]))) x = some (.inr (8, [.ref (x + 1), .ref (x + 2), .ref (x + 3), .ref (x + 4), .ref (x + 7), .ref (x + 9), .int (c 0), .int (c 7), .int (c 12), .int ((c 29) - (kq * l5)), .int (c 30), .int (c 31), .int (c 32), .int (c 33)])) := (gup_n (ne_oo q105_a fr69 (by decide))).trans q105_a
            have q107_a : (gup (gup G x (.inr (8, [.ref (x + 1), .ref (x + 2), .ref (x + 3), .ref (x + 4), .ref (x + 7), .ref (x + 9), .int (c 0), .int (c 7), .int (c 12), .int ((c 29) - (kq * l5)), .int (c 30), .int (c 31), .int (c 32), .int (c 33)]))) (x + 18 + tn a) (.inr (4, [.int (minOf 3000 ((S 1 (tn a)) + kq * groOf (S 2 (tn a)))), .int (S 2 (tn a)), .int (S 3 (tn a)), .int (S 4 (tn a)), .int ((S 5 (tn a)) + kq)]))) (x + 18 + tn a) = some (.inr (4, [.int (minOf 3000 ((S 1 (tn a)) + kq * groOf (S 2 (tn a)))), .int (S 2 (tn a)), .int (S 3 (tn a)), .int (S 4 (tn a)), .int ((S 5 (tn a)) + kq)])) := gup_s
            have hP : gP E A n (gup (gup G x (.inr (8, [.ref (x + 1), .ref (x + 2), .ref (x + 3), .ref (x + 4), .ref (x + 7), .ref (x + 9), .int (c 0), .int (c 7), .int (c 12), .int ((c 29) - (kq * l5)), .int (c 30), .int (c 31), .int (c 32), .int (c 33)]))) (x + 18 + tn a) (.inr (4, [.int (minOf 3000 ((S 1 (tn a)) + kq * groOf (S 2 (tn a)))), .int (S 2 (tn a)), .int (S 3 (tn a)), .int (S 4 (tn a)), .int ((S 5 (tn a)) + kq)]))) H := hP
            have hV_108 := sV.kp (kp_up (e1 := .inr (4, [.int (minOf 3000 ((S 1 (tn a)) + kq * groOf (S 2 (tn a)))), .int (S 2 (tn a)), .int (S 3 (tn a)), .int (S 4 (tn a)), .int ((S 5 (tn a)) + kq)])) fr69) (kpn (by decide : (22 : Nat) ≠ 4)) hV_106
            have hR_108 := sR.kp (kp_up (e1 := .inr (4, [.int (minOf 3000 ((S 1 (tn a)) + kq * groOf (S 2 (tn a)))), .int (S 2 (tn a)), .int (S 3 (tn a)), .int (S 4 (tn a)), .int ((S 5 (tn a)) + kq)])) fr69) (kpn (by decide : (22 : Nat) ≠ 4)) hR_106
            have hH1_108 := sH.kp (kp_up (e1 := .inr (4, [.int (minOf 3000 ((S 1 (tn a)) + kq * groOf (S 2 (tn a)))), .int (S 2 (tn a)), .int (S 3 (tn a)), .int (S 4 (tn a)), .int ((S 5 (tn a)) + kq)])) fr69) (kpn (by decide : (22 : Nat) ≠ 4)) hH1_106
            have hB_108 := sB.kp (kp_up (e1 := .inr (4, [.int (minOf 3000 ((S 1 (tn a)) + kq * groOf (S 2 (tn a)))), .int (S 2 (tn a)), .int (S 3 (tn a)), .int (S 4 (tn a)), .int ((S 5 (tn a)) + kq)])) fr69) (kpn (by decide : (2 : Nat) ≠ 4)) (kpn (by decide : (1 : Nat) ≠ 4)) hB_106
            have hL_108 := sL.kp (kp_up (e1 := .inr (4, [.int (minOf 3000 ((S 1 (tn a)) + kq * groOf (S 2 (tn a)))), .int (S 2 (tn a)), .int (S 3 (tn a)), .int (S 4 (tn a)), .int ((S 5 (tn a)) + kq)])) fr69) (kpn (by decide : (22 : Nat) ≠ 4)) (kpn (by decide : (1 : Nat) ≠ 4)) hL_106
            have hPl_108 := sP.kp (kp_up (e1 := .inr (4, [.int (minOf 3000 ((S 1 (tn a)) + kq * groOf (S 2 (tn a)))), .int (S 2 (tn a)), .int (S 3 (tn a)), .int (S 4 (tn a)), .int ((S 5 (tn a)) + kq)])) fr69) (kpn (by decide : (21 : Nat) ≠ 4)) (kpn (by decide : (3 : Nat) ≠ 4)) hPl_106
            have hEv_108 := sE.kp (kp_up (e1 := .inr (4, [.int (minOf 3000 ((S 1 (tn a)) + kq * groOf (S 2 (tn a)))), .int (S 2 (tn a)), .int (S 3 (tn a)), .int (S 4 (tn a)), .int ((S 5 (tn a)) + kq)])) fr69) (kpn (by decide : (20 : Nat) ≠ 4)) hEv_106
            have hVi_108 := sVi.kp (kp_up (e1 := .inr (4, [.int (minOf 3000 ((S 1 (tn a)) + kq * groOf (S 2 (tn a)))), .int (S 2 (tn a)), .int (S 3 (tn a)), .int (S 4 (tn a)), .int ((S 5 (tn a)) + kq)])) fr69) (kpn (by decide : (6 : Nat) ≠ 4)) hVi_106
            have hWk_108 := sWk.kp (kp_up (e1 := .inr (4, [.int (minOf 3000 ((S 1 (tn a)) + kq * groOf (S 2 (tn a)))), .int (S 2 (tn a)), .int (S 3 (tn a)), .int (S 4 (tn a)), .int ((S 5 (tn a)) + kq)])) fr69) (kpn (by decide : (7 : Nat) ≠ 4)) hWk_106
            have hHo_108 := sHo.kp (kp_up (e1 := .inr (4, [.int (minOf 3000 ((S 1 (tn a)) + kq * groOf (S 2 (tn a)))), .int (S 2 (tn a)), .int (S 3 (tn a)), .int (S 4 (tn a)), .int ((S 5 (tn a)) + kq)])) fr69) (kpn (by decide : (0 : Nat) ≠ 4)) (kpn (by decide : (5 : Nat) ≠ 4)) hHo_106
            have hHa_108 := sHa.kp (kp_up (e1 := .inr (4, [.int (minOf 3000 ((S 1 (tn a)) + kq * groOf (S 2 (tn a)))), .int (S 2 (tn a)), .int (S 3 (tn a)), .int (S 4 (tn a)), .int ((S 5 (tn a)) + kq)])) fr69) (kpn (by decide : (20 : Nat) ≠ 4)) hHa_106
            refine lv_aload_n hx hb dX8_hire_74 rfl (lv_at hl 1 rfl) ?_
            refine lv_dup hx hb dX8_hire_75 rfl ?_
            refine g_get (ci := 8) hx hb hts hin8 hown hK hP q107_3 rfl 13 (by decide) hf67 rfl rfl dX8_hire_76 ?_
            refine lv_iload_n hx hb dX8_hire_79 rfl (lv_at hl 3 rfl) ?_
            refine lv_iadd hx hb dX8_hire_80 ?_
            refine g_put (ci := 8) (ty := .int) (v := .int ((c 33) + kq)) hx hb hts hin8 tyX8 tyX8_ok nmX8 hown hK hP hS q107_3 rfl 13 (by decide) hf67 rfl (Or.inl rfl) (by decide +kernel) rfl rfl (Nat.le_of_ble_eq_true rfl) dX8_hire_81 (fun H locs hP hS => ?_)
            have q109_0 : (gup (gup (gup G x (.inr (8, [.ref (x + 1), .ref (x + 2), .ref (x + 3), .ref (x + 4), .ref (x + 7), .ref (x + 9), .int (c 0), .int (c 7), .int (c 12), .int ((c 29) - (kq * l5)), .int (c 30), .int (c 31), .int (c 32), .int (c 33)]))) (x + 18 + tn a) (.inr (4, [.int (minOf 3000 ((S 1 (tn a)) + kq * groOf (S 2 (tn a)))), .int (S 2 (tn a)), .int (S 3 (tn a)), .int (S 4 (tn a)), .int ((S 5 (tn a)) + kq)]))) x (.inr (8, [.ref (x + 1), .ref (x + 2), .ref (x + 3), .ref (x + 4), .ref (x + 7), .ref (x + 9), .int (c 0), .int (c 7), .int (c 12), .int ((c 29) - (kq * l5)), .int (c 30), .int (c 31), .int (c 32), .int ((c 33) + kq)]))) (x + 2) = some (.inl (E.2 4, 30, .inr (.inr (.inr (.inr fR))))) := (gup_n (ne_ao q107_0 q107_3)).trans q107_0
            have q109_1 : (gup (gup (gup G x (.inr (8, [.ref (x + 1), .ref (x + 2), .ref (x + 3), .ref (x + 4), .ref (x + 7), .ref (x + 9), .int (c 0), .int (c 7), .int (c 12), .int ((c 29) - (kq * l5)), .int (c 30), .int (c 31), .int (c 32), .int (c 33)]))) (x + 18 + tn a) (.inr (4, [.int (minOf 3000 ((S 1 (tn a)) + kq * groOf (S 2 (tn a)))), .int (S 2 (tn a)), .int (S 3 (tn a)), .int (S 4 (tn a)), .int ((S 5 (tn a)) + kq)]))) x (.inr (8, [.ref (x + 1), .ref (x + 2), .ref (x + 3), .ref (x + 4), .ref (x + 7), .ref (x + 9), .int (c 0), .int (c 7), .int (c 12), .int ((c 29) - (kq * l5)), .int (c 30), .int (c 31), .int (c 32), .int ((c 33) + kq)]))) (x + 4) = some (.inr (2, [.ref (x + 5), .ref (x + 6), .int (c 18)])) := (gup_n (ne_oo q107_1 q107_3 (by decide))).trans q107_1
            have q109_2 : (gup (gup (gup G x (.inr (8, [.ref (x + 1), .ref (x + 2), .ref (x + 3), .ref (x + 4), .ref (x + 7), .ref (x + 9), .int (c 0), .int (c 7), .int (c 12), .int ((c 29) - (kq * l5)), .int (c 30), .int (c 31), .int (c 32), .int (c 33)]))) (x + 18 + tn a) (.inr (4, [.int (minOf 3000 ((S 1 (tn a)) + kq * groOf (S 2 (tn a)))), .int (S 2 (tn a)), .int (S 3 (tn a)), .int (S 4 (tn a)), .int ((S 5 (tn a)) + kq)]))) x (.inr (8, [.ref (x + 1), .ref (x + 2), .ref (x + 3), .ref (x + 4), .ref (x + 7), .ref (x + 9), .int (c 0), .int (c 7), .int (c 12), .int ((c 29) - (kq * l5)), .int (c 30), .int (c 31), .int (c 32), .int ((c 33) + kq)]))) (lbA S la (x + 6) (c 0 / 52) (tn (c 18))) = some (.inr (1, [.int l1, .int l2, .int l3, .int l4, .int l5])) := (gup_n (ne_oo q107_2 q107_3 (by decide))).trans q107_2
            have q109_3 : (gup (gup (gup G x (.inr (8, [.ref (x + 1), .ref (x + 2), .ref (x + 3), .ref (x + 4), .ref (x + 7), .ref (x + 9), .int (c 0), .int (c 7), .int (c 12), .int ((c 29) - (kq * l5)), .int (c 30), .int (c 31), .int (c 32), .int (c 33)]))) (x + 18 + tn a) (.inr (4, [.int (minOf 3000 ((S 1 (tn a)) + kq * groOf (S 2 (tn a)))), .int (S 2 (tn a)), .int (S 3 (tn a)), .int (S 4 (tn a)), .int ((S 5 (tn a)) + kq)]))) x (.inr (8, [.ref (x + 1), .ref (x + 2), .ref (x + 3), .ref (x + 4), .ref (x + 7), .ref (x + 9), .int (c 0), .int (c 7), .int (c 12), .int ((c 29) - (kq * l5)), .int (c 30), .int (c 31), .int (c 32), .int ((c 33) + kq)]))) (x + 18 + tn a) = some (.inr (4, [.int (minOf 3000 ((S 1 (tn a)) + kq * groOf (S 2 (tn a)))), .int (S 2 (tn a)), .int (S 3 (tn a)), .int (S 4 (tn a)), .int ((S 5 (tn a)) + kq)])) := (gup_n (ne_oo q107_a q107_3 (by decide))).trans q107_a
            have q109_a : (gup (gup (gup G x (.inr (8, [.ref (x + 1), .ref (x + 2), .ref (x + 3), .ref (x + 4), .ref (x + 7), .ref (x + 9), .int (c 0), .int (c 7), .int (c 12), .int ((c 29) - (kq * l5)), .int (c 30), .int (c 31), .int (c 32), .int (c 33)]))) (x + 18 + tn a) (.inr (4, [.int (minOf 3000 ((S 1 (tn a)) + kq * groOf (S 2 (tn a)))), .int (S 2 (tn a)), .int (S 3 (tn a)), .int (S 4 (tn a)), .int ((S 5 (tn a)) + kq)]))) x (.inr (8, [.ref (x + 1), .ref (x + 2), .ref (x + 3), .ref (x + 4), .ref (x + 7), .ref (x + 9), .int (c 0), .int (c 7), .int (c 12), .int ((c 29) - (kq * l5)), .int (c 30), .int (c 31), .int (c 32), .int ((c 33) + kq)]))) x = some (.inr (8, [.ref (x + 1), .ref (x + 2), .ref (x + 3), .ref (x + 4), .ref (x + 7), .ref (x + 9), .int (c 0), .int (c 7), .int (c 12), .int ((c 29) - (kq * l5)), .int (c 30), .int (c 31), .int (c 32), .int ((c 33) + kq)])) := gup_s
            have hP : gP E A n (gup (gup (gup G x (.inr (8, [.ref (x + 1), .ref (x + 2), .ref (x + 3), .ref (x + 4), .ref (x + 7), .ref (x + 9), .int (c 0), .int (c 7), .int (c 12), .int ((c 29) - (kq * l5)), .int (c 30), .int (c 31), .int (c 32), .int (c 33)]))) (x + 18 + tn a) (.inr (4, [.int (minOf 3000 ((S 1 (tn a)) + kq * groOf (S 2 (tn a)))), .int (S 2 (tn a)), .int (S 3 (tn a)), .int (S 4 (tn a)), .int ((S 5 (tn a)) + kq)]))) x (.inr (8, [.ref (x + 1), .ref (x + 2), .ref (x + 3), .ref (x + 4), .ref (x + 7), .ref (x + 9), .int (c 0), .int (c 7), .int (c 12), .int ((c 29) - (kq * l5)), .int (c 30), .int (c 31), .int (c 32), .int ((c 33) + kq)]))) H := hP
            have hV_110 := sV.kp (kp_up (e1 := .inr (8, [.ref (x + 1), .ref (x + 2), .ref (x + 3), .ref (x + 4), .ref (x + 7), .ref (x + 9), .int (c 0), .int (c 7), .int (c 12), .int ((c 29) - (kq * l5)), .int (c 30), .int (c 31), .int (c 32), .int ((c 33) + kq)])) q107_3) (kpn (by decide : (22 : Nat) ≠ 8)) hV_108
            have hR_110 := sR.kp (kp_up (e1 := .inr (8, [.ref (x + 1), .ref (x + 2), .ref (x + 3), .ref (x + 4), .ref (x + 7), .ref (x + 9), .int (c 0), .int (c 7), .int (c 12), .int ((c 29) - (kq * l5)), .int (c 30), .int (c 31), .int (c 32), .int ((c 33) + kq)])) q107_3) (kpn (by decide : (22 : Nat) ≠ 8)) hR_108
            have hH1_110 := sH.kp (kp_up (e1 := .inr (8, [.ref (x + 1), .ref (x + 2), .ref (x + 3), .ref (x + 4), .ref (x + 7), .ref (x + 9), .int (c 0), .int (c 7), .int (c 12), .int ((c 29) - (kq * l5)), .int (c 30), .int (c 31), .int (c 32), .int ((c 33) + kq)])) q107_3) (kpn (by decide : (22 : Nat) ≠ 8)) hH1_108
            have hB_110 := sB.kp (kp_up (e1 := .inr (8, [.ref (x + 1), .ref (x + 2), .ref (x + 3), .ref (x + 4), .ref (x + 7), .ref (x + 9), .int (c 0), .int (c 7), .int (c 12), .int ((c 29) - (kq * l5)), .int (c 30), .int (c 31), .int (c 32), .int ((c 33) + kq)])) q107_3) (kpn (by decide : (2 : Nat) ≠ 8)) (kpn (by decide : (1 : Nat) ≠ 8)) hB_108
            have hL_110 := sL.kp (kp_up (e1 := .inr (8, [.ref (x + 1), .ref (x + 2), .ref (x + 3), .ref (x + 4), .ref (x + 7), .ref (x + 9), .int (c 0), .int (c 7), .int (c 12), .int ((c 29) - (kq * l5)), .int (c 30), .int (c 31), .int (c 32), .int ((c 33) + kq)])) q107_3) (kpn (by decide : (22 : Nat) ≠ 8)) (kpn (by decide : (1 : Nat) ≠ 8)) hL_108
            have hPl_110 := sP.kp (kp_up (e1 := .inr (8, [.ref (x + 1), .ref (x + 2), .ref (x + 3), .ref (x + 4), .ref (x + 7), .ref (x + 9), .int (c 0), .int (c 7), .int (c 12), .int ((c 29) - (kq * l5)), .int (c 30), .int (c 31), .int (c 32), .int ((c 33) + kq)])) q107_3) (kpn (by decide : (21 : Nat) ≠ 8)) (kpn (by decide : (3 : Nat) ≠ 8)) hPl_108
            have hEv_110 := sE.kp (kp_up (e1 := .inr (8, [.ref (x + 1), .ref (x + 2), .ref (x + 3), .ref (x + 4), .ref (x + 7), .ref (x + 9), .int (c 0), .int (c 7), .int (c 12), .int ((c 29) - (kq * l5)), .int (c 30), .int (c 31), .int (c 32), .int ((c 33) + kq)])) q107_3) (kpn (by decide : (20 : Nat) ≠ 8)) hEv_108
            have hVi_110 := sVi.kp (kp_up (e1 := .inr (8, [.ref (x + 1), .ref (x + 2), .ref (x + 3), .ref (x + 4), .ref (x + 7), .ref (x + 9), .int (c 0), .int (c 7), .int (c 12), .int ((c 29) - (kq * l5)), .int (c 30), .int (c 31), .int (c 32), .int ((c 33) + kq)])) q107_3) (kpn (by decide : (6 : Nat) ≠ 8)) hVi_108
            have hWk_110 := sWk.kp (kp_up (e1 := .inr (8, [.ref (x + 1), .ref (x + 2), .ref (x + 3), .ref (x + 4), .ref (x + 7), .ref (x + 9), .int (c 0), .int (c 7), .int (c 12), .int ((c 29) - (kq * l5)), .int (c 30), .int (c 31), .int (c 32), .int ((c 33) + kq)])) q107_3) (kpn (by decide : (7 : Nat) ≠ 8)) hWk_108
            have hHo_110 := sHo.kp (kp_up (e1 := .inr (8, [.ref (x + 1), .ref (x + 2), .ref (x + 3), .ref (x + 4), .ref (x + 7), .ref (x + 9), .int (c 0), .int (c 7), .int (c 12), .int ((c 29) - (kq * l5)), .int (c 30), .int (c 31), .int (c 32), .int ((c 33) + kq)])) q107_3) (kpn (by decide : (0 : Nat) ≠ 8)) (kpn (by decide : (5 : Nat) ≠ 8)) hHo_108
            have hHa_110 := sHa.kp (kp_up (e1 := .inr (8, [.ref (x + 1), .ref (x + 2), .ref (x + 3), .ref (x + 4), .ref (x + 7), .ref (x + 9), .int (c 0), .int (c 7), .int (c 12), .int ((c 29) - (kq * l5)), .int (c 30), .int (c 31), .int (c 32), .int ((c 33) + kq)])) q107_3) (kpn (by decide : (20 : Nat) ≠ 8)) hHa_108
            refine lv_aload_n hx hb dX8_hire_84 rfl (lv_at hl 1 rfl) ?_
            refine g_get (ci := 8) hx hb hts hin8 hown hK hP q109_a rfl 9 (by decide) hf55 rfl rfl dX8_hire_85 ?_
            refine g_reti hx hb hr hlk hP hS dX8_hire_88 ?_
            have hB0 : hirB c S a kq = true := by
              have z1 : inB kq 1 1000 = true := inB_of (Int32.le_iff_toInt_le.mp (Int32.not_lt.mp b9)) (Int32.le_iff_toInt_le.mp b16)
              simp only [hirB, b4, z1, hco, Bool.true_and]
              simp [b37, b47]
            refine ⟨by rw [hirR, if_pos hB0, hco], Nat.le_refl _, ⟨ha, la, lt, wa, ww, wn⟩, ?_⟩
            rw [hirS, hirC, if_pos hB0, if_pos hB0, hco]
            exact ⟨q109_a, hV_110, hR_110, hH1_110, hB_110, hL_110, hPl_110, hEv_110, (sRo.kp (kp_up (e1 := .inr (8, [.ref (x + 1), .ref (x + 2), .ref (x + 3), .ref (x + 4), .ref (x + 7), .ref (x + 9), .int (c 0), .int (c 7), .int (c 12), .int ((c 29) - (kq * l5)), .int (c 30), .int (c 31), .int (c 32), .int ((c 33) + kq)])) q107_3) (kpn (by decide : (4 : Nat) ≠ 8)) (sRo_put (S' := raiS S a kq) (t := tn a) (sRo.kp (kp_up (e1 := .inr (8, [.ref (x + 1), .ref (x + 2), .ref (x + 3), .ref (x + 4), .ref (x + 7), .ref (x + 9), .int (c 0), .int (c 7), .int (c 12), .int ((c 29) - (kq * l5)), .int (c 30), .int (c 31), .int (c 32), .int (c 33)])) hA1) (kpn (by decide : (4 : Nat) ≠ 8)) hRo) (rai_rod S a kq) (fun i hi => rai_other S a kq i hi))), hVi_110, hWk_110, hW, (sHo.cg (fun j h1 h2 => by simp only [raiS, va_up]; repeat (first | rfl | (rw [if_neg (by omega)]))) hHo_110), (sHa.cg (fun j h1 h2 => by simp only [raiS, va_up]; repeat (first | rfl | (rw [if_neg (by omega)]))) hHa_110), hHp⟩
          · refine lv_iconst (v := (-1)) hx hb dX8_hire_50 (by decide) ?_
            refine g_reti hx hb hr hlk hP hS dX8_hire_51 ?_
            have hB0 : hirB c S a kq = false := by
              cases hz : hirB c S a kq
              · rfl
              · exfalso
                simp only [hirB, Bool.and_eq_true] at hz
                have z := of_decide_eq_true hz.2; rw [hco] at z; exact b47 z
            exact ⟨by rw [hirR, if_neg (by rw [hB0]; decide)], Nat.le_refl _, _, by rw [hirS, hirC, if_neg (by rw [hB0]; decide), if_neg (by rw [hB0]; decide)]; exact hs⟩
      · refine lv_iconst (v := (-1)) hx hb dX8_hire_19 (by decide) ?_
        refine g_reti hx hb hr hlk hP hS dX8_hire_20 ?_
        have hB0 : hirB c S a kq = false := by
          cases hz : hirB c S a kq
          · rfl
          · exfalso
            simp only [hirB, Bool.and_eq_true] at hz
            have z := (inB_i hz.1.1.2).2; have := Int32.lt_iff_toInt_lt.mp (Int32.not_le.mp b16); omega
        exact ⟨by rw [hirR, if_neg (by rw [hB0]; decide)], Nat.le_refl _, _, by rw [hirS, hirC, if_neg (by rw [hB0]; decide), if_neg (by rw [hB0]; decide)]; exact hs⟩
