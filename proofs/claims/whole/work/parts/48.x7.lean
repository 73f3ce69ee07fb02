theorem sHa_put {E : gT} {G : gH} {x : Nat} {S S' : Nat → Nat → Int32} {ha : Nat → Nat} {k hi j y : Nat} {v : Int32} {f : Nat → Int32} (hH : pHa x ha k) (h1 : hi < k) (h2 : j < 5) (hy : y < 21) (hf : G (ha hi + (1 + j)) = some (inA E 21 f)) (q : sHa E G S ha k) (hS : S' = va_up S (18 + j) (upd (S (18 + j)) (21 * hi + y) v)) : sHa E (gup G (ha hi + (1 + j)) (inA E 21 (upd f y v))) S' ha k := by
  intro g hg i hi'
  obtain ⟨f0, g1, g2⟩ := q g hg i hi'
  by_cases hc : g = hi ∧ i = j
  · obtain ⟨rfl, rfl⟩ := hc
    rw [g1] at hf
    have hff : f0 = f := by have := Option.some.inj hf; simp only [inA, Sum.inl.injEq, Prod.mk.injEq] at this; exact this.2.2
    subst hff
    refine ⟨_, gup_s, fun z hz => ?_⟩
    rw [hS, va_up_self]
    simp only [upd]
    by_cases e : z = y
    · rw [if_pos e, if_pos (by omega)]
    · rw [if_neg e, if_neg (by omega)]; exact g2 z hz
  · have hne : ha g + (1 + i) ≠ ha hi + (1 + j) := by
      rcases Nat.lt_trichotomy g hi with z | z | z
      · have := hH.2 g hi z h1; omega
      · have : i ≠ j := fun e => hc ⟨z, e⟩
        rw [z]; omega
      · have := hH.2 hi g z hg; omega
    refine ⟨f0, (gup_n hne).trans g1, fun z hz => ?_⟩
    rw [g2 z hz, hS]
    by_cases e : 18 + i = 18 + j
    · have e2 : i = j := by omega
      subst e2
      have : g ≠ hi := fun e => hc ⟨e, rfl⟩
      rw [va_up_self]
      simp only [upd]
      rw [if_neg (by omega)]
    · rw [va_up_ne _ _ e]
theorem sE_ne {E : gT} {G : gH} {x a : Nat} {e : va_E} {g : Nat → Int32} (h : x + 9 ≠ a) (q : sE E G x g) : sE E (gup G a e) x g := by
  obtain ⟨f, h1, h2⟩ := q
  exact ⟨f, (gup_n h).trans h1, h2⟩
theorem lawB_eq {c : Nat → Int32} {S : Nat → Nat → Int32} (hp : pI c S) (y w k : Int32) : lawB c y w k = (inB y 0 19 && (inB w 0 99999 && decide (rem32 w 1000 ≤ 500)) && inB k 0 100 && !decide (40 ≤ c 18)) := by
  have h18 := hp.1.2.2.2.1
  have e40 : (40 : Int32).toInt = 40 := rfl
  have a1 : decide (c 18 = 40) = decide (40 ≤ c 18) := by
    rw [Bool.eq_iff_iff, decide_eq_true_eq, decide_eq_true_eq]
    constructor
    · intro q; rw [q]; exact Int32.le_refl _
    · intro q; have := Int32.le_iff_toInt_le.mp q; exact Int32.toInt_inj.mp (by omega)
  have a2 : inB w 0 99999 = (decide (0 ≤ w) && decide (w / 10000 ≤ 9)) := by
    rw [Bool.eq_iff_iff]
    simp only [inB, Bool.and_eq_true, decide_eq_true_eq]
    constructor
    · rintro ⟨q1, q2⟩
      refine ⟨q1, ?_⟩
      have z1 := Int32.le_iff_toInt_le.mp q1
      have z2 := Int32.le_iff_toInt_le.mp q2
      have e0 : (0 : Int32).toInt = 0 := rfl
      have e1 : (99999 : Int32).toInt = 99999 := rfl
      have e2 : (10000 : Int32).toInt = 10000 := rfl
      have e9 : (9 : Int32).toInt = 9 := rfl
      apply Int32.le_iff_toInt_le.mpr
      rw [divI (by omega) (by decide), e2, e9]
      omega
    · rintro ⟨q1, q2⟩
      refine ⟨q1, ?_⟩
      have z1 := Int32.le_iff_toInt_le.mp q1
      have z2 := Int32.le_iff_toInt_le.mp q2
      have e0 : (0 : Int32).toInt = 0 := rfl
      have e1 : (99999 : Int32).toInt = 99999 := rfl
      have e2 : (10000 : Int32).toInt = 10000 := rfl
      have e9 : (9 : Int32).toInt = 9 := rfl
      rw [divI (by omega) (by decide), e2, e9] at z2
      apply Int32.le_iff_toInt_le.mpr
      omega
  rw [lawB, a1, a2]
  simp only [Bool.and_assoc]
theorem telL_lt {S S' : Nat → Nat → Int32} {a : Nat} (h7 : S' 7 a = S 7 a) (h8 : S' 8 a = S 8 a) (h9 : S' 9 a = S 9 a) : ∀ k, (∀ j i, 10 ≤ j → j ≤ 14 → i < k → S' j i = S j i) → telL S' a k = telL S a k
  | 0, _ => by simp only [telL, h7, h8, h9]
  | k + 1, h => by
    have ih := telL_lt h7 h8 h9 k (fun j i x y z => h j i x y (by omega))
    simp only [telL, h 10 k (by omega) (by omega) (by omega), h 11 k (by omega) (by omega) (by omega), h 12 k (by omega) (by omega) (by omega), h 13 k (by omega) (by omega) (by omega), h 14 k (by omega) (by omega) (by omega), ih]
theorem telL_none {S : Nat → Nat → Int32} {a : Nat} : ∀ k, (∀ j, j < k → S 10 j ≠ nI a) → telL S a k = telL S a 0
  | 0, _ => rfl
  | k + 1, h => by
    have e : telL S a (k + 1) = telL S a k := by rw [telL, if_neg (h k (by omega))]
    rw [e]; exact telL_none k (fun j hj => h j (by omega))
def pZ (c : Nat → Int32) (S : Nat → Nat → Int32) : Prop := ∀ i, 21 * tn (c 7) ≤ i → i < 840 → S 18 i = 0 ∧ S 19 i = 0 ∧ S 20 i = 0 ∧ S 21 i = 0 ∧ S 22 i = -1
theorem tn_s {v : Int32} {N : Nat} (h0 : 0 ≤ v.toInt) (h1 : v.toInt ≤ N) (hN : N < 2 ^ 30) : tn (v + 1) = tn v + 1 := by
  have e1 : (1 : Int32).toInt = 1 := rfl
  have h2 : (v + 1).toInt = v.toInt + 1 := by rw [fb_addI] <;> omega
  have h3 := tn_of h0
  have h4 := tn_of (v := v + 1) (by omega)
  omega

set_option maxHeartbeats 2000000 in
set_option maxRecDepth 100000 in
theorem kX8_buy (l : Launch) (E : gT) (A : Nat → Prop) (n : Nat) (G : gH) (x : Nat) (c : Nat → Int32) (S : Nat → Nat → Int32) (Y : gL) (h kq : Int32) (hs : Sim E G x c S Y) (hp : pI c S)  : gM l yX8_buy wsX8_buy ({ frames := 3, cells := 0, slots := 0, locals := 68 } : Room) E A n G [.ref x, .int h, .int kq] (gQi E A (fun r' n' G' => (buyR c S h kq) = r' ∧ n ≤ n' ∧ ∃ Y', Sim E G' x (buyC c S h kq) (buyS c S h kq) Y')) 0 0 := by
  refine g_entry (by decide) rfl (Nat.le_of_ble_eq_true rfl) ?_
  intro p e s m below meth c0 hx hb hr hlk hml hown hnm hts hK H locs ls hP hS hl
  have hin0 : ∀ wq ∈ u_ws RX0 TX0 8, wq ∈ wsX8_buy := by decide +kernel
  have hin1 : ∀ wq ∈ u_ws RX1 TX1 5, wq ∈ wsX8_buy := by decide +kernel
  have hin8 : ∀ wq ∈ u_ws RX8 TX8 14, wq ∈ wsX8_buy := by decide +kernel
  have hf23 := hts (.fieldLink RX8 23 "DikeHands" "houses" "[LDikeHands$House;") (by decide +kernel)
  have hf30 := hts (.fieldLink RX8 30 "DikeHands" "laws" "LDikeHands$LawBook;") (by decide +kernel)
  have hf45 := hts (.fieldLink RX8 45 "DikeHands" "now" "I") (by decide +kernel)
  have hf55 := hts (.fieldLink RX8 55 "DikeHands" "chest" "I") (by decide +kernel)
  have hf64 := hts (.fieldLink RX8 64 "DikeHands" "daysBought" "I") (by decide +kernel)
  have hf179 := hts (.fieldLink RX8 179 "DikeHands$House" "bought" "[I") (by decide +kernel)
  have hf186 := hts (.fieldLink RX8 186 "DikeHands$Law" "coin" "I") (by decide +kernel)
  have hl : lv_has ls 4 [(0, .ref x), (1, .int h), (2, .int kq)] := hl
  have h40 := le40 hp
  obtain ⟨ha, la, lt, wa, ww, wn⟩ := Y
  obtain ⟨hA1, hV, hR, hH1, hB, hL, hPl, hEv, hRo, hVi, hWk, hW, hHo, hHa, hHp⟩ := id hs
  try dsimp only at hH1 hL hVi hWk hW hHo hHa hHp
  obtain ⟨fH, hH2, hH3⟩ := id hH1
  have h4 := hB.1
  refine lv_aload_n hx hb dX8_buy_0 rfl (lv_at hl 0 rfl) ?_
  refine lv_iload_n hx hb dX8_buy_1 rfl (lv_at hl 1 rfl) ?_
  refine g_ci (g_runV (As := [.int h]) (rest := []) ⟨hx, hb, hml, hown, hts⟩ hK hP (kX8_isHouse l E A n G x c h hA1) (cwV 1 hts gX8_buy_X8_isHouse rfl rfl rfl (by decide +kernel) ⟨Nat.le_of_ble_eq_true rfl, Nat.le_of_ble_eq_true rfl⟩) hA1 rfl rfl hl.1 rfl (Nat.le_of_ble_eq_true rfl) dX8_buy_2 ⟨Nat.le_of_ble_eq_true rfl, Nat.le_of_ble_eq_true rfl⟩) hS (fun r2 n' G' H locs hw hP hS => ?_)
  obtain ⟨rfl, rfl, rfl⟩ := hw
  refine g_ifeq (tgt := 18) hx hb dX8_buy_5 (by decide) (fun b5 => ?_) (fun b5 => ?_)
  · refine lv_iconst (v := (-1)) hx hb dX8_buy_18 (by decide) ?_
    refine g_reti hx hb hr hlk hP hS dX8_buy_19 ?_
    have hB0 : buyB c S h kq = false := by
      cases hz : buyB c S h kq
      · rfl
      · exfalso
        simp only [buyB, Bool.and_eq_true] at hz
        rw [b5] at hz; exact absurd hz.1.1 (by decide)
    exact ⟨by rw [buyR, if_neg (by rw [hB0]; decide)], Nat.le_refl _, _, by rw [buyS, buyC, if_neg (by rw [hB0]; decide), if_neg (by rw [hB0]; decide)]; exact hs⟩
  · refine lv_aload_n hx hb dX8_buy_8 rfl (lv_at hl 0 rfl) ?_
    refine g_get (ci := 8) hx hb hts hin8 hown hK hP hA1 rfl 6 (by decide) hf45 rfl rfl dX8_buy_9 ?_
    refine lv_sipush (v := 1040) hx hb dX8_buy_12 (by decide) ?_
    refine lv_icmp_lt (tgt := 20) hx hb dX8_buy_15 (by decide) (fun b15 => ?_) (fun b15 => ?_)
    · have hy := yn_vp hp.1
      obtain ⟨hi, hh, rfl⟩ := hs_ix hp.1 b5
      obtain ⟨f3, g3, u3⟩ := hHa hi hh 2 (by decide)
      have hx48 := hHp.1 hi hh
      have g3 : G (ha hi + 3) = some (.inl (E.2 0, 21, .inl f3)) := g3
      refine lv_aload_n hx hb dX8_buy_20 rfl (lv_at hl 0 rfl) ?_
      refine g_ci (g_runV (As := []) (rest := []) ⟨hx, hb, hml, hown, hts⟩ hK hP (kX8_yearNow l E A n G x c hA1) (cwV 0 hts gX8_buy_X8_yearNow rfl rfl rfl (by decide +kernel) ⟨Nat.le_of_ble_eq_true rfl, Nat.le_of_ble_eq_true rfl⟩) hA1 rfl rfl hl.1 rfl (Nat.le_of_ble_eq_true rfl) dX8_buy_21 ⟨Nat.le_of_ble_eq_true rfl, Nat.le_of_ble_eq_true rfl⟩) hS (fun r21 n' G' H locs hw hP hS => ?_)
      obtain ⟨rfl, rfl, rfl⟩ := hw
      refine lv_istore_n (lv' := [(3, .int (c 0 / 52)), (0, .ref x), (1, .int (nI hi)), (2, .int kq)]) hx hb dX8_buy_24 rfl hl (by decide) rfl (fun ls hl => ?_)
      refine lv_iload_n hx hb dX8_buy_25 rfl (lv_at hl 3 rfl) ?_
      refine lv_iconst (v := 1) hx hb dX8_buy_26 (by decide) ?_
      refine lv_icmp_lt (tgt := 45) hx hb dX8_buy_27 (by decide) (fun b27 => ?_) (fun b27 => ?_)
      · refine lv_iconst (v := (-1)) hx hb dX8_buy_45 (by decide) ?_
        refine g_reti hx hb hr hlk hP hS dX8_buy_46 ?_
        have hB0 : buyB c S (nI hi) kq = false := by
          cases hz : buyB c S (nI hi) kq
          · rfl
          · exfalso
            simp only [buyB, Bool.and_eq_true] at hz
            have z := (inB_i hz.2).1; have := Int32.lt_iff_toInt_lt.mp b27; omega
        exact ⟨by rw [buyR, if_neg (by rw [hB0]; decide)], Nat.le_refl _, _, by rw [buyS, buyC, if_neg (by rw [hB0]; decide), if_neg (by rw [hB0]; decide)]; exact hs⟩
      · refine lv_iload_n hx hb dX8_buy_30 rfl (lv_at hl 3 rfl) ?_
        refine lv_aload_n hx hb dX8_buy_31 rfl (lv_at hl 1 rfl) ?_
        refine lv_aload_n hx hb dX8_buy_32 rfl (lv_at hl 1 rfl) ?_
        refine g_get (ci := 8) hx hb hts hin8 hown hK hP hA1 rfl 2 (by decide) hf23 rfl rfl dX8_buy_33 ?_
        refine lv_iload_n hx hb dX8_buy_36 rfl (lv_at hl 2 rfl) ?_
        have fh37 := (hHo (hi) hh).1
        refine g_aald (t0 := 2) (v := .ref (ha hi)) hx hb hK hP hH2 rfl (vp_in_nI (by omega) (by decide)) (by rw [nI_clamp (by omega), hH3 (hi) hh]; rfl) dX8_buy_37 ?_
        refine lv_iload_n hx hb dX8_buy_38 rfl (lv_at hl 0 rfl) ?_
        refine g_ci (g_runV (As := [.ref (ha hi), .int (c 0 / 52)]) (rest := [.int kq]) ⟨hx, hb, hml, hown, hts⟩ hK hP (kX8_daysOwedYet l E A n G x c S hi (c 0 / 52) ha hA1 hB la hL lt hHo hHa hp hh hy) (cwV 2 hts gX8_buy_X8_daysOwedYet rfl rfl rfl (by decide +kernel) ⟨Nat.le_of_ble_eq_true rfl, Nat.le_of_ble_eq_true rfl⟩) hA1 rfl rfl hl.1 rfl (Nat.le_of_ble_eq_true rfl) dX8_buy_39 ⟨Nat.le_of_ble_eq_true rfl, Nat.le_of_ble_eq_true rfl⟩) hS (fun r39 n' G' H locs hw hP hS => ?_)
        obtain ⟨rfl, rfl, rfl⟩ := hw
        refine lv_icmp_le (tgt := 47) hx hb dX8_buy_42 (by decide) (fun b42 => ?_) (fun b42 => ?_)
        · refine lv_aload_n hx hb dX8_buy_47 rfl (lv_at hl 1 rfl) ?_
          refine g_get (ci := 8) hx hb hts hin8 hown hK hP hA1 rfl 2 (by decide) hf23 rfl rfl dX8_buy_48 ?_
          refine lv_iload_n hx hb dX8_buy_51 rfl (lv_at hl 2 rfl) ?_
          refine g_aald (t0 := 2) (v := .ref (ha hi)) hx hb hK hP hH2 rfl (vp_in_nI (by omega) (by decide)) (by rw [nI_clamp (by omega), hH3 hi hh]; rfl) dX8_buy_52 ?_
          refine g_get (ci := 0) hx hb hts hin0 hown hK hP fh37 rfl 4 (by decide) hf179 rfl rfl dX8_buy_53 ?_
          refine lv_iload_n hx hb dX8_buy_56 rfl (lv_at hl 0 rfl) ?_
          refine lv_dup2_11 hx hb dX8_buy_57 rfl rfl ?_
          refine g_iald hx hb hK hP g3 hy dX8_buy_58 ?_
          refine lv_iload_n hx hb dX8_buy_59 rfl (lv_at hl 3 rfl) ?_
          refine lv_iadd hx hb dX8_buy_60 ?_
          refine g_iast hx hb hK hP hS g3 hy dX8_buy_61 (fun H locs hP hS => ?_)
          have q111_0 : (gup G (ha hi + 3) (.inl (E.2 0, 21, .inl (upd f3 (tn (c 0 / 52)) ((f3 (tn (c 0 / 52))) + kq))))) x = some (.inr (8, [.ref (x + 1), .ref (x + 2), .ref (x + 3), .ref (x + 4), .ref (x + 7), .ref (x + 9), .int (c 0), .int (c 7), .int (c 12), .int (c 29), .int (c 30), .int (c 31), .int (c 32), .int (c 33)])) := (gup_n (ne_oa hA1 g3)).trans hA1
          have q111_1 : (gup G (ha hi + 3) (.inl (E.2 0, 21, .inl (upd f3 (tn (c 0 / 52)) ((f3 (tn (c 0 / 52))) + kq))))) (x + 3) = some (.inl (E.2 2, 40, .inr (.inr (.inr (.inr fH))))) := (gup_n (by omega)).trans hH2
          have q111_2 : (gup G (ha hi + 3) (.inl (E.2 0, 21, .inl (upd f3 (tn (c 0 / 52)) ((f3 (tn (c 0 / 52))) + kq))))) (x + 4) = some (.inr (2, [.ref (x + 5), .ref (x + 6), .int (c 18)])) := (gup_n (ne_oa h4 g3)).trans h4
          have q111_3 : (gup G (ha hi + 3) (.inl (E.2 0, 21, .inl (upd f3 (tn (c 0 / 52)) ((f3 (tn (c 0 / 52))) + kq))))) (ha hi) = some (.inr (0, [.int (S 6 hi), .int (S 7 hi), .ref (ha hi + 1), .ref (ha hi + 2), .ref (ha hi + 3), .ref (ha hi + 4), .ref (ha hi + 5), va_rf (lt hi)])) := (gup_n (ne_oa fh37 g3)).trans fh37
          have q111_a : (gup G (ha hi + 3) (.inl (E.2 0, 21, .inl (upd f3 (tn (c 0 / 52)) ((f3 (tn (c 0 / 52))) + kq))))) (ha hi + 3) = some (.inl (E.2 0, 21, .inl (upd f3 (tn (c 0 / 52)) ((f3 (tn (c 0 / 52))) + kq)))) := gup_s
          have hP : gP E A n (gup G (ha hi + 3) (.inl (E.2 0, 21, .inl (upd f3 (tn (c 0 / 52)) ((f3 (tn (c 0 / 52))) + kq))))) H := hP
          have hA1_112 := sA.kp (kp_up (e1 := .inl (E.2 0, 21, .inl (upd f3 (tn (c 0 / 52)) ((f3 (tn (c 0 / 52))) + kq)))) g3) (kpn (by decide : (8 : Nat) ≠ 20)) hA1
          have hV_112 := sV.kp (kp_up (e1 := .inl (E.2 0, 21, .inl (upd f3 (tn (c 0 / 52)) ((f3 (tn (c 0 / 52))) + kq)))) g3) (kpn (by decide : (22 : Nat) ≠ 20)) hV
          have hR_112 := sR.kp (kp_up (e1 := .inl (E.2 0, 21, .inl (upd f3 (tn (c 0 / 52)) ((f3 (tn (c 0 / 52))) + kq)))) g3) (kpn (by decide : (22 : Nat) ≠ 20)) hR
          have hH1_112 := sH.kp (kp_up (e1 := .inl (E.2 0, 21, .inl (upd f3 (tn (c 0 / 52)) ((f3 (tn (c 0 / 52))) + kq)))) g3) (kpn (by decide : (22 : Nat) ≠ 20)) hH1
          have hB_112 := sB.kp (kp_up (e1 := .inl (E.2 0, 21, .inl (upd f3 (tn (c 0 / 52)) ((f3 (tn (c 0 / 52))) + kq)))) g3) (kpn (by decide : (2 : Nat) ≠ 20)) (kpn (by decide : (1 : Nat) ≠ 20)) hB
          have hL_112 := sL.kp (kp_up (e1 := .inl (E.2 0, 21, .inl (upd f3 (tn (c 0 / 52)) ((f3 (tn (c 0 / 52))) + kq)))) g3) (kpn (by decide : (22 : Nat) ≠ 20)) (kpn (by decide : (1 : Nat) ≠ 20)) hL
          have hPl_112 := sP.kp (kp_up (e1 := .inl (E.2 0, 21, .inl (upd f3 (tn (c 0 / 52)) ((f3 (tn (c 0 / 52))) + kq)))) g3) (kpn (by decide : (21 : Nat) ≠ 20)) (kpn (by decide : (3 : Nat) ≠ 20)) hPl
          have hRo_112 := sRo.kp (kp_up (e1 := .inl (E.2 0, 21, .inl (upd f3 (tn (c 0 / 52)) ((f3 (tn (c 0 / 52))) + kq)))) g3) (kpn (by decide : (4 : Nat) ≠ 20)) hRo
          have hVi_112 := sVi.kp (kp_up (e1 := .inl (E.2 0, 21, .inl (upd f3 (tn (c 0 / 52)) ((f3 (tn (c 0 / 52))) + kq)))) g3) (kpn (by decide : (6 : Nat) ≠ 20)) hVi
          have hWk_112 := sWk.kp (kp_up (e1 := .inl (E.2 0, 21, .inl (upd f3 (tn (c 0 / 52)) ((f3 (tn (c 0 / 52))) + kq)))) g3) (kpn (by decide : (7 : Nat) ≠ 20)) hWk
          have hHo_112 := sHo.kp (kp_up (e1 := .inl (E.2 0, 21, .inl (upd f3 (tn (c 0 / 52)) ((f3 (tn (c 0 / 52))) + kq)))) g3) (kpn (by decide : (0 : Nat) ≠ 20)) (kpn (by decide : (5 : Nat) ≠ 20)) hHo
          have hHa_b := sHa_put (S' := buyT c S (nI hi) kq) (j := 2) (y := tn (c 0 / 52)) hHp hh (by decide) (tn_lt hy) g3 hHa (by rw [buyT, yk_tn (by omega) hy, ← u3 _ (tn_lt hy)])
          have hEv_b := sE_ne (e := .inl (E.2 0, 21, .inl (upd f3 (tn (c 0 / 52)) (f3 (tn (c 0 / 52)) + kq)))) (a := ha hi + 3) (by have := hHp.1 hi hh; omega) hEv
          refine lv_aload_n hx hb dX8_buy_62 rfl (lv_at hl 1 rfl) ?_
          refine lv_dup hx hb dX8_buy_63 rfl ?_
          refine g_get (ci := 8) hx hb hts hin8 hown hK hP q111_0 rfl 12 (by decide) hf64 rfl rfl dX8_buy_64 ?_
          refine lv_iload_n hx hb dX8_buy_67 rfl (lv_at hl 3 rfl) ?_
          refine lv_iadd hx hb dX8_buy_68 ?_
          refine g_put (ci := 8) (ty := .int) (v := .int ((c 32) + kq)) hx hb hts hin8 tyX8 tyX8_ok nmX8 hown hK hP hS q111_0 rfl 12 (by decide) hf64 rfl (Or.inl rfl) (by decide +kernel) rfl rfl (Nat.le_of_ble_eq_true rfl) dX8_buy_69 (fun H locs hP hS => ?_)
          have q113_0 : (gup (gup G (ha hi + 3) (.inl (E.2 0, 21, .inl (upd f3 (tn (c 0 / 52)) ((f3 (tn (c 0 / 52))) + kq))))) x (.inr (8, [.ref (x + 1), .ref (x + 2), .ref (x + 3), .ref (x + 4), .ref (x + 7), .ref (x + 9), .int (c 0), .int (c 7), .int (c 12), .int (c 29), .int (c 30), .int (c 31), .int ((c 32) + kq), .int (c 33)]))) (x + 3) = some (.inl (E.2 2, 40, .inr (.inr (.inr (.inr fH))))) := (gup_n (ne_ao q111_1 q111_0)).trans q111_1
          have q113_1 : (gup (gup G (ha hi + 3) (.inl (E.2 0, 21, .inl (upd f3 (tn (c 0 / 52)) ((f3 (tn (c 0 / 52))) + kq))))) x (.inr (8, [.ref (x + 1), .ref (x + 2), .ref (x + 3), .ref (x + 4), .ref (x + 7), .ref (x + 9), .int (c 0), .int (c 7), .int (c 12), .int (c 29), .int (c 30), .int (c 31), .int ((c 32) + kq), .int (c 33)]))) (x + 4) = some (.inr (2, [.ref (x + 5), .ref (x + 6), .int (c 18)])) := (gup_n (ne_oo q111_2 q111_0 (by decide))).trans q111_2
          have q113_2 : (gup (gup G (ha hi + 3) (.inl (E.2 0, 21, .inl (upd f3 (tn (c 0 / 52)) ((f3 (tn (c 0 / 52))) + kq))))) x (.inr (8, [.ref (x + 1), .ref (x + 2), .ref (x + 3), .ref (x + 4), .ref (x + 7), .ref (x + 9), .int (c 0), .int (c 7), .int (c 12), .int (c 29), .int (c 30), .int (c 31), .int ((c 32) + kq), .int (c 33)]))) (ha hi) = some (.inr (0, [.int (S 6 hi), .int (S 7 hi), .ref (ha hi + 1), .ref (ha hi + 2), .ref (ha hi + 3), .ref (ha hi + 4), .ref (ha hi + 5), va_rf (lt hi)])) := (gup_n (ne_oo q111_3 q111_0 (by decide))).trans q111_3
          have q113_3 : (gup (gup G (ha hi + 3) (.inl (E.2 0, 21, .inl (upd f3 (tn (c 0 / 52)) ((f3 (tn (c 0 / 52))) + kq))))) x (.inr (8, [.ref (x + 1), .ref (x + 2), .ref (x + 3), .ref (x + 4), .ref (x + 7), .ref (x + 9), .int (c 0), .int (c 7), .int (c 12), .int (c 29), .int (c 30), .int (c 31), .int ((c 32) + kq), .int (c 33)]))) (ha hi + 3) = some (.inl (E.2 0, 21, .inl (upd f3 (tn (c 0 / 52)) ((f3 (tn (c 0 / 52))) + kq)))) := (gup_n (ne_ao q111_a q111_0)).trans q111_a
          have q113_a : (gup (gup G (ha hi + 3) (.inl (E.2 0, 21, .inl (upd f3 (tn (c 0 / 52)) ((f3 (tn (c 0 / 52))) + kq))))) x (.inr (8, [.ref (x + 1), .ref (x + 2), .ref (x + 3), .ref (x + 4), .ref (x + 7), .ref (x + 9), .int (c 0), .int (c 7), .int (c 12), .int (c 29), .int (c 30), .int (c 31), .int ((c 32) + kq), .int (c 33)]))) x = some (.inr (8, [.ref (x + 1), .ref (x + 2), .ref (x + 3), .ref (x + 4), .ref (x + 7), .ref (x + 9), .int (c 0), .int (c 7), .int (c 12), .int (c 29), .int (c 30), .int (c 31), .int ((c 32) + kq), .int (c 33)])) := gup_s
          have hP : gP E A n (gup (gup G (ha hi + 3) (.inl (E.2 0, 21, .inl (upd f3 (tn (c 0 / 52)) ((f3 (tn (c 0 / 52))) + kq))))) x (.inr (8, [.ref (x + 1), .ref (x + 2), .ref (x + 3), .ref (x + 4), .ref (x + 7), .ref (x + 9), .int (c 0), .int (c 7), .int (c 12), .int (c 29), .int (c 30), .int (c 31), .int ((c 32) + kq), .int (c 33)]))) H := hP
          have hV_114 := sV.kp (kp_up (e1 := .inr (8, [.ref (x + 1), .ref (x + 2), .ref (x + 3), .ref (x + 4), .ref (x + 7), .ref (x + 9), .int (c 0), .int (c 7), .int (c 12), .int (c 29), .int (c 30), .int (c 31), .int ((c 32) + kq), .int (c 33)])) q111_0) (kpn (by decide : (22 : Nat) ≠ 8)) hV_112
          have hR_114 := sR.kp (kp_up (e1 := .inr (8, [.ref (x + 1), .ref (x + 2), .ref (x + 3), .ref (x + 4), .ref (x + 7), .ref (x + 9), .int (c 0), .int (c 7), .int (c 12), .int (c 29), .int (c 30), .int (c 31), .int ((c 32) + kq), .int (c 33)])) q111_0) (kpn (by decide : (22 : Nat) ≠ 8)) hR_112
          have hH1_114 := sH.kp (kp_up (e1 := .inr (8, [.ref (x + 1), .ref (x + 2), .ref (x + 3), .ref (x + 4), .ref (x + 7), .ref (x + 9), .int (c 0), .int (c 7), .int (c 12), .int (c 29), .int (c 30), .int (c 31), .int ((c 32) + kq), .int (c 33)])) q111_0) (kpn (by decide : (22 : Nat) ≠ 8)) hH1_112
          have hB_114 := sB.kp (kp_up (e1 := .inr (8, [.ref (x + 1), .ref (x + 2), .ref (x + 3), .ref (x + 4), .ref (x + 7), .ref (x + 9), .int (c 0), .int (c 7), .int (c 12), .int (c 29), .int (c 30), .int (c 31), .int ((c 32) + kq), .int (c 33)])) q111_0) (kpn (by decide : (2 : Nat) ≠ 8)) (kpn (by decide : (1 : Nat) ≠ 8)) hB_112
          have hL_114 := sL.kp (kp_up (e1 := .inr (8, [.ref (x + 1), .ref (x + 2), .ref (x + 3), .ref (x + 4), .ref (x + 7), .ref (x + 9), .int (c 0), .int (c 7), .int (c 12), .int (c 29), .int (c 30), .int (c 31), .int ((c 32) + kq), .int (c 33)])) q111_0) (kpn (by decide : (22 : Nat) ≠ 8)) (kpn (by decide : (1 : Nat) ≠ 8)) hL_112
          have hPl_114 := sP.kp (kp_up (e1 := .inr (8, [.ref (x + 1), .ref (x + 2), .ref (x + 3), .ref (x + 4), .ref (x + 7), .ref (x + 9), .int (c 0), .int (c 7), .int (c 12), .int (c 29), .int (c 30), .int (c 31), .int ((c 32) + kq), .int (c 33)])) q111_0) (kpn (by decide : (21 : Nat) ≠ 8)) (kpn (by decide : (3 : Nat) ≠ 8)) hPl_112
          have hRo_114 := sRo.kp (kp_up (e1 := .inr (8, [.ref (x + 1), .ref (x + 2), .ref (x + 3), .ref (x + 4), .ref (x + 7), .ref (x + 9), .int (c 0), .int (c 7), .int (c 12), .int (c 29), .int (c 30), .int (c 31), .int ((c 32) + kq), .int (c 33)])) q111_0) (kpn (by decide : (4 : Nat) ≠ 8)) hRo_112
          have hVi_114 := sVi.kp (kp_up (e1 := .inr (8, [.ref (x + 1), .ref (x + 2), .ref (x + 3), .ref (x + 4), .ref (x + 7), .ref (x + 9), .int (c 0), .int (c 7), .int (c 12), .int (c 29), .int (c 30), .int (c 31), .int ((c 32) + kq), .int (c 33)])) q111_0) (kpn (by decide : (6 : Nat) ≠ 8)) hVi_112
          have hWk_114 := sWk.kp (kp_up (e1 := .inr (8, [.ref (x + 1), .ref (x + 2), .ref (x + 3), .ref (x + 4), .ref (x + 7), .ref (x + 9), .int (c 0), .int (c 7), .int (c 12), .int (c 29), .int (c 30), .int (c 31), .int ((c 32) + kq), .int (c 33)])) q111_0) (kpn (by decide : (7 : Nat) ≠ 8)) hWk_112
          have hHo_114 := sHo.kp (kp_up (e1 := .inr (8, [.ref (x + 1), .ref (x + 2), .ref (x + 3), .ref (x + 4), .ref (x + 7), .ref (x + 9), .int (c 0), .int (c 7), .int (c 12), .int (c 29), .int (c 30), .int (c 31), .int ((c 32) + kq), .int (c 33)])) q111_0) (kpn (by decide : (0 : Nat) ≠ 8)) (kpn (by decide : (5 : Nat) ≠ 8)) hHo_112
          have hHa_114 := sHa.kp (kp_up (e1 := .inr (8, [.ref (x + 1), .ref (x + 2), .ref (x + 3), .ref (x + 4), .ref (x + 7), .ref (x + 9), .int (c 0), .int (c 7), .int (c 12), .int (c 29), .int (c 30), .int (c 31), .int ((c 32) + kq), .int (c 33)])) q111_0) (kpn (by decide : (20 : Nat) ≠ 8)) hHa_b
          have hEv_114 := sE.kp (kp_up (e1 := .inr (8, [.ref (x + 1), .ref (x + 2), .ref (x + 3), .ref (x + 4), .ref (x + 7), .ref (x + 9), .int (c 0), .int (c 7), .int (c 12), .int (c 29), .int (c 30), .int (c 31), .int ((c 32) + kq), .int (c 33)])) q111_0) (kpn (by decide : (20 : Nat) ≠ 8)) hEv_b
          refine lv_aload_n hx hb dX8_buy_72 rfl (lv_at hl 1 rfl) ?_
          refine lv_dup hx hb dX8_buy_73 rfl ?_
          refine g_get (ci := 8) hx hb hts hin8 hown hK hP q113_a rfl 9 (by decide) hf55 rfl rfl dX8_buy_74 ?_
          refine lv_iload_n hx hb dX8_buy_77 rfl (lv_at hl 3 rfl) ?_
          refine lv_aload_n hx hb dX8_buy_78 rfl (lv_at hl 1 rfl) ?_
          refine g_get (ci := 8) hx hb hts hin8 hown hK hP q113_a rfl 3 (by decide) hf30 rfl rfl dX8_buy_79 ?_
          refine lv_iload_n hx hb dX8_buy_82 rfl (lv_at hl 0 rfl) ?_
          obtain ⟨fL, hL1, hL2⟩ := id hL_114
          have hB4 : (gup (gup G (ha hi + 3) (.inl (E.2 0, 21, .inl (upd f3 (tn (c 0 / 52)) ((f3 (tn (c 0 / 52))) + kq))))) x (.inr (8, [.ref (x + 1), .ref (x + 2), .ref (x + 3), .ref (x + 4), .ref (x + 7), .ref (x + 9), .int (c 0), .int (c 7), .int (c 12), .int (c 29), .int (c 30), .int (c 31), .int ((c 32) + kq), .int (c 33)]))) (x + 4) = some (.inr (2, [.ref (x + 5), .ref (x + 6), .int (nI (tn (c 18)))])) := by rw [← nI18 hp]; exact hB_114.1
          refine g_cq (g_runV (As := [.int (c 0 / 52)]) (rest := [.int kq, .int (c 29), .ref x]) ⟨hx, hb, hml, hown, hts⟩ hK hP (kX2_ofYear l E A n (gup (gup G (ha hi + 3) (.inl (E.2 0, 21, .inl (upd f3 (tn (c 0 / 52)) ((f3 (tn (c 0 / 52))) + kq))))) x (.inr (8, [.ref (x + 1), .ref (x + 2), .ref (x + 3), .ref (x + 4), .ref (x + 7), .ref (x + 9), .int (c 0), .int (c 7), .int (c 12), .int (c 29), .int (c 30), .int (c 31), .int ((c 32) + kq), .int (c 33)]))) (x + 4) (x + 5) (x + 6) S la (tn (c 18)) fL (c 0 / 52) h40.2.1 hB4 hL1 hB_114.2 hL2 (fun i hi => (hp.2.2.2.2.2.2.2 i hi).1)) (cwV 1 hts gX8_buy_X2_ofYear rfl rfl rfl (by decide +kernel) ⟨Nat.le_of_ble_eq_true rfl, Nat.le_of_ble_eq_true rfl⟩) hB4 rfl rfl hl.1 rfl (Nat.le_of_ble_eq_true rfl) dX8_buy_83 ⟨Nat.le_of_ble_eq_true rfl, Nat.le_of_ble_eq_true rfl⟩) hS (fun r83 n' G' H locs hw hP hS => ?_)
          obtain ⟨rfl, rfl, rfl⟩ := hw
          obtain ⟨l1, l2, l3, l4, l5, fl, el5, el⟩ := law_cell hp hB_114 hL_114 (c 0 / 52)
          refine g_get (ci := 1) hx hb hts hin1 hown hK hP fl rfl 4 (by decide) hf186 rfl rfl dX8_buy_86 ?_
          refine lv_imul hx hb dX8_buy_89 ?_
          refine lv_iadd hx hb dX8_buy_90 ?_
          refine g_put (ci := 8) (ty := .int) (v := .int ((c 29) + (kq * l5))) hx hb hts hin8 tyX8 tyX8_ok nmX8 hown hK hP hS q113_a rfl 9 (by decide) hf55 rfl (Or.inl rfl) (by decide +kernel) rfl rfl (Nat.le_of_ble_eq_true rfl) dX8_buy_91 (fun H locs hP hS => ?_)
          have q115_0 : (gup (gup (gup G (ha hi + 3) (.inl (E.2 0, 21, .inl (upd f3 (tn (c 0 / 52)) ((f3 (tn (c 0 / 52))) + kq))))) x (.inr (8, [.ref (x + 1), .ref (x + 2), .ref (x + 3), .ref (x + 4), .ref (x + 7), .ref (x + 9), .int (c 0), .int (c 7), .int (c 12), .int (c 29), .int (c 30), .int (c 31), .int ((c 32) + kq), .int (c 33)]))) x (.inr (8, [.ref (x + 1), .ref (x + 2), .ref (x + 3), .ref (x + 4), .ref (x + 7), .ref (x + 9), .int (c 0), .int (c 7), .int (c 12), .int ((c 29) + (kq * l5)), .int (c 30), .int (c 31), .int ((c 32) + kq), .int (c 33)]))) (x + 3) = some (.inl (E.2 2, 40, .inr (.inr (.inr (.inr fH))))) := (gup_n (ne_ao q113_0 q113_a)).trans q113_0
          have q115_1 : (gup (gup (gup G (ha hi + 3) (.inl (E.2 0, 21, .inl (upd f3 (tn (c 0 / 52)) ((f3 (tn (c 0 / 52))) + kq))))) x (.inr (8, [.ref (x + 1), .ref (x + 2), .ref (x + 3), .ref (x + 4), .ref (x + 7), .ref (x + 9), .int (c 0), .int (c 7), .int (c 12), .int (c 29), .int (c 30), .int (c 31), .int ((c 32) + kq), .int (c 33)]))) x (.inr (8, [.ref (x + 1), .ref (x + 2), .ref (x + 3), .ref (x + 4), .ref (x + 7), .ref (x + 9), .int (c 0), .int (c 7), .int (c 12), .int ((c 29) + (kq * l5)), .int (c 30), .int (c 31), .int ((c 32) + kq), .int (c 33)]))) (x + 4) = some (.inr (2, [.ref (x + 5), .ref (x + 6), .int (c 18)])) := (gup_n (ne_oo q113_1 q113_a (by decide))).trans q113_1
          have q115_2 : (gup (gup (gup G (ha hi + 3) (.inl (E.2 0, 21, .inl (upd f3 (tn (c 0 / 52)) ((f3 (tn (c 0 / 52))) + kq))))) x (.inr (8, [.ref (x + 1), .ref (x + 2), .ref (x + 3), .ref (x + 4), .ref (x + 7), .ref (x + 9), .int (c 0), .int (c 7), .int (c 12), .int (c 29), .int (c 30), .int (c 31), .int ((c 32) + kq), .int (c 33)]))) x (.inr (8, [.ref (x + 1), .ref (x + 2), .ref (x + 3), .ref (x + 4), .ref (x + 7), .ref (x + 9), .int (c 0), .int (c 7), .int (c 12), .int ((c 29) + (kq * l5)), .int (c 30), .int (c 31), .int ((c 32) + kq), .int (c 33)]))) (ha hi) = some (.inr (0, [.int (S 6 hi), .int (S 7 hi), .ref (ha hi + 1), .ref (ha hi + 2), .ref (ha hi + 3), .ref (ha hi + 4), .ref (ha hi + 5), va_rf (lt hi)])) := (gup_n (ne_oo q113_2 q113_a (by decide))).trans q113_2
          have q115_3 : (gup (gup (gup G (ha hi + 3) (.inl (E.2 0, 21, .inl (upd f3 (tn (c 0 / 52)) ((f3 (tn (c 0 / 52))) + kq))))) x (.inr (8, [.ref (x + 1), .ref (x + 2), .ref (x + 3), .ref (x + 4), .ref (x + 7), .ref (x + 9), .int (c 0), .int (c 7), .int (c 12), .int (c 29), .int (c 30), .int (c 31), .int ((c 32) + kq), .int (c 33)]))) x (.inr (8, [.ref (x + 1), .ref (x + 2), .ref (x + 3), .ref (x + 4), .ref (x + 7), .ref (x + 9), .int (c 0), .int (c 7), .int (c 12), .int ((c 29) + (kq * l5)), .int (c 30), .int (c 31), .int ((c 32) + kq), .int (c 33)]))) (ha hi + 3) = some (.inl (E.2 0, 21, .inl (upd f3 (tn (c 0 / 52)) ((f3 (tn (c 0 / 52))) + kq)))) := (gup_n (ne_ao q113_3 q113_a)).trans q113_3
          have q115_4 : (gup (gup (gup G (ha hi + 3) (.inl (E.2 0, 21, .inl (upd f3 (tn (c 0 / 52)) ((f3 (tn (c 0 / 52))) + kq))))) x (.inr (8, [.ref (x + 1), .ref (x + 2), .ref (x + 3), .ref (x + 4), .ref (x + 7), .ref (x + 9), .int (c 0), .int (c 7), .int (c 12), .int (c 29), .int (c 30), .int (c 31), .int ((c 32) + kq), .int (c 33)]))) x (.inr (8, [.ref (x + 1), .ref (x + 2), .ref (x + 3), .ref (x + 4), .ref (x + 7), .ref (x + 9), .int (c 0), .int (c 7), .int (c 12), .int ((c 29) + (kq * l5)), .int (c 30), .int (c 31), .int ((c 32) + kq), .int (c 33)]))) (lbA S la (x + 6) (c 0 / 52) (tn (c 18))) = some (.inr (1, [.int l1, .int l2, .int l3, .int l4, .int l5])) := (gup_n (ne_oo fl q113_a (by decide))).trans fl
          have q115_a : (gup (gup (gup G (ha hi + 3) (.inl (E.2 0, 21, .inl (upd f3 (tn (c 0 / 52)) ((f3 (tn (c 0 / 52))) + kq))))) x (.inr (8, [.ref (x + 1), .ref (x + 2), .ref (x + 3), .ref (x + 4), .ref (x + 7), .ref (x + 9), .int (c 0), .int (c 7), .int (c 12), .int (c 29), .int (c 30), .int (c 31), .int ((c 32) + kq), .int (c 33)]))) x (.inr (8, [.ref (x + 1), .ref (x + 2), .ref (x + 3), .ref (x + 4), .ref (x + 7), .ref (x + 9), .int (c 0), .int (c 7), .int (c 12), .int ((c 29) + (kq * l5)), .int (c 30), .int (c 31), .int ((c 32) + kq), .int (c 33)]))) x = some (.inr (8, [.ref (x + 1), .ref (x + 2), .ref (x + 3), .ref (x + 4), .ref (x + 7), .ref (x + 9), .int (c 0), .int (c 7), .int (c 12), .int ((c 29) + (kq * l5)), .int (c 30), .int (c 31), .int ((c 32) + kq), .int (c 33)])) := gup_s
          have hP : gP E A n (gup (gup (gup G (ha hi + 3) (.inl (E.2 0, 21, .inl (upd f3 (tn (c 0 / 52)) ((f3 (tn (c 0 / 52))) + kq))))) x (.inr (8, [.ref (x + 1), .ref (x + 2), .ref (x + 3), .ref (x + 4), .ref (x + 7), .ref (x + 9), .int (c 0), .int (c 7), .int (c 12), .int (c 29), .int (c 30), .int (c 31), .int ((c 32) + kq), .int (c 33)]))) x (.inr (8, [.ref (x + 1), .ref (x + 2), .ref (x + 3), .ref (x + 4), .ref (x + 7), .ref (x + 9), .int (c 0), .int (c 7), .int (c 12), .int ((c 29) + (kq * l5)), .int (c 30), .int (c 31), .int ((c 32) + kq), .int (c 33)]))) H := hP
          have hV_116 := sV.kp (kp_up (e1 := .inr (8, [.ref (x + 1), .ref (x + 2), .ref (x + 3), .ref (x + 4), .ref (x + 7), .ref (x + 9), .int (c 0), .int (c 7), .int (c 12), .int ((c 29) + (kq * l5)), .int (c 30), .int (c 31), .int ((c 32) + kq), .int (c 33)])) q113_a) (kpn (by decide : (22 : Nat) ≠ 8)) hV_114
          have hR_116 := sR.kp (kp_up (e1 := .inr (8, [.ref (x + 1), .ref (x + 2), .ref (x + 3), .ref (x + 4), .ref (x + 7), .ref (x + 9), .int (c 0), .int (c 7), .int (c 12), .int ((c 29) + (kq * l5)), .int (c 30), .int (c 31), .int ((c 32) + kq), .int (c 33)])) q113_a) (kpn (by decide : (22 : Nat) ≠ 8)) hR_114
          have hH1_116 := sH.kp (kp_up (e1 := .inr (8, [.ref (x + 1), .ref (x + 2), .ref (x + 3), .ref (x + 4), .ref (x + 7), .ref (x + 9), .int (c 0), .int (c 7), .int (c 12), .int ((c 29) + (kq * l5)), .int (c 30), .int (c 31), .int ((c 32) + kq), .int (c 33)])) q113_a) (kpn (by decide : (22 : Nat) ≠ 8)) hH1_114
          have hB_116 := sB.kp (kp_up (e1 := .inr (8, [.ref (x + 1), .ref (x + 2), .ref (x + 3), .ref (x + 4), .ref (x + 7), .ref (x + 9), .int (c 0), .int (c 7), .int (c 12), .int ((c 29) + (kq * l5)), .int (c 30), .int (c 31), .int ((c 32) + kq), .int (c 33)])) q113_a) (kpn (by decide : (2 : Nat) ≠ 8)) (kpn (by decide : (1 : Nat) ≠ 8)) hB_114
          have hL_116 := sL.kp (kp_up (e1 := .inr (8, [.ref (x + 1), .ref (x + 2), .ref (x + 3), .ref (x + 4), .ref (x + 7), .ref (x + 9), .int (c 0), .int (c 7), .int (c 12), .int ((c 29) + (kq * l5)), .int (c 30), .int (c 31), .int ((c 32) + kq), .int (c 33)])) q113_a) (kpn (by decide : (22 : Nat) ≠ 8)) (kpn (by decide : (1 : Nat) ≠ 8)) hL_114
          have hPl_116 := sP.kp (kp_up (e1 := .inr (8, [.ref (x + 1), .ref (x + 2), .ref (x + 3), .ref (x + 4), .ref (x + 7), .ref (x + 9), .int (c 0), .int (c 7), .int (c 12), .int ((c 29) + (kq * l5)), .int (c 30), .int (c 31), .int ((c 32) + kq), .int (c 33)])) q113_a) (kpn (by decide : (21 : Nat) ≠ 8)) (kpn (by decide : (3 : Nat) ≠ 8)) hPl_114
          have hRo_116 := sRo.kp (kp_up (e1 := .inr (8, [.ref (x + 1), .ref (x + 2), .ref (x + 3), .ref (x + 4), .ref (x + 7), .ref (x + 9), .int (c 0), .int (c 7), .int (c 12), .int ((c 29) + (kq * l5)), .int (c 30), .int (c 31), .int ((c 32) + kq), .int (c 33)])) q113_a) (kpn (by decide : (4 : Nat) ≠ 8)) hRo_114
          have hVi_116 := sVi.kp (kp_up (e1 := .inr (8, [.ref (x + 1), .ref (x + 2), .ref (x + 3), .ref (x + 4), .ref (x + 7), .ref (x + 9), .int (c 0), .int (c 7), .int (c 12), .int ((c 29) + (kq * l5)), .int (c 30), .int (c 31), .int ((c 32) + kq), .int (c 33)])) q113_a) (kpn (by decide : (6 : Nat) ≠ 8)) hVi_114
          have hWk_116 := sWk.kp (kp_up (e1 := .inr (8, [.ref (x + 1), .ref (x + 2), .ref (x + 3), .ref (x + 4), .ref (x + 7), .ref (x + 9), .int (c 0), .int (c 7), .int (c 12), .int ((c 29) + (kq * l5)), .int (c 30), .int (c 31), .int ((c 32) + kq), .int (c 33)])) q113_a) (kpn (by decide : (7 : Nat) ≠ 8)) hWk_114
          have hHo_116 := sHo.kp (kp_up (e1 := .inr (8, [.ref (x + 1), .ref (x + 2), .ref (x + 3), .ref (x + 4), .ref (x + 7), .ref (x + 9), .int (c 0), .int (c 7), .int (c 12), .int ((c 29) + (kq * l5)), .int (c 30), .int (c 31), .int ((c 32) + kq), .int (c 33)])) q113_a) (kpn (by decide : (0 : Nat) ≠ 8)) (kpn (by decide : (5 : Nat) ≠ 8)) hHo_114
          have hHa_116 := sHa.kp (kp_up (e1 := .inr (8, [.ref (x + 1), .ref (x + 2), .ref (x + 3), .ref (x + 4), .ref (x + 7), .ref (x + 9), .int (c 0), .int (c 7), .int (c 12), .int ((c 29) + (kq * l5)), .int (c 30), .int (c 31), .int ((c 32) + kq), .int (c 33)])) q113_a) (kpn (by decide : (20 : Nat) ≠ 8)) hHa_114
          have hEv_116 := sE.kp (kp_up (e1 := .inr (8, [.ref (x + 1), .ref (x + 2), .ref (x + 3), .ref (x + 4), .ref (x + 7), .ref (x + 9), .int (c 0), .int (c 7), .int (c 12), .int ((c 29) + (kq * l5)), .int (c 30), .int (c 31), .int ((c 32) + kq), .int (c 33)])) q113_a) (kpn (by decide : (20 : Nat) ≠ 8)) hEv_114
          refine lv_aload_n hx hb dX8_buy_94 rfl (lv_at hl 1 rfl) ?_
          refine g_get (ci := 8) hx hb hts hin8 hown hK hP q115_a rfl 9 (by decide) hf55 rfl rfl dX8_buy_95 ?_
          refine g_reti hx hb hr hlk hP hS dX8_buy_98 ?_
          have hB0 : buyB c S (nI hi) kq = true := by
            have z1 : inB kq 1 (yetOf c S (nI hi) (c 0 / 52)) = true := inB_of (Int32.le_iff_toInt_le.mp (Int32.not_lt.mp b27)) (Int32.le_iff_toInt_le.mp b42)
            have z2 : ¬ c 0 = 1040 := fun z => by rw [z] at b15; exact absurd b15 (by decide)
            simp [buyB, b5, z1, z2]
          have hX : buyX c S (nI hi) kq = c 29 + kq * l5 := by
            have hco : coinOf c S = l5 := el5.symm
            rw [buyX, coin_cg (c := c) (c' := va_up c 32 (c 32 + kq)) (S := S) (S' := buyT c S (nI hi) kq) rfl rfl rfl rfl, hco]
          refine ⟨by rw [buyR, if_pos hB0, hX], Nat.le_refl _, ⟨ha, la, lt, wa, ww, wn⟩, ?_⟩
          rw [buyS, buyC, if_pos hB0, if_pos hB0, hX]
          exact ⟨q115_a, hV_116, hR_116, hH1_116, hB_116, hL_116, hPl_116, hEv_116, hRo_116, hVi_116, hWk_116, hW, (sHo.cg (fun j h1 h2 => by simp only [buyT, va_up]; repeat (first | rfl | (rw [if_neg (by omega)]))) hHo_116), hHa_116, hHp⟩
        · refine lv_iconst (v := (-1)) hx hb dX8_buy_45 (by decide) ?_
          refine g_reti hx hb hr hlk hP hS dX8_buy_46 ?_
          have hB0 : buyB c S (nI hi) kq = false := by
            cases hz : buyB c S (nI hi) kq
            · rfl
            · exfalso
              simp only [buyB, Bool.and_eq_true] at hz
              have z := (inB_i hz.2).2; exact b42 (Int32.le_iff_toInt_le.mpr z)
          exact ⟨by rw [buyR, if_neg (by rw [hB0]; decide)], Nat.le_refl _, _, by rw [buyS, buyC, if_neg (by rw [hB0]; decide), if_neg (by rw [hB0]; decide)]; exact hs⟩
    · refine lv_iconst (v := (-1)) hx hb dX8_buy_18 (by decide) ?_
      refine g_reti hx hb hr hlk hP hS dX8_buy_19 ?_
      have hB0 : buyB c S h kq = false := by
        cases hz : buyB c S h kq
        · rfl
        · exfalso
          simp only [buyB, Bool.and_eq_true] at hz
          have z : ¬ c 0 = 1040 := by have := hz.1.2; simpa using this
          have z1 := Int32.le_iff_toInt_le.mp (Int32.not_lt.mp b15)
          have z2 := hp.1.1
          have e1 : (1040 : Int32).toInt = 1040 := rfl
          exact z (Int32.toInt_inj.mp (by omega))
      exact ⟨by rw [buyR, if_neg (by rw [hB0]; decide)], Nat.le_refl _, _, by rw [buyS, buyC, if_neg (by rw [hB0]; decide), if_neg (by rw [hB0]; decide)]; exact hs⟩
set_option maxHeartbeats 2000000 in
set_option maxRecDepth 100000 in
theorem kX8_law (l : Launch) (E : gT) (A : Nat → Prop) (n : Nat) (G : gH) (x : Nat) (c : Nat → Int32) (S : Nat → Nat → Int32) (Y : gL) (y wq kq : Int32) (hs : Sim E G x c S Y) (hp : pI c S) (hA : ∀ q, n ≤ q → A q)  : gM l yX8_law wsX8_law ({ frames := 2, cells := 1, slots := 5, locals := 43 } : Room) E A n G [.ref x, .int y, .int wq, .int kq] (gQi E A (fun r' n' G' => (lawR c y wq kq) = r' ∧ n ≤ n' ∧ ∃ Y', Sim E G' x (lawC c y wq kq) (lawS c S y wq kq) Y')) 1 5 := by
  refine g_entry (by decide) rfl (Nat.le_of_ble_eq_true rfl) ?_
  intro p e s m below meth c0 hx hb hr hlk hml hown hnm hts hK H locs ls hP hS hl
  have hin1 : ∀ wq ∈ u_ws RX1 TX1 5, wq ∈ wsX8_law := by decide +kernel
  have hin2 : ∀ wq ∈ u_ws RX2 TX2 3, wq ∈ wsX8_law := by decide +kernel
  have hin8 : ∀ wq ∈ u_ws RX8 TX8 14, wq ∈ wsX8_law := by decide +kernel
  have hf30 := hts (.fieldLink RX8 30 "DikeHands" "laws" "LDikeHands$LawBook;") (by decide +kernel)
  have hf108 := hts (.fieldLink RX8 108 "DikeHands$LawBook" "size" "I") (by decide +kernel)
  have hl : lv_has ls 4 [(0, .ref x), (1, .int y), (2, .int wq), (3, .int kq)] := hl
  have h40 := le40 hp
  obtain ⟨ha, la, lt, wa, ww, wn⟩ := Y
  obtain ⟨hA1, hV, hR, hH1, hB, hL, hPl, hEv, hRo, hVi, hWk, hW, hHo, hHa, hHp⟩ := id hs
  try dsimp only at hH1 hL hVi hWk hW hHo hHa hHp
  have h4 := hB.1
  have hP00 := hP
  refine lv_iload_n hx hb dX8_law_0 rfl (lv_at hl 1 rfl) ?_
  refine lv_bipush (v := 19) hx hb dX8_law_1 (by decide) ?_
  refine g_ci (g_runS (As := [.int y, .int 19]) (rest := []) ⟨hx, hb, hml, hown, hts⟩ hK hP (kX8_isWithin l E A n G y 19) (va_cwS 2 hts gX8_law_X8_isWithin rfl rfl rfl (by decide +kernel) ⟨Nat.le_of_ble_eq_true rfl, Nat.le_of_ble_eq_true rfl⟩) rfl hl.1 rfl (Nat.le_of_ble_eq_true rfl) dX8_law_3 ⟨Nat.le_of_ble_eq_true rfl, Nat.le_of_ble_eq_true rfl⟩) hS (fun r3 n' G' H locs hw hP hS => ?_)
  obtain ⟨rfl, rfl, rfl⟩ := hw
  refine g_ifeq (tgt := 35) hx hb dX8_law_6 (by decide) (fun b6 => ?_) (fun b6 => ?_)
  · refine lv_iconst (v := (-1)) hx hb dX8_law_35 (by decide) ?_
    refine W.widen (k := 1) (n := 5) (by omega) (by omega) ?_
    refine g_reti hx hb hr hlk hP hS dX8_law_36 ?_
    have hB0 : lawB c y wq kq = false := by rw [lawB_eq hp]; first | (simp [b6]; done) | (exfalso; simp_all; done)
    exact ⟨by rw [lawR, if_neg (by rw [hB0]; decide)], Nat.le_refl _, _, by rw [lawS, lawC, if_neg (by rw [hB0]; decide), if_neg (by rw [hB0]; decide)]; exact hs⟩
  · refine lv_iload_n hx hb dX8_law_9 rfl (lv_at hl 2 rfl) ?_
    refine g_ci (g_runS (As := [.int wq]) (rest := []) ⟨hx, hb, hml, hown, hts⟩ hK hP (kX1_canBe l E A n G wq) (va_cwS 1 hts gX8_law_X1_canBe rfl rfl rfl (by decide +kernel) ⟨Nat.le_of_ble_eq_true rfl, Nat.le_of_ble_eq_true rfl⟩) rfl hl.1 rfl (Nat.le_of_ble_eq_true rfl) dX8_law_10 ⟨Nat.le_of_ble_eq_true rfl, Nat.le_of_ble_eq_true rfl⟩) hS (fun r10 n' G' H locs hw hP hS => ?_)
    obtain ⟨rfl, rfl, rfl⟩ := hw
    refine g_ifeq (tgt := 35) hx hb dX8_law_13 (by decide) (fun b13 => ?_) (fun b13 => ?_)
    · refine lv_iconst (v := (-1)) hx hb dX8_law_35 (by decide) ?_
      refine W.widen (k := 1) (n := 5) (by omega) (by omega) ?_
      refine g_reti hx hb hr hlk hP hS dX8_law_36 ?_
      have hB0 : lawB c y wq kq = false := by rw [lawB_eq hp]; first | (simp [b6, b13]; done) | (exfalso; simp_all; done)
      exact ⟨by rw [lawR, if_neg (by rw [hB0]; decide)], Nat.le_refl _, _, by rw [lawS, lawC, if_neg (by rw [hB0]; decide), if_neg (by rw [hB0]; decide)]; exact hs⟩
    · refine lv_iload_n hx hb dX8_law_16 rfl (lv_at hl 3 rfl) ?_
      refine lv_bipush (v := 100) hx hb dX8_law_17 (by decide) ?_
      refine g_ci (g_runS (As := [.int kq, .int 100]) (rest := []) ⟨hx, hb, hml, hown, hts⟩ hK hP (kX8_isWithin l E A n G kq 100) (va_cwS 2 hts gX8_law_X8_isWithin rfl rfl rfl (by decide +kernel) ⟨Nat.le_of_ble_eq_true rfl, Nat.le_of_ble_eq_true rfl⟩) rfl hl.1 rfl (Nat.le_of_ble_eq_true rfl) dX8_law_19 ⟨Nat.le_of_ble_eq_true rfl, Nat.le_of_ble_eq_true rfl⟩) hS (fun r19 n' G' H locs hw hP hS => ?_)
      obtain ⟨rfl, rfl, rfl⟩ := hw
      refine g_ifeq (tgt := 35) hx hb dX8_law_22 (by decide) (fun b22 => ?_) (fun b22 => ?_)
      · refine lv_iconst (v := (-1)) hx hb dX8_law_35 (by decide) ?_
        refine W.widen (k := 1) (n := 5) (by omega) (by omega) ?_
        refine g_reti hx hb hr hlk hP hS dX8_law_36 ?_
        have hB0 : lawB c y wq kq = false := by rw [lawB_eq hp]; first | (simp [b6, b13, b22]; done) | (exfalso; simp_all; done)
        exact ⟨by rw [lawR, if_neg (by rw [hB0]; decide)], Nat.le_refl _, _, by rw [lawS, lawC, if_neg (by rw [hB0]; decide), if_neg (by rw [hB0]; decide)]; exact hs⟩
      · refine lv_aload_n hx hb dX8_law_25 rfl (lv_at hl 0 rfl) ?_
        refine g_get (ci := 8) hx hb hts hin8 hown hK hP hA1 rfl 3 (by decide) hf30 rfl rfl dX8_law_26 ?_
        refine g_ci (g_runV (As := []) (rest := []) ⟨hx, hb, hml, hown, hts⟩ hK hP (kX2_isFull l E A n G (x + 4) (x + 5) (x + 6) (c 18) h4) (cwV 0 hts gX8_law_X2_isFull rfl rfl rfl (by decide +kernel) ⟨Nat.le_of_ble_eq_true rfl, Nat.le_of_ble_eq_true rfl⟩) h4 rfl rfl hl.1 rfl (Nat.le_of_ble_eq_true rfl) dX8_law_29 ⟨Nat.le_of_ble_eq_true rfl, Nat.le_of_ble_eq_true rfl⟩) hS (fun r29 n' G' H locs hw hP hS => ?_)
        obtain ⟨rfl, rfl, rfl⟩ := hw
        refine g_ifeq (tgt := 37) hx hb dX8_law_32 (by decide) (fun b32 => ?_) (fun b32 => ?_)
        · refine lv_aload_n hx hb dX8_law_37 rfl (lv_at hl 0 rfl) ?_
          refine g_get (ci := 8) hx hb hts hin8 hown hK hP hA1 rfl 3 (by decide) hf30 rfl rfl dX8_law_38 ?_
          have hno117 := hP.none (Nat.le_refl _)
          have z118_0 := Nat.ne_of_lt (hP.lt hA1)
          have z118_1 := Nat.ne_of_lt (hP.lt h4)
          refine g_new (ci := 1) (fs := [.int 0, .int 0, .int 0, .int 0, .int 0]) hx hb hts hin1 tyX1 tyX1_ok hown (hts (.classLink RX8 93 RX1) (by decide +kernel)) (hts (.instantiable RX1 5) (by decide +kernel)) (hts (.initialized RX1) (by decide +kernel)) hK hP hS hA rfl (by decide) (Nat.le_of_ble_eq_true rfl) (Nat.le_of_ble_eq_true rfl) dX8_law_41 (fun H hP hS => ?_)
          have q118_0 : (gup G n (.inr (1, [.int 0, .int 0, .int 0, .int 0, .int 0]))) x = some (.inr (8, [.ref (x + 1), .ref (x + 2), .ref (x + 3), .ref (x + 4), .ref (x + 7), .ref (x + 9), .int (c 0), .int (c 7), .int (c 12), .int (c 29), .int (c 30), .int (c 31), .int (c 32), .int (c 33)])) := (gup_n z118_0).trans hA1
          have q118_1 : (gup G n (.inr (1, [.int 0, .int 0, .int 0, .int 0, .int 0]))) (x + 4) = some (.inr (2, [.ref (x + 5), .ref (x + 6), .int (c 18)])) := (gup_n z118_1).trans h4
          have q118_a : (gup G n (.inr (1, [.int 0, .int 0, .int 0, .int 0, .int 0]))) n = some (.inr (1, [.int 0, .int 0, .int 0, .int 0, .int 0])) := gup_s
          have hP : gP E A (n + 1) (gup G n (.inr (1, [.int 0, .int 0, .int 0, .int 0, .int 0]))) H := hP
          have hA : ∀ q, n + 1 ≤ q → A q := fun q h => hA q (by omega)
          have hA1_119 := sA.kp (kp_new (e1 := .inr (1, [.int 0, .int 0, .int 0, .int 0, .int 0])) hno117) List.not_mem_nil hA1
          have hV_119 := sV.kp (kp_new (e1 := .inr (1, [.int 0, .int 0, .int 0, .int 0, .int 0])) hno117) List.not_mem_nil hV
          have hR_119 := sR.kp (kp_new (e1 := .inr (1, [.int 0, .int 0, .int 0, .int 0, .int 0])) hno117) List.not_mem_nil hR
          have hH1_119 := sH.kp (kp_new (e1 := .inr (1, [.int 0, .int 0, .int 0, .int 0, .int 0])) hno117) List.not_mem_nil hH1
          have hB_119 := sB.kp (kp_new (e1 := .inr (1, [.int 0, .int 0, .int 0, .int 0, .int 0])) hno117) List.not_mem_nil List.not_mem_nil hB
          have hL_119 := sL.kp (kp_new (e1 := .inr (1, [.int 0, .int 0, .int 0, .int 0, .int 0])) hno117) List.not_mem_nil List.not_mem_nil hL
          have hPl_119 := sP.kp (kp_new (e1 := .inr (1, [.int 0, .int 0, .int 0, .int 0, .int 0])) hno117) List.not_mem_nil List.not_mem_nil hPl
          have hEv_119 := sE.kp (kp_new (e1 := .inr (1, [.int 0, .int 0, .int 0, .int 0, .int 0])) hno117) List.not_mem_nil hEv
          have hRo_119 := sRo.kp (kp_new (e1 := .inr (1, [.int 0, .int 0, .int 0, .int 0, .int 0])) hno117) List.not_mem_nil hRo
          have hVi_119 := sVi.kp (kp_new (e1 := .inr (1, [.int 0, .int 0, .int 0, .int 0, .int 0])) hno117) List.not_mem_nil hVi
          have hWk_119 := sWk.kp (kp_new (e1 := .inr (1, [.int 0, .int 0, .int 0, .int 0, .int 0])) hno117) List.not_mem_nil hWk
          have hHo_119 := sHo.kp (kp_new (e1 := .inr (1, [.int 0, .int 0, .int 0, .int 0, .int 0])) hno117) List.not_mem_nil List.not_mem_nil hHo
          have hHa_119 := sHa.kp (kp_new (e1 := .inr (1, [.int 0, .int 0, .int 0, .int 0, .int 0])) hno117) List.not_mem_nil hHa
          refine lv_dup hx hb dX8_law_44 rfl ?_
          refine lv_iload_n hx hb dX8_law_45 rfl (lv_at hl 1 rfl) ?_
          refine lv_iload_n hx hb dX8_law_46 rfl (lv_at hl 2 rfl) ?_
          refine lv_iload_n hx hb dX8_law_47 rfl (lv_at hl 3 rfl) ?_
          refine g_cv (g_runI (As := [.int y, .int wq, .int kq]) (rest := [.ref n, .ref (x + 4)]) ⟨hx, hb, hml, hown, hts⟩ hK hP (kX1_init l E A (n + 1) (gup G n (.inr (1, [.int 0, .int 0, .int 0, .int 0, .int 0]))) n y wq kq q118_a) (cwI 3 hts gX8_law_X1_init rfl rfl rfl (hts (.initialized RX1) (by decide +kernel)) (hts (.methodLink RX8 101 yX1_init) (by decide +kernel)) (hts (.instanceMethod yX1_init) (by decide +kernel)) rfl (by decide +kernel) ⟨Nat.le_of_ble_eq_true rfl, Nat.le_of_ble_eq_true rfl⟩) rfl hl.1 rfl (Nat.le_of_ble_eq_true rfl) dX8_law_48 ⟨Nat.le_of_ble_eq_true rfl, Nat.le_of_ble_eq_true rfl⟩) hS (fun n' G' H locs hw hP hS => ?_)
          obtain ⟨rfl, rfl⟩ := hw
          have q120_0 : (gup (gup G n (.inr (1, [.int 0, .int 0, .int 0, .int 0, .int 0]))) n (.inr (1, [.int y, .int (wq / 10000), .int (rem32 wq 10000 / 1000), .int (rem32 wq 1000), .int kq]))) x = some (.inr (8, [.ref (x + 1), .ref (x + 2), .ref (x + 3), .ref (x + 4), .ref (x + 7), .ref (x + 9), .int (c 0), .int (c 7), .int (c 12), .int (c 29), .int (c 30), .int (c 31), .int (c 32), .int (c 33)])) := (gup_n (ne_oo q118_0 q118_a (by decide))).trans q118_0
          have q120_1 : (gup (gup G n (.inr (1, [.int 0, .int 0, .int 0, .int 0, .int 0]))) n (.inr (1, [.int y, .int (wq / 10000), .int (rem32 wq 10000 / 1000), .int (rem32 wq 1000), .int kq]))) (x + 4) = some (.inr (2, [.ref (x + 5), .ref (x + 6), .int (c 18)])) := (gup_n (ne_oo q118_1 q118_a (by decide))).trans q118_1
          have q120_a : (gup (gup G n (.inr (1, [.int 0, .int 0, .int 0, .int 0, .int 0]))) n (.inr (1, [.int y, .int (wq / 10000), .int (rem32 wq 10000 / 1000), .int (rem32 wq 1000), .int kq]))) n = some (.inr (1, [.int y, .int (wq / 10000), .int (rem32 wq 10000 / 1000), .int (rem32 wq 1000), .int kq])) := gup_s
          have hP : gP E A (n + 1) (gup (gup G n (.inr (1, [.int 0, .int 0, .int 0, .int 0, .int 0]))) n (.inr (1, [.int y, .int (wq / 10000), .int (rem32 wq 10000 / 1000), .int (rem32 wq 1000), .int kq]))) H := hP
          have hA1_121 := sA.kp (kp_up (e1 := .inr (1, [.int y, .int (wq / 10000), .int (rem32 wq 10000 / 1000), .int (rem32 wq 1000), .int kq])) q118_a) (kpn (by decide : (8 : Nat) ≠ 1)) hA1_119
          have hV_121 := sV.kp (kp_up (e1 := .inr (1, [.int y, .int (wq / 10000), .int (rem32 wq 10000 / 1000), .int (rem32 wq 1000), .int kq])) q118_a) (kpn (by decide : (22 : Nat) ≠ 1)) hV_119
          have hR_121 := sR.kp (kp_up (e1 := .inr (1, [.int y, .int (wq / 10000), .int (rem32 wq 10000 / 1000), .int (rem32 wq 1000), .int kq])) q118_a) (kpn (by decide : (22 : Nat) ≠ 1)) hR_119
          have hH1_121 := sH.kp (kp_up (e1 := .inr (1, [.int y, .int (wq / 10000), .int (rem32 wq 10000 / 1000), .int (rem32 wq 1000), .int kq])) q118_a) (kpn (by decide : (22 : Nat) ≠ 1)) hH1_119
          have hPl_121 := sP.kp (kp_up (e1 := .inr (1, [.int y, .int (wq / 10000), .int (rem32 wq 10000 / 1000), .int (rem32 wq 1000), .int kq])) q118_a) (kpn (by decide : (21 : Nat) ≠ 1)) (kpn (by decide : (3 : Nat) ≠ 1)) hPl_119
          have hEv_121 := sE.kp (kp_up (e1 := .inr (1, [.int y, .int (wq / 10000), .int (rem32 wq 10000 / 1000), .int (rem32 wq 1000), .int kq])) q118_a) (kpn (by decide : (20 : Nat) ≠ 1)) hEv_119
          have hRo_121 := sRo.kp (kp_up (e1 := .inr (1, [.int y, .int (wq / 10000), .int (rem32 wq 10000 / 1000), .int (rem32 wq 1000), .int kq])) q118_a) (kpn (by decide : (4 : Nat) ≠ 1)) hRo_119
          have hVi_121 := sVi.kp (kp_up (e1 := .inr (1, [.int y, .int (wq / 10000), .int (rem32 wq 10000 / 1000), .int (rem32 wq 1000), .int kq])) q118_a) (kpn (by decide : (6 : Nat) ≠ 1)) hVi_119
          have hWk_121 := sWk.kp (kp_up (e1 := .inr (1, [.int y, .int (wq / 10000), .int (rem32 wq 10000 / 1000), .int (rem32 wq 1000), .int kq])) q118_a) (kpn (by decide : (7 : Nat) ≠ 1)) hWk_119
          have hHo_121 := sHo.kp (kp_up (e1 := .inr (1, [.int y, .int (wq / 10000), .int (rem32 wq 10000 / 1000), .int (rem32 wq 1000), .int kq])) q118_a) (kpn (by decide : (0 : Nat) ≠ 1)) (kpn (by decide : (5 : Nat) ≠ 1)) hHo_119
          have hHa_121 := sHa.kp (kp_up (e1 := .inr (1, [.int y, .int (wq / 10000), .int (rem32 wq 10000 / 1000), .int (rem32 wq 1000), .int kq])) q118_a) (kpn (by decide : (20 : Nat) ≠ 1)) hHa_119
          rw [gup_gup] at hP
          have hno0 : G n = none := hP00.none (Nat.le_refl _)
          have hP : gP E A (n + 1) (gup G n (.inr (1, [.int y, .int (wq / 10000), .int (rem32 wq 10000 / 1000), .int (rem32 wq 1000), .int kq]))) H := hP
          have qq_0 : gup G n (.inr (1, [.int y, .int (wq / 10000), .int (rem32 wq 10000 / 1000), .int (rem32 wq 1000), .int kq])) x = some (.inr (8, [.ref (x + 1), .ref (x + 2), .ref (x + 3), .ref (x + 4), .ref (x + 7), .ref (x + 9), .int (c 0), .int (c 7), .int (c 12), .int (c 29), .int (c 30), .int (c 31), .int (c 32), .int (c 33)])) := (gup_n (ne_none hA1 hno0)).trans hA1
          have qq_1 : gup G n (.inr (1, [.int y, .int (wq / 10000), .int (rem32 wq 10000 / 1000), .int (rem32 wq 1000), .int kq])) (x + 4) = some (.inr (2, [.ref (x + 5), .ref (x + 6), .int (c 18)])) := (gup_n (ne_none h4 hno0)).trans h4
          have qq_n : gup G n (.inr (1, [.int y, .int (wq / 10000), .int (rem32 wq 10000 / 1000), .int (rem32 wq 1000), .int kq])) n = some (.inr (1, [.int y, .int (wq / 10000), .int (rem32 wq 10000 / 1000), .int (rem32 wq 1000), .int kq])) := gup_s
          have hA1_122 := sA.kp (kp_new (e1 := .inr (1, [.int y, .int (wq / 10000), .int (rem32 wq 10000 / 1000), .int (rem32 wq 1000), .int kq])) hno0) List.not_mem_nil hA1
          have hV_122 := sV.kp (kp_new (e1 := .inr (1, [.int y, .int (wq / 10000), .int (rem32 wq 10000 / 1000), .int (rem32 wq 1000), .int kq])) hno0) List.not_mem_nil hV
          have hR_122 := sR.kp (kp_new (e1 := .inr (1, [.int y, .int (wq / 10000), .int (rem32 wq 10000 / 1000), .int (rem32 wq 1000), .int kq])) hno0) List.not_mem_nil hR
          have hH1_122 := sH.kp (kp_new (e1 := .inr (1, [.int y, .int (wq / 10000), .int (rem32 wq 10000 / 1000), .int (rem32 wq 1000), .int kq])) hno0) List.not_mem_nil hH1
          have hB_122 := sB.kp (kp_new (e1 := .inr (1, [.int y, .int (wq / 10000), .int (rem32 wq 10000 / 1000), .int (rem32 wq 1000), .int kq])) hno0) List.not_mem_nil List.not_mem_nil hB
          have hL_122 := sL.kp (kp_new (e1 := .inr (1, [.int y, .int (wq / 10000), .int (rem32 wq 10000 / 1000), .int (rem32 wq 1000), .int kq])) hno0) List.not_mem_nil List.not_mem_nil hL
          have hPl_122 := sP.kp (kp_new (e1 := .inr (1, [.int y, .int (wq / 10000), .int (rem32 wq 10000 / 1000), .int (rem32 wq 1000), .int kq])) hno0) List.not_mem_nil List.not_mem_nil hPl
          have hEv_122 := sE.kp (kp_new (e1 := .inr (1, [.int y, .int (wq / 10000), .int (rem32 wq 10000 / 1000), .int (rem32 wq 1000), .int kq])) hno0) List.not_mem_nil hEv
          have hRo_122 := sRo.kp (kp_new (e1 := .inr (1, [.int y, .int (wq / 10000), .int (rem32 wq 10000 / 1000), .int (rem32 wq 1000), .int kq])) hno0) List.not_mem_nil hRo
          have hVi_122 := sVi.kp (kp_new (e1 := .inr (1, [.int y, .int (wq / 10000), .int (rem32 wq 10000 / 1000), .int (rem32 wq 1000), .int kq])) hno0) List.not_mem_nil hVi
          have hWk_122 := sWk.kp (kp_new (e1 := .inr (1, [.int y, .int (wq / 10000), .int (rem32 wq 10000 / 1000), .int (rem32 wq 1000), .int kq])) hno0) List.not_mem_nil hWk
          have hHo_122 := sHo.kp (kp_new (e1 := .inr (1, [.int y, .int (wq / 10000), .int (rem32 wq 10000 / 1000), .int (rem32 wq 1000), .int kq])) hno0) List.not_mem_nil List.not_mem_nil hHo
          have hHa_122 := sHa.kp (kp_new (e1 := .inr (1, [.int y, .int (wq / 10000), .int (rem32 wq 10000 / 1000), .int (rem32 wq 1000), .int kq])) hno0) List.not_mem_nil hHa
          obtain ⟨fL, hL1, hL2⟩ := id hL_122
          have h18 := hp.1.2.2.2.1
          have hkq : tn (c 18) < 40 := by
            have z : ¬ (40 : Int32) ≤ c 18 := of_decide_eq_false b32
            have z1 : ¬ (40 : Int) ≤ (c 18).toInt := fun q => z (Int32.le_iff_toInt_le.mpr q)
            have := tn_of h18.1; omega
          have hB4 : gup G n (.inr (1, [.int y, .int (wq / 10000), .int (rem32 wq 10000 / 1000), .int (rem32 wq 1000), .int kq])) (x + 4) = some (.inr (2, [.ref (x + 5), .ref (x + 6), .int (nI (tn (c 18)))])) := by rw [← nI18 hp]; exact hB_122.1
          refine g_cv (g_runV (As := [.ref n]) (rest := []) ⟨hx, hb, hml, hown, hts⟩ hK hP (kX2_add l E A (n + 1) (gup G n (.inr (1, [.int y, .int (wq / 10000), .int (rem32 wq 10000 / 1000), .int (rem32 wq 1000), .int kq]))) (x + 4) (x + 5) (x + 6) n (tn (c 18)) fL [.int y, .int (wq / 10000), .int (rem32 wq 10000 / 1000), .int (rem32 wq 1000), .int kq] hkq hB4 hL1 qq_n) (cwV 1 hts gX8_law_X2_add rfl rfl rfl (by decide +kernel) ⟨Nat.le_of_ble_eq_true rfl, Nat.le_of_ble_eq_true rfl⟩) hB4 rfl rfl hl.1 rfl (Nat.le_of_ble_eq_true rfl) dX8_law_51 ⟨Nat.le_of_ble_eq_true rfl, Nat.le_of_ble_eq_true rfl⟩) hS (fun n' G' H locs hw hP hS => ?_)
          obtain ⟨rfl, rfl⟩ := hw
          have hVm := hV_122
          have hRm := hR_122
          have hHm := hH1_122
          have hBm := hB_122
          have q123_0 : (gup (gup G n (.inr (1, [.int y, .int (wq / 10000), .int (rem32 wq 10000 / 1000), .int (rem32 wq 1000), .int kq]))) (x + 5) (.inl (E.2 3, 40, .inr (.inr (.inr (.inr (va_up fL (tn (c 18)) (some n)))))))) x = some (.inr (8, [.ref (x + 1), .ref (x + 2), .ref (x + 3), .ref (x + 4), .ref (x + 7), .ref (x + 9), .int (c 0), .int (c 7), .int (c 12), .int (c 29), .int (c 30), .int (c 31), .int (c 32), .int (c 33)])) := (gup_n (ne_oa qq_0 hL1)).trans qq_0
          have q123_1 : (gup (gup G n (.inr (1, [.int y, .int (wq / 10000), .int (rem32 wq 10000 / 1000), .int (rem32 wq 1000), .int kq]))) (x + 5) (.inl (E.2 3, 40, .inr (.inr (.inr (.inr (va_up fL (tn (c 18)) (some n)))))))) (x + 4) = some (.inr (2, [.ref (x + 5), .ref (x + 6), .int (nI (tn (c 18)))])) := (gup_n (ne_oa hB4 hL1)).trans hB4
          have q123_2 : (gup (gup G n (.inr (1, [.int y, .int (wq / 10000), .int (rem32 wq 10000 / 1000), .int (rem32 wq 1000), .int kq]))) (x + 5) (.inl (E.2 3, 40, .inr (.inr (.inr (.inr (va_up fL (tn (c 18)) (some n)))))))) n = some (.inr (1, [.int y, .int (wq / 10000), .int (rem32 wq 10000 / 1000), .int (rem32 wq 1000), .int kq])) := (gup_n (ne_oa qq_n hL1)).trans qq_n
          have q123_a : (gup (gup G n (.inr (1, [.int y, .int (wq / 10000), .int (rem32 wq 10000 / 1000), .int (rem32 wq 1000), .int kq]))) (x + 5) (.inl (E.2 3, 40, .inr (.inr (.inr (.inr (va_up fL (tn (c 18)) (some n)))))))) (x + 5) = some (.inl (E.2 3, 40, .inr (.inr (.inr (.inr (va_up fL (tn (c 18)) (some n))))))) := gup_s
          have hA1_124 := sA.kp (kp_up (e1 := .inl (E.2 3, 40, .inr (.inr (.inr (.inr (va_up fL (tn (c 18)) (some n))))))) hL1) (kpn (by decide : (8 : Nat) ≠ 22)) hA1_122
          have hB_124 := sB.kp (kp_up (e1 := .inl (E.2 3, 40, .inr (.inr (.inr (.inr (va_up fL (tn (c 18)) (some n))))))) hL1) (kpn (by decide : (2 : Nat) ≠ 22)) (kpn (by decide : (1 : Nat) ≠ 22)) hB_122
          have hPl_124 := sP.kp (kp_up (e1 := .inl (E.2 3, 40, .inr (.inr (.inr (.inr (va_up fL (tn (c 18)) (some n))))))) hL1) (kpn (by decide : (21 : Nat) ≠ 22)) (kpn (by decide : (3 : Nat) ≠ 22)) hPl_122
          have hEv_124 := sE.kp (kp_up (e1 := .inl (E.2 3, 40, .inr (.inr (.inr (.inr (va_up fL (tn (c 18)) (some n))))))) hL1) (kpn (by decide : (20 : Nat) ≠ 22)) hEv_122
          have hRo_124 := sRo.kp (kp_up (e1 := .inl (E.2 3, 40, .inr (.inr (.inr (.inr (va_up fL (tn (c 18)) (some n))))))) hL1) (kpn (by decide : (4 : Nat) ≠ 22)) hRo_122
          have hVi_124 := sVi.kp (kp_up (e1 := .inl (E.2 3, 40, .inr (.inr (.inr (.inr (va_up fL (tn (c 18)) (some n))))))) hL1) (kpn (by decide : (6 : Nat) ≠ 22)) hVi_122
          have hWk_124 := sWk.kp (kp_up (e1 := .inl (E.2 3, 40, .inr (.inr (.inr (.inr (va_up fL (tn (c 18)) (some n))))))) hL1) (kpn (by decide : (7 : Nat) ≠ 22)) hWk_122
          have hHo_124 := sHo.kp (kp_up (e1 := .inl (E.2 3, 40, .inr (.inr (.inr (.inr (va_up fL (tn (c 18)) (some n))))))) hL1) (kpn (by decide : (0 : Nat) ≠ 22)) (kpn (by decide : (5 : Nat) ≠ 22)) hHo_122
          have hHa_124 := sHa.kp (kp_up (e1 := .inl (E.2 3, 40, .inr (.inr (.inr (.inr (va_up fL (tn (c 18)) (some n))))))) hL1) (kpn (by decide : (20 : Nat) ≠ 22)) hHa_122
          obtain ⟨fsV, gsV1, gsV2⟩ := hVm
          have hVm_m : sV E (gup (gup G n (.inr (1, [.int y, .int (wq / 10000), .int (rem32 wq 10000 / 1000), .int (rem32 wq 1000), .int kq]))) (x + 5) (.inl (E.2 3, 40, .inr (.inr (.inr (.inr (va_up fL (tn (c 18)) (some n)))))))) x := ⟨fsV, (gup_n (by omega)).trans gsV1, gsV2⟩
          obtain ⟨fsR, gsR1, gsR2⟩ := hRm
          have hRm_m : sR E (gup (gup G n (.inr (1, [.int y, .int (wq / 10000), .int (rem32 wq 10000 / 1000), .int (rem32 wq 1000), .int kq]))) (x + 5) (.inl (E.2 3, 40, .inr (.inr (.inr (.inr (va_up fL (tn (c 18)) (some n)))))))) x := ⟨fsR, (gup_n (by omega)).trans gsR1, gsR2⟩
          obtain ⟨fsH, gsH1, gsH2⟩ := hHm
          have hHm_m : sH E (gup (gup G n (.inr (1, [.int y, .int (wq / 10000), .int (rem32 wq 10000 / 1000), .int (rem32 wq 1000), .int kq]))) (x + 5) (.inl (E.2 3, 40, .inr (.inr (.inr (.inr (va_up fL (tn (c 18)) (some n)))))))) x ha (tn (c 7)) := ⟨fsH, (gup_n (by omega)).trans gsH1, gsH2⟩
          have h6_m : (gup (gup G n (.inr (1, [.int y, .int (wq / 10000), .int (rem32 wq 10000 / 1000), .int (rem32 wq 1000), .int kq]))) (x + 5) (.inl (E.2 3, 40, .inr (.inr (.inr (.inr (va_up fL (tn (c 18)) (some n)))))))) (x + 6) = some (.inr (1, [.int 0, .int 0, .int 0, .int 0, .int 0])) := (gup_n (by omega)).trans hBm.2
          have q125_0 : (gup (gup (gup G n (.inr (1, [.int y, .int (wq / 10000), .int (rem32 wq 10000 / 1000), .int (rem32 wq 1000), .int kq]))) (x + 5) (.inl (E.2 3, 40, .inr (.inr (.inr (.inr (va_up fL (tn (c 18)) (some n)))))))) (x + 4) (.inr (2, [.ref (x + 5), .ref (x + 6), .int (nI (tn (c 18) + 1))]))) x = some (.inr (8, [.ref (x + 1), .ref (x + 2), .ref (x + 3), .ref (x + 4), .ref (x + 7), .ref (x + 9), .int (c 0), .int (c 7), .int (c 12), .int (c 29), .int (c 30), .int (c 31), .int (c 32), .int (c 33)])) := (gup_n (ne_oo q123_0 q123_1 (by decide))).trans q123_0
          have q125_1 : (gup (gup (gup G n (.inr (1, [.int y, .int (wq / 10000), .int (rem32 wq 10000 / 1000), .int (rem32 wq 1000), .int kq]))) (x + 5) (.inl (E.2 3, 40, .inr (.inr (.inr (.inr (va_up fL (tn (c 18)) (some n)))))))) (x + 4) (.inr (2, [.ref (x + 5), .ref (x + 6), .int (nI (tn (c 18) + 1))]))) n = some (.inr (1, [.int y, .int (wq / 10000), .int (rem32 wq 10000 / 1000), .int (rem32 wq 1000), .int kq])) := (gup_n (ne_oo q123_2 q123_1 (by decide))).trans q123_2
          have q125_2 : (gup (gup (gup G n (.inr (1, [.int y, .int (wq / 10000), .int (rem32 wq 10000 / 1000), .int (rem32 wq 1000), .int kq]))) (x + 5) (.inl (E.2 3, 40, .inr (.inr (.inr (.inr (va_up fL (tn (c 18)) (some n)))))))) (x + 4) (.inr (2, [.ref (x + 5), .ref (x + 6), .int (nI (tn (c 18) + 1))]))) (x + 5) = some (.inl (E.2 3, 40, .inr (.inr (.inr (.inr (va_up fL (tn (c 18)) (some n))))))) := (gup_n (ne_ao q123_a q123_1)).trans q123_a
          have q125_3 : (gup (gup (gup G n (.inr (1, [.int y, .int (wq / 10000), .int (rem32 wq 10000 / 1000), .int (rem32 wq 1000), .int kq]))) (x + 5) (.inl (E.2 3, 40, .inr (.inr (.inr (.inr (va_up fL (tn (c 18)) (some n)))))))) (x + 4) (.inr (2, [.ref (x + 5), .ref (x + 6), .int (nI (tn (c 18) + 1))]))) (x + 6) = some (.inr (1, [.int 0, .int 0, .int 0, .int 0, .int 0])) := (gup_n (ne_oo h6_m q123_1 (by decide))).trans h6_m
          have q125_a : (gup (gup (gup G n (.inr (1, [.int y, .int (wq / 10000), .int (rem32 wq 10000 / 1000), .int (rem32 wq 1000), .int kq]))) (x + 5) (.inl (E.2 3, 40, .inr (.inr (.inr (.inr (va_up fL (tn (c 18)) (some n)))))))) (x + 4) (.inr (2, [.ref (x + 5), .ref (x + 6), .int (nI (tn (c 18) + 1))]))) (x + 4) = some (.inr (2, [.ref (x + 5), .ref (x + 6), .int (nI (tn (c 18) + 1))])) := gup_s
          have hP : gP E A (n + 1) (gup (gup (gup G n (.inr (1, [.int y, .int (wq / 10000), .int (rem32 wq 10000 / 1000), .int (rem32 wq 1000), .int kq]))) (x + 5) (.inl (E.2 3, 40, .inr (.inr (.inr (.inr (va_up fL (tn (c 18)) (some n)))))))) (x + 4) (.inr (2, [.ref (x + 5), .ref (x + 6), .int (nI (tn (c 18) + 1))]))) H := hP
          have hA1_126 := sA.kp (kp_up (e1 := .inr (2, [.ref (x + 5), .ref (x + 6), .int (nI (tn (c 18) + 1))])) q123_1) (kpn (by decide : (8 : Nat) ≠ 2)) hA1_124
          have hPl_126 := sP.kp (kp_up (e1 := .inr (2, [.ref (x + 5), .ref (x + 6), .int (nI (tn (c 18) + 1))])) q123_1) (kpn (by decide : (21 : Nat) ≠ 2)) (kpn (by decide : (3 : Nat) ≠ 2)) hPl_124
          have hEv_126 := sE.kp (kp_up (e1 := .inr (2, [.ref (x + 5), .ref (x + 6), .int (nI (tn (c 18) + 1))])) q123_1) (kpn (by decide : (20 : Nat) ≠ 2)) hEv_124
          have hRo_126 := sRo.kp (kp_up (e1 := .inr (2, [.ref (x + 5), .ref (x + 6), .int (nI (tn (c 18) + 1))])) q123_1) (kpn (by decide : (4 : Nat) ≠ 2)) hRo_124
          have hVi_126 := sVi.kp (kp_up (e1 := .inr (2, [.ref (x + 5), .ref (x + 6), .int (nI (tn (c 18) + 1))])) q123_1) (kpn (by decide : (6 : Nat) ≠ 2)) hVi_124
          have hWk_126 := sWk.kp (kp_up (e1 := .inr (2, [.ref (x + 5), .ref (x + 6), .int (nI (tn (c 18) + 1))])) q123_1) (kpn (by decide : (7 : Nat) ≠ 2)) hWk_124
          have hHo_126 := sHo.kp (kp_up (e1 := .inr (2, [.ref (x + 5), .ref (x + 6), .int (nI (tn (c 18) + 1))])) q123_1) (kpn (by decide : (0 : Nat) ≠ 2)) (kpn (by decide : (5 : Nat) ≠ 2)) hHo_124
          have hHa_126 := sHa.kp (kp_up (e1 := .inr (2, [.ref (x + 5), .ref (x + 6), .int (nI (tn (c 18) + 1))])) q123_1) (kpn (by decide : (20 : Nat) ≠ 2)) hHa_124
          have hV_126 := sV.kp (kp_up (e1 := .inr (2, [.ref (x + 5), .ref (x + 6), .int (nI (tn (c 18) + 1))])) q123_1) (kpn (by decide : (22 : Nat) ≠ 2)) hVm_m
          have hR_126 := sR.kp (kp_up (e1 := .inr (2, [.ref (x + 5), .ref (x + 6), .int (nI (tn (c 18) + 1))])) q123_1) (kpn (by decide : (22 : Nat) ≠ 2)) hRm_m
          have hH1_126 := sH.kp (kp_up (e1 := .inr (2, [.ref (x + 5), .ref (x + 6), .int (nI (tn (c 18) + 1))])) q123_1) (kpn (by decide : (22 : Nat) ≠ 2)) hHm_m
          refine lv_aload_n hx hb dX8_law_54 rfl (lv_at hl 0 rfl) ?_
          refine g_get (ci := 8) hx hb hts hin8 hown hK hP q125_0 rfl 3 (by decide) hf30 rfl rfl dX8_law_55 ?_
          refine g_get (ci := 2) hx hb hts hin2 hown hK hP q125_a rfl 2 (by decide) hf108 rfl rfl dX8_law_58 ?_
          refine W.widen (k := 1) (n := 5) (by omega) (by omega) ?_
          refine g_reti hx hb hr hlk hP hS dX8_law_61 ?_
          have hB0 : lawB c y wq kq = true := by rw [lawB_eq hp]; first | (simp [b6, b13, b22, b32]; done) | (exfalso; simp_all; done)
          have e18 : c 18 + 1 = nI (tn (c 18) + 1) := by rw [← nI_1, ← nI18 hp]
          have t18 : tn (c 18 + 1) = tn (c 18) + 1 := tn_s h18.1 h18.2 (by decide)
          refine ⟨by rw [lawR, if_pos hB0, e18], by omega, ⟨ha, va_up la (tn (c 18)) n, lt, wa, ww, wn⟩, ?_⟩
          rw [lawS, lawC, if_pos hB0, if_pos hB0]
          have ql5 := q125_2
          have ql4 := q125_a
          have hLn : sL E (gup (gup (gup G n (.inr (1, [.int y, .int (wq / 10000), .int (rem32 wq 10000 / 1000), .int (rem32 wq 1000), .int kq]))) (x + 5) (.inl (E.2 3, 40, .inr (.inr (.inr (.inr (va_up fL (tn (c 18)) (some n)))))))) (x + 4) (.inr (2, [.ref (x + 5), .ref (x + 6), .int (nI (tn (c 18) + 1))]))) x (va_up (va_up (va_up S 15 (upd (S 15) (tn (c 18)) y)) 16 (upd (S 16) (tn (c 18)) wq)) 17 (upd (S 17) (tn (c 18)) kq)) (va_up la (tn (c 18)) n) (tn (c 18 + 1)) := by
            refine ⟨_, ql5, fun i hi => ?_⟩
            rw [t18] at hi
            by_cases hz : i = tn (c 18)
            · subst hz
              refine ⟨by rw [va_up_self, va_up_self], ?_⟩
              rw [va_up_self]
              refine (q125_1).trans ?_
              simp [lawE, va_up, upd]
            · refine ⟨by rw [va_up_ne _ _ hz, va_up_ne _ _ hz]; exact (hL2 i (by omega)).1, ?_⟩
              rw [va_up_ne _ _ hz]
              have h2 := (hL2 i (by omega)).2
              have h2' := (gup_n (e := .inl (E.2 3, 40, .inr (.inr (.inr (.inr (va_up fL (tn (c 18)) (some n))))))) (ne_oa h2 hL1)).trans h2
              refine (gup_n (ne_oo h2' q123_1 (by decide))).trans ((gup_n (ne_oa h2 hL1)).trans ?_)
              rw [h2]
              simp [lawE, va_up, upd, hz]
          exact ⟨q125_0, hV_126, hR_126, hH1_126, ⟨by rw [show (va_up c 18 (c 18 + 1)) 18 = nI (tn (c 18) + 1) from e18]; exact ql4, q125_3⟩, hLn, hPl_126, hEv_126, hRo_126, hVi_126, hWk_126, hW, (sHo.cg (fun j h1 h2 => by simp only [va_up]; repeat (first | rfl | (rw [if_neg (by omega)]))) hHo_126), (sHa.cg (fun j h1 h2 => by simp only [va_up]; repeat (first | rfl | (rw [if_neg (by omega)]))) hHa_126), hHp⟩
        · refine lv_iconst (v := (-1)) hx hb dX8_law_35 (by decide) ?_
          refine W.widen (k := 1) (n := 5) (by omega) (by omega) ?_
          refine g_reti hx hb hr hlk hP hS dX8_law_36 ?_
          have hB0 : lawB c y wq kq = false := by rw [lawB_eq hp]; first | (simp [b6, b13, b22, b32]; done) | (exfalso; simp_all; done)
          exact ⟨by rw [lawR, if_neg (by rw [hB0]; decide)], Nat.le_refl _, _, by rw [lawS, lawC, if_neg (by rw [hB0]; decide), if_neg (by rw [hB0]; decide)]; exact hs⟩
