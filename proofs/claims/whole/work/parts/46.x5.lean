theorem yk_tn {h : Nat} {y : Int32} (hh : h < 40) (hy : vp_in y 21) : tn (21 * nI h + y) = 21 * h + tn y := by
  have h1 := vp_in_iff.mp hy
  have h2 := tn_of h1.1
  have e1 : (nI h).toInt = h := nI_toInt (by omega)
  have e2 : (21 : Int32).toInt = 21 := rfl
  have h3 : (21 * nI h).toInt = 21 * h := by rw [fb_mulI] <;> rw [e1, e2] <;> omega
  have h4 : (21 * nI h + y).toInt = 21 * h + y.toInt := by rw [fb_addI] <;> omega
  have h5 := tn_of (v := 21 * nI h + y) (by omega)
  omega
theorem sub3 (a b d e : Int32) : a - (b + d + e) = a - b - d - e := by
  apply Int32.toBitVec_inj.mp
  simp only [Int32.toBitVec_sub, Int32.toBitVec_add]
  rw [BitVec.sub_eq_add_neg, BitVec.sub_eq_add_neg, BitVec.sub_eq_add_neg, BitVec.sub_eq_add_neg]
  rw [BitVec.neg_add, BitVec.sub_eq_add_neg, BitVec.neg_add, BitVec.sub_eq_add_neg]
  simp only [BitVec.add_assoc]
theorem yet_eq {c : Nat → Int32} {S : Nat → Nat → Int32} {h : Nat} {y : Int32} {f1 f2 f3 : Nat → Int32} (hh : h < 40) (hy : vp_in y 21) (e1 : f1 (tn y) = S 18 (21 * h + tn y)) (e2 : f2 (tn y) = S 19 (21 * h + tn y)) (e3 : f3 (tn y) = S 20 (21 * h + tn y)) : yetOf c S (nI h) y = if 0 < oweOf c S (nI h) y - (f1 (tn y) + f2 (tn y) + f3 (tn y)) then oweOf c S (nI h) y - (f1 (tn y) + f2 (tn y) + f3 (tn y)) else 0 := by
  rw [yetOf, yet0, yk_tn hh hy, e1, e2, e3, sub3]
  by_cases q : oweOf c S (nI h) y - S 18 (21 * h + tn y) - S 19 (21 * h + tn y) - S 20 (21 * h + tn y) ≤ 0
  · rw [if_pos q, if_neg (Int32.not_lt.mpr q)]
  · rw [if_neg q, if_pos (Int32.not_le.mp q)]
theorem papF_skip (c : Nat → Int32) (S : Nat → Nat → Int32) (v : Int32) (N a : Nat) : ∀ b, a ≤ b → b ≤ N → (∀ w, a ≤ w → w < b → S 23 (tn (1040 * v + nI w)) ≤ 6 * vilOf c S v (nI w)) → papF c S v (N - a) a = papF c S v (N - b) b := by
  intro b
  induction b with
  | zero => intro h1 _ _; rw [show a = 0 by omega]
  | succ b ih =>
    intro h1 h2 h3
    by_cases q : a = b + 1
    · rw [q]
    · rw [ih (by omega) (by omega) (fun w x y => h3 w x (by omega)), show N - b = N - (b + 1) + 1 by omega, papF, if_pos (h3 b (by omega) (by omega))]
theorem did_tn {v w : Nat} (hv : v < 8) (hw : w < 1040) : tn (1040 * nI v + nI w) = 1040 * v + w := by
  rw [show (1040 : Int32) = nI 1040 from rfl, pk_mul, nI_add, tn_nI (by omega)]
theorem zero_ok {c : Nat → Int32} {S : Nat → Nat → Int32} (hp : pI c S) (v w : Int32) : (0 : Int32) ≤ 6 * vilOf c S v w := by
  have h1 := vil_ge hp v w (tn (c 7)) (Nat.le_refl _)
  have h2 := (le40 hp).1
  have e6 : (6 : Int32).toInt = 6 := rfl
  have e0 : (0 : Int32).toInt = 0 := rfl
  apply Int32.le_iff_toInt_le.mpr
  rw [vilOf, fb_mulI] <;> rw [e6] <;> omega

set_option maxHeartbeats 1000000 in
set_option maxRecDepth 100000 in
theorem kX8_daysOwedYet (l : Launch) (E : gT) (A : Nat → Prop) (n : Nat) (G : gH) (x : Nat) (c : Nat → Int32) (S : Nat → Nat → Int32) (hi : Nat) (y : Int32) (ha : Nat → Nat) (hA1 : sA G x c) (hB : sB G x (c 18)) (la : Nat → Nat) (hL : sL E G x S la (tn (c 18))) (lt : Nat → Option Nat) (hHo : sHo G S ha lt (tn (c 7)) (tn (c 12))) (hHa : sHa E G S ha (tn (c 7))) (hp : pI c S) (hh : hi < tn (c 7)) (hy : vp_in y 21) : gM l yX8_daysOwedYet wsX8_daysOwedYet ({ frames := 2, cells := 0, slots := 0, locals := 46 } : Room) E A n G [.ref x, .ref (ha hi), .int y] (gQi E A (fun r' n' G' => (yetOf c S (nI hi) y) = r' ∧ n = n' ∧ G = G')) 0 0 := by
  refine g_entry (by decide) rfl (Nat.le_of_ble_eq_true rfl) ?_
  intro p e s m below meth c0 hx hb hr hlk hml hown hnm hts hK H locs ls hP hS hl
  have hl : lv_has ls 3 [(0, .ref x), (1, .ref (ha hi)), (2, .int y)] := hl
  have h40 := le40 hp
  have fh0 := (hHo hi hh).1
  obtain ⟨f1, g1, u1⟩ := hHa hi hh 0 (by decide)
  have g1 : G (ha hi + 1) = some (.inl (E.2 0, 21, .inl f1)) := g1
  obtain ⟨f2, g2, u2⟩ := hHa hi hh 1 (by decide)
  have g2 : G (ha hi + 2) = some (.inl (E.2 0, 21, .inl f2)) := g2
  obtain ⟨f3, g3, u3⟩ := hHa hi hh 2 (by decide)
  have g3 : G (ha hi + 3) = some (.inl (E.2 0, 21, .inl f3)) := g3
  refine lv_iconst (v := 0) hx hb dX8_daysOwedYet_0 (by decide) ?_
  refine lv_aload_n hx hb dX8_daysOwedYet_1 rfl (lv_at hl 0 rfl) ?_
  refine lv_aload_n hx hb dX8_daysOwedYet_2 rfl (lv_at hl 1 rfl) ?_
  refine lv_iload_n hx hb dX8_daysOwedYet_3 rfl (lv_at hl 2 rfl) ?_
  refine g_ci (g_runV (As := [.ref (ha hi), .int y]) (rest := [.int 0]) ⟨hx, hb, hml, hown, hts⟩ hK hP (kX8_daysOwed l E A n G x c S hi y ha hA1 hB la hL lt hHo hp hh) (cwV 2 hts gX8_daysOwedYet_X8_daysOwed rfl rfl rfl (by decide +kernel) ⟨Nat.le_of_ble_eq_true rfl, Nat.le_of_ble_eq_true rfl⟩) hA1 rfl rfl hl.1 rfl (Nat.le_of_ble_eq_true rfl) dX8_daysOwedYet_4 ⟨Nat.le_of_ble_eq_true rfl, Nat.le_of_ble_eq_true rfl⟩) hS (fun r4 n' G' H locs hw hP hS => ?_)
  obtain ⟨rfl, rfl, rfl⟩ := hw
  refine lv_aload_n hx hb dX8_daysOwedYet_7 rfl (lv_at hl 1 rfl) ?_
  refine lv_iload_n hx hb dX8_daysOwedYet_8 rfl (lv_at hl 2 rfl) ?_
  refine g_ci (g_runV (As := [.int y]) (rest := [.int (oweOf c S (nI hi) y), .int 0]) ⟨hx, hb, hml, hown, hts⟩ hK hP (kX0_daysMet l E A n G (ha hi) (ha hi + 1) (ha hi + 2) (ha hi + 3) (ha hi + 4) (ha hi + 5) (lt hi) (S 6 hi) (S 7 hi) f1 f2 f3 y fh0 g1 g2 g3 hy) (cwV 1 hts gX8_daysOwedYet_X0_daysMet rfl rfl rfl (by decide +kernel) ⟨Nat.le_of_ble_eq_true rfl, Nat.le_of_ble_eq_true rfl⟩) fh0 rfl rfl hl.1 rfl (Nat.le_of_ble_eq_true rfl) dX8_daysOwedYet_9 ⟨Nat.le_of_ble_eq_true rfl, Nat.le_of_ble_eq_true rfl⟩) hS (fun r9 n' G' H locs hw hP hS => ?_)
  obtain ⟨rfl, rfl, rfl⟩ := hw
  refine lv_isub hx hb dX8_daysOwedYet_12 ?_
  refine va_mmax hx hb (by rw [hml]; exact hl.1.symm) hown (hts (.methodLink RX8 237 Lib.Math.max.name) (by decide +kernel)) (hts (.static Lib.Math.max.name) (by decide +kernel)) (hts (.initialized "java/lang/Math") (by decide +kernel)) (hts (.code Lib.Math.max.name Lib.Math.max.code 2 (some .int)) (by decide +kernel)) (Nat.le_of_ble_eq_true rfl) (Nat.le_of_ble_eq_true rfl) (Nat.le_of_ble_eq_true rfl) (Nat.le_of_ble_eq_true rfl) dX8_daysOwedYet_13 ?_
  refine g_reti hx hb hr hlk hP hS dX8_daysOwedYet_16 ?_
  exact ⟨yet_eq (by omega) hy (u1 _ (tn_lt hy)) (u2 _ (tn_lt hy)) (u3 _ (tn_lt hy)), rfl, rfl⟩
set_option maxHeartbeats 1000000 in
set_option maxRecDepth 100000 in
theorem kX8_canSubstitute (l : Launch) (E : gT) (A : Nat → Prop) (n : Nat) (G : gH) (x : Nat) (c : Nat → Int32) (S : Nat → Nat → Int32) (wi fi : Nat) (y : Int32) (hA1 : sA G x c) (ha : Nat → Nat) (hH1 : sH E G x ha (tn (c 7))) (lt : Nat → Option Nat) (hHo : sHo G S ha lt (tn (c 7)) (tn (c 12))) (hHa : sHa E G S ha (tn (c 7))) (hp : pI c S) (hw : wi < tn (c 7)) (hf : fi < tn (c 7)) (hy : vp_in y 21) : gM l yX8_canSubstitute wsX8_canSubstitute ({ frames := 0, cells := 0, slots := 0, locals := 0 } : Room) E A n G [.ref x, .int (nI wi), .ref (ha fi), .int y] (gQi E A (fun r' n' G' => (gb (decide (S 6 wi = S 6 fi) && (decide (S 22 (21 * fi + tn y) = -1) || decide (S 22 (21 * fi + tn y) = nI wi)))) = r' ∧ n = n' ∧ G = G')) 0 0 := by
  refine g_entry (by decide) rfl (Nat.le_of_ble_eq_true rfl) ?_
  intro p e s m below meth c0 hx hb hr hlk hml hown hnm hts hK H locs ls hP hS hl
  have hin0 : ∀ wq ∈ u_ws RX0 TX0 8, wq ∈ wsX8_canSubstitute := by decide +kernel
  have hin8 : ∀ wq ∈ u_ws RX8 TX8 14, wq ∈ wsX8_canSubstitute := by decide +kernel
  have hf23 := hts (.fieldLink RX8 23 "DikeHands" "houses" "[LDikeHands$House;") (by decide +kernel)
  have hf159 := hts (.fieldLink RX8 159 "DikeHands$House" "substitute" "[I") (by decide +kernel)
  have hf168 := hts (.fieldLink RX8 168 "DikeHands$House" "home" "I") (by decide +kernel)
  have hl : lv_has ls 5 [(0, .ref x), (1, .int (nI wi)), (2, .ref (ha fi)), (3, .int y)] := hl
  obtain ⟨fH, hH2, hH3⟩ := id hH1
  have h40 := le40 hp
  have fh0 := (hHo fi hf).1
  obtain ⟨f5, g5, u5⟩ := hHa fi hf 4 (by decide)
  have g5 : G (ha fi + 5) = some (.inl (E.2 0, 21, .inl f5)) := g5
  refine lv_aload_n hx hb dX8_canSubstitute_0 rfl (lv_at hl 2 rfl) ?_
  refine g_get (ci := 0) hx hb hts hin0 hown hK hP fh0 rfl 6 (by decide) hf159 rfl rfl dX8_canSubstitute_1 ?_
  refine lv_iload_n hx hb dX8_canSubstitute_4 rfl (lv_at hl 3 rfl) ?_
  refine g_iald hx hb hK hP g5 hy dX8_canSubstitute_5 ?_
  refine lv_istore (lv' := [(4, .int (f5 (tn y))), (0, .ref x), (1, .int (nI wi)), (2, .ref (ha fi)), (3, .int y)]) hx hb dX8_canSubstitute_6 hl (by decide) rfl (fun ls hl => ?_)
  refine lv_aload_n hx hb dX8_canSubstitute_8 rfl (lv_at hl 1 rfl) ?_
  refine g_get (ci := 8) hx hb hts hin8 hown hK hP hA1 rfl 2 (by decide) hf23 rfl rfl dX8_canSubstitute_9 ?_
  refine lv_iload_n hx hb dX8_canSubstitute_12 rfl (lv_at hl 2 rfl) ?_
  have fh13 := (hHo (wi) hw).1
  refine g_aald (t0 := 2) (v := .ref (ha wi)) hx hb hK hP hH2 rfl (vp_in_nI (by omega) (by decide)) (by rw [nI_clamp (by omega), hH3 (wi) hw]; rfl) dX8_canSubstitute_13 ?_
  refine g_get (ci := 0) hx hb hts hin0 hown hK hP fh13 rfl 0 (by decide) hf168 rfl rfl dX8_canSubstitute_14 ?_
  refine lv_aload_n hx hb dX8_canSubstitute_17 rfl (lv_at hl 3 rfl) ?_
  refine g_get (ci := 0) hx hb hts hin0 hown hK hP fh0 rfl 0 (by decide) hf168 rfl rfl dX8_canSubstitute_18 ?_
  refine lv_icmp_ne (tgt := 40) hx hb dX8_canSubstitute_21 (by decide) (fun b21 => ?_) (fun b21 => ?_)
  · refine lv_iconst (v := 0) hx hb dX8_canSubstitute_40 (by decide) ?_
    refine g_retz hx hb hr hlk hP hS dX8_canSubstitute_41 rfl ?_
    exact ⟨by rw [← u5 _ (tn_lt hy)]; first | (simp [gb, b21]; done) | (exfalso; simp_all; done), rfl, rfl⟩
  · refine lv_iload hx hb dX8_canSubstitute_24 (lv_at hl 0 rfl) ?_
    refine lv_iconst (v := (-1)) hx hb dX8_canSubstitute_26 (by decide) ?_
    refine lv_icmp_eq (tgt := 36) hx hb dX8_canSubstitute_27 (by decide) (fun b27 => ?_) (fun b27 => ?_)
    · refine lv_iconst (v := 1) hx hb dX8_canSubstitute_36 (by decide) ?_
      refine lv_goto (tgt := 41) hx hb dX8_canSubstitute_37 (by decide) ?_
      refine g_retz hx hb hr hlk hP hS dX8_canSubstitute_41 rfl ?_
      exact ⟨by rw [← u5 _ (tn_lt hy)]; first | (simp [gb, b21, b27]; done) | (exfalso; simp_all; done), rfl, rfl⟩
    · refine lv_iload hx hb dX8_canSubstitute_30 (lv_at hl 0 rfl) ?_
      refine lv_iload_n hx hb dX8_canSubstitute_32 rfl (lv_at hl 2 rfl) ?_
      refine lv_icmp_ne (tgt := 40) hx hb dX8_canSubstitute_33 (by decide) (fun b33 => ?_) (fun b33 => ?_)
      · refine lv_iconst (v := 0) hx hb dX8_canSubstitute_40 (by decide) ?_
        refine g_retz hx hb hr hlk hP hS dX8_canSubstitute_41 rfl ?_
        exact ⟨by rw [← u5 _ (tn_lt hy)]; first | (simp [gb, b21, b27, b33]; done) | (exfalso; simp_all; done), rfl, rfl⟩
      · refine lv_iconst (v := 1) hx hb dX8_canSubstitute_36 (by decide) ?_
        refine lv_goto (tgt := 41) hx hb dX8_canSubstitute_37 (by decide) ?_
        refine g_retz hx hb hr hlk hP hS dX8_canSubstitute_41 rfl ?_
        exact ⟨by rw [← u5 _ (tn_lt hy)]; first | (simp [gb, b21, b27, b33]; done) | (exfalso; simp_all; done), rfl, rfl⟩
set_option maxHeartbeats 1000000 in
set_option maxRecDepth 100000 in
theorem kX8_listed (l : Launch) (E : gT) (A : Nat → Prop) (n : Nat) (G : gH) (x : Nat) (c : Nat → Int32) (S : Nat → Nat → Int32) (h y wq : Int32) (hA1 : sA G x c) (ha : Nat → Nat) (hH1 : sH E G x ha (tn (c 7))) (lt : Nat → Option Nat) (hHo : sHo G S ha lt (tn (c 7)) (tn (c 12))) (hp : pI c S)  : gM l yX8_listed wsX8_listed ({ frames := 2, cells := 0, slots := 0, locals := 42 } : Room) E A n G [.ref x, .int h, .int y, .int wq] (gQi E A (fun r' n' G' => (lstOf c S h y wq) = r' ∧ n = n' ∧ G = G')) 0 0 := by
  refine g_entry (by decide) rfl (Nat.le_of_ble_eq_true rfl) ?_
  intro p e s m below meth c0 hx hb hr hlk hml hown hnm hts hK H locs ls hP hS hl
  have hin5 : ∀ wq ∈ u_ws RX5 TX5 5, wq ∈ wsX8_listed := by decide +kernel
  have hin8 : ∀ wq ∈ u_ws RX8 TX8 14, wq ∈ wsX8_listed := by decide +kernel
  have hf23 := hts (.fieldLink RX8 23 "DikeHands" "houses" "[LDikeHands$House;") (by decide +kernel)
  have hf133 := hts (.fieldLink RX8 133 "DikeHands$Telling" "acres" "I") (by decide +kernel)
  have hf138 := hts (.fieldLink RX8 138 "DikeHands$Telling" "hands" "I") (by decide +kernel)
  have hl : lv_has ls 5 [(0, .ref x), (1, .int h), (2, .int y), (3, .int wq)] := hl
  obtain ⟨fH, hH2, hH3⟩ := id hH1
  have h40 := le40 hp
  refine lv_aload_n hx hb dX8_listed_0 rfl (lv_at hl 0 rfl) ?_
  refine lv_iload_n hx hb dX8_listed_1 rfl (lv_at hl 1 rfl) ?_
  refine g_ci (g_runV (As := [.int h]) (rest := []) ⟨hx, hb, hml, hown, hts⟩ hK hP (kX8_isHouse l E A n G x c h hA1) (cwV 1 hts gX8_listed_X8_isHouse rfl rfl rfl (by decide +kernel) ⟨Nat.le_of_ble_eq_true rfl, Nat.le_of_ble_eq_true rfl⟩) hA1 rfl rfl hl.1 rfl (Nat.le_of_ble_eq_true rfl) dX8_listed_2 ⟨Nat.le_of_ble_eq_true rfl, Nat.le_of_ble_eq_true rfl⟩) hS (fun r2 n' G' H locs hw hP hS => ?_)
  obtain ⟨rfl, rfl, rfl⟩ := hw
  refine g_ifeq (tgt := 16) hx hb dX8_listed_5 (by decide) (fun b5 => ?_) (fun b5 => ?_)
  · refine lv_iconst (v := (-1)) hx hb dX8_listed_16 (by decide) ?_
    refine g_reti hx hb hr hlk hP hS dX8_listed_17 ?_
    exact ⟨by first | (simp [lstOf, b5]; done) | (exfalso; simp_all; done), rfl, rfl⟩
  · refine lv_aload_n hx hb dX8_listed_8 rfl (lv_at hl 0 rfl) ?_
    refine lv_iload_n hx hb dX8_listed_9 rfl (lv_at hl 2 rfl) ?_
    refine g_ci (g_runV (As := [.int y]) (rest := []) ⟨hx, hb, hml, hown, hts⟩ hK hP (kX8_isYearSoFar l E A n G x c y hA1) (cwV 1 hts gX8_listed_X8_isYearSoFar rfl rfl rfl (by decide +kernel) ⟨Nat.le_of_ble_eq_true rfl, Nat.le_of_ble_eq_true rfl⟩) hA1 rfl rfl hl.1 rfl (Nat.le_of_ble_eq_true rfl) dX8_listed_10 ⟨Nat.le_of_ble_eq_true rfl, Nat.le_of_ble_eq_true rfl⟩) hS (fun r10 n' G' H locs hw hP hS => ?_)
    obtain ⟨rfl, rfl, rfl⟩ := hw
    refine g_ifne (tgt := 18) hx hb dX8_listed_13 (by decide) (fun b13 => ?_) (fun b13 => ?_)
    · obtain ⟨hi, hh, rfl⟩ := hs_ix hp.1 b5
      refine lv_aload_n hx hb dX8_listed_18 rfl (lv_at hl 0 rfl) ?_
      refine g_get (ci := 8) hx hb hts hin8 hown hK hP hA1 rfl 2 (by decide) hf23 rfl rfl dX8_listed_19 ?_
      refine lv_iload_n hx hb dX8_listed_22 rfl (lv_at hl 1 rfl) ?_
      have fh23 := (hHo (hi) hh).1
      refine g_aald (t0 := 2) (v := .ref (ha hi)) hx hb hK hP hH2 rfl (vp_in_nI (by omega) (by decide)) (by rw [nI_clamp (by omega), hH3 (hi) hh]; rfl) dX8_listed_23 ?_
      refine lv_iload_n hx hb dX8_listed_24 rfl (lv_at hl 2 rfl) ?_
      refine lv_bipush (v := 52) hx hb dX8_listed_25 (by decide) ?_
      refine lv_imul hx hb dX8_listed_27 ?_
      refine g_cq (g_runV (As := [.int (y * 52)]) (rest := []) ⟨hx, hb, hml, hown, hts⟩ hK hP (kX0_toldAheadOf l E A n G (ha hi) (ha hi + 1) (ha hi + 2) (ha hi + 3) (ha hi + 4) (ha hi + 5) (lt hi) (S 6 hi) (S 7 hi) (telL S hi (tn (c 12))) (y * 52) fh23 (hHo hi hh).2) (cwV 1 hts gX8_listed_X0_toldAheadOf rfl rfl rfl (by decide +kernel) ⟨Nat.le_of_ble_eq_true rfl, Nat.le_of_ble_eq_true rfl⟩) fh23 rfl rfl hl.1 rfl (Nat.le_of_ble_eq_true rfl) dX8_listed_28 ⟨Nat.le_of_ble_eq_true rfl, Nat.le_of_ble_eq_true rfl⟩) hS (fun rq n' G' H locs hw hP hS => ?_)
      obtain ⟨hw, rfl, rfl⟩ := hw
      by_cases hc : S 7 hi < 52 * y
      · obtain ⟨q, e1, e2, e3⟩ := fst_lis S y (by omega) hc (tn (c 12))
        rw [Int32.mul_comm y 52, e1] at hw
        obtain ⟨aq, nx, hrq, fq⟩ := hw
        subst hrq
        refine W.eq (g2 := F0 m 31 ls [.ref aq]) rfl ?_
        refine lv_astore (lv' := [(4, .ref aq), (0, .ref x), (1, .int (nI hi)), (2, .int y), (3, .int wq)]) hx hb dX8_listed_31 hl (by decide) rfl (fun ls hl => ?_)
        refine lv_aload hx hb dX8_listed_33 (lv_at hl 0 rfl) ?_
        refine lv_ifnonnull (tgt := 40) hx hb dX8_listed_35 (by decide) ?_
        refine lv_iload_n hx hb dX8_listed_40 rfl (lv_at hl 4 rfl) ?_
        by_cases s41_0 : wq = 0
        · refine lv_lookup (tgt := 68) hx hb dX8_listed_41 (by decide) (by first | (rw [s41_0]; done) | (rw [s41_0]; rfl)) (by decide) ?_
          refine lv_aload hx hb dX8_listed_68 (lv_at hl 0 rfl) ?_
          refine g_get (ci := 5) hx hb hts hin5 hown hK hP fq rfl 2 (by decide) hf133 rfl rfl dX8_listed_70 ?_
          refine g_reti hx hb hr hlk hP hS dX8_listed_73 ?_
          have hl1 : lstB S (nI hi) y = true := by rw [lstB, tn_nI (by omega)]; exact decide_eq_true hc
          subst s41_0
          exact ⟨by rw [← e2]; simp [lstOf, hl1, b5, b13, lisOf, show inB 0 0 1 = true from by decide], rfl, rfl⟩
        by_cases s41_1 : wq = 1
        · refine lv_lookup (tgt := 74) hx hb dX8_listed_41 (by decide) (by first | (rw [s41_1]; done) | (rw [s41_1]; rfl)) (by decide) ?_
          refine lv_aload hx hb dX8_listed_74 (lv_at hl 0 rfl) ?_
          refine g_get (ci := 5) hx hb hts hin5 hown hK hP fq rfl 3 (by decide) hf138 rfl rfl dX8_listed_76 ?_
          refine g_reti hx hb hr hlk hP hS dX8_listed_79 ?_
          have hl1 : lstB S (nI hi) y = true := by rw [lstB, tn_nI (by omega)]; exact decide_eq_true hc
          subst s41_1
          exact ⟨by rw [← e3 1 (by decide)]; simp [lstOf, hl1, b5, b13, lisOf, show inB 1 0 1 = true from by decide], rfl, rfl⟩
        refine lv_lookup (off := 39) (tgt := 80) hx hb dX8_listed_41 (by decide) (by show Op.lookupswitch.offset [(0, 27), (1, 33)] _ _ = _; rw [lv_osw (a := 0) s41_0 rfl]; rw [lv_osw (a := 1) s41_1 rfl]; first | done | rfl) (by decide) ?_
        refine lv_iconst (v := (-1)) hx hb dX8_listed_80 (by decide) ?_
        refine g_reti hx hb hr hlk hP hS dX8_listed_81 ?_
        have hl1 : lstB S (nI hi) y = true := by rw [lstB, tn_nI (by omega)]; exact decide_eq_true hc
        have hin : inB wq 0 1 = false := by
          cases hz : inB wq 0 1
          · rfl
          · have h1 := inB_i hz
            have a0 := lv_neT s41_0 (a := 0) rfl
            have a1 := lv_neT s41_1 (a := 1) rfl
            have e0 : (0 : Int32).toInt = 0 := rfl
            have e1 : (1 : Int32).toInt = 1 := rfl
            omega
        exact ⟨by simp [lstOf, hin], rfl, rfl⟩
      · rw [Int32.mul_comm y 52, fst_no S (52 * y) hc (tn (c 12)) (fun j hj he => by have := (hp.2.2.2.2.2.2.1 j hj).2.1.1; rw [he, tn_nI (by omega)] at this; exact this)] at hw
        have hrq : rq = none := hw
        subst hrq
        refine W.eq (g2 := F0 m 31 ls [.null]) rfl ?_
        refine lv_astoreN (lv' := [(4, .null), (0, .ref x), (1, .int (nI hi)), (2, .int y), (3, .int wq)]) hx hb dX8_listed_31 hl (by decide) rfl (fun ls hl => ?_)
        refine lv_aloadN hx hb dX8_listed_33 (lv_at hl 0 rfl) ?_
        refine lv_ifnonnullN hx hb dX8_listed_35 ?_
        refine lv_iconst (v := (-1)) hx hb dX8_listed_38 (by decide) ?_
        refine g_reti hx hb hr hlk hP hS dX8_listed_39 ?_
        have hl1 : lstB S (nI hi) y = false := by rw [lstB, tn_nI (by omega)]; exact decide_eq_false hc
        exact ⟨by simp [lstOf, hl1], rfl, rfl⟩
    · refine lv_iconst (v := (-1)) hx hb dX8_listed_16 (by decide) ?_
      refine g_reti hx hb hr hlk hP hS dX8_listed_17 ?_
      exact ⟨by first | (simp [lstOf, b5, b13]; done) | (exfalso; simp_all; done), rfl, rfl⟩
set_option maxHeartbeats 1000000 in
set_option maxRecDepth 100000 in
theorem kX8_owed (l : Launch) (E : gT) (A : Nat → Prop) (n : Nat) (G : gH) (x : Nat) (c : Nat → Int32) (S : Nat → Nat → Int32) (h y : Int32) (hA1 : sA G x c) (ha : Nat → Nat) (hH1 : sH E G x ha (tn (c 7))) (hB : sB G x (c 18)) (la : Nat → Nat) (hL : sL E G x S la (tn (c 18))) (lt : Nat → Option Nat) (hHo : sHo G S ha lt (tn (c 7)) (tn (c 12))) (hp : pI c S)  : gM l yX8_owed wsX8_owed ({ frames := 2, cells := 0, slots := 0, locals := 46 } : Room) E A n G [.ref x, .int h, .int y] (gQi E A (fun r' n' G' => (owdOf c S h y) = r' ∧ n = n' ∧ G = G')) 0 0 := by
  refine g_entry (by decide) rfl (Nat.le_of_ble_eq_true rfl) ?_
  intro p e s m below meth c0 hx hb hr hlk hml hown hnm hts hK H locs ls hP hS hl
  have hin8 : ∀ wq ∈ u_ws RX8 TX8 14, wq ∈ wsX8_owed := by decide +kernel
  have hf23 := hts (.fieldLink RX8 23 "DikeHands" "houses" "[LDikeHands$House;") (by decide +kernel)
  have hl : lv_has ls 3 [(0, .ref x), (1, .int h), (2, .int y)] := hl
  obtain ⟨fH, hH2, hH3⟩ := id hH1
  have h40 := le40 hp
  refine lv_aload_n hx hb dX8_owed_0 rfl (lv_at hl 0 rfl) ?_
  refine lv_iload_n hx hb dX8_owed_1 rfl (lv_at hl 1 rfl) ?_
  refine g_ci (g_runV (As := [.int h]) (rest := []) ⟨hx, hb, hml, hown, hts⟩ hK hP (kX8_isHouse l E A n G x c h hA1) (cwV 1 hts gX8_owed_X8_isHouse rfl rfl rfl (by decide +kernel) ⟨Nat.le_of_ble_eq_true rfl, Nat.le_of_ble_eq_true rfl⟩) hA1 rfl rfl hl.1 rfl (Nat.le_of_ble_eq_true rfl) dX8_owed_2 ⟨Nat.le_of_ble_eq_true rfl, Nat.le_of_ble_eq_true rfl⟩) hS (fun r2 n' G' H locs hw hP hS => ?_)
  obtain ⟨rfl, rfl, rfl⟩ := hw
  refine g_ifeq (tgt := 16) hx hb dX8_owed_5 (by decide) (fun b5 => ?_) (fun b5 => ?_)
  · refine lv_iconst (v := (-1)) hx hb dX8_owed_16 (by decide) ?_
    refine g_reti hx hb hr hlk hP hS dX8_owed_17 ?_
    exact ⟨by first | (simp [owdOf, b5]; done) | (exfalso; simp_all; done), rfl, rfl⟩
  · refine lv_aload_n hx hb dX8_owed_8 rfl (lv_at hl 0 rfl) ?_
    refine lv_iload_n hx hb dX8_owed_9 rfl (lv_at hl 2 rfl) ?_
    refine g_ci (g_runV (As := [.int y]) (rest := []) ⟨hx, hb, hml, hown, hts⟩ hK hP (kX8_isYearSoFar l E A n G x c y hA1) (cwV 1 hts gX8_owed_X8_isYearSoFar rfl rfl rfl (by decide +kernel) ⟨Nat.le_of_ble_eq_true rfl, Nat.le_of_ble_eq_true rfl⟩) hA1 rfl rfl hl.1 rfl (Nat.le_of_ble_eq_true rfl) dX8_owed_10 ⟨Nat.le_of_ble_eq_true rfl, Nat.le_of_ble_eq_true rfl⟩) hS (fun r10 n' G' H locs hw hP hS => ?_)
    obtain ⟨rfl, rfl, rfl⟩ := hw
    refine g_ifne (tgt := 18) hx hb dX8_owed_13 (by decide) (fun b13 => ?_) (fun b13 => ?_)
    · obtain ⟨hi, hh, rfl⟩ := hs_ix hp.1 b5
      refine lv_aload_n hx hb dX8_owed_18 rfl (lv_at hl 0 rfl) ?_
      refine lv_aload_n hx hb dX8_owed_19 rfl (lv_at hl 0 rfl) ?_
      refine g_get (ci := 8) hx hb hts hin8 hown hK hP hA1 rfl 2 (by decide) hf23 rfl rfl dX8_owed_20 ?_
      refine lv_iload_n hx hb dX8_owed_23 rfl (lv_at hl 1 rfl) ?_
      have fh24 := (hHo (hi) hh).1
      refine g_aald (t0 := 2) (v := .ref (ha hi)) hx hb hK hP hH2 rfl (vp_in_nI (by omega) (by decide)) (by rw [nI_clamp (by omega), hH3 (hi) hh]; rfl) dX8_owed_24 ?_
      refine lv_iload_n hx hb dX8_owed_25 rfl (lv_at hl 2 rfl) ?_
      refine g_ci (g_runV (As := [.ref (ha hi), .int y]) (rest := []) ⟨hx, hb, hml, hown, hts⟩ hK hP (kX8_daysOwed l E A n G x c S hi y ha hA1 hB la hL lt hHo hp hh) (cwV 2 hts gX8_owed_X8_daysOwed rfl rfl rfl (by decide +kernel) ⟨Nat.le_of_ble_eq_true rfl, Nat.le_of_ble_eq_true rfl⟩) hA1 rfl rfl hl.1 rfl (Nat.le_of_ble_eq_true rfl) dX8_owed_26 ⟨Nat.le_of_ble_eq_true rfl, Nat.le_of_ble_eq_true rfl⟩) hS (fun r26 n' G' H locs hw hP hS => ?_)
      obtain ⟨rfl, rfl, rfl⟩ := hw
      refine g_reti hx hb hr hlk hP hS dX8_owed_29 ?_
      exact ⟨by first | (simp [owdOf, b5, b13]; done) | (exfalso; simp_all; done), rfl, rfl⟩
    · refine lv_iconst (v := (-1)) hx hb dX8_owed_16 (by decide) ?_
      refine g_reti hx hb hr hlk hP hS dX8_owed_17 ?_
      exact ⟨by first | (simp [owdOf, b5, b13]; done) | (exfalso; simp_all; done), rfl, rfl⟩
set_option maxHeartbeats 1000000 in
set_option maxRecDepth 100000 in
theorem kX8_told (l : Launch) (E : gT) (A : Nat → Prop) (n : Nat) (G : gH) (x : Nat) (c : Nat → Int32) (S : Nat → Nat → Int32) (h y wq : Int32) (hA1 : sA G x c) (ha : Nat → Nat) (hH1 : sH E G x ha (tn (c 7))) (hB : sB G x (c 18)) (la : Nat → Nat) (hL : sL E G x S la (tn (c 18))) (lt : Nat → Option Nat) (hHo : sHo G S ha lt (tn (c 7)) (tn (c 12))) (hHa : sHa E G S ha (tn (c 7))) (hp : pI c S)  : gM l yX8_told wsX8_told ({ frames := 3, cells := 0, slots := 0, locals := 68 } : Room) E A n G [.ref x, .int h, .int y, .int wq] (gQi E A (fun r' n' G' => (tolOf c S h y wq) = r' ∧ n = n' ∧ G = G')) 0 0 := by
  refine g_entry (by decide) rfl (Nat.le_of_ble_eq_true rfl) ?_
  intro p e s m below meth c0 hx hb hr hlk hml hown hnm hts hK H locs ls hP hS hl
  have hin0 : ∀ wq ∈ u_ws RX0 TX0 8, wq ∈ wsX8_told := by decide +kernel
  have hin8 : ∀ wq ∈ u_ws RX8 TX8 14, wq ∈ wsX8_told := by decide +kernel
  have hf23 := hts (.fieldLink RX8 23 "DikeHands" "houses" "[LDikeHands$House;") (by decide +kernel)
  have hf152 := hts (.fieldLink RX8 152 "DikeHands$House" "byItself" "[I") (by decide +kernel)
  have hf159 := hts (.fieldLink RX8 159 "DikeHands$House" "substitute" "[I") (by decide +kernel)
  have hf162 := hts (.fieldLink RX8 162 "DikeHands$House" "bySubstitute" "[I") (by decide +kernel)
  have hf165 := hts (.fieldLink RX8 165 "DikeHands$House" "asSubstitute" "[I") (by decide +kernel)
  have hf179 := hts (.fieldLink RX8 179 "DikeHands$House" "bought" "[I") (by decide +kernel)
  have hl : lv_has ls 5 [(0, .ref x), (1, .int h), (2, .int y), (3, .int wq)] := hl
  obtain ⟨fH, hH2, hH3⟩ := id hH1
  have h40 := le40 hp
  refine lv_aload_n hx hb dX8_told_0 rfl (lv_at hl 0 rfl) ?_
  refine lv_iload_n hx hb dX8_told_1 rfl (lv_at hl 1 rfl) ?_
  refine g_ci (g_runV (As := [.int h]) (rest := []) ⟨hx, hb, hml, hown, hts⟩ hK hP (kX8_isHouse l E A n G x c h hA1) (cwV 1 hts gX8_told_X8_isHouse rfl rfl rfl (by decide +kernel) ⟨Nat.le_of_ble_eq_true rfl, Nat.le_of_ble_eq_true rfl⟩) hA1 rfl rfl hl.1 rfl (Nat.le_of_ble_eq_true rfl) dX8_told_2 ⟨Nat.le_of_ble_eq_true rfl, Nat.le_of_ble_eq_true rfl⟩) hS (fun r2 n' G' H locs hw hP hS => ?_)
  obtain ⟨rfl, rfl, rfl⟩ := hw
  refine g_ifeq (tgt := 16) hx hb dX8_told_5 (by decide) (fun b5 => ?_) (fun b5 => ?_)
  · refine lv_iconst (v := (-1)) hx hb dX8_told_16 (by decide) ?_
    refine g_reti hx hb hr hlk hP hS dX8_told_17 ?_
    exact ⟨by first | (simp [tolOf, b5]; done) | (exfalso; simp_all; done), rfl, rfl⟩
  · refine lv_aload_n hx hb dX8_told_8 rfl (lv_at hl 0 rfl) ?_
    refine lv_iload_n hx hb dX8_told_9 rfl (lv_at hl 2 rfl) ?_
    refine g_ci (g_runV (As := [.int y]) (rest := []) ⟨hx, hb, hml, hown, hts⟩ hK hP (kX8_isYearSoFar l E A n G x c y hA1) (cwV 1 hts gX8_told_X8_isYearSoFar rfl rfl rfl (by decide +kernel) ⟨Nat.le_of_ble_eq_true rfl, Nat.le_of_ble_eq_true rfl⟩) hA1 rfl rfl hl.1 rfl (Nat.le_of_ble_eq_true rfl) dX8_told_10 ⟨Nat.le_of_ble_eq_true rfl, Nat.le_of_ble_eq_true rfl⟩) hS (fun r10 n' G' H locs hw hP hS => ?_)
    obtain ⟨rfl, rfl, rfl⟩ := hw
    refine g_ifne (tgt := 18) hx hb dX8_told_13 (by decide) (fun b13 => ?_) (fun b13 => ?_)
    · obtain ⟨hi, hh, rfl⟩ := hs_ix hp.1 b5
      refine lv_aload_n hx hb dX8_told_18 rfl (lv_at hl 0 rfl) ?_
      refine g_get (ci := 8) hx hb hts hin8 hown hK hP hA1 rfl 2 (by decide) hf23 rfl rfl dX8_told_19 ?_
      refine lv_iload_n hx hb dX8_told_22 rfl (lv_at hl 1 rfl) ?_
      have fh23 := (hHo (hi) hh).1
      refine g_aald (t0 := 2) (v := .ref (ha hi)) hx hb hK hP hH2 rfl (vp_in_nI (by omega) (by decide)) (by rw [nI_clamp (by omega), hH3 (hi) hh]; rfl) dX8_told_23 ?_
      refine lv_astore (lv' := [(4, .ref (ha hi)), (0, .ref x), (1, .int (nI hi)), (2, .int y), (3, .int wq)]) hx hb dX8_told_24 hl (by decide) rfl (fun ls hl => ?_)
      have hy := yrB_vp hp.1 b13
      obtain ⟨f1, g1, u1⟩ := hHa hi hh 0 (by decide)
      have g1 : G (ha hi + 1) = some (.inl (E.2 0, 21, .inl f1)) := g1
      obtain ⟨f2, g2, u2⟩ := hHa hi hh 1 (by decide)
      have g2 : G (ha hi + 2) = some (.inl (E.2 0, 21, .inl f2)) := g2
      obtain ⟨f3, g3, u3⟩ := hHa hi hh 2 (by decide)
      have g3 : G (ha hi + 3) = some (.inl (E.2 0, 21, .inl f3)) := g3
      obtain ⟨f4, g4, u4⟩ := hHa hi hh 3 (by decide)
      have g4 : G (ha hi + 4) = some (.inl (E.2 0, 21, .inl f4)) := g4
      obtain ⟨f5, g5, u5⟩ := hHa hi hh 4 (by decide)
      have g5 : G (ha hi + 5) = some (.inl (E.2 0, 21, .inl f5)) := g5
      refine lv_iload_n hx hb dX8_told_26 rfl (lv_at hl 4 rfl) ?_
      by_cases s27_0 : wq = 0
      · refine lv_tableIn (tgt := 68) hx hb dX8_told_27 (by rw [s27_0]; decide) (by rw [s27_0]; decide) (by rw [s27_0]; rfl) (by decide) ?_
        refine lv_aload_n hx hb dX8_told_68 rfl (lv_at hl 1 rfl) ?_
        refine lv_aload hx hb dX8_told_69 (lv_at hl 0 rfl) ?_
        refine lv_iload_n hx hb dX8_told_71 rfl (lv_at hl 3 rfl) ?_
        refine g_ci (g_runV (As := [.ref (ha hi), .int y]) (rest := []) ⟨hx, hb, hml, hown, hts⟩ hK hP (kX8_daysOwed l E A n G x c S hi y ha hA1 hB la hL lt hHo hp hh) (cwV 2 hts gX8_told_X8_daysOwed rfl rfl rfl (by decide +kernel) ⟨Nat.le_of_ble_eq_true rfl, Nat.le_of_ble_eq_true rfl⟩) hA1 rfl rfl hl.1 rfl (Nat.le_of_ble_eq_true rfl) dX8_told_72 ⟨Nat.le_of_ble_eq_true rfl, Nat.le_of_ble_eq_true rfl⟩) hS (fun r72 n' G' H locs hw hP hS => ?_)
        obtain ⟨rfl, rfl, rfl⟩ := hw
        refine g_reti hx hb hr hlk hP hS dX8_told_75 ?_
        exact ⟨by first | (simp [tolOf, b5, b13, s27_0]; done) | (exfalso; simp_all; done), rfl, rfl⟩
      by_cases s27_1 : wq = 1
      · refine lv_tableIn (tgt := 76) hx hb dX8_told_27 (by rw [s27_1]; decide) (by rw [s27_1]; decide) (by rw [s27_1]; rfl) (by decide) ?_
        refine lv_aload hx hb dX8_told_76 (lv_at hl 0 rfl) ?_
        refine g_get (ci := 0) hx hb hts hin0 hown hK hP fh23 rfl 2 (by decide) hf152 rfl rfl dX8_told_78 ?_
        refine lv_iload_n hx hb dX8_told_81 rfl (lv_at hl 3 rfl) ?_
        refine g_iald hx hb hK hP g1 hy dX8_told_82 ?_
        refine g_reti hx hb hr hlk hP hS dX8_told_83 ?_
        refine ⟨?_, rfl, rfl⟩
        rw [u1 _ (tn_lt hy)]
        simp [tolOf, yk_tn (show hi < 40 by omega) hy, b5, b13, s27_0, s27_1]
      by_cases s27_2 : wq = 2
      · refine lv_tableIn (tgt := 84) hx hb dX8_told_27 (by rw [s27_2]; decide) (by rw [s27_2]; decide) (by rw [s27_2]; rfl) (by decide) ?_
        refine lv_aload hx hb dX8_told_84 (lv_at hl 0 rfl) ?_
        refine g_get (ci := 0) hx hb hts hin0 hown hK hP fh23 rfl 3 (by decide) hf162 rfl rfl dX8_told_86 ?_
        refine lv_iload_n hx hb dX8_told_89 rfl (lv_at hl 3 rfl) ?_
        refine g_iald hx hb hK hP g2 hy dX8_told_90 ?_
        refine g_reti hx hb hr hlk hP hS dX8_told_91 ?_
        refine ⟨?_, rfl, rfl⟩
        rw [u2 _ (tn_lt hy)]
        simp [tolOf, yk_tn (show hi < 40 by omega) hy, b5, b13, s27_0, s27_1, s27_2]
      by_cases s27_3 : wq = 3
      · refine lv_tableIn (tgt := 92) hx hb dX8_told_27 (by rw [s27_3]; decide) (by rw [s27_3]; decide) (by rw [s27_3]; rfl) (by decide) ?_
        refine lv_aload hx hb dX8_told_92 (lv_at hl 0 rfl) ?_
        refine g_get (ci := 0) hx hb hts hin0 hown hK hP fh23 rfl 4 (by decide) hf179 rfl rfl dX8_told_94 ?_
        refine lv_iload_n hx hb dX8_told_97 rfl (lv_at hl 3 rfl) ?_
        refine g_iald hx hb hK hP g3 hy dX8_told_98 ?_
        refine g_reti hx hb hr hlk hP hS dX8_told_99 ?_
        refine ⟨?_, rfl, rfl⟩
        rw [u3 _ (tn_lt hy)]
        simp [tolOf, yk_tn (show hi < 40 by omega) hy, b5, b13, s27_0, s27_1, s27_2, s27_3]
      by_cases s27_4 : wq = 4
      · refine lv_tableIn (tgt := 100) hx hb dX8_told_27 (by rw [s27_4]; decide) (by rw [s27_4]; decide) (by rw [s27_4]; rfl) (by decide) ?_
        refine lv_aload_n hx hb dX8_told_100 rfl (lv_at hl 1 rfl) ?_
        refine lv_aload hx hb dX8_told_101 (lv_at hl 0 rfl) ?_
        refine lv_iload_n hx hb dX8_told_103 rfl (lv_at hl 3 rfl) ?_
        refine g_ci (g_runV (As := [.ref (ha hi), .int y]) (rest := []) ⟨hx, hb, hml, hown, hts⟩ hK hP (kX8_daysOwedYet l E A n G x c S hi y ha hA1 hB la hL lt hHo hHa hp hh hy) (cwV 2 hts gX8_told_X8_daysOwedYet rfl rfl rfl (by decide +kernel) ⟨Nat.le_of_ble_eq_true rfl, Nat.le_of_ble_eq_true rfl⟩) hA1 rfl rfl hl.1 rfl (Nat.le_of_ble_eq_true rfl) dX8_told_104 ⟨Nat.le_of_ble_eq_true rfl, Nat.le_of_ble_eq_true rfl⟩) hS (fun r104 n' G' H locs hw hP hS => ?_)
        obtain ⟨rfl, rfl, rfl⟩ := hw
        refine g_reti hx hb hr hlk hP hS dX8_told_107 ?_
        exact ⟨by first | (simp [tolOf, b5, b13, s27_0, s27_1, s27_2, s27_3, s27_4]; done) | (exfalso; simp_all; done), rfl, rfl⟩
      by_cases s27_5 : wq = 5
      · refine lv_tableIn (tgt := 108) hx hb dX8_told_27 (by rw [s27_5]; decide) (by rw [s27_5]; decide) (by rw [s27_5]; rfl) (by decide) ?_
        refine lv_aload hx hb dX8_told_108 (lv_at hl 0 rfl) ?_
        refine g_get (ci := 0) hx hb hts hin0 hown hK hP fh23 rfl 6 (by decide) hf159 rfl rfl dX8_told_110 ?_
        refine lv_iload_n hx hb dX8_told_113 rfl (lv_at hl 3 rfl) ?_
        refine g_iald hx hb hK hP g5 hy dX8_told_114 ?_
        refine g_reti hx hb hr hlk hP hS dX8_told_115 ?_
        refine ⟨?_, rfl, rfl⟩
        rw [u5 _ (tn_lt hy)]
        simp [tolOf, yk_tn (show hi < 40 by omega) hy, b5, b13, s27_0, s27_1, s27_2, s27_3, s27_4, s27_5]
      by_cases s27_6 : wq = 6
      · refine lv_tableIn (tgt := 116) hx hb dX8_told_27 (by rw [s27_6]; decide) (by rw [s27_6]; decide) (by rw [s27_6]; rfl) (by decide) ?_
        refine lv_aload hx hb dX8_told_116 (lv_at hl 0 rfl) ?_
        refine g_get (ci := 0) hx hb hts hin0 hown hK hP fh23 rfl 5 (by decide) hf165 rfl rfl dX8_told_118 ?_
        refine lv_iload_n hx hb dX8_told_121 rfl (lv_at hl 3 rfl) ?_
        refine g_iald hx hb hK hP g4 hy dX8_told_122 ?_
        refine g_reti hx hb hr hlk hP hS dX8_told_123 ?_
        refine ⟨?_, rfl, rfl⟩
        rw [u4 _ (tn_lt hy)]
        simp [tolOf, yk_tn (show hi < 40 by omega) hy, b5, b13, s27_0, s27_1, s27_2, s27_3, s27_4, s27_5, s27_6]
      refine lv_tableOut (tgt := 124) hx hb dX8_told_27 (sw_out6 s27_0 s27_1 s27_2 s27_3 s27_4 s27_5 s27_6) (by decide) ?_
      refine lv_iconst (v := (-1)) hx hb dX8_told_124 (by decide) ?_
      refine g_reti hx hb hr hlk hP hS dX8_told_125 ?_
      exact ⟨by first | (simp [tolOf, b5, b13, s27_0, s27_1, s27_2, s27_3, s27_4, s27_5, s27_6]; done) | (exfalso; simp_all; done), rfl, rfl⟩
    · refine lv_iconst (v := (-1)) hx hb dX8_told_16 (by decide) ?_
      refine g_reti hx hb hr hlk hP hS dX8_told_17 ?_
      exact ⟨by first | (simp [tolOf, b5, b13]; done) | (exfalso; simp_all; done), rfl, rfl⟩
set_option maxHeartbeats 1000000 in
set_option maxRecDepth 100000 in
theorem kX8_bank (l : Launch) (E : gT) (A : Nat → Prop) (n : Nat) (G : gH) (x : Nat) (c : Nat → Int32) (S : Nat → Nat → Int32) (a wq b : Int32) (hA1 : sA G x c) (hR : sR E G x) (hRo : sRo G x S) (hp : pI c S)  : gM l yX8_bank wsX8_bank ({ frames := 2, cells := 0, slots := 0, locals := 42 } : Room) E A n G [.ref x, .int a, .int wq, .int b] (gQi E A (fun r' n' G' => (bnkOf S a wq b) = r' ∧ n = n' ∧ G = G')) 0 0 := by
  refine g_entry (by decide) rfl (Nat.le_of_ble_eq_true rfl) ?_
  intro p e s m below meth c0 hx hb hr hlk hml hown hnm hts hK H locs ls hP hS hl
  have hin4 : ∀ wq ∈ u_ws RX4 TX4 5, wq ∈ wsX8_bank := by decide +kernel
  have hin8 : ∀ wq ∈ u_ws RX8 TX8 14, wq ∈ wsX8_bank := by decide +kernel
  have hf17 := hts (.fieldLink RX8 17 "DikeHands" "rods" "[LDikeHands$Rod;") (by decide +kernel)
  have hf196 := hts (.fieldLink RX8 196 "DikeHands$Rod" "height" "I") (by decide +kernel)
  have hf199 := hts (.fieldLink RX8 199 "DikeHands$Rod" "breaks" "I") (by decide +kernel)
  have hf202 := hts (.fieldLink RX8 202 "DikeHands$Rod" "days" "I") (by decide +kernel)
  have hl : lv_has ls 4 [(0, .ref x), (1, .int a), (2, .int wq), (3, .int b)] := hl
  obtain ⟨fR, hR1, hR2⟩ := id hR
  refine lv_iload_n hx hb dX8_bank_0 rfl (lv_at hl 1 rfl) ?_
  refine g_ci (g_runS (As := [.int a]) (rest := []) ⟨hx, hb, hml, hown, hts⟩ hK hP (kX8_isRod l E A n G a) (va_cwS 1 hts gX8_bank_X8_isRod rfl rfl rfl (by decide +kernel) ⟨Nat.le_of_ble_eq_true rfl, Nat.le_of_ble_eq_true rfl⟩) rfl hl.1 rfl (Nat.le_of_ble_eq_true rfl) dX8_bank_1 ⟨Nat.le_of_ble_eq_true rfl, Nat.le_of_ble_eq_true rfl⟩) hS (fun r1 n' G' H locs hw hP hS => ?_)
  obtain ⟨rfl, rfl, rfl⟩ := hw
  refine g_ifne (tgt := 9) hx hb dX8_bank_4 (by decide) (fun b4 => ?_) (fun b4 => ?_)
  · refine lv_iload_n hx hb dX8_bank_9 rfl (lv_at hl 2 rfl) ?_
    by_cases s10_0 : wq = 0
    · refine lv_tableIn (tgt := 40) hx hb dX8_bank_10 (by rw [s10_0]; decide) (by rw [s10_0]; decide) (by rw [s10_0]; rfl) (by decide) ?_
      refine lv_aload_n hx hb dX8_bank_40 rfl (lv_at hl 0 rfl) ?_
      refine g_get (ci := 8) hx hb hts hin8 hown hK hP hA1 rfl 1 (by decide) hf17 rfl rfl dX8_bank_41 ?_
      refine lv_iload_n hx hb dX8_bank_44 rfl (lv_at hl 1 rfl) ?_
      have fr45 := hRo (tn a) (tn_lt (inB_vp (N := 30) b4 (by decide)))
      refine g_aald (t0 := 4) (v := .ref (x + 18 + tn a)) hx hb hK hP hR1 rfl (inB_vp b4 (by decide)) (by rw [hR2 (tn a) (tn_lt (inB_vp (N := 30) b4 (by decide)))]; rfl) dX8_bank_45 ?_
      refine g_get (ci := 4) hx hb hts hin4 hown hK hP fr45 rfl 0 (by decide) hf196 rfl rfl dX8_bank_46 ?_
      refine g_reti hx hb hr hlk hP hS dX8_bank_49 ?_
      exact ⟨by first | (simp [bnkOf, b4, s10_0]; done) | (exfalso; simp_all; done), rfl, rfl⟩
    by_cases s10_1 : wq = 1
    · refine lv_tableIn (tgt := 50) hx hb dX8_bank_10 (by rw [s10_1]; decide) (by rw [s10_1]; decide) (by rw [s10_1]; rfl) (by decide) ?_
      refine lv_aload_n hx hb dX8_bank_50 rfl (lv_at hl 0 rfl) ?_
      refine g_get (ci := 8) hx hb hts hin8 hown hK hP hA1 rfl 1 (by decide) hf17 rfl rfl dX8_bank_51 ?_
      refine lv_iload_n hx hb dX8_bank_54 rfl (lv_at hl 1 rfl) ?_
      have fr55 := hRo (tn a) (tn_lt (inB_vp (N := 30) b4 (by decide)))
      refine g_aald (t0 := 4) (v := .ref (x + 18 + tn a)) hx hb hK hP hR1 rfl (inB_vp b4 (by decide)) (by rw [hR2 (tn a) (tn_lt (inB_vp (N := 30) b4 (by decide)))]; rfl) dX8_bank_55 ?_
      refine g_get (ci := 4) hx hb hts hin4 hown hK hP fr55 rfl 3 (by decide) hf199 rfl rfl dX8_bank_56 ?_
      refine g_reti hx hb hr hlk hP hS dX8_bank_59 ?_
      exact ⟨by first | (simp [bnkOf, b4, s10_0, s10_1]; done) | (exfalso; simp_all; done), rfl, rfl⟩
    by_cases s10_2 : wq = 2
    · refine lv_tableIn (tgt := 60) hx hb dX8_bank_10 (by rw [s10_2]; decide) (by rw [s10_2]; decide) (by rw [s10_2]; rfl) (by decide) ?_
      refine lv_aload_n hx hb dX8_bank_60 rfl (lv_at hl 0 rfl) ?_
      refine g_get (ci := 8) hx hb hts hin8 hown hK hP hA1 rfl 1 (by decide) hf17 rfl rfl dX8_bank_61 ?_
      refine lv_iload_n hx hb dX8_bank_64 rfl (lv_at hl 1 rfl) ?_
      have fr65 := hRo (tn a) (tn_lt (inB_vp (N := 30) b4 (by decide)))
      refine g_aald (t0 := 4) (v := .ref (x + 18 + tn a)) hx hb hK hP hR1 rfl (inB_vp b4 (by decide)) (by rw [hR2 (tn a) (tn_lt (inB_vp (N := 30) b4 (by decide)))]; rfl) dX8_bank_65 ?_
      refine g_get (ci := 4) hx hb hts hin4 hown hK hP fr65 rfl 4 (by decide) hf202 rfl rfl dX8_bank_66 ?_
      refine g_reti hx hb hr hlk hP hS dX8_bank_69 ?_
      exact ⟨by first | (simp [bnkOf, b4, s10_0, s10_1, s10_2]; done) | (exfalso; simp_all; done), rfl, rfl⟩
    by_cases s10_3 : wq = 3
    · refine lv_tableIn (tgt := 70) hx hb dX8_bank_10 (by rw [s10_3]; decide) (by rw [s10_3]; decide) (by rw [s10_3]; rfl) (by decide) ?_
      refine lv_iload_n hx hb dX8_bank_70 rfl (lv_at hl 3 rfl) ?_
      refine lv_sipush (v := 3000) hx hb dX8_bank_71 (by decide) ?_
      refine g_ci (g_runS (As := [.int b, .int 3000]) (rest := []) ⟨hx, hb, hml, hown, hts⟩ hK hP (kX8_isWithin l E A n G b 3000) (va_cwS 2 hts gX8_bank_X8_isWithin rfl rfl rfl (by decide +kernel) ⟨Nat.le_of_ble_eq_true rfl, Nat.le_of_ble_eq_true rfl⟩) rfl hl.1 rfl (Nat.le_of_ble_eq_true rfl) dX8_bank_74 ⟨Nat.le_of_ble_eq_true rfl, Nat.le_of_ble_eq_true rfl⟩) hS (fun r74 n' G' H locs hw hP hS => ?_)
      obtain ⟨rfl, rfl, rfl⟩ := hw
      refine g_ifeq (tgt := 93) hx hb dX8_bank_77 (by decide) (fun b77 => ?_) (fun b77 => ?_)
      · refine lv_iconst (v := (-1)) hx hb dX8_bank_93 (by decide) ?_
        refine g_reti hx hb hr hlk hP hS dX8_bank_94 ?_
        exact ⟨by first | (simp [bnkOf, b4, s10_0, s10_1, s10_2, s10_3, b77]; done) | (exfalso; simp_all; done), rfl, rfl⟩
      · refine lv_aload_n hx hb dX8_bank_80 rfl (lv_at hl 0 rfl) ?_
        refine g_get (ci := 8) hx hb hts hin8 hown hK hP hA1 rfl 1 (by decide) hf17 rfl rfl dX8_bank_81 ?_
        refine lv_iload_n hx hb dX8_bank_84 rfl (lv_at hl 1 rfl) ?_
        have fr85 := hRo (tn a) (tn_lt (inB_vp (N := 30) b4 (by decide)))
        refine g_aald (t0 := 4) (v := .ref (x + 18 + tn a)) hx hb hK hP hR1 rfl (inB_vp b4 (by decide)) (by rw [hR2 (tn a) (tn_lt (inB_vp (N := 30) b4 (by decide)))]; rfl) dX8_bank_85 ?_
        refine lv_iload_n hx hb dX8_bank_86 rfl (lv_at hl 3 rfl) ?_
        refine g_ci (g_runV (As := [.int b]) (rest := []) ⟨hx, hb, hml, hown, hts⟩ hK hP (kX4_daysTo l E A n G (x + 18 + tn a) (S 1 (tn a)) (S 2 (tn a)) (S 3 (tn a)) (S 4 (tn a)) (S 5 (tn a)) b fr85) (cwV 1 hts gX8_bank_X4_daysTo rfl rfl rfl (by decide +kernel) ⟨Nat.le_of_ble_eq_true rfl, Nat.le_of_ble_eq_true rfl⟩) fr85 rfl rfl hl.1 rfl (Nat.le_of_ble_eq_true rfl) dX8_bank_87 ⟨Nat.le_of_ble_eq_true rfl, Nat.le_of_ble_eq_true rfl⟩) hS (fun r87 n' G' H locs hw hP hS => ?_)
        obtain ⟨rfl, rfl, rfl⟩ := hw
        rw [need_eq hp.2.1 b77 (tn_lt (inB_vp (N := 30) b4 (by decide))), nI_tn (vp_in_iff.mp (inB_vp (N := 30) b4 (by decide))).1]
        refine lv_goto (tgt := 94) hx hb dX8_bank_90 (by decide) ?_
        refine g_reti hx hb hr hlk hP hS dX8_bank_94 ?_
        exact ⟨by first | (simp [bnkOf, b4, s10_0, s10_1, s10_2, s10_3, b77]; done) | (exfalso; simp_all; done), rfl, rfl⟩
    refine lv_tableOut (tgt := 95) hx hb dX8_bank_10 (sw_out3 s10_0 s10_1 s10_2 s10_3) (by decide) ?_
    refine lv_iconst (v := (-1)) hx hb dX8_bank_95 (by decide) ?_
    refine g_reti hx hb hr hlk hP hS dX8_bank_96 ?_
    exact ⟨by first | (simp [bnkOf, b4, s10_0, s10_1, s10_2, s10_3]; done) | (exfalso; simp_all; done), rfl, rfl⟩
  · refine lv_iconst (v := (-1)) hx hb dX8_bank_7 (by decide) ?_
    refine g_reti hx hb hr hlk hP hS dX8_bank_8 ?_
    exact ⟨by first | (simp [bnkOf, b4]; done) | (exfalso; simp_all; done), rfl, rfl⟩
set_option maxHeartbeats 1000000 in
set_option maxRecDepth 100000 in
theorem kX8_firstPaperWeek (l : Launch) (E : gT) (A : Nat → Prop) (n : Nat) (G : gH) (x : Nat) (c : Nat → Int32) (S : Nat → Nat → Int32) (vq : Int32) (hA1 : sA G x c) (hV : sV E G x) (wa : Nat → Nat → Nat) (wn : Nat → Nat) (hVi : sVi G x S wa wn) (ww : Nat → Nat → Nat) (hWk : sWk G S wa ww wn) (hW : pWk S wa ww wn (tn (c 0))) (ha : Nat → Nat) (hH1 : sH E G x ha (tn (c 7))) (lt : Nat → Option Nat) (hHo : sHo G S ha lt (tn (c 7)) (tn (c 12))) (hp : pI c S)  : gM l yX8_firstPaperWeek wsX8_firstPaperWeek ({ frames := 2, cells := 0, slots := 0, locals := 48 } : Room) E A n G [.ref x, .int vq] (gQi E A (fun r' n' G' => (papOf c S vq) = r' ∧ n = n' ∧ G = G')) 0 0 := by
  refine g_entry (by decide) rfl (Nat.le_of_ble_eq_true rfl) ?_
  intro p e s m below meth c0 hx hb hr hlk hml hown hnm hts hK H locs ls hP hS hl
  have hin6 : ∀ wq ∈ u_ws RX6 TX6 3, wq ∈ wsX8_firstPaperWeek := by decide +kernel
  have hin7 : ∀ wq ∈ u_ws RX7 TX7 3, wq ∈ wsX8_firstPaperWeek := by decide +kernel
  have hin8 : ∀ wq ∈ u_ws RX8 TX8 14, wq ∈ wsX8_firstPaperWeek := by decide +kernel
  have hf11 := hts (.fieldLink RX8 11 "DikeHands" "villages" "[LDikeHands$Village;") (by decide +kernel)
  have hf248 := hts (.fieldLink RX8 248 "DikeHands$Village" "firstWork" "LDikeHands$WorkWeek;") (by decide +kernel)
  have hf252 := hts (.fieldLink RX8 252 "DikeHands$WorkWeek" "days" "I") (by decide +kernel)
  have hf255 := hts (.fieldLink RX8 255 "DikeHands$WorkWeek" "week" "I") (by decide +kernel)
  have hf258 := hts (.fieldLink RX8 258 "DikeHands$WorkWeek" "next" "LDikeHands$WorkWeek;") (by decide +kernel)
  have hl : lv_has ls 3 [(0, .ref x), (1, .int vq)] := hl
  obtain ⟨fV, hV1, hV2⟩ := id hV
  have h40 := le40 hp
  refine lv_iload_n hx hb dX8_firstPaperWeek_0 rfl (lv_at hl 1 rfl) ?_
  refine g_ci (g_runS (As := [.int vq]) (rest := []) ⟨hx, hb, hml, hown, hts⟩ hK hP (kX8_isVillage l E A n G vq) (va_cwS 1 hts gX8_firstPaperWeek_X8_isVillage rfl rfl rfl (by decide +kernel) ⟨Nat.le_of_ble_eq_true rfl, Nat.le_of_ble_eq_true rfl⟩) rfl hl.1 rfl (Nat.le_of_ble_eq_true rfl) dX8_firstPaperWeek_1 ⟨Nat.le_of_ble_eq_true rfl, Nat.le_of_ble_eq_true rfl⟩) hS (fun r1 n' G' H locs hw hP hS => ?_)
  obtain ⟨rfl, rfl, rfl⟩ := hw
  refine g_ifne (tgt := 9) hx hb dX8_firstPaperWeek_4 (by decide) (fun b4 => ?_) (fun b4 => ?_)
  · obtain ⟨vi, hvi, rfl⟩ := vp_in_of (inB_vp (N := 8) b4 (by decide)) (by decide)
    refine lv_aload_n hx hb dX8_firstPaperWeek_9 rfl (lv_at hl 0 rfl) ?_
    refine g_get (ci := 8) hx hb hts hin8 hown hK hP hA1 rfl 0 (by decide) hf11 rfl rfl dX8_firstPaperWeek_10 ?_
    refine lv_iload_n hx hb dX8_firstPaperWeek_13 rfl (lv_at hl 1 rfl) ?_
    have fv14 := hVi (vi) hvi
    refine g_aald (t0 := 5) (v := .ref (x + 10 + vi)) hx hb hK hP hV1 rfl (vp_in_nI (by omega) (by decide)) (by rw [nI_clamp (by omega), hV2 (vi) hvi]; rfl) dX8_firstPaperWeek_14 ?_
    refine g_get (ci := 6) hx hb hts hin6 hown hK hP fv14 rfl 1 (by decide) hf248 rfl rfl dX8_firstPaperWeek_15 ?_
    refine lv_astore_nQ (lv' := [(2, va_rf (wFs wa wn vi)), (0, .ref x), (1, .int (nI vi))]) hx hb dX8_firstPaperWeek_18 rfl hl (by decide) rfl (fun ls hl => ?_)
    refine g_loop (τ := Nat) (fun i => i ≤ wn vi ∧ papF c S (nI vi) (min 1040 (tn (c 0) + 1)) 0 = papF c S (nI vi) (min 1040 (tn (c 0) + 1) - (if i = 0 then 0 else ww vi (i - 1) + 1)) (if i = 0 then 0 else ww vi (i - 1) + 1)) (fun i => wn vi - i) (fun _ => n) (fun _ => G) (fun _ => 0) (fun _ => 0) (fun i => [(0, .ref x), (1, .int (nI vi)), (2, va_rf (if i < wn vi then some (wa vi i) else none))]) ?_ 0 ⟨Nat.zero_le _, rfl⟩ H locs ls hP hS (by rw [show wFs wa wn vi = (if 0 < wn vi then some (wa vi 0) else none) from by rw [wFs]; by_cases z : wn vi = 0 <;> simp [z, Nat.pos_iff_ne_zero]] at hl; exact lv_sub hl [1, 2, 0] rfl)
    intro iq hI19 ih H locs ls hP hS hl
    try dsimp only at hI19
    have hgap : ∀ z, z < 1040 → (∀ j, j < wn vi → ww vi j ≠ z) → S 23 (tn (1040 * nI vi + nI z)) ≤ 6 * vilOf c S (nI vi) (nI z) := fun z z1 z2 => by rw [did_tn hvi z1, hW.2.2.1 vi hvi z z1 z2]; exact zero_ok hp _ _
    by_cases hlt : iq < wn vi
    · rw [if_pos hlt] at hl
      have hl : lv_has ls 3 [(0, .ref x), (1, .int (nI vi)), (2, .ref (wa vi iq))] := hl
      have fw := hWk vi hvi iq hlt
      have hwk := hW.2.1 vi hvi iq hlt
      have htw : (if iq = 0 then 0 else ww vi (iq - 1) + 1) ≤ ww vi iq := by
        split
        · exact Nat.zero_le _
        · exact hW.1 vi hvi (iq - 1) iq (by omega) hlt
      have hsk : papF c S (nI vi) (min 1040 (tn (c 0) + 1)) 0 = papF c S (nI vi) (min 1040 (tn (c 0) + 1) - ww vi iq) (ww vi iq) := by
        rw [hI19.2]
        refine papF_skip c S (nI vi) (min 1040 (tn (c 0) + 1)) _ _ htw (by omega) (fun z z1 z2 => hgap z (by omega) (fun j hj he => ?_))
        rcases Nat.lt_trichotomy j iq with q | q | q
        · have h5 : ww vi j ≤ ww vi (iq - 1) := by
            rcases Nat.lt_or_ge j (iq - 1) with z5 | z5
            · exact Nat.le_of_lt (hW.1 vi hvi j (iq - 1) z5 (by omega))
            · rw [show j = iq - 1 by omega]; exact Nat.le_refl _
          rw [if_neg (by omega)] at z1
          omega
        · subst q; omega
        · have := hW.1 vi hvi iq j q hj; omega
      refine lv_aload_n hx hb dX8_firstPaperWeek_19 rfl (lv_at hl 2 rfl) ?_
      refine lv_ifnull hx hb dX8_firstPaperWeek_20 ?_
      refine lv_aload_n hx hb dX8_firstPaperWeek_23 rfl (lv_at hl 2 rfl) ?_
      refine g_get (ci := 7) hx hb hts hin7 hown hK hP fw rfl 1 (by decide) hf252 rfl rfl dX8_firstPaperWeek_24 ?_
      refine lv_bipush (v := 6) hx hb dX8_firstPaperWeek_27 (by decide) ?_
      refine lv_aload_n hx hb dX8_firstPaperWeek_29 rfl (lv_at hl 0 rfl) ?_
      refine lv_iload_n hx hb dX8_firstPaperWeek_30 rfl (lv_at hl 1 rfl) ?_
      refine lv_aload_n hx hb dX8_firstPaperWeek_31 rfl (lv_at hl 2 rfl) ?_
      refine g_get (ci := 7) hx hb hts hin7 hown hK hP fw rfl 0 (by decide) hf255 rfl rfl dX8_firstPaperWeek_32 ?_
      refine g_ci (g_runV (As := [.int (nI vi), .int (nI (ww vi iq))]) (rest := [.int 6, .int (S 23 (1040 * vi + ww vi iq))]) ⟨hx, hb, hml, hown, hts⟩ hK hP (kX8_trueHands l E A n G x c S (nI vi) (nI (ww vi iq)) hA1 ha hH1 lt hHo hp) (cwV 2 hts gX8_firstPaperWeek_X8_trueHands rfl rfl rfl (by decide +kernel) ⟨Nat.le_of_ble_eq_true rfl, Nat.le_of_ble_eq_true rfl⟩) hA1 rfl rfl hl.1 rfl (Nat.le_of_ble_eq_true rfl) dX8_firstPaperWeek_35 ⟨Nat.le_of_ble_eq_true rfl, Nat.le_of_ble_eq_true rfl⟩) hS (fun r35 n' G' H locs hw hP hS => ?_)
      obtain ⟨rfl, rfl, rfl⟩ := hw
      refine lv_imul hx hb dX8_firstPaperWeek_38 ?_
      refine lv_icmp_le (tgt := 47) hx hb dX8_firstPaperWeek_39 (by decide) (fun b39 => ?_) (fun b39 => ?_)
      · refine lv_aload_n hx hb dX8_firstPaperWeek_47 rfl (lv_at hl 2 rfl) ?_
        refine g_get (ci := 7) hx hb hts hin7 hown hK hP fw rfl 2 (by decide) hf258 rfl rfl dX8_firstPaperWeek_48 ?_
        refine lv_astore_nQ (lv' := [(2, va_rf (wNx wa wn vi iq)), (0, .ref x), (1, .int (nI vi))]) hx hb dX8_firstPaperWeek_51 rfl hl (by decide) rfl (fun ls hl => ?_)
        refine lv_goto (tgt := 19) hx hb dX8_firstPaperWeek_52 (by decide) ?_
        have hok : S 23 (1040 * vi + ww vi iq) ≤ 6 * vilOf c S (nI vi) (nI (ww vi iq)) := b39
        have hsk2 : papF c S (nI vi) (min 1040 (tn (c 0) + 1) - ww vi iq) (ww vi iq) = papF c S (nI vi) (min 1040 (tn (c 0) + 1) - (ww vi iq + 1)) (ww vi iq + 1) := papF_skip c S (nI vi) (min 1040 (tn (c 0) + 1)) (ww vi iq) _ (by omega) (by omega) (fun z z1 z2 => by rw [show z = ww vi iq by omega, did_tn hvi hwk.2]; exact hok)
        refine ih (iq + 1) ⟨by omega, by rw [if_neg (by omega), Nat.add_sub_cancel]; exact hsk.trans hsk2⟩ (by omega) H locs ls hP hS ?_
        exact lv_sub hl [1, 2, 0] rfl
      · refine lv_aload_n hx hb dX8_firstPaperWeek_42 rfl (lv_at hl 2 rfl) ?_
        refine g_get (ci := 7) hx hb hts hin7 hown hK hP fw rfl 0 (by decide) hf255 rfl rfl dX8_firstPaperWeek_43 ?_
        refine g_reti hx hb hr hlk hP hS dX8_firstPaperWeek_46 ?_
        refine ⟨?_, rfl, rfl⟩
        rw [papOf, if_pos b4, hsk, show min 1040 (tn (c 0) + 1) - ww vi iq = (min 1040 (tn (c 0) + 1) - (ww vi iq + 1)) + 1 by omega, papF, if_neg]
        rw [did_tn hvi hwk.2]; exact b39
    · rw [if_neg hlt] at hl
      have hl : lv_has ls 3 [(0, .ref x), (1, .int (nI vi)), (2, .null)] := hl
      refine lv_aload_nN hx hb dX8_firstPaperWeek_19 rfl (lv_at hl 2 rfl) ?_
      refine lv_ifnullN (tgt := 55) hx hb dX8_firstPaperWeek_20 (by decide) ?_
      refine lv_iconst (v := (-1)) hx hb dX8_firstPaperWeek_55 (by decide) ?_
      refine g_reti hx hb hr hlk hP hS dX8_firstPaperWeek_56 ?_
      refine ⟨?_, rfl, rfl⟩
      have hiq : iq = wn vi := by omega
      rw [papOf, if_pos b4, hI19.2]
      rw [papF_skip c S (nI vi) (min 1040 (tn (c 0) + 1)) _ (min 1040 (tn (c 0) + 1)) (by split <;> first | exact Nat.zero_le _ | (have := hW.2.1 vi hvi (iq - 1) (by omega); omega)) (Nat.le_refl _) (fun z z1 z2 => hgap z (by omega) (fun j hj he => by
        by_cases hz0 : iq = 0
        · omega
        · have h5 : ww vi j ≤ ww vi (iq - 1) := by
            rcases Nat.lt_or_ge j (iq - 1) with z5 | z5
            · exact Nat.le_of_lt (hW.1 vi hvi j (iq - 1) z5 (by omega))
            · rw [show j = iq - 1 by omega]; exact Nat.le_refl _
          rw [if_neg hz0] at z1
          omega)), Nat.sub_self, papF]
  · refine lv_iconst (v := (-1)) hx hb dX8_firstPaperWeek_7 (by decide) ?_
    refine g_reti hx hb hr hlk hP hS dX8_firstPaperWeek_8 ?_
    exact ⟨by rw [papOf, if_neg (by rw [b4]; decide)], rfl, rfl⟩
set_option maxHeartbeats 1000000 in
set_option maxRecDepth 100000 in
theorem kX8_paperWeek (l : Launch) (E : gT) (A : Nat → Prop) (n : Nat) (G : gH) (x : Nat) (c : Nat → Int32) (S : Nat → Nat → Int32) (vq : Int32) (hA1 : sA G x c) (hV : sV E G x) (wa : Nat → Nat → Nat) (wn : Nat → Nat) (hVi : sVi G x S wa wn) (ww : Nat → Nat → Nat) (hWk : sWk G S wa ww wn) (hW : pWk S wa ww wn (tn (c 0))) (ha : Nat → Nat) (hH1 : sH E G x ha (tn (c 7))) (lt : Nat → Option Nat) (hHo : sHo G S ha lt (tn (c 7)) (tn (c 12))) (hp : pI c S)  : gM l yX8_paperWeek wsX8_paperWeek ({ frames := 3, cells := 0, slots := 0, locals := 70 } : Room) E A n G [.ref x, .int vq] (gQi E A (fun r' n' G' => (papOf c S vq) = r' ∧ n = n' ∧ G = G')) 0 0 := by
  refine g_entry (by decide) rfl (Nat.le_of_ble_eq_true rfl) ?_
  intro p e s m below meth c0 hx hb hr hlk hml hown hnm hts hK H locs ls hP hS hl
  have hl : lv_has ls 2 [(0, .ref x), (1, .int vq)] := hl
  refine lv_aload_n hx hb dX8_paperWeek_0 rfl (lv_at hl 0 rfl) ?_
  refine lv_iload_n hx hb dX8_paperWeek_1 rfl (lv_at hl 1 rfl) ?_
  refine g_ci (g_runV (As := [.int vq]) (rest := []) ⟨hx, hb, hml, hown, hts⟩ hK hP (kX8_firstPaperWeek l E A n G x c S vq hA1 hV wa wn hVi ww hWk hW ha hH1 lt hHo hp) (cwV 1 hts gX8_paperWeek_X8_firstPaperWeek rfl rfl rfl (by decide +kernel) ⟨Nat.le_of_ble_eq_true rfl, Nat.le_of_ble_eq_true rfl⟩) hA1 rfl rfl hl.1 rfl (Nat.le_of_ble_eq_true rfl) dX8_paperWeek_2 ⟨Nat.le_of_ble_eq_true rfl, Nat.le_of_ble_eq_true rfl⟩) hS (fun r2 n' G' H locs hw hP hS => ?_)
  obtain ⟨rfl, rfl, rfl⟩ := hw
  refine g_reti hx hb hr hlk hP hS dX8_paperWeek_5 ?_
  exact ⟨rfl, rfl, rfl⟩
set_option maxHeartbeats 1000000 in
set_option maxRecDepth 100000 in
theorem kX8_paper (l : Launch) (E : gT) (A : Nat → Prop) (n : Nat) (G : gH) (x : Nat) (c : Nat → Int32) (S : Nat → Nat → Int32) (vq : Int32) (hA1 : sA G x c) (hV : sV E G x) (wa : Nat → Nat → Nat) (wn : Nat → Nat) (hVi : sVi G x S wa wn) (ww : Nat → Nat → Nat) (hWk : sWk G S wa ww wn) (hW : pWk S wa ww wn (tn (c 0))) (ha : Nat → Nat) (hH1 : sH E G x ha (tn (c 7))) (lt : Nat → Option Nat) (hHo : sHo G S ha lt (tn (c 7)) (tn (c 12))) (hp : pI c S)  : gM l yX8_paper wsX8_paper ({ frames := 3, cells := 0, slots := 0, locals := 70 } : Room) E A n G [.ref x, .int vq] (gQi E A (fun r' n' G' => (gb (!decide (papOf c S vq = -1))) = r' ∧ n = n' ∧ G = G')) 0 0 := by
  refine g_entry (by decide) rfl (Nat.le_of_ble_eq_true rfl) ?_
  intro p e s m below meth c0 hx hb hr hlk hml hown hnm hts hK H locs ls hP hS hl
  have hl : lv_has ls 2 [(0, .ref x), (1, .int vq)] := hl
  refine lv_aload_n hx hb dX8_paper_0 rfl (lv_at hl 0 rfl) ?_
  refine lv_iload_n hx hb dX8_paper_1 rfl (lv_at hl 1 rfl) ?_
  refine g_ci (g_runV (As := [.int vq]) (rest := []) ⟨hx, hb, hml, hown, hts⟩ hK hP (kX8_firstPaperWeek l E A n G x c S vq hA1 hV wa wn hVi ww hWk hW ha hH1 lt hHo hp) (cwV 1 hts gX8_paper_X8_firstPaperWeek rfl rfl rfl (by decide +kernel) ⟨Nat.le_of_ble_eq_true rfl, Nat.le_of_ble_eq_true rfl⟩) hA1 rfl rfl hl.1 rfl (Nat.le_of_ble_eq_true rfl) dX8_paper_2 ⟨Nat.le_of_ble_eq_true rfl, Nat.le_of_ble_eq_true rfl⟩) hS (fun r2 n' G' H locs hw hP hS => ?_)
  obtain ⟨rfl, rfl, rfl⟩ := hw
  refine lv_iconst (v := (-1)) hx hb dX8_paper_5 (by decide) ?_
  refine lv_icmp_eq (tgt := 13) hx hb dX8_paper_6 (by decide) (fun b6 => ?_) (fun b6 => ?_)
  · refine lv_iconst (v := 0) hx hb dX8_paper_13 (by decide) ?_
    refine g_retz hx hb hr hlk hP hS dX8_paper_14 rfl ?_
    exact ⟨by first | (simp [gb, b6]; done) | (exfalso; simp_all; done), rfl, rfl⟩
  · refine lv_iconst (v := 1) hx hb dX8_paper_9 (by decide) ?_
    refine lv_goto (tgt := 14) hx hb dX8_paper_10 (by decide) ?_
    refine g_retz hx hb hr hlk hP hS dX8_paper_14 rfl ?_
    exact ⟨by first | (simp [gb, b6]; done) | (exfalso; simp_all; done), rfl, rfl⟩
set_option maxHeartbeats 1000000 in
set_option maxRecDepth 100000 in
theorem kX8_arrived (l : Launch) (E : gT) (A : Nat → Prop) (n : Nat) (G : gH) (x : Nat) (c : Nat → Int32) (S : Nat → Nat → Int32) (a b dq : Int32) (hA1 : sA G x c) (hV : sV E G x) (wa : Nat → Nat → Nat) (wn : Nat → Nat) (hVi : sVi G x S wa wn) (ha : Nat → Nat) (hH1 : sH E G x ha (tn (c 7))) (lt : Nat → Option Nat) (hHo : sHo G S ha lt (tn (c 7)) (tn (c 12))) (hp : pI c S)  : gM l yX8_arrived wsX8_arrived ({ frames := 3, cells := 0, slots := 0, locals := 65 } : Room) E A n G [.ref x, .int a, .int b, .int dq] (gQi E A (fun r' n' G' => (arrOf c S a b dq) = r' ∧ n = n' ∧ G = G')) 0 0 := by
  refine g_entry (by decide) rfl (Nat.le_of_ble_eq_true rfl) ?_
  intro p e s m below meth c0 hx hb hr hlk hml hown hnm hts hK H locs ls hP hS hl
  have hin6 : ∀ wq ∈ u_ws RX6 TX6 3, wq ∈ wsX8_arrived := by decide +kernel
  have hin8 : ∀ wq ∈ u_ws RX8 TX8 14, wq ∈ wsX8_arrived := by decide +kernel
  have hf11 := hts (.fieldLink RX8 11 "DikeHands" "villages" "[LDikeHands$Village;") (by decide +kernel)
  have hf45 := hts (.fieldLink RX8 45 "DikeHands" "now" "I") (by decide +kernel)
  have hf80 := hts (.fieldLink RX8 80 "DikeHands$Village" "mile" "I") (by decide +kernel)
  have hl : lv_has ls 7 [(0, .ref x), (1, .int a), (2, .int b), (3, .int dq)] := hl
  obtain ⟨fV, hV1, hV2⟩ := id hV
  have h40 := le40 hp
  refine lv_iload_n hx hb dX8_arrived_0 rfl (lv_at hl 1 rfl) ?_
  refine g_ci (g_runS (As := [.int a]) (rest := []) ⟨hx, hb, hml, hown, hts⟩ hK hP (kX8_isVillage l E A n G a) (va_cwS 1 hts gX8_arrived_X8_isVillage rfl rfl rfl (by decide +kernel) ⟨Nat.le_of_ble_eq_true rfl, Nat.le_of_ble_eq_true rfl⟩) rfl hl.1 rfl (Nat.le_of_ble_eq_true rfl) dX8_arrived_1 ⟨Nat.le_of_ble_eq_true rfl, Nat.le_of_ble_eq_true rfl⟩) hS (fun r1 n' G' H locs hw hP hS => ?_)
  obtain ⟨rfl, rfl, rfl⟩ := hw
  refine g_ifeq (tgt := 23) hx hb dX8_arrived_4 (by decide) (fun b4 => ?_) (fun b4 => ?_)
  · refine lv_iconst (v := (-1)) hx hb dX8_arrived_23 (by decide) ?_
    refine g_reti hx hb hr hlk hP hS dX8_arrived_24 ?_
    exact ⟨by first | (simp [arrOf, b4]; done) | (exfalso; simp_all; done), rfl, rfl⟩
  · refine lv_iload_n hx hb dX8_arrived_7 rfl (lv_at hl 2 rfl) ?_
    refine g_ci (g_runS (As := [.int b]) (rest := []) ⟨hx, hb, hml, hown, hts⟩ hK hP (kX8_isRod l E A n G b) (va_cwS 1 hts gX8_arrived_X8_isRod rfl rfl rfl (by decide +kernel) ⟨Nat.le_of_ble_eq_true rfl, Nat.le_of_ble_eq_true rfl⟩) rfl hl.1 rfl (Nat.le_of_ble_eq_true rfl) dX8_arrived_8 ⟨Nat.le_of_ble_eq_true rfl, Nat.le_of_ble_eq_true rfl⟩) hS (fun r8 n' G' H locs hw hP hS => ?_)
    obtain ⟨rfl, rfl, rfl⟩ := hw
    refine g_ifeq (tgt := 23) hx hb dX8_arrived_11 (by decide) (fun b11 => ?_) (fun b11 => ?_)
    · refine lv_iconst (v := (-1)) hx hb dX8_arrived_23 (by decide) ?_
      refine g_reti hx hb hr hlk hP hS dX8_arrived_24 ?_
      exact ⟨by first | (simp [arrOf, b4, b11]; done) | (exfalso; simp_all; done), rfl, rfl⟩
    · refine lv_iload_n hx hb dX8_arrived_14 rfl (lv_at hl 3 rfl) ?_
      refine lv_bipush (v := 100) hx hb dX8_arrived_15 (by decide) ?_
      refine g_ci (g_runS (As := [.int dq, .int 100]) (rest := []) ⟨hx, hb, hml, hown, hts⟩ hK hP (kX8_isWithin l E A n G dq 100) (va_cwS 2 hts gX8_arrived_X8_isWithin rfl rfl rfl (by decide +kernel) ⟨Nat.le_of_ble_eq_true rfl, Nat.le_of_ble_eq_true rfl⟩) rfl hl.1 rfl (Nat.le_of_ble_eq_true rfl) dX8_arrived_17 ⟨Nat.le_of_ble_eq_true rfl, Nat.le_of_ble_eq_true rfl⟩) hS (fun r17 n' G' H locs hw hP hS => ?_)
      obtain ⟨rfl, rfl, rfl⟩ := hw
      refine g_ifne (tgt := 25) hx hb dX8_arrived_20 (by decide) (fun b20 => ?_) (fun b20 => ?_)
      · refine lv_iconst (v := 0) hx hb dX8_arrived_25 (by decide) ?_
        refine lv_istore (lv' := [(4, .int 0), (0, .ref x), (1, .int a), (2, .int b), (3, .int dq)]) hx hb dX8_arrived_26 hl (by decide) rfl (fun ls hl => ?_)
        refine lv_iconst (v := 0) hx hb dX8_arrived_28 (by decide) ?_
        refine lv_istore (lv' := [(5, .int 0), (4, .int 0), (0, .ref x), (1, .int a), (2, .int b), (3, .int dq)]) hx hb dX8_arrived_29 hl (by decide) rfl (fun ls hl => ?_)
        refine g_loop (τ := Nat) (fun kq => kq ≤ 8) (fun kq => 8 - kq) (fun kq => n) (fun kq => G) (fun kq => 0) (fun kq => 0) (fun kq => [(0, .ref x), (1, .int a), (2, .int b), (3, .int dq), (4, .int (arrN c S a b dq kq)), (5, .int (nI kq))]) ?_ 0 (Nat.zero_le _) H locs ls hP hS (lv_sub hl [2, 3, 4, 5, 1, 0] rfl)
        intro kq hI31 ih H locs ls hP hS hl
        try dsimp only at hI31
        have hl : lv_has ls 7 [(0, .ref x), (1, .int a), (2, .int b), (3, .int dq), (4, .int (arrN c S a b dq kq)), (5, .int (nI kq))] := hl
        have hP : gP E A n G H := hP
        refine lv_iload hx hb dX8_arrived_31 (lv_at hl 5 rfl) ?_
        refine lv_bipush (v := 8) hx hb dX8_arrived_33 (by decide) ?_
        refine lv_icmp_ge (tgt := 92) hx hb dX8_arrived_35 (by decide) (fun b35 => ?_) (fun b35 => ?_)
        · have hk3 := lp_ge (x := 8) (by decide) (by omega) b35
          have hk5 : tn 8 = 8 := by decide
          have hke : kq = 8 := by omega
          refine lv_iload hx hb dX8_arrived_92 (lv_at hl 4 rfl) ?_
          refine g_reti hx hb hr hlk hP hS dX8_arrived_94 ?_
          exact ⟨by rw [arrOf, b4, b11, b20, hke]; rfl, rfl, rfl⟩
        · have hk3 := lp_lt (x := 8) (by decide) (by omega) b35
          have hk5 : tn 8 = 8 := by decide
          have hik : inB (nI kq) 0 7 = true := inB_of (by rw [nI_toInt (by omega)]; exact Int.natCast_nonneg kq) (by rw [nI_toInt (by omega)]; show (kq : Int) ≤ 7; omega)
          refine lv_aload_n hx hb dX8_arrived_38 rfl (lv_at hl 0 rfl) ?_
          refine g_get (ci := 8) hx hb hts hin8 hown hK hP hA1 rfl 0 (by decide) hf11 rfl rfl dX8_arrived_39 ?_
          refine lv_iload hx hb dX8_arrived_42 (lv_at hl 5 rfl) ?_
          have fv44 := hVi (kq) hk3
          refine g_aald (t0 := 5) (v := .ref (x + 10 + kq)) hx hb hK hP hV1 rfl (vp_in_nI (by omega) (by decide)) (by rw [nI_clamp (by omega), hV2 (kq) hk3]; rfl) dX8_arrived_44 ?_
          refine g_get (ci := 6) hx hb hts hin6 hown hK hP fv44 rfl 0 (by decide) hf80 rfl rfl dX8_arrived_45 ?_
          refine lv_iload_n hx hb dX8_arrived_48 rfl (lv_at hl 2 rfl) ?_
          refine lv_iconst (v := 3) hx hb dX8_arrived_49 (by decide) ?_
          refine lv_imul hx hb dX8_arrived_50 ?_
          refine lv_iconst (v := 3) hx hb dX8_arrived_51 (by decide) ?_
          refine g_ci (g_runS (As := [.int (S 0 kq), .int (b * 3), .int 3]) (rest := []) ⟨hx, hb, hml, hown, hts⟩ hK hP (kX8_hoursFor l E A n G (S 0 kq) (b * 3) 3) (va_cwS 3 hts gX8_arrived_X8_hoursFor rfl rfl rfl (by decide +kernel) ⟨Nat.le_of_ble_eq_true rfl, Nat.le_of_ble_eq_true rfl⟩) rfl hl.1 rfl (Nat.le_of_ble_eq_true rfl) dX8_arrived_52 ⟨Nat.le_of_ble_eq_true rfl, Nat.le_of_ble_eq_true rfl⟩) hS (fun r52 n' G' H locs hw hP hS => ?_)
          obtain ⟨rfl, rfl, rfl⟩ := hw
          have hbr := inB_i b11
          have e0 : (0 : Int32).toInt = 0 := rfl
          have e29 : (29 : Int32).toInt = 29 := rfl
          have e3 : (3 : Int32).toInt = 3 := rfl
          have h3b : (3 * b).toInt = 3 * b.toInt := by rw [fb_mulI] <;> rw [e3] <;> omega
          rw [Int32.mul_comm b 3, hrs_eq (hp.2.2.1 kq hk3) (by omega) (by decide)]
          refine lv_istore (lv' := [(6, .int (hrsOf (S 0 kq) (3 * b) 3)), (0, .ref x), (1, .int a), (2, .int b), (3, .int dq), (4, .int (arrN c S a b dq kq)), (5, .int (nI kq))]) hx hb dX8_arrived_55 hl (by decide) rfl (fun ls hl => ?_)
          refine lv_aload_n hx hb dX8_arrived_57 rfl (lv_at hl 1 rfl) ?_
          refine lv_iload_n hx hb dX8_arrived_58 rfl (lv_at hl 2 rfl) ?_
          refine lv_iload hx hb dX8_arrived_59 (lv_at hl 6 rfl) ?_
          refine g_ci (g_runV (As := [.int a, .int (nI kq)]) (rest := []) ⟨hx, hb, hml, hown, hts⟩ hK hP (kX8_hourOfCall l E A n G x c S wa wn hVi a (nI kq) hA1 hV hp b4 hik) (cwV 2 hts gX8_arrived_X8_hourOfCall rfl rfl rfl (by decide +kernel) ⟨Nat.le_of_ble_eq_true rfl, Nat.le_of_ble_eq_true rfl⟩) hA1 rfl rfl hl.1 rfl (Nat.le_of_ble_eq_true rfl) dX8_arrived_61 ⟨Nat.le_of_ble_eq_true rfl, Nat.le_of_ble_eq_true rfl⟩) hS (fun r61 n' G' H locs hw hP hS => ?_)
          obtain ⟨rfl, rfl, rfl⟩ := hw
          rw [tn_nI (show kq < 2 ^ 31 by omega)]
          refine lv_iload hx hb dX8_arrived_64 (lv_at hl 0 rfl) ?_
          refine lv_iadd hx hb dX8_arrived_66 ?_
          refine lv_iload_n hx hb dX8_arrived_67 rfl (lv_at hl 4 rfl) ?_
          refine lv_icmp_gt (tgt := 86) hx hb dX8_arrived_68 (by decide) (fun b68 => ?_) (fun b68 => ?_)
          · refine lv_iinc (v := (nI kq) + 1) (lv' := [(5, .int ((nI kq) + 1)), (6, .int (hrsOf (S 0 kq) (3 * b) 3)), (0, .ref x), (1, .int a), (2, .int b), (3, .int dq), (4, .int (arrN c S a b dq kq))]) hx hb dX8_arrived_86 hl (k := 6) rfl rfl (by decide) rfl (fun ls hl => ?_)
            refine lv_goto (tgt := 31) hx hb dX8_arrived_89 (by decide) ?_
            have hcal : calOf S a (nI kq) = hrsOf (S 0 (tn a)) (S 0 kq) 6 := by rw [calOf, b4, hik, tn_nI (by omega)]; rfl
            refine ih (kq + 1) (by omega) (by omega) H locs ls hP hS ?_
            show lv_has ls 7 [(0, .ref x), (1, .int a), (2, .int b), (3, .int dq), (4, .int (arrN c S a b dq (kq + 1))), (5, .int (nI (kq + 1)))]
            rw [show arrN c S a b dq (kq + 1) = arrN c S a b dq kq from by rw [arrN, hcal]; first | (simp [b4, b11, b20, b35, Int32.not_le.mp b35, b68, Int32.not_le.mpr b68]; done) | (exfalso; simp_all; done), ← nI_1 kq]
            exact lv_sub hl [2, 3, 4, 5, 6, 0] rfl
          · refine lv_iload hx hb dX8_arrived_71 (lv_at hl 5 rfl) ?_
            refine lv_aload_n hx hb dX8_arrived_73 rfl (lv_at hl 1 rfl) ?_
            refine lv_iload hx hb dX8_arrived_74 (lv_at hl 6 rfl) ?_
            refine lv_aload_n hx hb dX8_arrived_76 rfl (lv_at hl 1 rfl) ?_
            refine g_get (ci := 8) hx hb hts hin8 hown hK hP hA1 rfl 6 (by decide) hf45 rfl rfl dX8_arrived_77 ?_
            refine g_ci (g_runV (As := [.int (nI kq), .int (c 0)]) (rest := [.int (arrN c S a b dq kq)]) ⟨hx, hb, hml, hown, hts⟩ hK hP (kX8_trueHands l E A n G x c S (nI kq) (c 0) hA1 ha hH1 lt hHo hp) (cwV 2 hts gX8_arrived_X8_trueHands rfl rfl rfl (by decide +kernel) ⟨Nat.le_of_ble_eq_true rfl, Nat.le_of_ble_eq_true rfl⟩) hA1 rfl rfl hl.1 rfl (Nat.le_of_ble_eq_true rfl) dX8_arrived_80 ⟨Nat.le_of_ble_eq_true rfl, Nat.le_of_ble_eq_true rfl⟩) hS (fun r80 n' G' H locs hw hP hS => ?_)
            obtain ⟨rfl, rfl, rfl⟩ := hw
            refine lv_iadd hx hb dX8_arrived_83 ?_
            refine lv_istore (lv' := [(4, .int ((arrN c S a b dq kq) + (vilOf c S (nI kq) (c 0)))), (6, .int (hrsOf (S 0 kq) (3 * b) 3)), (0, .ref x), (1, .int a), (2, .int b), (3, .int dq), (5, .int (nI kq))]) hx hb dX8_arrived_84 hl (by decide) rfl (fun ls hl => ?_)
            refine lv_iinc (v := (nI kq) + 1) (lv' := [(5, .int ((nI kq) + 1)), (4, .int ((arrN c S a b dq kq) + (vilOf c S (nI kq) (c 0)))), (6, .int (hrsOf (S 0 kq) (3 * b) 3)), (0, .ref x), (1, .int a), (2, .int b), (3, .int dq)]) hx hb dX8_arrived_86 hl (k := 6) rfl rfl (by decide) rfl (fun ls hl => ?_)
            refine lv_goto (tgt := 31) hx hb dX8_arrived_89 (by decide) ?_
            have hcal : calOf S a (nI kq) = hrsOf (S 0 (tn a)) (S 0 kq) 6 := by rw [calOf, b4, hik, tn_nI (by omega)]; rfl
            refine ih (kq + 1) (by omega) (by omega) H locs ls hP hS ?_
            show lv_has ls 7 [(0, .ref x), (1, .int a), (2, .int b), (3, .int dq), (4, .int (arrN c S a b dq (kq + 1))), (5, .int (nI (kq + 1)))]
            rw [show arrN c S a b dq (kq + 1) = (arrN c S a b dq kq) + (vilOf c S (nI kq) (c 0)) from by rw [arrN, hcal]; first | (simp [b4, b11, b20, b35, Int32.not_le.mp b35, b68, Int32.not_lt.mp b68]; done) | (exfalso; simp_all; done), ← nI_1 kq]
            exact lv_sub hl [3, 4, 5, 6, 1, 0] rfl
      · refine lv_iconst (v := (-1)) hx hb dX8_arrived_23 (by decide) ?_
        refine g_reti hx hb hr hlk hP hS dX8_arrived_24 ?_
        exact ⟨by first | (simp [arrOf, b4, b11, b20]; done) | (exfalso; simp_all; done), rfl, rfl⟩
