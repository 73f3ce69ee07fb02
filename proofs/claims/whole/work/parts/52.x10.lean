theorem kp_2 {ks ls : List Nat} {G G' : gH} (h : Kp ks G G') (hk : ∀ k, k ∉ ls → k ∉ ks) : Kp ls G G' := fun b e h1 h2 => h b e (hk _ h1) h2
theorem kp_48 {G G1 G2 : gH} (h : Kp [4, 8] G G1) {a : Nat} {e0 e1 : va_E} (h0 : G1 a = some e0) (hk : kd e0 = 4 ∨ kd e0 = 8) (h2 : gup G1 a e1 = G2) : Kp [4, 8] G G2 := fun b e q1 q2 => by
  have h3 := h b e q1 q2
  have hne : b ≠ a := fun z => by
    subst z; rw [h0] at h3; cases h3
    rcases hk with z | z <;> rw [z] at q1 <;> simp at q1
  rw [← h2, gup_n hne]; exact h3
theorem wk_S (u : gCS) (j : Nat) (h1 : j ≠ 1) (h4 : j ≠ 4) : ∀ k, (wkN u k).2 j = u.2 j
  | 0 => rfl
  | k + 1 => by rw [wkN_s2, endN_S _ j h1 h4]; exact wk_S u j h1 h4 k
theorem Sim_wk {E : gT} {G G2 : gH} {x : Nat} {c c' : Nat → Int32} {S S' : Nat → Nat → Int32} {Y : gL} (hs : Sim E G x c S Y) (hA : sA G2 x c') (hRo : sRo G2 x S') (hK : Kp [4, 8] G G2) (hc : ∀ j, j = 7 ∨ j = 12 ∨ j = 18 → c' j = c j) (hS : ∀ j, j ≠ 1 → j ≠ 4 → S' j = S j) (ht : tn (c 0) ≤ tn (c' 0)) : Sim E G2 x c' S' Y := by
  obtain ⟨-, hV, hR, hH1, hB, hL, hPl, hEv, -, hVi, hWk, hW, hHo, hHa, hHp⟩ := hs
  have e7 := hc 7 (by omega); have e12 := hc 12 (by omega); have e18 := hc 18 (by omega)
  refine ⟨hA, hV.kp hK (by decide), hR.kp hK (by decide), ?_, ?_, ?_, hPl.kp hK (by decide) (by decide), ?_, hRo, ?_, ?_, ?_, ?_, ?_, ?_⟩
  · rw [e7]; exact hH1.kp hK (by decide)
  · rw [e18]; exact hB.kp hK (by decide) (by decide)
  · rw [e18]
    obtain ⟨f, h1, h2⟩ := hL.kp hK (by decide) (by decide)
    exact ⟨f, h1, fun i hi => ⟨(h2 i hi).1, by rw [lawE, hS 15 (by decide) (by decide), hS 16 (by decide) (by decide), hS 17 (by decide) (by decide)]; exact (h2 i hi).2⟩⟩
  · rw [hS 24 (by decide) (by decide)]; exact hEv.kp hK (by decide)
  · intro v hv; rw [hS 0 (by decide) (by decide)]; exact hVi.kp hK (by decide) v hv
  · intro v hv i hi; rw [hS 23 (by decide) (by decide)]; exact hWk.kp hK (by decide) v hv i hi
  · refine ⟨hW.1, fun v hv i hi => ?_, fun v hv w hw h1 => ?_, hW.2.2.2⟩
    · have := hW.2.1 v hv i hi; omega
    · rw [hS 23 (by decide) (by decide)]; exact hW.2.2.1 v hv w hw h1
  · rw [e7, e12]; exact (hHo.kp hK (by decide) (by decide)).cg (fun j h1 h2 => hS j (by omega) (by omega))
  · rw [e7]; exact (hHa.kp hK (by decide)).cg (fun j h1 h2 => hS j (by omega) (by omega))
  · rw [e7]; exact hHp
theorem sA_va {G : gH} {x : Nat} {c : Nat → Int32} (h : sA G x c) : G x = some (.inr (8, objX x c)) := h

set_option maxHeartbeats 2000000 in
set_option maxRecDepth 100000 in
theorem kX8_saved (l : Launch) (E : gT) (A : Nat → Prop) (n : Nat) (G : gH) (x : Nat) (c : Nat → Int32) (S : Nat → Nat → Int32) (Y : gL) (a b : Int32) (hs : Sim E G x c S Y) (hp : pI c S)  : gM l yX8_saved wsX8_saved ({ frames := 3, cells := 0, slots := 0, locals := 74 } : Room) E A n G [.ref x, .int a, .int b] (gQi E A (fun r' n' G' => (savR S a b) = r' ∧ n ≤ n' ∧ ∃ Y', Sim E G' x c (savS S a b) Y')) 0 0 := by
  refine g_entry (by decide) rfl (Nat.le_of_ble_eq_true rfl) ?_
  intro p e s m below meth c0 hx hb hr hlk hml hown hnm hts hK H locs ls hP hS hl
  have hin8 : ∀ wq ∈ u_ws RX8 TX8 14, wq ∈ wsX8_saved := by decide +kernel
  have hf17 := hts (.fieldLink RX8 17 "DikeHands" "rods" "[LDikeHands$Rod;") (by decide +kernel)
  have hf37 := hts (.fieldLink RX8 37 "DikeHands" "plan" "LDikeHands$Plan;") (by decide +kernel)
  have hl : lv_has ls 3 [(0, .ref x), (1, .int a), (2, .int b)] := hl
  have h40 := le40 hp
  obtain ⟨ha, la, lt, wa, ww, wn⟩ := Y
  obtain ⟨hA1, hV, hR, hH1, hB, hL, hPl, hEv, hRo, hVi, hWk, hW, hHo, hHa, hHp⟩ := id hs
  try dsimp only at hH1 hL hVi hWk hW hHo hHa hHp
  obtain ⟨fR, hR1, hR2⟩ := id hR
  refine lv_iload_n hx hb dX8_saved_0 rfl (lv_at hl 1 rfl) ?_
  refine lv_sipush (v := 300) hx hb dX8_saved_1 (by decide) ?_
  refine g_ci (g_runS (As := [.int a, .int 300]) (rest := []) ⟨hx, hb, hml, hown, hts⟩ hK hP (kX8_isWithin l E A n G a 300) (va_cwS 2 hts gX8_saved_X8_isWithin rfl rfl rfl (by decide +kernel) ⟨Nat.le_of_ble_eq_true rfl, Nat.le_of_ble_eq_true rfl⟩) rfl hl.1 rfl (Nat.le_of_ble_eq_true rfl) dX8_saved_4 ⟨Nat.le_of_ble_eq_true rfl, Nat.le_of_ble_eq_true rfl⟩) hS (fun r4 n' G' H locs hw hP hS => ?_)
  obtain ⟨rfl, rfl, rfl⟩ := hw
  refine g_ifeq (tgt := 20) hx hb dX8_saved_7 (by decide) (fun b7 => ?_) (fun b7 => ?_)
  · refine lv_iconst (v := (-1)) hx hb dX8_saved_20 (by decide) ?_
    refine g_reti hx hb hr hlk hP hS dX8_saved_21 ?_
    have hB0 : savB a b = false := by first | (simp [savB, b7]; done) | (exfalso; simp_all; done)
    exact ⟨by rw [savR, if_neg (by rw [hB0]; decide)], Nat.le_refl _, _, by rw [savS, if_neg (by rw [hB0]; decide)]; exact hs⟩
  · refine lv_iload_n hx hb dX8_saved_10 rfl (lv_at hl 2 rfl) ?_
    refine lv_sipush (v := 3000) hx hb dX8_saved_11 (by decide) ?_
    refine g_ci (g_runS (As := [.int b, .int 3000]) (rest := []) ⟨hx, hb, hml, hown, hts⟩ hK hP (kX8_isWithin l E A n G b 3000) (va_cwS 2 hts gX8_saved_X8_isWithin rfl rfl rfl (by decide +kernel) ⟨Nat.le_of_ble_eq_true rfl, Nat.le_of_ble_eq_true rfl⟩) rfl hl.1 rfl (Nat.le_of_ble_eq_true rfl) dX8_saved_14 ⟨Nat.le_of_ble_eq_true rfl, Nat.le_of_ble_eq_true rfl⟩) hS (fun r14 n' G' H locs hw hP hS => ?_)
    obtain ⟨rfl, rfl, rfl⟩ := hw
    refine g_ifne (tgt := 22) hx hb dX8_saved_17 (by decide) (fun b17 => ?_) (fun b17 => ?_)
    · obtain ⟨ai, hai, rfl⟩ := vp_in_of (inB_vp (N := 301) b7 (by decide)) (by decide)
      obtain ⟨hPl1, fw, hPl2⟩ := id hPl
      refine lv_aload_n hx hb dX8_saved_22 rfl (lv_at hl 0 rfl) ?_
      refine g_get (ci := 8) hx hb hts hin8 hown hK hP hA1 rfl 4 (by decide) hf37 rfl rfl dX8_saved_23 ?_
      refine lv_aload_n hx hb dX8_saved_26 rfl (lv_at hl 0 rfl) ?_
      refine g_get (ci := 8) hx hb hts hin8 hown hK hP hA1 rfl 1 (by decide) hf17 rfl rfl dX8_saved_27 ?_
      refine lv_iload_n hx hb dX8_saved_30 rfl (lv_at hl 1 rfl) ?_
      refine lv_iload_n hx hb dX8_saved_31 rfl (lv_at hl 2 rfl) ?_
      refine g_cl (g_runV (As := [.ref (x + 2), .int (nI ai), .int b]) (rest := []) ⟨hx, hb, hml, hown, hts⟩ hK hP (kX3_bestWorth l E A n G (x + 7) (x + 8) (x + 2) ai b fw fR (fun i => x + 18 + i) S hp.2.1 b17 (by omega) hPl1 hPl2 hR1 (fun i hi => ⟨hR2 i hi, hRo i hi⟩)) (cwV 3 hts gX8_saved_X3_bestWorth rfl rfl rfl (by decide +kernel) ⟨Nat.le_of_ble_eq_true rfl, Nat.le_of_ble_eq_true rfl⟩) hPl1 rfl rfl hl.1 rfl (Nat.le_of_ble_eq_true rfl) dX8_saved_32 ⟨Nat.le_of_ble_eq_true rfl, Nat.le_of_ble_eq_true rfl⟩) hS (fun r32 n' G' H locs hw hP hS => ?_)
      obtain ⟨rfl, rfl, rfl⟩ := hw
      have q142_0 : (gup G (x + 8) (.inl (E.2 1, 301, .inr (.inl (bwN S b fw ai 30))))) x = some (.inr (8, [.ref (x + 1), .ref (x + 2), .ref (x + 3), .ref (x + 4), .ref (x + 7), .ref (x + 9), .int (c 0), .int (c 7), .int (c 12), .int (c 29), .int (c 30), .int (c 31), .int (c 32), .int (c 33)])) := (gup_n (ne_oa hA1 hPl2)).trans hA1
      have q142_1 : (gup G (x + 8) (.inl (E.2 1, 301, .inr (.inl (bwN S b fw ai 30))))) (x + 2) = some (.inl (E.2 4, 30, .inr (.inr (.inr (.inr fR))))) := (gup_n (by omega)).trans hR1
      have q142_2 : (gup G (x + 8) (.inl (E.2 1, 301, .inr (.inl (bwN S b fw ai 30))))) (x + 7) = some (.inr (3, [.ref (x + 8)])) := (gup_n (ne_oa hPl1 hPl2)).trans hPl1
      have q142_a : (gup G (x + 8) (.inl (E.2 1, 301, .inr (.inl (bwN S b fw ai 30))))) (x + 8) = some (.inl (E.2 1, 301, .inr (.inl (bwN S b fw ai 30)))) := gup_s
      have hP : gP E A n (gup G (x + 8) (.inl (E.2 1, 301, .inr (.inl (bwN S b fw ai 30))))) H := hP
      have hA1_143 := sA.kp (kp_up (e1 := .inl (E.2 1, 301, .inr (.inl (bwN S b fw ai 30)))) hPl2) (kpn (by decide : (8 : Nat) ≠ 21)) hA1
      have hV_143 := sV.kp (kp_up (e1 := .inl (E.2 1, 301, .inr (.inl (bwN S b fw ai 30)))) hPl2) (kpn (by decide : (22 : Nat) ≠ 21)) hV
      have hR_143 := sR.kp (kp_up (e1 := .inl (E.2 1, 301, .inr (.inl (bwN S b fw ai 30)))) hPl2) (kpn (by decide : (22 : Nat) ≠ 21)) hR
      have hH1_143 := sH.kp (kp_up (e1 := .inl (E.2 1, 301, .inr (.inl (bwN S b fw ai 30)))) hPl2) (kpn (by decide : (22 : Nat) ≠ 21)) hH1
      have hB_143 := sB.kp (kp_up (e1 := .inl (E.2 1, 301, .inr (.inl (bwN S b fw ai 30)))) hPl2) (kpn (by decide : (2 : Nat) ≠ 21)) (kpn (by decide : (1 : Nat) ≠ 21)) hB
      have hL_143 := sL.kp (kp_up (e1 := .inl (E.2 1, 301, .inr (.inl (bwN S b fw ai 30)))) hPl2) (kpn (by decide : (22 : Nat) ≠ 21)) (kpn (by decide : (1 : Nat) ≠ 21)) hL
      have hEv_143 := sE.kp (kp_up (e1 := .inl (E.2 1, 301, .inr (.inl (bwN S b fw ai 30)))) hPl2) (kpn (by decide : (20 : Nat) ≠ 21)) hEv
      have hRo_143 := sRo.kp (kp_up (e1 := .inl (E.2 1, 301, .inr (.inl (bwN S b fw ai 30)))) hPl2) (kpn (by decide : (4 : Nat) ≠ 21)) hRo
      have hVi_143 := sVi.kp (kp_up (e1 := .inl (E.2 1, 301, .inr (.inl (bwN S b fw ai 30)))) hPl2) (kpn (by decide : (6 : Nat) ≠ 21)) hVi
      have hWk_143 := sWk.kp (kp_up (e1 := .inl (E.2 1, 301, .inr (.inl (bwN S b fw ai 30)))) hPl2) (kpn (by decide : (7 : Nat) ≠ 21)) hWk
      have hHo_143 := sHo.kp (kp_up (e1 := .inl (E.2 1, 301, .inr (.inl (bwN S b fw ai 30)))) hPl2) (kpn (by decide : (0 : Nat) ≠ 21)) (kpn (by decide : (5 : Nat) ≠ 21)) hHo
      have hHa_143 := sHa.kp (kp_up (e1 := .inl (E.2 1, 301, .inr (.inl (bwN S b fw ai 30)))) hPl2) (kpn (by decide : (20 : Nat) ≠ 21)) hHa
      refine g_ci (g_runS (As := [.long (bwN S b fw ai 30 ai)]) (rest := []) ⟨hx, hb, hml, hown, hts⟩ hK hP (kX3_lossOf l E A n (gup G (x + 8) (.inl (E.2 1, 301, .inr (.inl (bwN S b fw ai 30))))) (bwN S b fw ai 30 ai)) (va_cwS 1 hts gX8_saved_X3_lossOf rfl rfl rfl (by decide +kernel) ⟨Nat.le_of_ble_eq_true rfl, Nat.le_of_ble_eq_true rfl⟩) rfl hl.1 rfl (Nat.le_of_ble_eq_true rfl) dX8_saved_35 ⟨Nat.le_of_ble_eq_true rfl, Nat.le_of_ble_eq_true rfl⟩) hS (fun r35 n' G' H locs hw hP hS => ?_)
      obtain ⟨rfl, rfl, rfl⟩ := hw
      refine g_reti hx hb hr hlk hP hS dX8_saved_38 ?_
      have hB0 : savB (nI ai) b = true := by simp [savB, b7, b17]
      refine ⟨by rw [savR, if_pos hB0, tn_nI (by omega)]; exact (sav_eq hp b17 fw (by omega)).1.symm, Nat.le_refl _, ⟨ha, la, lt, wa, ww, wn⟩, ?_⟩
      rw [savS, if_pos hB0]
      exact ⟨hA1_143, hV_143, hR_143, hH1_143, hB_143, hL_143, ⟨q142_2, _, q142_a⟩, hEv_143, hRo_143, hVi_143, hWk_143, hW, (sHo.cg (fun j h1 h2 => by simp only [va_up]; repeat (first | rfl | (rw [if_neg (by omega)]))) hHo_143), (sHa.cg (fun j h1 h2 => by simp only [va_up]; repeat (first | rfl | (rw [if_neg (by omega)]))) hHa_143), hHp⟩
    · refine lv_iconst (v := (-1)) hx hb dX8_saved_20 (by decide) ?_
      refine g_reti hx hb hr hlk hP hS dX8_saved_21 ?_
      have hB0 : savB a b = false := by first | (simp [savB, b7, b17]; done) | (exfalso; simp_all; done)
      exact ⟨by rw [savR, if_neg (by rw [hB0]; decide)], Nat.le_refl _, _, by rw [savS, if_neg (by rw [hB0]; decide)]; exact hs⟩
set_option maxHeartbeats 2000000 in
set_option maxRecDepth 100000 in
theorem kX8_chosen (l : Launch) (E : gT) (A : Nat → Prop) (n : Nat) (G : gH) (x : Nat) (c : Nat → Int32) (S : Nat → Nat → Int32) (Y : gL) (a b : Int32) (hs : Sim E G x c S Y) (hp : pI c S)  : gM l yX8_chosen wsX8_chosen ({ frames := 3, cells := 0, slots := 0, locals := 74 } : Room) E A n G [.ref x, .int a, .int b] (gQi E A (fun r' n' G' => (choR S a b) = r' ∧ n ≤ n' ∧ ∃ Y', Sim E G' x c (savS S a b) Y')) 0 0 := by
  refine g_entry (by decide) rfl (Nat.le_of_ble_eq_true rfl) ?_
  intro p e s m below meth c0 hx hb hr hlk hml hown hnm hts hK H locs ls hP hS hl
  have hin8 : ∀ wq ∈ u_ws RX8 TX8 14, wq ∈ wsX8_chosen := by decide +kernel
  have hf17 := hts (.fieldLink RX8 17 "DikeHands" "rods" "[LDikeHands$Rod;") (by decide +kernel)
  have hf37 := hts (.fieldLink RX8 37 "DikeHands" "plan" "LDikeHands$Plan;") (by decide +kernel)
  have hl : lv_has ls 3 [(0, .ref x), (1, .int a), (2, .int b)] := hl
  have h40 := le40 hp
  obtain ⟨ha, la, lt, wa, ww, wn⟩ := Y
  obtain ⟨hA1, hV, hR, hH1, hB, hL, hPl, hEv, hRo, hVi, hWk, hW, hHo, hHa, hHp⟩ := id hs
  try dsimp only at hH1 hL hVi hWk hW hHo hHa hHp
  obtain ⟨fR, hR1, hR2⟩ := id hR
  refine lv_iload_n hx hb dX8_chosen_0 rfl (lv_at hl 1 rfl) ?_
  refine lv_sipush (v := 300) hx hb dX8_chosen_1 (by decide) ?_
  refine g_ci (g_runS (As := [.int a, .int 300]) (rest := []) ⟨hx, hb, hml, hown, hts⟩ hK hP (kX8_isWithin l E A n G a 300) (va_cwS 2 hts gX8_chosen_X8_isWithin rfl rfl rfl (by decide +kernel) ⟨Nat.le_of_ble_eq_true rfl, Nat.le_of_ble_eq_true rfl⟩) rfl hl.1 rfl (Nat.le_of_ble_eq_true rfl) dX8_chosen_4 ⟨Nat.le_of_ble_eq_true rfl, Nat.le_of_ble_eq_true rfl⟩) hS (fun r4 n' G' H locs hw hP hS => ?_)
  obtain ⟨rfl, rfl, rfl⟩ := hw
  refine g_ifeq (tgt := 20) hx hb dX8_chosen_7 (by decide) (fun b7 => ?_) (fun b7 => ?_)
  · refine lv_iconst (v := (-1)) hx hb dX8_chosen_20 (by decide) ?_
    refine g_reti hx hb hr hlk hP hS dX8_chosen_21 ?_
    have hB0 : savB a b = false := by first | (simp [savB, b7]; done) | (exfalso; simp_all; done)
    exact ⟨by rw [choR, if_neg (by rw [hB0]; decide)], Nat.le_refl _, _, by rw [savS, if_neg (by rw [hB0]; decide)]; exact hs⟩
  · refine lv_iload_n hx hb dX8_chosen_10 rfl (lv_at hl 2 rfl) ?_
    refine lv_sipush (v := 3000) hx hb dX8_chosen_11 (by decide) ?_
    refine g_ci (g_runS (As := [.int b, .int 3000]) (rest := []) ⟨hx, hb, hml, hown, hts⟩ hK hP (kX8_isWithin l E A n G b 3000) (va_cwS 2 hts gX8_chosen_X8_isWithin rfl rfl rfl (by decide +kernel) ⟨Nat.le_of_ble_eq_true rfl, Nat.le_of_ble_eq_true rfl⟩) rfl hl.1 rfl (Nat.le_of_ble_eq_true rfl) dX8_chosen_14 ⟨Nat.le_of_ble_eq_true rfl, Nat.le_of_ble_eq_true rfl⟩) hS (fun r14 n' G' H locs hw hP hS => ?_)
    obtain ⟨rfl, rfl, rfl⟩ := hw
    refine g_ifne (tgt := 22) hx hb dX8_chosen_17 (by decide) (fun b17 => ?_) (fun b17 => ?_)
    · obtain ⟨ai, hai, rfl⟩ := vp_in_of (inB_vp (N := 301) b7 (by decide)) (by decide)
      obtain ⟨hPl1, fw, hPl2⟩ := id hPl
      refine lv_aload_n hx hb dX8_chosen_22 rfl (lv_at hl 0 rfl) ?_
      refine g_get (ci := 8) hx hb hts hin8 hown hK hP hA1 rfl 4 (by decide) hf37 rfl rfl dX8_chosen_23 ?_
      refine lv_aload_n hx hb dX8_chosen_26 rfl (lv_at hl 0 rfl) ?_
      refine g_get (ci := 8) hx hb hts hin8 hown hK hP hA1 rfl 1 (by decide) hf17 rfl rfl dX8_chosen_27 ?_
      refine lv_iload_n hx hb dX8_chosen_30 rfl (lv_at hl 1 rfl) ?_
      refine lv_iload_n hx hb dX8_chosen_31 rfl (lv_at hl 2 rfl) ?_
      refine g_cl (g_runV (As := [.ref (x + 2), .int (nI ai), .int b]) (rest := []) ⟨hx, hb, hml, hown, hts⟩ hK hP (kX3_bestWorth l E A n G (x + 7) (x + 8) (x + 2) ai b fw fR (fun i => x + 18 + i) S hp.2.1 b17 (by omega) hPl1 hPl2 hR1 (fun i hi => ⟨hR2 i hi, hRo i hi⟩)) (cwV 3 hts gX8_chosen_X3_bestWorth rfl rfl rfl (by decide +kernel) ⟨Nat.le_of_ble_eq_true rfl, Nat.le_of_ble_eq_true rfl⟩) hPl1 rfl rfl hl.1 rfl (Nat.le_of_ble_eq_true rfl) dX8_chosen_32 ⟨Nat.le_of_ble_eq_true rfl, Nat.le_of_ble_eq_true rfl⟩) hS (fun r32 n' G' H locs hw hP hS => ?_)
      obtain ⟨rfl, rfl, rfl⟩ := hw
      have q144_0 : (gup G (x + 8) (.inl (E.2 1, 301, .inr (.inl (bwN S b fw ai 30))))) x = some (.inr (8, [.ref (x + 1), .ref (x + 2), .ref (x + 3), .ref (x + 4), .ref (x + 7), .ref (x + 9), .int (c 0), .int (c 7), .int (c 12), .int (c 29), .int (c 30), .int (c 31), .int (c 32), .int (c 33)])) := (gup_n (ne_oa hA1 hPl2)).trans hA1
      have q144_1 : (gup G (x + 8) (.inl (E.2 1, 301, .inr (.inl (bwN S b fw ai 30))))) (x + 2) = some (.inl (E.2 4, 30, .inr (.inr (.inr (.inr fR))))) := (gup_n (by omega)).trans hR1
      have q144_2 : (gup G (x + 8) (.inl (E.2 1, 301, .inr (.inl (bwN S b fw ai 30))))) (x + 7) = some (.inr (3, [.ref (x + 8)])) := (gup_n (ne_oa hPl1 hPl2)).trans hPl1
      have q144_a : (gup G (x + 8) (.inl (E.2 1, 301, .inr (.inl (bwN S b fw ai 30))))) (x + 8) = some (.inl (E.2 1, 301, .inr (.inl (bwN S b fw ai 30)))) := gup_s
      have hP : gP E A n (gup G (x + 8) (.inl (E.2 1, 301, .inr (.inl (bwN S b fw ai 30))))) H := hP
      have hA1_145 := sA.kp (kp_up (e1 := .inl (E.2 1, 301, .inr (.inl (bwN S b fw ai 30)))) hPl2) (kpn (by decide : (8 : Nat) ≠ 21)) hA1
      have hV_145 := sV.kp (kp_up (e1 := .inl (E.2 1, 301, .inr (.inl (bwN S b fw ai 30)))) hPl2) (kpn (by decide : (22 : Nat) ≠ 21)) hV
      have hR_145 := sR.kp (kp_up (e1 := .inl (E.2 1, 301, .inr (.inl (bwN S b fw ai 30)))) hPl2) (kpn (by decide : (22 : Nat) ≠ 21)) hR
      have hH1_145 := sH.kp (kp_up (e1 := .inl (E.2 1, 301, .inr (.inl (bwN S b fw ai 30)))) hPl2) (kpn (by decide : (22 : Nat) ≠ 21)) hH1
      have hB_145 := sB.kp (kp_up (e1 := .inl (E.2 1, 301, .inr (.inl (bwN S b fw ai 30)))) hPl2) (kpn (by decide : (2 : Nat) ≠ 21)) (kpn (by decide : (1 : Nat) ≠ 21)) hB
      have hL_145 := sL.kp (kp_up (e1 := .inl (E.2 1, 301, .inr (.inl (bwN S b fw ai 30)))) hPl2) (kpn (by decide : (22 : Nat) ≠ 21)) (kpn (by decide : (1 : Nat) ≠ 21)) hL
      have hEv_145 := sE.kp (kp_up (e1 := .inl (E.2 1, 301, .inr (.inl (bwN S b fw ai 30)))) hPl2) (kpn (by decide : (20 : Nat) ≠ 21)) hEv
      have hRo_145 := sRo.kp (kp_up (e1 := .inl (E.2 1, 301, .inr (.inl (bwN S b fw ai 30)))) hPl2) (kpn (by decide : (4 : Nat) ≠ 21)) hRo
      have hVi_145 := sVi.kp (kp_up (e1 := .inl (E.2 1, 301, .inr (.inl (bwN S b fw ai 30)))) hPl2) (kpn (by decide : (6 : Nat) ≠ 21)) hVi
      have hWk_145 := sWk.kp (kp_up (e1 := .inl (E.2 1, 301, .inr (.inl (bwN S b fw ai 30)))) hPl2) (kpn (by decide : (7 : Nat) ≠ 21)) hWk
      have hHo_145 := sHo.kp (kp_up (e1 := .inl (E.2 1, 301, .inr (.inl (bwN S b fw ai 30)))) hPl2) (kpn (by decide : (0 : Nat) ≠ 21)) (kpn (by decide : (5 : Nat) ≠ 21)) hHo
      have hHa_145 := sHa.kp (kp_up (e1 := .inl (E.2 1, 301, .inr (.inl (bwN S b fw ai 30)))) hPl2) (kpn (by decide : (20 : Nat) ≠ 21)) hHa
      refine g_ci (g_runS (As := [.long (bwN S b fw ai 30 ai)]) (rest := []) ⟨hx, hb, hml, hown, hts⟩ hK hP (kX3_heapOf l E A n (gup G (x + 8) (.inl (E.2 1, 301, .inr (.inl (bwN S b fw ai 30))))) (bwN S b fw ai 30 ai)) (va_cwS 1 hts gX8_chosen_X3_heapOf rfl rfl rfl (by decide +kernel) ⟨Nat.le_of_ble_eq_true rfl, Nat.le_of_ble_eq_true rfl⟩) rfl hl.1 rfl (Nat.le_of_ble_eq_true rfl) dX8_chosen_35 ⟨Nat.le_of_ble_eq_true rfl, Nat.le_of_ble_eq_true rfl⟩) hS (fun r35 n' G' H locs hw hP hS => ?_)
      obtain ⟨rfl, rfl, rfl⟩ := hw
      refine g_reti hx hb hr hlk hP hS dX8_chosen_38 ?_
      have hB0 : savB (nI ai) b = true := by simp [savB, b7, b17]
      refine ⟨by rw [choR, if_pos hB0, tn_nI (by omega)]; exact (sav_eq hp b17 fw (by omega)).2.symm, Nat.le_refl _, ⟨ha, la, lt, wa, ww, wn⟩, ?_⟩
      rw [savS, if_pos hB0]
      exact ⟨hA1_145, hV_145, hR_145, hH1_145, hB_145, hL_145, ⟨q144_2, _, q144_a⟩, hEv_145, hRo_145, hVi_145, hWk_145, hW, (sHo.cg (fun j h1 h2 => by simp only [va_up]; repeat (first | rfl | (rw [if_neg (by omega)]))) hHo_145), (sHa.cg (fun j h1 h2 => by simp only [va_up]; repeat (first | rfl | (rw [if_neg (by omega)]))) hHa_145), hHp⟩
    · refine lv_iconst (v := (-1)) hx hb dX8_chosen_20 (by decide) ?_
      refine g_reti hx hb hr hlk hP hS dX8_chosen_21 ?_
      have hB0 : savB a b = false := by first | (simp [savB, b7, b17]; done) | (exfalso; simp_all; done)
      exact ⟨by rw [choR, if_neg (by rw [hB0]; decide)], Nat.le_refl _, _, by rw [savS, if_neg (by rw [hB0]; decide)]; exact hs⟩
set_option maxHeartbeats 1000000 in
set_option maxRecDepth 100000 in
theorem kX8_endWeek (l : Launch) (E : gT) (A : Nat → Prop) (n : Nat) (G : gH) (x : Nat) (c : Nat → Int32) (S : Nat → Nat → Int32) (lv : Int32) (hA1 : sA G x c) (hR : sR E G x) (hRo : sRo G x S) (hlv : lv = S 24 (tn (c 0))) (hlv0 : 0 ≤ lv.toInt) : gM l yX8_endWeek wsX8_endWeek ({ frames := 1, cells := 0, slots := 0, locals := 21 } : Room) E A n G [.ref x, .int lv] (gQv E A (fun n' G' => n = n' ∧ sA G' x (endN (c, S) 30).1 ∧ sRo G' x (endN (c, S) 30).2 ∧ Kp [4, 8] G G')) 0 0 := by
  refine g_entry (by decide) rfl (Nat.le_of_ble_eq_true rfl) ?_
  intro p e s m below meth c0 hx hb hr hlk hml hown hnm hts hK H locs ls hP hS hl
  have hin8 : ∀ wq ∈ u_ws RX8 TX8 14, wq ∈ wsX8_endWeek := by decide +kernel
  have hf17 := hts (.fieldLink RX8 17 "DikeHands" "rods" "[LDikeHands$Rod;") (by decide +kernel)
  have hf58 := hts (.fieldLink RX8 58 "DikeHands" "lossCounted" "I") (by decide +kernel)
  have hl : lv_has ls 3 [(0, .ref x), (1, .int lv)] := hl
  obtain ⟨fR, hR1, hR2⟩ := id hR
  refine lv_iconst (v := 0) hx hb dX8_endWeek_0 (by decide) ?_
  refine lv_istore_n (lv' := [(2, .int 0), (0, .ref x), (1, .int lv)]) hx hb dX8_endWeek_1 rfl hl (by decide) rfl (fun ls hl => ?_)
  refine g_loop (τ := Nat × gH) (fun t => t.1 ≤ 30 ∧ sA t.2 x (endN (c, S) t.1).1 ∧ sRo t.2 x (endN (c, S) t.1).2 ∧ Kp [4, 8] G t.2) (fun t => 30 - t.1) (fun _ => n) (fun t => t.2) (fun _ => 0) (fun _ => 0) (fun t => [(0, .ref x), (1, .int lv), (2, .int (nI t.1))]) ?_ (0, G) ⟨Nat.zero_le 30, hA1, hRo, fun _ _ _ q => q⟩ H locs ls hP hS (lv_sub hl [1, 2, 0] rfl)
  intro t hI2 ih H locs ls hP hS hl
  obtain ⟨kq, G1⟩ := t
  obtain ⟨hk30, hA2, hRo2, hK2⟩ := hI2
  try dsimp only at hk30 hA2 hRo2 hK2
  have hl : lv_has ls 3 [(0, .ref x), (1, .int lv), (2, .int (nI kq))] := hl
  have hP : gP E A n G1 H := hP
  have qx : G1 x = some (.inr (8, [.ref (x + 1), .ref (x + 2), .ref (x + 3), .ref (x + 4), .ref (x + 7), .ref (x + 9), .int ((endN (c, S) kq).1 0), .int ((endN (c, S) kq).1 7), .int ((endN (c, S) kq).1 12), .int ((endN (c, S) kq).1 29), .int ((endN (c, S) kq).1 30), .int ((endN (c, S) kq).1 31), .int ((endN (c, S) kq).1 32), .int ((endN (c, S) kq).1 33)])) := hA2
  have hR9 := hK2 _ _ (by simp [kd, rfA]) hR1
  refine lv_iload_n hx hb dX8_endWeek_2 rfl (lv_at hl 2 rfl) ?_
  refine lv_bipush (v := 30) hx hb dX8_endWeek_3 (by decide) ?_
  refine lv_icmp_ge (tgt := 33) hx hb dX8_endWeek_5 (by decide) (fun b5 => ?_) (fun b5 => ?_)
  · have hk3 := lp_ge (x := 30) (by decide) (by omega) b5
    have hk5 : tn 30 = 30 := by decide
    have hke : kq = 30 := by omega
    refine g_retv hx hb hr hlk hP hS dX8_endWeek_33 ?_
    rw [hke] at hA2 hRo2
    exact ⟨rfl, hA2, hRo2, hK2⟩
  · have hk3 := lp_lt (x := 30) (by decide) (by omega) b5
    have hk5 : tn 30 = 30 := by decide
    rw [hk5] at hk3
    refine lv_aload_n hx hb dX8_endWeek_8 rfl (lv_at hl 0 rfl) ?_
    refine lv_dup hx hb dX8_endWeek_9 rfl ?_
    refine g_get (ci := 8) hx hb hts hin8 hown hK hP qx rfl 10 (by decide) hf58 rfl rfl dX8_endWeek_10 ?_
    refine lv_aload_n hx hb dX8_endWeek_13 rfl (lv_at hl 0 rfl) ?_
    refine g_get (ci := 8) hx hb hts hin8 hown hK hP qx rfl 1 (by decide) hf17 rfl rfl dX8_endWeek_14 ?_
    refine lv_iload_n hx hb dX8_endWeek_17 rfl (lv_at hl 2 rfl) ?_
    have fr0 := hRo2 kq hk3
    refine g_aald (t0 := 4) (v := .ref (x + 18 + kq)) hx hb hK hP hR9 rfl (vp_in_nI (by omega) (by decide)) (by rw [nI_clamp (by omega), hR2 kq hk3]; rfl) dX8_endWeek_18 ?_
    refine lv_iload_n hx hb dX8_endWeek_19 rfl (lv_at hl 1 rfl) ?_
    refine g_ci (g_runV (As := [.int lv]) (rest := [.int ((endN (c, S) kq).1 30), .ref x]) ⟨hx, hb, hml, hown, hts⟩ hK hP (kX4_wear l E A n G1 (x + 18 + kq) ((endN (c, S) kq).2 1 kq) ((endN (c, S) kq).2 2 kq) ((endN (c, S) kq).2 3 kq) ((endN (c, S) kq).2 4 kq) ((endN (c, S) kq).2 5 kq) lv fr0) (cwV 1 hts gX8_endWeek_X4_wear rfl rfl rfl (by decide +kernel) ⟨Nat.le_of_ble_eq_true rfl, Nat.le_of_ble_eq_true rfl⟩) fr0 rfl rfl hl.1 rfl (Nat.le_of_ble_eq_true rfl) dX8_endWeek_20 ⟨Nat.le_of_ble_eq_true rfl, Nat.le_of_ble_eq_true rfl⟩) hS (fun r20 n' G' H locs hw hP hS => ?_)
    obtain ⟨rfl, rfl, rfl⟩ := hw
    have hlvk : (endN (c, S) kq).2 24 (tn ((endN (c, S) kq).1 0)) = lv := by rw [endN_S _ 24 (by decide) (by decide), endN_c _ 0 (by decide)]; exact hlv.symm
    by_cases hw1 : lv ≤ ((endN (c, S) kq).2 1 kq)
    · simp only [if_pos hw1] at hP ⊢
      have q146_0 : (gup G1 (x + 18 + kq) (.inr (4, [.int (((endN (c, S) kq).2 1 kq) - lv / 100), .int ((endN (c, S) kq).2 2 kq), .int ((endN (c, S) kq).2 3 kq), .int ((endN (c, S) kq).2 4 kq), .int ((endN (c, S) kq).2 5 kq)]))) x = some (.inr (8, [.ref (x + 1), .ref (x + 2), .ref (x + 3), .ref (x + 4), .ref (x + 7), .ref (x + 9), .int ((endN (c, S) kq).1 0), .int ((endN (c, S) kq).1 7), .int ((endN (c, S) kq).1 12), .int ((endN (c, S) kq).1 29), .int ((endN (c, S) kq).1 30), .int ((endN (c, S) kq).1 31), .int ((endN (c, S) kq).1 32), .int ((endN (c, S) kq).1 33)])) := (gup_n (ne_oo qx fr0 (by decide))).trans qx
      have q146_1 : (gup G1 (x + 18 + kq) (.inr (4, [.int (((endN (c, S) kq).2 1 kq) - lv / 100), .int ((endN (c, S) kq).2 2 kq), .int ((endN (c, S) kq).2 3 kq), .int ((endN (c, S) kq).2 4 kq), .int ((endN (c, S) kq).2 5 kq)]))) (x + 2) = some (.inl (E.2 4, 30, .inr (.inr (.inr (.inr fR))))) := (gup_n (ne_ao hR9 fr0)).trans hR9
      have q146_a : (gup G1 (x + 18 + kq) (.inr (4, [.int (((endN (c, S) kq).2 1 kq) - lv / 100), .int ((endN (c, S) kq).2 2 kq), .int ((endN (c, S) kq).2 3 kq), .int ((endN (c, S) kq).2 4 kq), .int ((endN (c, S) kq).2 5 kq)]))) (x + 18 + kq) = some (.inr (4, [.int (((endN (c, S) kq).2 1 kq) - lv / 100), .int ((endN (c, S) kq).2 2 kq), .int ((endN (c, S) kq).2 3 kq), .int ((endN (c, S) kq).2 4 kq), .int ((endN (c, S) kq).2 5 kq)])) := gup_s
      have hP : gP E A n (gup G1 (x + 18 + kq) (.inr (4, [.int (((endN (c, S) kq).2 1 kq) - lv / 100), .int ((endN (c, S) kq).2 2 kq), .int ((endN (c, S) kq).2 3 kq), .int ((endN (c, S) kq).2 4 kq), .int ((endN (c, S) kq).2 5 kq)]))) H := hP
      have hK3 := kp_48 (G2 := (gup G1 (x + 18 + kq) (.inr (4, [.int (((endN (c, S) kq).2 1 kq) - lv / 100), .int ((endN (c, S) kq).2 2 kq), .int ((endN (c, S) kq).2 3 kq), .int ((endN (c, S) kq).2 4 kq), .int ((endN (c, S) kq).2 5 kq)])))) hK2 fr0 (Or.inl rfl) rfl
      refine lv_iadd hx hb dX8_endWeek_23 ?_
      refine g_put (ci := 8) (ty := .int) (v := .int (((endN (c, S) kq).1 30) + 0)) hx hb hts hin8 tyX8 tyX8_ok nmX8 hown hK hP hS q146_0 rfl 10 (by decide) hf58 rfl (Or.inl rfl) (by decide +kernel) rfl rfl (Nat.le_of_ble_eq_true rfl) dX8_endWeek_24 (fun H locs hP hS => ?_)
      have q147_0 : (gup (gup G1 (x + 18 + kq) (.inr (4, [.int (((endN (c, S) kq).2 1 kq) - lv / 100), .int ((endN (c, S) kq).2 2 kq), .int ((endN (c, S) kq).2 3 kq), .int ((endN (c, S) kq).2 4 kq), .int ((endN (c, S) kq).2 5 kq)]))) x (.inr (8, [.ref (x + 1), .ref (x + 2), .ref (x + 3), .ref (x + 4), .ref (x + 7), .ref (x + 9), .int ((endN (c, S) kq).1 0), .int ((endN (c, S) kq).1 7), .int ((endN (c, S) kq).1 12), .int ((endN (c, S) kq).1 29), .int (((endN (c, S) kq).1 30) + 0), .int ((endN (c, S) kq).1 31), .int ((endN (c, S) kq).1 32), .int ((endN (c, S) kq).1 33)]))) (x + 2) = some (.inl (E.2 4, 30, .inr (.inr (.inr (.inr fR))))) := (gup_n (ne_ao q146_1 q146_0)).trans q146_1
      have q147_1 : (gup (gup G1 (x + 18 + kq) (.inr (4, [.int (((endN (c, S) kq).2 1 kq) - lv / 100), .int ((endN (c, S) kq).2 2 kq), .int ((endN (c, S) kq).2 3 kq), .int ((endN (c, S) kq).2 4 kq), .int ((endN (c, S) kq).2 5 kq)]))) x (.inr (8, [.ref (x + 1), .ref (x + 2), .ref (x + 3), .ref (x + 4), .ref (x + 7), .ref (x + 9), .int ((endN (c, S) kq).1 0), .int ((endN (c, S) kq).1 7), .int ((endN (c, S) kq).1 12), .int ((endN (c, S) kq).1 29), .int (((endN (c, S) kq).1 30) + 0), .int ((endN (c, S) kq).1 31), .int ((endN (c, S) kq).1 32), .int ((endN (c, S) kq).1 33)]))) (x + 18 + kq) = some (.inr (4, [.int (((endN (c, S) kq).2 1 kq) - lv / 100), .int ((endN (c, S) kq).2 2 kq), .int ((endN (c, S) kq).2 3 kq), .int ((endN (c, S) kq).2 4 kq), .int ((endN (c, S) kq).2 5 kq)])) := (gup_n (ne_oo q146_a q146_0 (by decide))).trans q146_a
      have q147_a : (gup (gup G1 (x + 18 + kq) (.inr (4, [.int (((endN (c, S) kq).2 1 kq) - lv / 100), .int ((endN (c, S) kq).2 2 kq), .int ((endN (c, S) kq).2 3 kq), .int ((endN (c, S) kq).2 4 kq), .int ((endN (c, S) kq).2 5 kq)]))) x (.inr (8, [.ref (x + 1), .ref (x + 2), .ref (x + 3), .ref (x + 4), .ref (x + 7), .ref (x + 9), .int ((endN (c, S) kq).1 0), .int ((endN (c, S) kq).1 7), .int ((endN (c, S) kq).1 12), .int ((endN (c, S) kq).1 29), .int (((endN (c, S) kq).1 30) + 0), .int ((endN (c, S) kq).1 31), .int ((endN (c, S) kq).1 32), .int ((endN (c, S) kq).1 33)]))) x = some (.inr (8, [.ref (x + 1), .ref (x + 2), .ref (x + 3), .ref (x + 4), .ref (x + 7), .ref (x + 9), .int ((endN (c, S) kq).1 0), .int ((endN (c, S) kq).1 7), .int ((endN (c, S) kq).1 12), .int ((endN (c, S) kq).1 29), .int (((endN (c, S) kq).1 30) + 0), .int ((endN (c, S) kq).1 31), .int ((endN (c, S) kq).1 32), .int ((endN (c, S) kq).1 33)])) := gup_s
      have hP : gP E A n (gup (gup G1 (x + 18 + kq) (.inr (4, [.int (((endN (c, S) kq).2 1 kq) - lv / 100), .int ((endN (c, S) kq).2 2 kq), .int ((endN (c, S) kq).2 3 kq), .int ((endN (c, S) kq).2 4 kq), .int ((endN (c, S) kq).2 5 kq)]))) x (.inr (8, [.ref (x + 1), .ref (x + 2), .ref (x + 3), .ref (x + 4), .ref (x + 7), .ref (x + 9), .int ((endN (c, S) kq).1 0), .int ((endN (c, S) kq).1 7), .int ((endN (c, S) kq).1 12), .int ((endN (c, S) kq).1 29), .int (((endN (c, S) kq).1 30) + 0), .int ((endN (c, S) kq).1 31), .int ((endN (c, S) kq).1 32), .int ((endN (c, S) kq).1 33)]))) H := hP
      have hA8 := q147_a
      have eC : (endN (c, S) (kq + 1)).1 = (endN (c, S) kq).1 := by rw [endN_s1, hlvk, endC, tn_nI (by omega), if_pos hw1]
      have eS : (endN (c, S) (kq + 1)).2 = va_up (endN (c, S) kq).2 1 (upd ((endN (c, S) kq).2 1) kq ((endN (c, S) kq).2 1 kq - lv / 100)) := by
        rw [endN_s2, hlvk, endS, tn_nI (by omega), if_pos hw1, endH, tn_nI (by omega), if_pos hw1, if_pos]
        have z1 := Int32.le_iff_toInt_le.mp hw1
        have z2 : (lv / 100).toInt = lv.toInt / 100 := divI hlv0 (by decide)
        have z3 := fb_rng ((endN (c, S) kq).2 1 kq)
        apply Int32.le_iff_toInt_le.mpr
        show (0 : Int) ≤ _
        rw [fb_subI] <;> rw [z2] <;> omega
      have hA9 : sA (gup (gup G1 (x + 18 + kq) (.inr (4, [.int (((endN (c, S) kq).2 1 kq) - lv / 100), .int ((endN (c, S) kq).2 2 kq), .int ((endN (c, S) kq).2 3 kq), .int ((endN (c, S) kq).2 4 kq), .int ((endN (c, S) kq).2 5 kq)]))) x (.inr (8, [.ref (x + 1), .ref (x + 2), .ref (x + 3), .ref (x + 4), .ref (x + 7), .ref (x + 9), .int ((endN (c, S) kq).1 0), .int ((endN (c, S) kq).1 7), .int ((endN (c, S) kq).1 12), .int ((endN (c, S) kq).1 29), .int (((endN (c, S) kq).1 30) + 0), .int ((endN (c, S) kq).1 31), .int ((endN (c, S) kq).1 32), .int ((endN (c, S) kq).1 33)]))) x (endN (c, S) (kq + 1)).1 := by
        rw [eC]
        have z : (endN (c, S) kq).1 30 + 0 = (endN (c, S) kq).1 30 := Int32.add_zero _
        exact hA8.trans (by rw [z]; rfl)
      have hRo9 : sRo (gup (gup G1 (x + 18 + kq) (.inr (4, [.int (((endN (c, S) kq).2 1 kq) - lv / 100), .int ((endN (c, S) kq).2 2 kq), .int ((endN (c, S) kq).2 3 kq), .int ((endN (c, S) kq).2 4 kq), .int ((endN (c, S) kq).2 5 kq)]))) x (.inr (8, [.ref (x + 1), .ref (x + 2), .ref (x + 3), .ref (x + 4), .ref (x + 7), .ref (x + 9), .int ((endN (c, S) kq).1 0), .int ((endN (c, S) kq).1 7), .int ((endN (c, S) kq).1 12), .int ((endN (c, S) kq).1 29), .int (((endN (c, S) kq).1 30) + 0), .int ((endN (c, S) kq).1 31), .int ((endN (c, S) kq).1 32), .int ((endN (c, S) kq).1 33)]))) x (endN (c, S) (kq + 1)).2 := by
        rw [eS]
        refine sRo.kp (kp_up (e1 := .inr (8, [.ref (x + 1), .ref (x + 2), .ref (x + 3), .ref (x + 4), .ref (x + 7), .ref (x + 9), .int ((endN (c, S) kq).1 0), .int ((endN (c, S) kq).1 7), .int ((endN (c, S) kq).1 12), .int ((endN (c, S) kq).1 29), .int (((endN (c, S) kq).1 30) + 0), .int ((endN (c, S) kq).1 31), .int ((endN (c, S) kq).1 32), .int ((endN (c, S) kq).1 33)])) q146_0) (kpn (by decide : (4 : Nat) ≠ 8)) (sRo_put (t := kq) hRo2 ?_ (fun i hi => ?_))
        · simp [rodE, va_up, upd]
        · simp [rodE, va_up, upd, hi]
      have hK9 := kp_48 (G2 := (gup (gup G1 (x + 18 + kq) (.inr (4, [.int (((endN (c, S) kq).2 1 kq) - lv / 100), .int ((endN (c, S) kq).2 2 kq), .int ((endN (c, S) kq).2 3 kq), .int ((endN (c, S) kq).2 4 kq), .int ((endN (c, S) kq).2 5 kq)]))) x (.inr (8, [.ref (x + 1), .ref (x + 2), .ref (x + 3), .ref (x + 4), .ref (x + 7), .ref (x + 9), .int ((endN (c, S) kq).1 0), .int ((endN (c, S) kq).1 7), .int ((endN (c, S) kq).1 12), .int ((endN (c, S) kq).1 29), .int (((endN (c, S) kq).1 30) + 0), .int ((endN (c, S) kq).1 31), .int ((endN (c, S) kq).1 32), .int ((endN (c, S) kq).1 33)])))) hK3 q146_0 (Or.inr rfl) rfl
      refine lv_iinc (v := (nI kq) + 1) (lv' := [(2, .int ((nI kq) + 1)), (0, .ref x), (1, .int lv)]) hx hb dX8_endWeek_27 hl (k := 2) rfl rfl (by decide) rfl (fun ls hl => ?_)
      refine lv_goto (tgt := 2) hx hb dX8_endWeek_30 (by decide) ?_
      refine ih (kq + 1, (gup (gup G1 (x + 18 + kq) (.inr (4, [.int (((endN (c, S) kq).2 1 kq) - lv / 100), .int ((endN (c, S) kq).2 2 kq), .int ((endN (c, S) kq).2 3 kq), .int ((endN (c, S) kq).2 4 kq), .int ((endN (c, S) kq).2 5 kq)]))) x (.inr (8, [.ref (x + 1), .ref (x + 2), .ref (x + 3), .ref (x + 4), .ref (x + 7), .ref (x + 9), .int ((endN (c, S) kq).1 0), .int ((endN (c, S) kq).1 7), .int ((endN (c, S) kq).1 12), .int ((endN (c, S) kq).1 29), .int (((endN (c, S) kq).1 30) + 0), .int ((endN (c, S) kq).1 31), .int ((endN (c, S) kq).1 32), .int ((endN (c, S) kq).1 33)])))) ⟨by omega, hA9, hRo9, hK9⟩ (by show 30 - (kq + 1) < 30 - kq; omega) H locs ls hP hS ?_
      show lv_has ls 3 [(0, .ref x), (1, .int lv), (2, .int (nI (kq + 1)))]
      rw [← nI_1 kq]
      exact lv_sub hl [1, 2, 0] rfl
    · simp only [if_neg hw1] at hP ⊢
      have q148_0 : (gup G1 (x + 18 + kq) (.inr (4, [.int 0, .int ((endN (c, S) kq).2 2 kq), .int ((endN (c, S) kq).2 3 kq), .int (((endN (c, S) kq).2 4 kq) + 1), .int ((endN (c, S) kq).2 5 kq)]))) x = some (.inr (8, [.ref (x + 1), .ref (x + 2), .ref (x + 3), .ref (x + 4), .ref (x + 7), .ref (x + 9), .int ((endN (c, S) kq).1 0), .int ((endN (c, S) kq).1 7), .int ((endN (c, S) kq).1 12), .int ((endN (c, S) kq).1 29), .int ((endN (c, S) kq).1 30), .int ((endN (c, S) kq).1 31), .int ((endN (c, S) kq).1 32), .int ((endN (c, S) kq).1 33)])) := (gup_n (ne_oo qx fr0 (by decide))).trans qx
      have q148_1 : (gup G1 (x + 18 + kq) (.inr (4, [.int 0, .int ((endN (c, S) kq).2 2 kq), .int ((endN (c, S) kq).2 3 kq), .int (((endN (c, S) kq).2 4 kq) + 1), .int ((endN (c, S) kq).2 5 kq)]))) (x + 2) = some (.inl (E.2 4, 30, .inr (.inr (.inr (.inr fR))))) := (gup_n (ne_ao hR9 fr0)).trans hR9
      have q148_a : (gup G1 (x + 18 + kq) (.inr (4, [.int 0, .int ((endN (c, S) kq).2 2 kq), .int ((endN (c, S) kq).2 3 kq), .int (((endN (c, S) kq).2 4 kq) + 1), .int ((endN (c, S) kq).2 5 kq)]))) (x + 18 + kq) = some (.inr (4, [.int 0, .int ((endN (c, S) kq).2 2 kq), .int ((endN (c, S) kq).2 3 kq), .int (((endN (c, S) kq).2 4 kq) + 1), .int ((endN (c, S) kq).2 5 kq)])) := gup_s
      have hP : gP E A n (gup G1 (x + 18 + kq) (.inr (4, [.int 0, .int ((endN (c, S) kq).2 2 kq), .int ((endN (c, S) kq).2 3 kq), .int (((endN (c, S) kq).2 4 kq) + 1), .int ((endN (c, S) kq).2 5 kq)]))) H := hP
      have hK3 := kp_48 (G2 := (gup G1 (x + 18 + kq) (.inr (4, [.int 0, .int ((endN (c, S) kq).2 2 kq), .int ((endN (c, S) kq).2 3 kq), .int (((endN (c, S) kq).2 4 kq) + 1), .int ((endN (c, S) kq).2 5 kq)])))) hK2 fr0 (Or.inl rfl) rfl
      refine lv_iadd hx hb dX8_endWeek_23 ?_
      refine g_put (ci := 8) (ty := .int) (v := .int (((endN (c, S) kq).1 30) + ((endN (c, S) kq).2 3 kq))) hx hb hts hin8 tyX8 tyX8_ok nmX8 hown hK hP hS q148_0 rfl 10 (by decide) hf58 rfl (Or.inl rfl) (by decide +kernel) rfl rfl (Nat.le_of_ble_eq_true rfl) dX8_endWeek_24 (fun H locs hP hS => ?_)
      have q149_0 : (gup (gup G1 (x + 18 + kq) (.inr (4, [.int 0, .int ((endN (c, S) kq).2 2 kq), .int ((endN (c, S) kq).2 3 kq), .int (((endN (c, S) kq).2 4 kq) + 1), .int ((endN (c, S) kq).2 5 kq)]))) x (.inr (8, [.ref (x + 1), .ref (x + 2), .ref (x + 3), .ref (x + 4), .ref (x + 7), .ref (x + 9), .int ((endN (c, S) kq).1 0), .int ((endN (c, S) kq).1 7), .int ((endN (c, S) kq).1 12), .int ((endN (c, S) kq).1 29), .int (((endN (c, S) kq).1 30) + ((endN (c, S) kq).2 3 kq)), .int ((endN (c, S) kq).1 31), .int ((endN (c, S) kq).1 32), .int ((endN (c, S) kq).1 33)]))) (x + 2) = some (.inl (E.2 4, 30, .inr (.inr (.inr (.inr fR))))) := (gup_n (ne_ao q148_1 q148_0)).trans q148_1
      have q149_1 : (gup (gup G1 (x + 18 + kq) (.inr (4, [.int 0, .int ((endN (c, S) kq).2 2 kq), .int ((endN (c, S) kq).2 3 kq), .int (((endN (c, S) kq).2 4 kq) + 1), .int ((endN (c, S) kq).2 5 kq)]))) x (.inr (8, [.ref (x + 1), .ref (x + 2), .ref (x + 3), .ref (x + 4), .ref (x + 7), .ref (x + 9), .int ((endN (c, S) kq).1 0), .int ((endN (c, S) kq).1 7), .int ((endN (c, S) kq).1 12), .int ((endN (c, S) kq).1 29), .int (((endN (c, S) kq).1 30) + ((endN (c, S) kq).2 3 kq)), .int ((endN (c, S) kq).1 31), .int ((endN (c, S) kq).1 32), .int ((endN (c, S) kq).1 33)]))) (x + 18 + kq) = some (.inr (4, [.int 0, .int ((endN (c, S) kq).2 2 kq), .int ((endN (c, S) kq).2 3 kq), .int (((endN (c, S) kq).2 4 kq) + 1), .int ((endN (c, S) kq).2 5 kq)])) := (gup_n (ne_oo q148_a q148_0 (by decide))).trans q148_a
      have q149_a : (gup (gup G1 (x + 18 + kq) (.inr (4, [.int 0, .int ((endN (c, S) kq).2 2 kq), .int ((endN (c, S) kq).2 3 kq), .int (((endN (c, S) kq).2 4 kq) + 1), .int ((endN (c, S) kq).2 5 kq)]))) x (.inr (8, [.ref (x + 1), .ref (x + 2), .ref (x + 3), .ref (x + 4), .ref (x + 7), .ref (x + 9), .int ((endN (c, S) kq).1 0), .int ((endN (c, S) kq).1 7), .int ((endN (c, S) kq).1 12), .int ((endN (c, S) kq).1 29), .int (((endN (c, S) kq).1 30) + ((endN (c, S) kq).2 3 kq)), .int ((endN (c, S) kq).1 31), .int ((endN (c, S) kq).1 32), .int ((endN (c, S) kq).1 33)]))) x = some (.inr (8, [.ref (x + 1), .ref (x + 2), .ref (x + 3), .ref (x + 4), .ref (x + 7), .ref (x + 9), .int ((endN (c, S) kq).1 0), .int ((endN (c, S) kq).1 7), .int ((endN (c, S) kq).1 12), .int ((endN (c, S) kq).1 29), .int (((endN (c, S) kq).1 30) + ((endN (c, S) kq).2 3 kq)), .int ((endN (c, S) kq).1 31), .int ((endN (c, S) kq).1 32), .int ((endN (c, S) kq).1 33)])) := gup_s
      have hP : gP E A n (gup (gup G1 (x + 18 + kq) (.inr (4, [.int 0, .int ((endN (c, S) kq).2 2 kq), .int ((endN (c, S) kq).2 3 kq), .int (((endN (c, S) kq).2 4 kq) + 1), .int ((endN (c, S) kq).2 5 kq)]))) x (.inr (8, [.ref (x + 1), .ref (x + 2), .ref (x + 3), .ref (x + 4), .ref (x + 7), .ref (x + 9), .int ((endN (c, S) kq).1 0), .int ((endN (c, S) kq).1 7), .int ((endN (c, S) kq).1 12), .int ((endN (c, S) kq).1 29), .int (((endN (c, S) kq).1 30) + ((endN (c, S) kq).2 3 kq)), .int ((endN (c, S) kq).1 31), .int ((endN (c, S) kq).1 32), .int ((endN (c, S) kq).1 33)]))) H := hP
      have hA8 := q149_a
      have eC : (endN (c, S) (kq + 1)).1 = va_up (endN (c, S) kq).1 30 ((endN (c, S) kq).1 30 + (endN (c, S) kq).2 3 kq) := by rw [endN_s1, hlvk, endC, tn_nI (by omega), if_neg hw1]
      have eS : (endN (c, S) (kq + 1)).2 = va_up (va_up (endN (c, S) kq).2 1 (upd ((endN (c, S) kq).2 1) kq 0)) 4 (upd ((endN (c, S) kq).2 4) kq ((endN (c, S) kq).2 4 kq + 1)) := by rw [endN_s2, hlvk, endS, tn_nI (by omega), if_neg hw1]
      have hA9 : sA (gup (gup G1 (x + 18 + kq) (.inr (4, [.int 0, .int ((endN (c, S) kq).2 2 kq), .int ((endN (c, S) kq).2 3 kq), .int (((endN (c, S) kq).2 4 kq) + 1), .int ((endN (c, S) kq).2 5 kq)]))) x (.inr (8, [.ref (x + 1), .ref (x + 2), .ref (x + 3), .ref (x + 4), .ref (x + 7), .ref (x + 9), .int ((endN (c, S) kq).1 0), .int ((endN (c, S) kq).1 7), .int ((endN (c, S) kq).1 12), .int ((endN (c, S) kq).1 29), .int (((endN (c, S) kq).1 30) + ((endN (c, S) kq).2 3 kq)), .int ((endN (c, S) kq).1 31), .int ((endN (c, S) kq).1 32), .int ((endN (c, S) kq).1 33)]))) x (endN (c, S) (kq + 1)).1 := by rw [eC]; exact hA8
      have hRo9 : sRo (gup (gup G1 (x + 18 + kq) (.inr (4, [.int 0, .int ((endN (c, S) kq).2 2 kq), .int ((endN (c, S) kq).2 3 kq), .int (((endN (c, S) kq).2 4 kq) + 1), .int ((endN (c, S) kq).2 5 kq)]))) x (.inr (8, [.ref (x + 1), .ref (x + 2), .ref (x + 3), .ref (x + 4), .ref (x + 7), .ref (x + 9), .int ((endN (c, S) kq).1 0), .int ((endN (c, S) kq).1 7), .int ((endN (c, S) kq).1 12), .int ((endN (c, S) kq).1 29), .int (((endN (c, S) kq).1 30) + ((endN (c, S) kq).2 3 kq)), .int ((endN (c, S) kq).1 31), .int ((endN (c, S) kq).1 32), .int ((endN (c, S) kq).1 33)]))) x (endN (c, S) (kq + 1)).2 := by
        rw [eS]
        refine sRo.kp (kp_up (e1 := .inr (8, [.ref (x + 1), .ref (x + 2), .ref (x + 3), .ref (x + 4), .ref (x + 7), .ref (x + 9), .int ((endN (c, S) kq).1 0), .int ((endN (c, S) kq).1 7), .int ((endN (c, S) kq).1 12), .int ((endN (c, S) kq).1 29), .int (((endN (c, S) kq).1 30) + ((endN (c, S) kq).2 3 kq)), .int ((endN (c, S) kq).1 31), .int ((endN (c, S) kq).1 32), .int ((endN (c, S) kq).1 33)])) q148_0) (kpn (by decide : (4 : Nat) ≠ 8)) (sRo_put (t := kq) hRo2 ?_ (fun i hi => ?_))
        · simp [rodE, va_up, upd]
        · simp [rodE, va_up, upd, hi]
      have hK9 := kp_48 (G2 := (gup (gup G1 (x + 18 + kq) (.inr (4, [.int 0, .int ((endN (c, S) kq).2 2 kq), .int ((endN (c, S) kq).2 3 kq), .int (((endN (c, S) kq).2 4 kq) + 1), .int ((endN (c, S) kq).2 5 kq)]))) x (.inr (8, [.ref (x + 1), .ref (x + 2), .ref (x + 3), .ref (x + 4), .ref (x + 7), .ref (x + 9), .int ((endN (c, S) kq).1 0), .int ((endN (c, S) kq).1 7), .int ((endN (c, S) kq).1 12), .int ((endN (c, S) kq).1 29), .int (((endN (c, S) kq).1 30) + ((endN (c, S) kq).2 3 kq)), .int ((endN (c, S) kq).1 31), .int ((endN (c, S) kq).1 32), .int ((endN (c, S) kq).1 33)])))) hK3 q148_0 (Or.inr rfl) rfl
      refine lv_iinc (v := (nI kq) + 1) (lv' := [(2, .int ((nI kq) + 1)), (0, .ref x), (1, .int lv)]) hx hb dX8_endWeek_27 hl (k := 2) rfl rfl (by decide) rfl (fun ls hl => ?_)
      refine lv_goto (tgt := 2) hx hb dX8_endWeek_30 (by decide) ?_
      refine ih (kq + 1, (gup (gup G1 (x + 18 + kq) (.inr (4, [.int 0, .int ((endN (c, S) kq).2 2 kq), .int ((endN (c, S) kq).2 3 kq), .int (((endN (c, S) kq).2 4 kq) + 1), .int ((endN (c, S) kq).2 5 kq)]))) x (.inr (8, [.ref (x + 1), .ref (x + 2), .ref (x + 3), .ref (x + 4), .ref (x + 7), .ref (x + 9), .int ((endN (c, S) kq).1 0), .int ((endN (c, S) kq).1 7), .int ((endN (c, S) kq).1 12), .int ((endN (c, S) kq).1 29), .int (((endN (c, S) kq).1 30) + ((endN (c, S) kq).2 3 kq)), .int ((endN (c, S) kq).1 31), .int ((endN (c, S) kq).1 32), .int ((endN (c, S) kq).1 33)])))) ⟨by omega, hA9, hRo9, hK9⟩ (by show 30 - (kq + 1) < 30 - kq; omega) H locs ls hP hS ?_
      show lv_has ls 3 [(0, .ref x), (1, .int lv), (2, .int (nI (kq + 1)))]
      rw [← nI_1 kq]
      exact lv_sub hl [1, 2, 0] rfl
set_option maxHeartbeats 2000000 in
set_option maxRecDepth 100000 in
theorem kX8_go (l : Launch) (E : gT) (A : Nat → Prop) (n : Nat) (G : gH) (x : Nat) (c : Nat → Int32) (S : Nat → Nat → Int32) (Y : gL) (wq : Int32) (hs : Sim E G x c S Y) (hp : pI c S)  : gM l yX8_go wsX8_go ({ frames := 2, cells := 0, slots := 0, locals := 43 } : Room) E A n G [.ref x, .int wq] (gQi E A (fun r' n' G' => (goR c S wq) = r' ∧ n ≤ n' ∧ ∃ Y', Sim E G' x ((goU c S wq).1) ((goU c S wq).2) Y')) 0 0 := by
  refine g_entry (by decide) rfl (Nat.le_of_ble_eq_true rfl) ?_
  intro p e s m below meth c0 hx hb hr hlk hml hown hnm hts hK H locs ls hP hS hl
  have hin8 : ∀ wq ∈ u_ws RX8 TX8 14, wq ∈ wsX8_go := by decide +kernel
  have hf41 := hts (.fieldLink RX8 41 "DikeHands" "levels" "[I") (by decide +kernel)
  have hf45 := hts (.fieldLink RX8 45 "DikeHands" "now" "I") (by decide +kernel)
  have hl : lv_has ls 3 [(0, .ref x), (1, .int wq)] := hl
  have h40 := le40 hp
  obtain ⟨ha, la, lt, wa, ww, wn⟩ := Y
  obtain ⟨hA1, hV, hR, hH1, hB, hL, hPl, hEv, hRo, hVi, hWk, hW, hHo, hHa, hHp⟩ := id hs
  try dsimp only at hH1 hL hVi hWk hW hHo hHa hHp
  refine lv_iload_n hx hb dX8_go_0 rfl (lv_at hl 1 rfl) ?_
  refine lv_bipush (v := 104) hx hb dX8_go_1 (by decide) ?_
  refine g_ci (g_runS (As := [.int wq, .int 104]) (rest := []) ⟨hx, hb, hml, hown, hts⟩ hK hP (kX8_isWithin l E A n G wq 104) (va_cwS 2 hts gX8_go_X8_isWithin rfl rfl rfl (by decide +kernel) ⟨Nat.le_of_ble_eq_true rfl, Nat.le_of_ble_eq_true rfl⟩) rfl hl.1 rfl (Nat.le_of_ble_eq_true rfl) dX8_go_3 ⟨Nat.le_of_ble_eq_true rfl, Nat.le_of_ble_eq_true rfl⟩) hS (fun r3 n' G' H locs hw hP hS => ?_)
  obtain ⟨rfl, rfl, rfl⟩ := hw
  refine g_ifne (tgt := 11) hx hb dX8_go_6 (by decide) (fun b6 => ?_) (fun b6 => ?_)
  · refine lv_iconst (v := 0) hx hb dX8_go_11 (by decide) ?_
    refine lv_istore_n (lv' := [(2, .int 0), (0, .ref x), (1, .int wq)]) hx hb dX8_go_12 rfl hl (by decide) rfl (fun ls hl => ?_)
    have hw := inB_i b6
    have hw0 : 0 ≤ wq.toInt := hw.1
    have hw1 : wq.toInt ≤ 104 := hw.2
    have htw := tn_of hw0
    have j0 := hp.1.1
    have t0_ := tn_of j0.1
    refine g_loop (τ := Nat × gH) (fun t => t.1 ≤ tn wq ∧ t.1 ≤ 1040 - tn (c 0) ∧ Sim E t.2 x (wkN (c, S) t.1).1 (wkN (c, S) t.1).2 (ha, la, lt, wa, ww, wn)) (fun t => tn wq - t.1) (fun _ => n) (fun t => t.2) (fun _ => 0) (fun _ => 0) (fun t => [(0, .ref x), (1, .int wq), (2, .int (nI t.1))]) ?_ (0, G) ⟨Nat.zero_le _, Nat.zero_le _, hs⟩ H locs ls hP hS (lv_sub hl [1, 2, 0] rfl)
    intro t hI13 ih H locs ls hP hS hl
    obtain ⟨kq, G1⟩ := t
    obtain ⟨hkw, hkc, hs2⟩ := hI13
    try dsimp only at hkw hkc hs2
    have hl : lv_has ls 3 [(0, .ref x), (1, .int wq), (2, .int (nI kq))] := hl
    have hP : gP E A n G1 H := hP
    have qx : G1 x = some (.inr (8, [.ref (x + 1), .ref (x + 2), .ref (x + 3), .ref (x + 4), .ref (x + 7), .ref (x + 9), .int ((wkN (c, S) kq).1 0), .int ((wkN (c, S) kq).1 7), .int ((wkN (c, S) kq).1 12), .int ((wkN (c, S) kq).1 29), .int ((wkN (c, S) kq).1 30), .int ((wkN (c, S) kq).1 31), .int ((wkN (c, S) kq).1 32), .int ((wkN (c, S) kq).1 33)])) := hs2.1
    have hnow : ((wkN (c, S) kq).1 0).toInt = (c 0).toInt + kq := by
      rw [wkN_0]
      show (c 0 + nI kq).toInt = _
      rw [fb_addI] <;> rw [nI_toInt (by omega)] <;> omega
    refine lv_iload_n hx hb dX8_go_13 rfl (lv_at hl 2 rfl) ?_
    refine lv_iload_n hx hb dX8_go_14 rfl (lv_at hl 1 rfl) ?_
    refine lv_icmp_ge (tgt := 57) hx hb dX8_go_15 (by decide) (fun b15 => ?_) (fun b15 => ?_)
    · have hk3 := lp_ge hw0 (by omega) b15
      have hke : kq = min (tn wq) (1040 - tn (c 0)) := by omega
      refine lv_aload_n hx hb dX8_go_57 rfl (lv_at hl 0 rfl) ?_
      refine g_get (ci := 8) hx hb hts hin8 hown hK hP qx rfl 6 (by decide) hf45 rfl rfl dX8_go_58 ?_
      refine g_reti hx hb hr hlk hP hS dX8_go_61 ?_
      have hb7 : goB wq = true := b6
      exact ⟨by rw [goR, if_pos hb7, goU, if_pos hb7, ← hke], Nat.le_refl _, (ha, la, lt, wa, ww, wn), by rw [goU, if_pos hb7, ← hke]; exact hs2⟩
    · refine lv_aload_n hx hb dX8_go_18 rfl (lv_at hl 0 rfl) ?_
      refine g_get (ci := 8) hx hb hts hin8 hown hK hP qx rfl 6 (by decide) hf45 rfl rfl dX8_go_19 ?_
      refine lv_sipush (v := 1040) hx hb dX8_go_22 (by decide) ?_
      refine lv_icmp_ge (tgt := 57) hx hb dX8_go_25 (by decide) (fun b25 => ?_) (fun b25 => ?_)
      · have hz : (1040 : Int) ≤ ((wkN (c, S) kq).1 0).toInt := Int32.le_iff_toInt_le.mp b25
        rw [hnow] at hz
        have hke : kq = min (tn wq) (1040 - tn (c 0)) := by omega
        refine lv_aload_n hx hb dX8_go_57 rfl (lv_at hl 0 rfl) ?_
        refine g_get (ci := 8) hx hb hts hin8 hown hK hP qx rfl 6 (by decide) hf45 rfl rfl dX8_go_58 ?_
        refine g_reti hx hb hr hlk hP hS dX8_go_61 ?_
        have hb7 : goB wq = true := b6
        exact ⟨by rw [goR, if_pos hb7, goU, if_pos hb7, ← hke], Nat.le_refl _, (ha, la, lt, wa, ww, wn), by rw [goU, if_pos hb7, ← hke]; exact hs2⟩
      · have hk3 := lp_lt hw0 (by omega) b15
        have hz : ¬ (1040 : Int) ≤ ((wkN (c, S) kq).1 0).toInt := fun q => b25 (Int32.le_iff_toInt_le.mpr q)
        rw [hnow] at hz
        have hvn : vp_in ((wkN (c, S) kq).1 0) 1040 := vp_in_iff.mpr ⟨by omega, by omega⟩
        obtain ⟨fe, hE1, hE2⟩ := hs2.2.2.2.2.2.2.2.1
        have hE1 : G1 (x + 9) = some (.inl (E.2 0, 1040, .inl fe)) := hE1
        refine lv_aload_n hx hb dX8_go_28 rfl (lv_at hl 0 rfl) ?_
        refine lv_aload_n hx hb dX8_go_29 rfl (lv_at hl 0 rfl) ?_
        refine g_get (ci := 8) hx hb hts hin8 hown hK hP qx rfl 5 (by decide) hf41 rfl rfl dX8_go_30 ?_
        refine lv_aload_n hx hb dX8_go_33 rfl (lv_at hl 0 rfl) ?_
        refine g_get (ci := 8) hx hb hts hin8 hown hK hP qx rfl 6 (by decide) hf45 rfl rfl dX8_go_34 ?_
        refine g_iald hx hb hK hP hE1 hvn dX8_go_37 ?_
        rw [hE2 _ (tn_lt hvn)]
        have hlv24 : (wkN (c, S) kq).2 24 = S 24 := wk_S (c, S) 24 (by decide) (by decide) kq
        refine g_cv (g_runV (As := [.int ((wkN (c, S) kq).2 24 (tn ((wkN (c, S) kq).1 0)))]) (rest := []) ⟨hx, hb, hml, hown, hts⟩ hK hP (kX8_endWeek l E A n G1 x (wkN (c, S) kq).1 (wkN (c, S) kq).2 ((wkN (c, S) kq).2 24 (tn ((wkN (c, S) kq).1 0))) hs2.1 hs2.2.2.1 hs2.2.2.2.2.2.2.2.2.1 rfl (by rw [hlv24]; exact (hp.2.2.2.2.1 _ (tn_lt hvn)).1)) (cwV 1 hts gX8_go_X8_endWeek rfl rfl rfl (by decide +kernel) ⟨Nat.le_of_ble_eq_true rfl, Nat.le_of_ble_eq_true rfl⟩) qx rfl rfl hl.1 rfl (Nat.le_of_ble_eq_true rfl) dX8_go_38 ⟨Nat.le_of_ble_eq_true rfl, Nat.le_of_ble_eq_true rfl⟩) hS (fun n' G' H locs hw hP hS => ?_)
        obtain ⟨rfl, hA9, hRo9, hK9⟩ := hw
        have qx9 : G' x = some (.inr (8, [.ref (x + 1), .ref (x + 2), .ref (x + 3), .ref (x + 4), .ref (x + 7), .ref (x + 9), .int ((endN (wkN (c, S) kq) 30).1 0), .int ((endN (wkN (c, S) kq) 30).1 7), .int ((endN (wkN (c, S) kq) 30).1 12), .int ((endN (wkN (c, S) kq) 30).1 29), .int ((endN (wkN (c, S) kq) 30).1 30), .int ((endN (wkN (c, S) kq) 30).1 31), .int ((endN (wkN (c, S) kq) 30).1 32), .int ((endN (wkN (c, S) kq) 30).1 33)])) := hA9
        refine lv_aload_n hx hb dX8_go_41 rfl (lv_at hl 0 rfl) ?_
        refine lv_dup hx hb dX8_go_42 rfl ?_
        refine g_get (ci := 8) hx hb hts hin8 hown hK hP qx9 rfl 6 (by decide) hf45 rfl rfl dX8_go_43 ?_
        refine lv_iconst (v := 1) hx hb dX8_go_46 (by decide) ?_
        refine lv_iadd hx hb dX8_go_47 ?_
        refine g_put (ci := 8) (ty := .int) (v := .int (((endN (wkN (c, S) kq) 30).1 0) + 1)) hx hb hts hin8 tyX8 tyX8_ok nmX8 hown hK hP hS qx9 rfl 6 (by decide) hf45 rfl (Or.inl rfl) (by decide +kernel) rfl rfl (Nat.le_of_ble_eq_true rfl) dX8_go_48 (fun H locs hP hS => ?_)
        have q150_a : (gup G' x (.inr (8, [.ref (x + 1), .ref (x + 2), .ref (x + 3), .ref (x + 4), .ref (x + 7), .ref (x + 9), .int (((endN (wkN (c, S) kq) 30).1 0) + 1), .int ((endN (wkN (c, S) kq) 30).1 7), .int ((endN (wkN (c, S) kq) 30).1 12), .int ((endN (wkN (c, S) kq) 30).1 29), .int ((endN (wkN (c, S) kq) 30).1 30), .int ((endN (wkN (c, S) kq) 30).1 31), .int ((endN (wkN (c, S) kq) 30).1 32), .int ((endN (wkN (c, S) kq) 30).1 33)]))) x = some (.inr (8, [.ref (x + 1), .ref (x + 2), .ref (x + 3), .ref (x + 4), .ref (x + 7), .ref (x + 9), .int (((endN (wkN (c, S) kq) 30).1 0) + 1), .int ((endN (wkN (c, S) kq) 30).1 7), .int ((endN (wkN (c, S) kq) 30).1 12), .int ((endN (wkN (c, S) kq) 30).1 29), .int ((endN (wkN (c, S) kq) 30).1 30), .int ((endN (wkN (c, S) kq) 30).1 31), .int ((endN (wkN (c, S) kq) 30).1 32), .int ((endN (wkN (c, S) kq) 30).1 33)])) := gup_s
        have hP : gP E A n (gup G' x (.inr (8, [.ref (x + 1), .ref (x + 2), .ref (x + 3), .ref (x + 4), .ref (x + 7), .ref (x + 9), .int (((endN (wkN (c, S) kq) 30).1 0) + 1), .int ((endN (wkN (c, S) kq) 30).1 7), .int ((endN (wkN (c, S) kq) 30).1 12), .int ((endN (wkN (c, S) kq) 30).1 29), .int ((endN (wkN (c, S) kq) 30).1 30), .int ((endN (wkN (c, S) kq) 30).1 31), .int ((endN (wkN (c, S) kq) 30).1 32), .int ((endN (wkN (c, S) kq) 30).1 33)]))) H := hP
        have hSn : Sim E (gup G' x (.inr (8, [.ref (x + 1), .ref (x + 2), .ref (x + 3), .ref (x + 4), .ref (x + 7), .ref (x + 9), .int (((endN (wkN (c, S) kq) 30).1 0) + 1), .int ((endN (wkN (c, S) kq) 30).1 7), .int ((endN (wkN (c, S) kq) 30).1 12), .int ((endN (wkN (c, S) kq) 30).1 29), .int ((endN (wkN (c, S) kq) 30).1 30), .int ((endN (wkN (c, S) kq) 30).1 31), .int ((endN (wkN (c, S) kq) 30).1 32), .int ((endN (wkN (c, S) kq) 30).1 33)]))) x (wkN (c, S) (kq + 1)).1 (wkN (c, S) (kq + 1)).2 (ha, la, lt, wa, ww, wn) := by
          have e1 := wkN_s1 (c, S) kq
          have e2 := wkN_s2 (c, S) kq
          refine Sim_wk hs2 (by rw [e1]; exact q150_a) (by rw [e2]; exact sRo.kp (kp_up (e1 := .inr (8, [.ref (x + 1), .ref (x + 2), .ref (x + 3), .ref (x + 4), .ref (x + 7), .ref (x + 9), .int (((endN (wkN (c, S) kq) 30).1 0) + 1), .int ((endN (wkN (c, S) kq) 30).1 7), .int ((endN (wkN (c, S) kq) 30).1 12), .int ((endN (wkN (c, S) kq) 30).1 29), .int ((endN (wkN (c, S) kq) 30).1 30), .int ((endN (wkN (c, S) kq) 30).1 31), .int ((endN (wkN (c, S) kq) 30).1 32), .int ((endN (wkN (c, S) kq) 30).1 33)])) qx9) (kpn (by decide : (4 : Nat) ≠ 8)) hRo9) (kp_48 hK9 qx9 (Or.inr rfl) rfl) (fun j hj => ?_) (fun j h1 h4 => by rw [e2, endN_S _ j h1 h4]) ?_
          · rw [e1, va_up_ne _ _ (by omega), endN_c _ j (by omega)]
          · have g1 := tn_of (v := (wkN (c, S) kq).1 0) (by omega)
            have g2 : ((wkN (c, S) (kq + 1)).1 0).toInt = (c 0).toInt + (kq + 1 : Nat) := by
              rw [wkN_0]
              show (c 0 + nI (kq + 1)).toInt = _
              rw [fb_addI] <;> rw [nI_toInt (by omega)] <;> omega
            have g3 := tn_of (v := (wkN (c, S) (kq + 1)).1 0) (by omega)
            omega
        refine lv_iinc (v := (nI kq) + 1) (lv' := [(2, .int ((nI kq) + 1)), (0, .ref x), (1, .int wq)]) hx hb dX8_go_51 hl (k := 2) rfl rfl (by decide) rfl (fun ls hl => ?_)
        refine lv_goto (tgt := 13) hx hb dX8_go_54 (by decide) ?_
        refine ih (kq + 1, (gup G' x (.inr (8, [.ref (x + 1), .ref (x + 2), .ref (x + 3), .ref (x + 4), .ref (x + 7), .ref (x + 9), .int (((endN (wkN (c, S) kq) 30).1 0) + 1), .int ((endN (wkN (c, S) kq) 30).1 7), .int ((endN (wkN (c, S) kq) 30).1 12), .int ((endN (wkN (c, S) kq) 30).1 29), .int ((endN (wkN (c, S) kq) 30).1 30), .int ((endN (wkN (c, S) kq) 30).1 31), .int ((endN (wkN (c, S) kq) 30).1 32), .int ((endN (wkN (c, S) kq) 30).1 33)])))) ⟨by omega, by omega, hSn⟩ (by show tn wq - (kq + 1) < tn wq - kq; omega) H locs ls hP hS ?_
        show lv_has ls 3 [(0, .ref x), (1, .int wq), (2, .int (nI (kq + 1)))]
        rw [← nI_1 kq]
        exact lv_sub hl [1, 2, 0] rfl
  · refine lv_iconst (v := (-1)) hx hb dX8_go_9 (by decide) ?_
    refine g_reti hx hb hr hlk hP hS dX8_go_10 ?_
    have hb7 : ¬ goB wq = true := by rw [goB, b6]; decide
    exact ⟨by rw [goR, if_neg hb7], Nat.le_refl _, _, by rw [goU, if_neg hb7]; exact hs⟩
