theorem kp_fr1 {G G' : gH} {a : Nat} {e0 : va_E} (h0 : G a = some e0) (hk : kd e0 = 6 ∨ kd e0 = 7) (fr : ∀ (b : Nat) (e : va_E), b ≠ a → G b = some e → G' b = some e) : Kp [6, 7] G G' := fun b e q1 q2 => fr b e (fun z => by
  subst z; rw [h0] at q2; cases q2
  rcases hk with z | z <;> rw [z] at q1 <;> simp at q1) q2
theorem kp_fr2 {G G' : gH} {a a2 : Nat} {e0 e2 : va_E} (h0 : G a = some e0) (hk : kd e0 = 6 ∨ kd e0 = 7) (h2 : G a2 = some e2) (hk2 : kd e2 = 6 ∨ kd e2 = 7) (fr : ∀ (b : Nat) (e : va_E), b ≠ a → b ≠ a2 → G b = some e → G' b = some e) : Kp [6, 7] G G' := fun b e q1 q2 => fr b e (fun z => by
  subst z; rw [h0] at q2; cases q2
  rcases hk with z | z <;> rw [z] at q1 <;> simp at q1) (fun z => by
  subst z; rw [h2] at q2; cases q2
  rcases hk2 with z | z <;> rw [z] at q1 <;> simp at q1) q2
theorem dd_tn {v t : Nat} (hv : v < 8) (ht : t < 1040) : tn (1040 * nI v + nI t) = 1040 * v + t := did_tn hv ht

set_option maxHeartbeats 2000000 in
set_option maxRecDepth 100000 in
theorem kX8_work (l : Launch) (E : gT) (A : Nat → Prop) (n : Nat) (G : gH) (x : Nat) (c : Nat → Int32) (S : Nat → Nat → Int32) (Y : gL) (h a kq f : Int32) (hs : Sim E G x c S Y) (hp : pI c S) (hA : ∀ q, n ≤ q → A q) (hj : pJ c S)  : gM l yX8_work wsX8_work ({ frames := 3, cells := 1, slots := 3, locals := 68 } : Room) E A n G [.ref x, .int h, .int a, .int kq, .int f] (gQi E A (fun r' n' G' => (wrkR c S h a kq f) = r' ∧ n ≤ n' ∧ ∃ Y', Sim E G' x (wrkC c S h a kq f) (wrkS c S h a kq f) Y')) 1 3 := by
  refine g_entry (by decide) rfl (Nat.le_of_ble_eq_true rfl) ?_
  intro p e s m below meth c0 hx hb hr hlk hml hown hnm hts hK H locs ls hP hS hl
  have hin0 : ∀ w ∈ u_ws RX0 TX0 8, w ∈ wsX8_work := by decide +kernel
  have hin8 : ∀ w ∈ u_ws RX8 TX8 14, w ∈ wsX8_work := by decide +kernel
  have hf11 := hts (.fieldLink RX8 11 "DikeHands" "villages" "[LDikeHands$Village;") (by decide +kernel)
  have hf17 := hts (.fieldLink RX8 17 "DikeHands" "rods" "[LDikeHands$Rod;") (by decide +kernel)
  have hf23 := hts (.fieldLink RX8 23 "DikeHands" "houses" "[LDikeHands$House;") (by decide +kernel)
  have hf45 := hts (.fieldLink RX8 45 "DikeHands" "now" "I") (by decide +kernel)
  have hf61 := hts (.fieldLink RX8 61 "DikeHands" "daysDone" "I") (by decide +kernel)
  have hf152 := hts (.fieldLink RX8 152 "DikeHands$House" "byItself" "[I") (by decide +kernel)
  have hf159 := hts (.fieldLink RX8 159 "DikeHands$House" "substitute" "[I") (by decide +kernel)
  have hf162 := hts (.fieldLink RX8 162 "DikeHands$House" "bySubstitute" "[I") (by decide +kernel)
  have hf165 := hts (.fieldLink RX8 165 "DikeHands$House" "asSubstitute" "[I") (by decide +kernel)
  have hf168 := hts (.fieldLink RX8 168 "DikeHands$House" "home" "I") (by decide +kernel)
  have hl : lv_has ls 8 [(0, .ref x), (1, .int h), (2, .int a), (3, .int kq), (4, .int f)] := hl
  have h40 := le40 hp
  obtain ⟨ha, la, lt, wa, ww, wn⟩ := Y
  obtain ⟨hA1, hV, hR, hH1, hB, hL, hPl, hEv, hRo, hVi, hWk, hW, hHo, hHa, hHp⟩ := id hs
  try dsimp only at hH1 hL hVi hWk hW hHo hHa hHp
  obtain ⟨fV, hV1, hV2⟩ := id hV
  obtain ⟨fR, hR1, hR2⟩ := id hR
  obtain ⟨fH, hH2, hH3⟩ := id hH1
  have hPw := hP
  refine lv_aload_n hx hb dX8_work_0 rfl (lv_at hl 0 rfl) ?_
  refine lv_iload_n hx hb dX8_work_1 rfl (lv_at hl 1 rfl) ?_
  refine g_ci (g_runV (As := [.int h]) (rest := []) ⟨hx, hb, hml, hown, hts⟩ hK hP (kX8_isHouse l E A n G x c h hA1) (cwV 1 hts gX8_work_X8_isHouse rfl rfl rfl (by decide +kernel) ⟨Nat.le_of_ble_eq_true rfl, Nat.le_of_ble_eq_true rfl⟩) hA1 rfl rfl hl.1 rfl (Nat.le_of_ble_eq_true rfl) dX8_work_2 ⟨Nat.le_of_ble_eq_true rfl, Nat.le_of_ble_eq_true rfl⟩) hS (fun r2 n' G' H locs hw hP hS => ?_)
  obtain ⟨rfl, rfl, rfl⟩ := hw
  refine g_ifeq (tgt := 34) hx hb dX8_work_5 (by decide) (fun b5 => ?_) (fun b5 => ?_)
  · refine lv_iconst (v := (-1)) hx hb dX8_work_34 (by decide) ?_
    refine W.widen (k := 1) (n := 3) (by omega) (by omega) ?_
    refine g_reti hx hb hr hlk hP hS dX8_work_35 ?_
    have hB0 : wrkB c S h a kq f = false := by
      cases hz : wrkB c S h a kq f
      · rfl
      · exfalso
        simp only [wrkB, Bool.and_eq_true] at hz
        rw [b5] at hz; exact absurd hz.1.1.1.1.1 (by decide)
    exact ⟨by rw [wrkR, if_neg (by rw [hB0]; decide)], Nat.le_refl _, _, by rw [wrkS, wrkC, if_neg (by rw [hB0]; decide), if_neg (by rw [hB0]; decide)]; exact hs⟩
  · refine lv_iload_n hx hb dX8_work_8 rfl (lv_at hl 2 rfl) ?_
    refine g_ci (g_runS (As := [.int a]) (rest := []) ⟨hx, hb, hml, hown, hts⟩ hK hP (kX8_isRod l E A n G a) (va_cwS 1 hts gX8_work_X8_isRod rfl rfl rfl (by decide +kernel) ⟨Nat.le_of_ble_eq_true rfl, Nat.le_of_ble_eq_true rfl⟩) rfl hl.1 rfl (Nat.le_of_ble_eq_true rfl) dX8_work_9 ⟨Nat.le_of_ble_eq_true rfl, Nat.le_of_ble_eq_true rfl⟩) hS (fun r9 n' G' H locs hw hP hS => ?_)
    obtain ⟨rfl, rfl, rfl⟩ := hw
    refine g_ifeq (tgt := 34) hx hb dX8_work_12 (by decide) (fun b12 => ?_) (fun b12 => ?_)
    · refine lv_iconst (v := (-1)) hx hb dX8_work_34 (by decide) ?_
      refine W.widen (k := 1) (n := 3) (by omega) (by omega) ?_
      refine g_reti hx hb hr hlk hP hS dX8_work_35 ?_
      have hB0 : wrkB c S h a kq f = false := by
        cases hz : wrkB c S h a kq f
        · rfl
        · exfalso
          simp only [wrkB, Bool.and_eq_true] at hz
          rw [b12] at hz; exact absurd hz.1.1.1.2 (by decide)
      exact ⟨by rw [wrkR, if_neg (by rw [hB0]; decide)], Nat.le_refl _, _, by rw [wrkS, wrkC, if_neg (by rw [hB0]; decide), if_neg (by rw [hB0]; decide)]; exact hs⟩
    · refine lv_aload_n hx hb dX8_work_15 rfl (lv_at hl 0 rfl) ?_
      refine lv_iload hx hb dX8_work_16 (lv_at hl 4 rfl) ?_
      refine g_ci (g_runV (As := [.int f]) (rest := []) ⟨hx, hb, hml, hown, hts⟩ hK hP (kX8_isHouse l E A n G x c f hA1) (cwV 1 hts gX8_work_X8_isHouse rfl rfl rfl (by decide +kernel) ⟨Nat.le_of_ble_eq_true rfl, Nat.le_of_ble_eq_true rfl⟩) hA1 rfl rfl hl.1 rfl (Nat.le_of_ble_eq_true rfl) dX8_work_18 ⟨Nat.le_of_ble_eq_true rfl, Nat.le_of_ble_eq_true rfl⟩) hS (fun r18 n' G' H locs hw hP hS => ?_)
      obtain ⟨rfl, rfl, rfl⟩ := hw
      refine g_ifeq (tgt := 34) hx hb dX8_work_21 (by decide) (fun b21 => ?_) (fun b21 => ?_)
      · refine lv_iconst (v := (-1)) hx hb dX8_work_34 (by decide) ?_
        refine W.widen (k := 1) (n := 3) (by omega) (by omega) ?_
        refine g_reti hx hb hr hlk hP hS dX8_work_35 ?_
        have hB0 : wrkB c S h a kq f = false := by
          cases hz : wrkB c S h a kq f
          · rfl
          · exfalso
            simp only [wrkB, Bool.and_eq_true] at hz
            rw [b21] at hz; exact absurd hz.1.1.1.1.2 (by decide)
        exact ⟨by rw [wrkR, if_neg (by rw [hB0]; decide)], Nat.le_refl _, _, by rw [wrkS, wrkC, if_neg (by rw [hB0]; decide), if_neg (by rw [hB0]; decide)]; exact hs⟩
      · refine lv_aload_n hx hb dX8_work_24 rfl (lv_at hl 0 rfl) ?_
        refine g_get (ci := 8) hx hb hts hin8 hown hK hP hA1 rfl 6 (by decide) hf45 rfl rfl dX8_work_25 ?_
        refine lv_sipush (v := 1040) hx hb dX8_work_28 (by decide) ?_
        refine lv_icmp_lt (tgt := 36) hx hb dX8_work_31 (by decide) (fun b31 => ?_) (fun b31 => ?_)
        · obtain ⟨hiq, hh, rfl⟩ := hs_ix hp.1 b5
          obtain ⟨fiq, hf, rfl⟩ := hs_ix hp.1 b21
          have hy := yn_vp hp.1
          have hxh := hHp.1 hiq hh
          have hxf := hHp.1 fiq hf
          have htr := tn_lt (inB_vp (N := 30) b12 (by decide))
          have j0 := hp.1.1
          have t0_ := tn_of j0.1
          have hc0 := Int32.lt_iff_toInt_lt.mp b31
          have e1040 : (1040 : Int32).toInt = 1040 := rfl
          refine lv_aload_n hx hb dX8_work_36 rfl (lv_at hl 0 rfl) ?_
          refine g_ci (g_runV (As := []) (rest := []) ⟨hx, hb, hml, hown, hts⟩ hK hP (kX8_yearNow l E A n G x c hA1) (cwV 0 hts gX8_work_X8_yearNow rfl rfl rfl (by decide +kernel) ⟨Nat.le_of_ble_eq_true rfl, Nat.le_of_ble_eq_true rfl⟩) hA1 rfl rfl hl.1 rfl (Nat.le_of_ble_eq_true rfl) dX8_work_37 ⟨Nat.le_of_ble_eq_true rfl, Nat.le_of_ble_eq_true rfl⟩) hS (fun r37 n' G' H locs hw hP hS => ?_)
          obtain ⟨rfl, rfl, rfl⟩ := hw
          refine lv_istore (lv' := [(5, .int (c 0 / 52)), (0, .ref x), (1, .int (nI hiq)), (2, .int a), (3, .int kq), (4, .int (nI fiq))]) hx hb dX8_work_40 hl (by decide) rfl (fun ls hl => ?_)
          refine lv_aload_n hx hb dX8_work_42 rfl (lv_at hl 1 rfl) ?_
          refine g_get (ci := 8) hx hb hts hin8 hown hK hP hA1 rfl 2 (by decide) hf23 rfl rfl dX8_work_43 ?_
          refine lv_iload_n hx hb dX8_work_46 rfl (lv_at hl 2 rfl) ?_
          have fh47 := (hHo hiq hh).1
          refine g_aald (t0 := 2) (v := .ref (ha hiq)) hx hb hK hP hH2 rfl (vp_in_nI (by omega) (by decide)) (by rw [nI_clamp (by omega), hH3 hiq hh]; rfl) dX8_work_47 ?_
          refine lv_astore (lv' := [(6, .ref (ha hiq)), (5, .int (c 0 / 52)), (0, .ref x), (1, .int (nI hiq)), (2, .int a), (3, .int kq), (4, .int (nI fiq))]) hx hb dX8_work_48 hl (by decide) rfl (fun ls hl => ?_)
          refine lv_aload_n hx hb dX8_work_50 rfl (lv_at hl 2 rfl) ?_
          refine g_get (ci := 8) hx hb hts hin8 hown hK hP hA1 rfl 2 (by decide) hf23 rfl rfl dX8_work_51 ?_
          refine lv_iload hx hb dX8_work_54 (lv_at hl 6 rfl) ?_
          have fh56 := (hHo fiq hf).1
          refine g_aald (t0 := 2) (v := .ref (ha fiq)) hx hb hK hP hH2 rfl (vp_in_nI (by omega) (by decide)) (by rw [nI_clamp (by omega), hH3 fiq hf]; rfl) dX8_work_56 ?_
          refine lv_astore (lv' := [(7, .ref (ha fiq)), (6, .ref (ha hiq)), (5, .int (c 0 / 52)), (0, .ref x), (1, .int (nI hiq)), (2, .int a), (3, .int kq), (4, .int (nI fiq))]) hx hb dX8_work_57 hl (by decide) rfl (fun ls hl => ?_)
          refine lv_iload_n hx hb dX8_work_59 rfl (lv_at hl 6 rfl) ?_
          refine lv_iconst (v := 1) hx hb dX8_work_60 (by decide) ?_
          refine lv_icmp_lt (tgt := 76) hx hb dX8_work_61 (by decide) (fun b61 => ?_) (fun b61 => ?_)
          · refine lv_iconst (v := (-1)) hx hb dX8_work_76 (by decide) ?_
            refine W.widen (k := 1) (n := 3) (by omega) (by omega) ?_
            refine g_reti hx hb hr hlk hP hS dX8_work_77 ?_
            have hB0 : wrkB c S (nI hiq) a kq (nI fiq) = false := by
              cases hz : wrkB c S (nI hiq) a kq (nI fiq)
              · rfl
              · exfalso
                simp only [wrkB, Bool.and_eq_true] at hz
                have z := (inB_i hz.1.2).1; have := Int32.lt_iff_toInt_lt.mp b61; omega
            exact ⟨by rw [wrkR, if_neg (by rw [hB0]; decide)], Nat.le_refl _, _, by rw [wrkS, wrkC, if_neg (by rw [hB0]; decide), if_neg (by rw [hB0]; decide)]; exact hs⟩
          · refine lv_iload_n hx hb dX8_work_64 rfl (lv_at hl 6 rfl) ?_
            refine lv_aload_n hx hb dX8_work_65 rfl (lv_at hl 3 rfl) ?_
            refine lv_aload hx hb dX8_work_66 (lv_at hl 0 rfl) ?_
            refine lv_iload hx hb dX8_work_68 (lv_at hl 2 rfl) ?_
            refine g_ci (g_runV (As := [.ref (ha fiq), .int (c 0 / 52)]) (rest := [.int kq]) ⟨hx, hb, hml, hown, hts⟩ hK hP (kX8_daysOwedYet l E A n G x c S fiq (c 0 / 52) ha hA1 hB la hL lt hHo hHa hp hf hy) (cwV 2 hts gX8_work_X8_daysOwedYet rfl rfl rfl (by decide +kernel) ⟨Nat.le_of_ble_eq_true rfl, Nat.le_of_ble_eq_true rfl⟩) hA1 rfl rfl hl.1 rfl (Nat.le_of_ble_eq_true rfl) dX8_work_70 ⟨Nat.le_of_ble_eq_true rfl, Nat.le_of_ble_eq_true rfl⟩) hS (fun r70 n' G' H locs hw hP hS => ?_)
            obtain ⟨rfl, rfl, rfl⟩ := hw
            refine lv_icmp_le (tgt := 78) hx hb dX8_work_73 (by decide) (fun b73 => ?_) (fun b73 => ?_)
            · refine lv_iload_n hx hb dX8_work_78 rfl (lv_at hl 4 rfl) ?_
              refine lv_iload hx hb dX8_work_79 (lv_at hl 7 rfl) ?_
              refine lv_icmp_ne (tgt := 99) hx hb dX8_work_81 (by decide) (fun b81 => ?_) (fun b81 => ?_)
              · refine lv_aload_n hx hb dX8_work_99 rfl (lv_at hl 3 rfl) ?_
                refine lv_iload_n hx hb dX8_work_100 rfl (lv_at hl 4 rfl) ?_
                refine lv_aload hx hb dX8_work_101 (lv_at hl 0 rfl) ?_
                refine lv_iload hx hb dX8_work_103 (lv_at hl 2 rfl) ?_
                refine g_ci (g_runV (As := [.int (nI hiq), .ref (ha fiq), .int (c 0 / 52)]) (rest := []) ⟨hx, hb, hml, hown, hts⟩ hK hP (kX8_canSubstitute l E A n G x c S hiq fiq (c 0 / 52) hA1 ha hH1 lt hHo hHa hp hh hf hy) (cwV 3 hts gX8_work_X8_canSubstitute rfl rfl rfl (by decide +kernel) ⟨Nat.le_of_ble_eq_true rfl, Nat.le_of_ble_eq_true rfl⟩) hA1 rfl rfl hl.1 rfl (Nat.le_of_ble_eq_true rfl) dX8_work_105 ⟨Nat.le_of_ble_eq_true rfl, Nat.le_of_ble_eq_true rfl⟩) hS (fun r105 n' G' H locs hw hP hS => ?_)
                obtain ⟨rfl, rfl, rfl⟩ := hw
                refine g_ifeq (tgt := 147) hx hb dX8_work_108 (by decide) (fun b108 => ?_) (fun b108 => ?_)
                · refine lv_iconst (v := (-1)) hx hb dX8_work_147 (by decide) ?_
                  refine W.widen (k := 1) (n := 3) (by omega) (by omega) ?_
                  refine g_reti hx hb hr hlk hP hS dX8_work_148 ?_
                  have hB0 : wrkB c S (nI hiq) a kq (nI fiq) = false := by
                    cases hz : wrkB c S (nI hiq) a kq (nI fiq)
                    · rfl
                    · exfalso
                      simp only [wrkB, Bool.and_eq_true] at hz
                      have z := hz.2
                      rw [tn_nI (by omega), tn_nI (by omega), yk_tn (by omega) hy] at z
                      simp [b81] at z
                      simp [z.1] at b108
                      rcases z.2 with y | y <;> simp [y] at b108
                  exact ⟨by rw [wrkR, if_neg (by rw [hB0]; decide)], Nat.le_refl _, _, by rw [wrkS, wrkC, if_neg (by rw [hB0]; decide), if_neg (by rw [hB0]; decide)]; exact hs⟩
                · have hfh : hiq ≠ fiq := fun z => b81 (by rw [z])
                  have hsp : ha hiq + 5 < ha fiq ∨ ha fiq + 5 < ha hiq := by
                    rcases Nat.lt_or_ge hiq fiq with z | z
                    · exact Or.inl (hHp.2 hiq fiq z hf)
                    · exact Or.inr (hHp.2 fiq hiq (by omega) hh)
                  obtain ⟨f2, g2, u2⟩ := hHa fiq hf 1 (by decide)
                  have g2 : G (ha fiq + 2) = some (.inl (E.2 0, 21, .inl f2)) := g2
                  obtain ⟨f5, g5, u5⟩ := hHa fiq hf 4 (by decide)
                  have g5 : G (ha fiq + 5) = some (.inl (E.2 0, 21, .inl f5)) := g5
                  obtain ⟨f4, g4, u4⟩ := hHa hiq hh 3 (by decide)
                  have g4 : G (ha hiq + 4) = some (.inl (E.2 0, 21, .inl f4)) := g4
                  refine lv_aload hx hb dX8_work_111 (lv_at hl 0 rfl) ?_
                  refine g_get (ci := 0) hx hb hts hin0 hown hK hP fh56 rfl 6 (by decide) hf159 rfl rfl dX8_work_113 ?_
                  refine lv_iload hx hb dX8_work_116 (lv_at hl 2 rfl) ?_
                  refine lv_iload_n hx hb dX8_work_118 rfl (lv_at hl 4 rfl) ?_
                  refine g_iast hx hb hK hP hS g5 hy dX8_work_119 (fun H locs hP hS => ?_)
                  have q151_0 : (gup G (ha fiq + 5) (.inl (E.2 0, 21, .inl (upd f5 (tn (c 0 / 52)) (nI hiq))))) x = some (.inr (8, [.ref (x + 1), .ref (x + 2), .ref (x + 3), .ref (x + 4), .ref (x + 7), .ref (x + 9), .int (c 0), .int (c 7), .int (c 12), .int (c 29), .int (c 30), .int (c 31), .int (c 32), .int (c 33)])) := (gup_n (ne_oa hA1 g5)).trans hA1
                  have q151_1 : (gup G (ha fiq + 5) (.inl (E.2 0, 21, .inl (upd f5 (tn (c 0 / 52)) (nI hiq))))) (x + 1) = some (.inl (E.2 5, 8, .inr (.inr (.inr (.inr fV))))) := (gup_n (by omega)).trans hV1
                  have q151_2 : (gup G (ha fiq + 5) (.inl (E.2 0, 21, .inl (upd f5 (tn (c 0 / 52)) (nI hiq))))) (x + 2) = some (.inl (E.2 4, 30, .inr (.inr (.inr (.inr fR))))) := (gup_n (by omega)).trans hR1
                  have q151_3 : (gup G (ha fiq + 5) (.inl (E.2 0, 21, .inl (upd f5 (tn (c 0 / 52)) (nI hiq))))) (x + 3) = some (.inl (E.2 2, 40, .inr (.inr (.inr (.inr fH))))) := (gup_n (by omega)).trans hH2
                  have q151_4 : (gup G (ha fiq + 5) (.inl (E.2 0, 21, .inl (upd f5 (tn (c 0 / 52)) (nI hiq))))) (ha hiq) = some (.inr (0, [.int (S 6 hiq), .int (S 7 hiq), .ref (ha hiq + 1), .ref (ha hiq + 2), .ref (ha hiq + 3), .ref (ha hiq + 4), .ref (ha hiq + 5), va_rf (lt hiq)])) := (gup_n (ne_oa fh47 g5)).trans fh47
                  have q151_5 : (gup G (ha fiq + 5) (.inl (E.2 0, 21, .inl (upd f5 (tn (c 0 / 52)) (nI hiq))))) (ha fiq) = some (.inr (0, [.int (S 6 fiq), .int (S 7 fiq), .ref (ha fiq + 1), .ref (ha fiq + 2), .ref (ha fiq + 3), .ref (ha fiq + 4), .ref (ha fiq + 5), va_rf (lt fiq)])) := (gup_n (ne_oa fh56 g5)).trans fh56
                  have q151_6 : (gup G (ha fiq + 5) (.inl (E.2 0, 21, .inl (upd f5 (tn (c 0 / 52)) (nI hiq))))) (ha fiq + 2) = some (.inl (E.2 0, 21, .inl f2)) := (gup_n (by omega)).trans g2
                  have q151_7 : (gup G (ha fiq + 5) (.inl (E.2 0, 21, .inl (upd f5 (tn (c 0 / 52)) (nI hiq))))) (ha hiq + 4) = some (.inl (E.2 0, 21, .inl f4)) := (gup_n (by omega)).trans g4
                  have q151_a : (gup G (ha fiq + 5) (.inl (E.2 0, 21, .inl (upd f5 (tn (c 0 / 52)) (nI hiq))))) (ha fiq + 5) = some (.inl (E.2 0, 21, .inl (upd f5 (tn (c 0 / 52)) (nI hiq)))) := gup_s
                  have hP : gP E A n (gup G (ha fiq + 5) (.inl (E.2 0, 21, .inl (upd f5 (tn (c 0 / 52)) (nI hiq))))) H := hP
                  have hA1_152 := sA.kp (kp_up (e1 := .inl (E.2 0, 21, .inl (upd f5 (tn (c 0 / 52)) (nI hiq)))) g5) (kpn (by decide : (8 : Nat) ≠ 20)) hA1
                  have hV_152 := sV.kp (kp_up (e1 := .inl (E.2 0, 21, .inl (upd f5 (tn (c 0 / 52)) (nI hiq)))) g5) (kpn (by decide : (22 : Nat) ≠ 20)) hV
                  have hR_152 := sR.kp (kp_up (e1 := .inl (E.2 0, 21, .inl (upd f5 (tn (c 0 / 52)) (nI hiq)))) g5) (kpn (by decide : (22 : Nat) ≠ 20)) hR
                  have hH1_152 := sH.kp (kp_up (e1 := .inl (E.2 0, 21, .inl (upd f5 (tn (c 0 / 52)) (nI hiq)))) g5) (kpn (by decide : (22 : Nat) ≠ 20)) hH1
                  have hB_152 := sB.kp (kp_up (e1 := .inl (E.2 0, 21, .inl (upd f5 (tn (c 0 / 52)) (nI hiq)))) g5) (kpn (by decide : (2 : Nat) ≠ 20)) (kpn (by decide : (1 : Nat) ≠ 20)) hB
                  have hL_152 := sL.kp (kp_up (e1 := .inl (E.2 0, 21, .inl (upd f5 (tn (c 0 / 52)) (nI hiq)))) g5) (kpn (by decide : (22 : Nat) ≠ 20)) (kpn (by decide : (1 : Nat) ≠ 20)) hL
                  have hPl_152 := sP.kp (kp_up (e1 := .inl (E.2 0, 21, .inl (upd f5 (tn (c 0 / 52)) (nI hiq)))) g5) (kpn (by decide : (21 : Nat) ≠ 20)) (kpn (by decide : (3 : Nat) ≠ 20)) hPl
                  have hRo_152 := sRo.kp (kp_up (e1 := .inl (E.2 0, 21, .inl (upd f5 (tn (c 0 / 52)) (nI hiq)))) g5) (kpn (by decide : (4 : Nat) ≠ 20)) hRo
                  have hVi_152 := sVi.kp (kp_up (e1 := .inl (E.2 0, 21, .inl (upd f5 (tn (c 0 / 52)) (nI hiq)))) g5) (kpn (by decide : (6 : Nat) ≠ 20)) hVi
                  have hWk_152 := sWk.kp (kp_up (e1 := .inl (E.2 0, 21, .inl (upd f5 (tn (c 0 / 52)) (nI hiq)))) g5) (kpn (by decide : (7 : Nat) ≠ 20)) hWk
                  have hHo_152 := sHo.kp (kp_up (e1 := .inl (E.2 0, 21, .inl (upd f5 (tn (c 0 / 52)) (nI hiq)))) g5) (kpn (by decide : (0 : Nat) ≠ 20)) (kpn (by decide : (5 : Nat) ≠ 20)) hHo
                  have hHa_a := sHa_put (S' := va_up S 22 (upd (S 22) (21 * fiq + tn (c 0 / 52)) (nI hiq))) (j := 4) (y := tn (c 0 / 52)) hHp hf (by decide) (tn_lt hy) g5 hHa rfl
                  have hEv_a := sE_ne (e := .inl (E.2 0, 21, .inl (upd f5 (tn (c 0 / 52)) (nI hiq)))) (a := ha fiq + 5) (by omega) hEv
                  refine lv_aload hx hb dX8_work_120 (lv_at hl 0 rfl) ?_
                  refine g_get (ci := 0) hx hb hts hin0 hown hK hP q151_5 rfl 3 (by decide) hf162 rfl rfl dX8_work_122 ?_
                  refine lv_iload hx hb dX8_work_125 (lv_at hl 2 rfl) ?_
                  refine lv_dup2_11 hx hb dX8_work_127 rfl rfl ?_
                  refine g_iald hx hb hK hP q151_6 hy dX8_work_128 ?_
                  refine lv_iload_n hx hb dX8_work_129 rfl (lv_at hl 6 rfl) ?_
                  refine lv_iadd hx hb dX8_work_130 ?_
                  refine g_iast hx hb hK hP hS q151_6 hy dX8_work_131 (fun H locs hP hS => ?_)
                  have q153_0 : (gup (gup G (ha fiq + 5) (.inl (E.2 0, 21, .inl (upd f5 (tn (c 0 / 52)) (nI hiq))))) (ha fiq + 2) (.inl (E.2 0, 21, .inl (upd f2 (tn (c 0 / 52)) ((f2 (tn (c 0 / 52))) + kq))))) x = some (.inr (8, [.ref (x + 1), .ref (x + 2), .ref (x + 3), .ref (x + 4), .ref (x + 7), .ref (x + 9), .int (c 0), .int (c 7), .int (c 12), .int (c 29), .int (c 30), .int (c 31), .int (c 32), .int (c 33)])) := (gup_n (ne_oa q151_0 q151_6)).trans q151_0
                  have q153_1 : (gup (gup G (ha fiq + 5) (.inl (E.2 0, 21, .inl (upd f5 (tn (c 0 / 52)) (nI hiq))))) (ha fiq + 2) (.inl (E.2 0, 21, .inl (upd f2 (tn (c 0 / 52)) ((f2 (tn (c 0 / 52))) + kq))))) (x + 1) = some (.inl (E.2 5, 8, .inr (.inr (.inr (.inr fV))))) := (gup_n (by omega)).trans q151_1
                  have q153_2 : (gup (gup G (ha fiq + 5) (.inl (E.2 0, 21, .inl (upd f5 (tn (c 0 / 52)) (nI hiq))))) (ha fiq + 2) (.inl (E.2 0, 21, .inl (upd f2 (tn (c 0 / 52)) ((f2 (tn (c 0 / 52))) + kq))))) (x + 2) = some (.inl (E.2 4, 30, .inr (.inr (.inr (.inr fR))))) := (gup_n (by omega)).trans q151_2
                  have q153_3 : (gup (gup G (ha fiq + 5) (.inl (E.2 0, 21, .inl (upd f5 (tn (c 0 / 52)) (nI hiq))))) (ha fiq + 2) (.inl (E.2 0, 21, .inl (upd f2 (tn (c 0 / 52)) ((f2 (tn (c 0 / 52))) + kq))))) (x + 3) = some (.inl (E.2 2, 40, .inr (.inr (.inr (.inr fH))))) := (gup_n (by omega)).trans q151_3
                  have q153_4 : (gup (gup G (ha fiq + 5) (.inl (E.2 0, 21, .inl (upd f5 (tn (c 0 / 52)) (nI hiq))))) (ha fiq + 2) (.inl (E.2 0, 21, .inl (upd f2 (tn (c 0 / 52)) ((f2 (tn (c 0 / 52))) + kq))))) (ha hiq) = some (.inr (0, [.int (S 6 hiq), .int (S 7 hiq), .ref (ha hiq + 1), .ref (ha hiq + 2), .ref (ha hiq + 3), .ref (ha hiq + 4), .ref (ha hiq + 5), va_rf (lt hiq)])) := (gup_n (ne_oa q151_4 q151_6)).trans q151_4
                  have q153_5 : (gup (gup G (ha fiq + 5) (.inl (E.2 0, 21, .inl (upd f5 (tn (c 0 / 52)) (nI hiq))))) (ha fiq + 2) (.inl (E.2 0, 21, .inl (upd f2 (tn (c 0 / 52)) ((f2 (tn (c 0 / 52))) + kq))))) (ha fiq) = some (.inr (0, [.int (S 6 fiq), .int (S 7 fiq), .ref (ha fiq + 1), .ref (ha fiq + 2), .ref (ha fiq + 3), .ref (ha fiq + 4), .ref (ha fiq + 5), va_rf (lt fiq)])) := (gup_n (ne_oa q151_5 q151_6)).trans q151_5
                  have q153_6 : (gup (gup G (ha fiq + 5) (.inl (E.2 0, 21, .inl (upd f5 (tn (c 0 / 52)) (nI hiq))))) (ha fiq + 2) (.inl (E.2 0, 21, .inl (upd f2 (tn (c 0 / 52)) ((f2 (tn (c 0 / 52))) + kq))))) (ha hiq + 4) = some (.inl (E.2 0, 21, .inl f4)) := (gup_n (by omega)).trans q151_7
                  have q153_7 : (gup (gup G (ha fiq + 5) (.inl (E.2 0, 21, .inl (upd f5 (tn (c 0 / 52)) (nI hiq))))) (ha fiq + 2) (.inl (E.2 0, 21, .inl (upd f2 (tn (c 0 / 52)) ((f2 (tn (c 0 / 52))) + kq))))) (ha fiq + 5) = some (.inl (E.2 0, 21, .inl (upd f5 (tn (c 0 / 52)) (nI hiq)))) := (gup_n (by omega)).trans q151_a
                  have q153_a : (gup (gup G (ha fiq + 5) (.inl (E.2 0, 21, .inl (upd f5 (tn (c 0 / 52)) (nI hiq))))) (ha fiq + 2) (.inl (E.2 0, 21, .inl (upd f2 (tn (c 0 / 52)) ((f2 (tn (c 0 / 52))) + kq))))) (ha fiq + 2) = some (.inl (E.2 0, 21, .inl (upd f2 (tn (c 0 / 52)) ((f2 (tn (c 0 / 52))) + kq)))) := gup_s
                  have hP : gP E A n (gup (gup G (ha fiq + 5) (.inl (E.2 0, 21, .inl (upd f5 (tn (c 0 / 52)) (nI hiq))))) (ha fiq + 2) (.inl (E.2 0, 21, .inl (upd f2 (tn (c 0 / 52)) ((f2 (tn (c 0 / 52))) + kq))))) H := hP
                  have hA1_154 := sA.kp (kp_up (e1 := .inl (E.2 0, 21, .inl (upd f2 (tn (c 0 / 52)) ((f2 (tn (c 0 / 52))) + kq)))) q151_6) (kpn (by decide : (8 : Nat) ≠ 20)) hA1_152
                  have hV_154 := sV.kp (kp_up (e1 := .inl (E.2 0, 21, .inl (upd f2 (tn (c 0 / 52)) ((f2 (tn (c 0 / 52))) + kq)))) q151_6) (kpn (by decide : (22 : Nat) ≠ 20)) hV_152
                  have hR_154 := sR.kp (kp_up (e1 := .inl (E.2 0, 21, .inl (upd f2 (tn (c 0 / 52)) ((f2 (tn (c 0 / 52))) + kq)))) q151_6) (kpn (by decide : (22 : Nat) ≠ 20)) hR_152
                  have hH1_154 := sH.kp (kp_up (e1 := .inl (E.2 0, 21, .inl (upd f2 (tn (c 0 / 52)) ((f2 (tn (c 0 / 52))) + kq)))) q151_6) (kpn (by decide : (22 : Nat) ≠ 20)) hH1_152
                  have hB_154 := sB.kp (kp_up (e1 := .inl (E.2 0, 21, .inl (upd f2 (tn (c 0 / 52)) ((f2 (tn (c 0 / 52))) + kq)))) q151_6) (kpn (by decide : (2 : Nat) ≠ 20)) (kpn (by decide : (1 : Nat) ≠ 20)) hB_152
                  have hL_154 := sL.kp (kp_up (e1 := .inl (E.2 0, 21, .inl (upd f2 (tn (c 0 / 52)) ((f2 (tn (c 0 / 52))) + kq)))) q151_6) (kpn (by decide : (22 : Nat) ≠ 20)) (kpn (by decide : (1 : Nat) ≠ 20)) hL_152
                  have hPl_154 := sP.kp (kp_up (e1 := .inl (E.2 0, 21, .inl (upd f2 (tn (c 0 / 52)) ((f2 (tn (c 0 / 52))) + kq)))) q151_6) (kpn (by decide : (21 : Nat) ≠ 20)) (kpn (by decide : (3 : Nat) ≠ 20)) hPl_152
                  have hRo_154 := sRo.kp (kp_up (e1 := .inl (E.2 0, 21, .inl (upd f2 (tn (c 0 / 52)) ((f2 (tn (c 0 / 52))) + kq)))) q151_6) (kpn (by decide : (4 : Nat) ≠ 20)) hRo_152
                  have hVi_154 := sVi.kp (kp_up (e1 := .inl (E.2 0, 21, .inl (upd f2 (tn (c 0 / 52)) ((f2 (tn (c 0 / 52))) + kq)))) q151_6) (kpn (by decide : (6 : Nat) ≠ 20)) hVi_152
                  have hWk_154 := sWk.kp (kp_up (e1 := .inl (E.2 0, 21, .inl (upd f2 (tn (c 0 / 52)) ((f2 (tn (c 0 / 52))) + kq)))) q151_6) (kpn (by decide : (7 : Nat) ≠ 20)) hWk_152
                  have hHo_154 := sHo.kp (kp_up (e1 := .inl (E.2 0, 21, .inl (upd f2 (tn (c 0 / 52)) ((f2 (tn (c 0 / 52))) + kq)))) q151_6) (kpn (by decide : (0 : Nat) ≠ 20)) (kpn (by decide : (5 : Nat) ≠ 20)) hHo_152
                  have hHa_b := sHa_put (S' := va_up (va_up S 22 (upd (S 22) (21 * fiq + tn (c 0 / 52)) (nI hiq))) 19 (upd ((va_up S 22 (upd (S 22) (21 * fiq + tn (c 0 / 52)) (nI hiq))) 19) (21 * fiq + tn (c 0 / 52)) (f2 (tn (c 0 / 52)) + kq))) (j := 1) (y := tn (c 0 / 52)) hHp hf (by decide) (tn_lt hy) q151_6 hHa_a rfl
                  have hEv_b := sE_ne (e := .inl (E.2 0, 21, .inl (upd f2 (tn (c 0 / 52)) ((f2 (tn (c 0 / 52))) + kq)))) (a := ha fiq + 2) (by omega) hEv_a
                  refine lv_aload hx hb dX8_work_132 (lv_at hl 1 rfl) ?_
                  refine g_get (ci := 0) hx hb hts hin0 hown hK hP q153_4 rfl 5 (by decide) hf165 rfl rfl dX8_work_134 ?_
                  refine lv_iload hx hb dX8_work_137 (lv_at hl 2 rfl) ?_
                  refine lv_dup2_11 hx hb dX8_work_139 rfl rfl ?_
                  refine g_iald hx hb hK hP q153_6 hy dX8_work_140 ?_
                  refine lv_iload_n hx hb dX8_work_141 rfl (lv_at hl 6 rfl) ?_
                  refine lv_iadd hx hb dX8_work_142 ?_
                  refine g_iast hx hb hK hP hS q153_6 hy dX8_work_143 (fun H locs hP hS => ?_)
                  have q155_0 : (gup (gup (gup G (ha fiq + 5) (.inl (E.2 0, 21, .inl (upd f5 (tn (c 0 / 52)) (nI hiq))))) (ha fiq + 2) (.inl (E.2 0, 21, .inl (upd f2 (tn (c 0 / 52)) ((f2 (tn (c 0 / 52))) + kq))))) (ha hiq + 4) (.inl (E.2 0, 21, .inl (upd f4 (tn (c 0 / 52)) ((f4 (tn (c 0 / 52))) + kq))))) x = some (.inr (8, [.ref (x + 1), .ref (x + 2), .ref (x + 3), .ref (x + 4), .ref (x + 7), .ref (x + 9), .int (c 0), .int (c 7), .int (c 12), .int (c 29), .int (c 30), .int (c 31), .int (c 32), .int (c 33)])) := (gup_n (ne_oa q153_0 q153_6)).trans q153_0
                  have q155_1 : (gup (gup (gup G (ha fiq + 5) (.inl (E.2 0, 21, .inl (upd f5 (tn (c 0 / 52)) (nI hiq))))) (ha fiq + 2) (.inl (E.2 0, 21, .inl (upd f2 (tn (c 0 / 52)) ((f2 (tn (c 0 / 52))) + kq))))) (ha hiq + 4) (.inl (E.2 0, 21, .inl (upd f4 (tn (c 0 / 52)) ((f4 (tn (c 0 / 52))) + kq))))) (x + 1) = some (.inl (E.2 5, 8, .inr (.inr (.inr (.inr fV))))) := (gup_n (by omega)).trans q153_1
                  have q155_2 : (gup (gup (gup G (ha fiq + 5) (.inl (E.2 0, 21, .inl (upd f5 (tn (c 0 / 52)) (nI hiq))))) (ha fiq + 2) (.inl (E.2 0, 21, .inl (upd f2 (tn (c 0 / 52)) ((f2 (tn (c 0 / 52))) + kq))))) (ha hiq + 4) (.inl (E.2 0, 21, .inl (upd f4 (tn (c 0 / 52)) ((f4 (tn (c 0 / 52))) + kq))))) (x + 2) = some (.inl (E.2 4, 30, .inr (.inr (.inr (.inr fR))))) := (gup_n (by omega)).trans q153_2
                  have q155_3 : (gup (gup (gup G (ha fiq + 5) (.inl (E.2 0, 21, .inl (upd f5 (tn (c 0 / 52)) (nI hiq))))) (ha fiq + 2) (.inl (E.2 0, 21, .inl (upd f2 (tn (c 0 / 52)) ((f2 (tn (c 0 / 52))) + kq))))) (ha hiq + 4) (.inl (E.2 0, 21, .inl (upd f4 (tn (c 0 / 52)) ((f4 (tn (c 0 / 52))) + kq))))) (x + 3) = some (.inl (E.2 2, 40, .inr (.inr (.inr (.inr fH))))) := (gup_n (by omega)).trans q153_3
                  have q155_4 : (gup (gup (gup G (ha fiq + 5) (.inl (E.2 0, 21, .inl (upd f5 (tn (c 0 / 52)) (nI hiq))))) (ha fiq + 2) (.inl (E.2 0, 21, .inl (upd f2 (tn (c 0 / 52)) ((f2 (tn (c 0 / 52))) + kq))))) (ha hiq + 4) (.inl (E.2 0, 21, .inl (upd f4 (tn (c 0 / 52)) ((f4 (tn (c 0 / 52))) + kq))))) (ha hiq) = some (.inr (0, [.int (S 6 hiq), .int (S 7 hiq), .ref (ha hiq + 1), .ref (ha hiq + 2), .ref (ha hiq + 3), .ref (ha hiq + 4), .ref (ha hiq + 5), va_rf (lt hiq)])) := (gup_n (ne_oa q153_4 q153_6)).trans q153_4
                  have q155_5 : (gup (gup (gup G (ha fiq + 5) (.inl (E.2 0, 21, .inl (upd f5 (tn (c 0 / 52)) (nI hiq))))) (ha fiq + 2) (.inl (E.2 0, 21, .inl (upd f2 (tn (c 0 / 52)) ((f2 (tn (c 0 / 52))) + kq))))) (ha hiq + 4) (.inl (E.2 0, 21, .inl (upd f4 (tn (c 0 / 52)) ((f4 (tn (c 0 / 52))) + kq))))) (ha fiq) = some (.inr (0, [.int (S 6 fiq), .int (S 7 fiq), .ref (ha fiq + 1), .ref (ha fiq + 2), .ref (ha fiq + 3), .ref (ha fiq + 4), .ref (ha fiq + 5), va_rf (lt fiq)])) := (gup_n (ne_oa q153_5 q153_6)).trans q153_5
                  have q155_6 : (gup (gup (gup G (ha fiq + 5) (.inl (E.2 0, 21, .inl (upd f5 (tn (c 0 / 52)) (nI hiq))))) (ha fiq + 2) (.inl (E.2 0, 21, .inl (upd f2 (tn (c 0 / 52)) ((f2 (tn (c 0 / 52))) + kq))))) (ha hiq + 4) (.inl (E.2 0, 21, .inl (upd f4 (tn (c 0 / 52)) ((f4 (tn (c 0 / 52))) + kq))))) (ha fiq + 5) = some (.inl (E.2 0, 21, .inl (upd f5 (tn (c 0 / 52)) (nI hiq)))) := (gup_n (by omega)).trans q153_7
                  have q155_7 : (gup (gup (gup G (ha fiq + 5) (.inl (E.2 0, 21, .inl (upd f5 (tn (c 0 / 52)) (nI hiq))))) (ha fiq + 2) (.inl (E.2 0, 21, .inl (upd f2 (tn (c 0 / 52)) ((f2 (tn (c 0 / 52))) + kq))))) (ha hiq + 4) (.inl (E.2 0, 21, .inl (upd f4 (tn (c 0 / 52)) ((f4 (tn (c 0 / 52))) + kq))))) (ha fiq + 2) = some (.inl (E.2 0, 21, .inl (upd f2 (tn (c 0 / 52)) ((f2 (tn (c 0 / 52))) + kq)))) := (gup_n (by omega)).trans q153_a
                  have q155_a : (gup (gup (gup G (ha fiq + 5) (.inl (E.2 0, 21, .inl (upd f5 (tn (c 0 / 52)) (nI hiq))))) (ha fiq + 2) (.inl (E.2 0, 21, .inl (upd f2 (tn (c 0 / 52)) ((f2 (tn (c 0 / 52))) + kq))))) (ha hiq + 4) (.inl (E.2 0, 21, .inl (upd f4 (tn (c 0 / 52)) ((f4 (tn (c 0 / 52))) + kq))))) (ha hiq + 4) = some (.inl (E.2 0, 21, .inl (upd f4 (tn (c 0 / 52)) ((f4 (tn (c 0 / 52))) + kq)))) := gup_s
                  have hP : gP E A n (gup (gup (gup G (ha fiq + 5) (.inl (E.2 0, 21, .inl (upd f5 (tn (c 0 / 52)) (nI hiq))))) (ha fiq + 2) (.inl (E.2 0, 21, .inl (upd f2 (tn (c 0 / 52)) ((f2 (tn (c 0 / 52))) + kq))))) (ha hiq + 4) (.inl (E.2 0, 21, .inl (upd f4 (tn (c 0 / 52)) ((f4 (tn (c 0 / 52))) + kq))))) H := hP
                  have hA1_156 := sA.kp (kp_up (e1 := .inl (E.2 0, 21, .inl (upd f4 (tn (c 0 / 52)) ((f4 (tn (c 0 / 52))) + kq)))) q153_6) (kpn (by decide : (8 : Nat) ≠ 20)) hA1_154
                  have hV_156 := sV.kp (kp_up (e1 := .inl (E.2 0, 21, .inl (upd f4 (tn (c 0 / 52)) ((f4 (tn (c 0 / 52))) + kq)))) q153_6) (kpn (by decide : (22 : Nat) ≠ 20)) hV_154
                  have hR_156 := sR.kp (kp_up (e1 := .inl (E.2 0, 21, .inl (upd f4 (tn (c 0 / 52)) ((f4 (tn (c 0 / 52))) + kq)))) q153_6) (kpn (by decide : (22 : Nat) ≠ 20)) hR_154
                  have hH1_156 := sH.kp (kp_up (e1 := .inl (E.2 0, 21, .inl (upd f4 (tn (c 0 / 52)) ((f4 (tn (c 0 / 52))) + kq)))) q153_6) (kpn (by decide : (22 : Nat) ≠ 20)) hH1_154
                  have hB_156 := sB.kp (kp_up (e1 := .inl (E.2 0, 21, .inl (upd f4 (tn (c 0 / 52)) ((f4 (tn (c 0 / 52))) + kq)))) q153_6) (kpn (by decide : (2 : Nat) ≠ 20)) (kpn (by decide : (1 : Nat) ≠ 20)) hB_154
                  have hL_156 := sL.kp (kp_up (e1 := .inl (E.2 0, 21, .inl (upd f4 (tn (c 0 / 52)) ((f4 (tn (c 0 / 52))) + kq)))) q153_6) (kpn (by decide : (22 : Nat) ≠ 20)) (kpn (by decide : (1 : Nat) ≠ 20)) hL_154
                  have hPl_156 := sP.kp (kp_up (e1 := .inl (E.2 0, 21, .inl (upd f4 (tn (c 0 / 52)) ((f4 (tn (c 0 / 52))) + kq)))) q153_6) (kpn (by decide : (21 : Nat) ≠ 20)) (kpn (by decide : (3 : Nat) ≠ 20)) hPl_154
                  have hRo_156 := sRo.kp (kp_up (e1 := .inl (E.2 0, 21, .inl (upd f4 (tn (c 0 / 52)) ((f4 (tn (c 0 / 52))) + kq)))) q153_6) (kpn (by decide : (4 : Nat) ≠ 20)) hRo_154
                  have hVi_156 := sVi.kp (kp_up (e1 := .inl (E.2 0, 21, .inl (upd f4 (tn (c 0 / 52)) ((f4 (tn (c 0 / 52))) + kq)))) q153_6) (kpn (by decide : (6 : Nat) ≠ 20)) hVi_154
                  have hWk_156 := sWk.kp (kp_up (e1 := .inl (E.2 0, 21, .inl (upd f4 (tn (c 0 / 52)) ((f4 (tn (c 0 / 52))) + kq)))) q153_6) (kpn (by decide : (7 : Nat) ≠ 20)) hWk_154
                  have hHo_156 := sHo.kp (kp_up (e1 := .inl (E.2 0, 21, .inl (upd f4 (tn (c 0 / 52)) ((f4 (tn (c 0 / 52))) + kq)))) q153_6) (kpn (by decide : (0 : Nat) ≠ 20)) (kpn (by decide : (5 : Nat) ≠ 20)) hHo_154
                  have hHa_c := sHa_put (S' := va_up (va_up (va_up S 22 (upd (S 22) (21 * fiq + tn (c 0 / 52)) (nI hiq))) 19 (upd ((va_up S 22 (upd (S 22) (21 * fiq + tn (c 0 / 52)) (nI hiq))) 19) (21 * fiq + tn (c 0 / 52)) (f2 (tn (c 0 / 52)) + kq))) 21 (upd ((va_up (va_up S 22 (upd (S 22) (21 * fiq + tn (c 0 / 52)) (nI hiq))) 19 (upd ((va_up S 22 (upd (S 22) (21 * fiq + tn (c 0 / 52)) (nI hiq))) 19) (21 * fiq + tn (c 0 / 52)) (f2 (tn (c 0 / 52)) + kq))) 21) (21 * hiq + tn (c 0 / 52)) (f4 (tn (c 0 / 52)) + kq))) (j := 3) (y := tn (c 0 / 52)) hHp hh (by decide) (tn_lt hy) q153_6 hHa_b rfl
                  have hEv_c := sE_ne (e := .inl (E.2 0, 21, .inl (upd f4 (tn (c 0 / 52)) ((f4 (tn (c 0 / 52))) + kq)))) (a := ha hiq + 4) (by omega) hEv_b
                  refine lv_goto (tgt := 149) hx hb dX8_work_144 (by decide) ?_
                  refine lv_aload_n hx hb dX8_work_149 rfl (lv_at hl 3 rfl) ?_
                  refine g_get (ci := 8) hx hb hts hin8 hown hK hP q155_0 rfl 0 (by decide) hf11 rfl rfl dX8_work_150 ?_
                  refine lv_aload hx hb dX8_work_153 (lv_at hl 1 rfl) ?_
                  refine g_get (ci := 0) hx hb hts hin0 hown hK hP q155_4 rfl 0 (by decide) hf168 rfl rfl dX8_work_155 ?_
                  have h6 := hp.1.2.2.2.2 hiq (by omega)
                  have t6 := tn_of h6.1
                  obtain ⟨vq, hvq, evq⟩ : ∃ z, z < 8 ∧ S 6 hiq = nI z := ⟨tn (S 6 hiq), by omega, (nI_tn h6.1).symm⟩
                  refine W.eq (g2 := F0 m 158 ls [.int (nI vq), .ref (x + 1)]) (by rw [evq]) ?_
                  have fv0 := hVi_156 vq hvq
                  refine g_aald (t0 := 5) (v := .ref (x + 10 + vq)) hx hb hK hP q155_1 rfl (vp_in_nI (by omega) (by decide)) (by rw [nI_clamp (by omega), hV2 vq hvq]; rfl) dX8_work_158 ?_
                  refine lv_aload_n hx hb dX8_work_159 rfl (lv_at hl 3 rfl) ?_
                  refine g_get (ci := 8) hx hb hts hin8 hown hK hP q155_0 rfl 6 (by decide) hf45 rfl rfl dX8_work_160 ?_
                  refine lv_iload_n hx hb dX8_work_163 rfl (lv_at hl 6 rfl) ?_
                  have hPw := hP
                  have ht9 : tn (c 0) < 1040 := by omega
                  have ec0 : c 0 = nI (tn (c 0)) := (nI_tn j0.1).symm
                  by_cases hw0 : wn vq = 0
                  · have fvA : (gup (gup (gup G (ha fiq + 5) (.inl (E.2 0, 21, .inl (upd f5 (tn (c 0 / 52)) (nI hiq))))) (ha fiq + 2) (.inl (E.2 0, 21, .inl (upd f2 (tn (c 0 / 52)) ((f2 (tn (c 0 / 52))) + kq))))) (ha hiq + 4) (.inl (E.2 0, 21, .inl (upd f4 (tn (c 0 / 52)) ((f4 (tn (c 0 / 52))) + kq))))) (x + 10 + vq) = some (.inr (6, [.int (S 0 vq), .null, .null])) := by
                      have z := fv0
                      rw [wFs, wLs, if_pos hw0, if_pos hw0] at z; exact z
                    refine g_cv (g_runV (As := [.int (c 0), .int kq]) (rest := []) ⟨hx, hb, hml, hown, hts⟩ hK hP (kX6_addDays0 l E A n (gup (gup (gup G (ha fiq + 5) (.inl (E.2 0, 21, .inl (upd f5 (tn (c 0 / 52)) (nI hiq))))) (ha fiq + 2) (.inl (E.2 0, 21, .inl (upd f2 (tn (c 0 / 52)) ((f2 (tn (c 0 / 52))) + kq))))) (ha hiq + 4) (.inl (E.2 0, 21, .inl (upd f4 (tn (c 0 / 52)) ((f4 (tn (c 0 / 52))) + kq))))) (x + 10 + vq) (S 0 vq) (c 0) kq fvA hA) (cwV 2 hts gX8_work_X6_addDays rfl rfl rfl (by decide +kernel) ⟨Nat.le_of_ble_eq_true rfl, Nat.le_of_ble_eq_true rfl⟩) fvA rfl rfl hl.1 rfl (Nat.le_of_ble_eq_true rfl) dX8_work_164 ⟨Nat.le_of_ble_eq_true rfl, Nat.le_of_ble_eq_true rfl⟩) hS (fun n' G' H locs hw hP hS => ?_)
                    obtain ⟨rfl, hg1, hg2, hfr⟩ := hw
                    have hKw := kp_fr1 fvA (Or.inl rfl) hfr
                    obtain ⟨hVi_w, hWk_w, hW_w⟩ := wk_new (S := S) (k := kq) hvq ht9 (Or.inl hw0) hVi_156 hWk_156 hW (hPw.none (Nat.le_refl _)) (by rw [if_pos hw0]; exact hg1) (fun z => absurd z (by omega)) (by rw [← ec0]; exact hg2) (fun b e h1 _ => hfr b e h1)
                    have qw_x : G' x = some (.inr (8, [.ref (x + 1), .ref (x + 2), .ref (x + 3), .ref (x + 4), .ref (x + 7), .ref (x + 9), .int (c 0), .int (c 7), .int (c 12), .int (c 29), .int (c 30), .int (c 31), .int (c 32), .int (c 33)])) := hKw _ _ (by simp [kd]) q155_0
                    have qw_x2 : G' (x + 2) = some (.inl (E.2 4, 30, .inr (.inr (.inr (.inr fR))))) := hKw _ _ (by simp [kd]) q155_2
                    have hV_w := sV.kp hKw (by decide) hV_156
                    have hR_w := sR.kp hKw (by decide) hR_156
                    have hH1_w := sH.kp hKw (by decide) hH1_156
                    have hB_w := sB.kp hKw (by decide) (by decide) hB_156
                    have hL_w := sL.kp hKw (by decide) (by decide) hL_156
                    have hPl_w := sP.kp hKw (by decide) (by decide) hPl_156
                    have hRo_w := sRo.kp hKw (by decide) hRo_156
                    have hHo_w := sHo.kp hKw (by decide) (by decide) hHo_156
                    have hHa_w := sHa.kp hKw (by decide) hHa_c
                    have hEv_w := sE.kp hKw (by decide) hEv_c
                    refine lv_aload_n hx hb dX8_work_167 rfl (lv_at hl 3 rfl) ?_
                    refine g_get (ci := 8) hx hb hts hin8 hown hK hP qw_x rfl 1 (by decide) hf17 rfl rfl dX8_work_168 ?_
                    refine lv_iload_n hx hb dX8_work_171 rfl (lv_at hl 5 rfl) ?_
                    have fr0 := hRo_w (tn a) htr
                    refine g_aald (t0 := 4) (v := .ref (x + 18 + tn a)) hx hb hK hP qw_x2 rfl (inB_vp b12 (by decide)) (by rw [hR2 (tn a) htr]; rfl) dX8_work_172 ?_
                    refine lv_iload_n hx hb dX8_work_173 rfl (lv_at hl 6 rfl) ?_
                    refine g_cv (g_runV (As := [.int kq]) (rest := []) ⟨hx, hb, hml, hown, hts⟩ hK hP (kX4_raise l E A (n + 1) G' (x + 18 + tn a) (S 1 (tn a)) (S 2 (tn a)) (S 3 (tn a)) (S 4 (tn a)) (S 5 (tn a)) kq fr0) (cwV 1 hts gX8_work_X4_raise rfl rfl rfl (by decide +kernel) ⟨Nat.le_of_ble_eq_true rfl, Nat.le_of_ble_eq_true rfl⟩) fr0 rfl rfl hl.1 rfl (Nat.le_of_ble_eq_true rfl) dX8_work_174 ⟨Nat.le_of_ble_eq_true rfl, Nat.le_of_ble_eq_true rfl⟩) hS (fun n' G' H locs hw hP hS => ?_)
                    obtain ⟨rfl, rfl⟩ := hw
                    have q157_0 : (gup G' (x + 18 + tn a) (.inr (4, [.int (minOf 3000 ((S 1 (tn a)) + kq * groOf (S 2 (tn a)))), .int (S 2 (tn a)), .int (S 3 (tn a)), .int (S 4 (tn a)), .int ((S 5 (tn a)) + kq)]))) x = some (.inr (8, [.ref (x + 1), .ref (x + 2), .ref (x + 3), .ref (x + 4), .ref (x + 7), .ref (x + 9), .int (c 0), .int (c 7), .int (c 12), .int (c 29), .int (c 30), .int (c 31), .int (c 32), .int (c 33)])) := (gup_n (ne_oo qw_x fr0 (by decide))).trans qw_x
                    have q157_1 : (gup G' (x + 18 + tn a) (.inr (4, [.int (minOf 3000 ((S 1 (tn a)) + kq * groOf (S 2 (tn a)))), .int (S 2 (tn a)), .int (S 3 (tn a)), .int (S 4 (tn a)), .int ((S 5 (tn a)) + kq)]))) (x + 2) = some (.inl (E.2 4, 30, .inr (.inr (.inr (.inr fR))))) := (gup_n (ne_ao qw_x2 fr0)).trans qw_x2
                    have q157_a : (gup G' (x + 18 + tn a) (.inr (4, [.int (minOf 3000 ((S 1 (tn a)) + kq * groOf (S 2 (tn a)))), .int (S 2 (tn a)), .int (S 3 (tn a)), .int (S 4 (tn a)), .int ((S 5 (tn a)) + kq)]))) (x + 18 + tn a) = some (.inr (4, [.int (minOf 3000 ((S 1 (tn a)) + kq * groOf (S 2 (tn a)))), .int (S 2 (tn a)), .int (S 3 (tn a)), .int (S 4 (tn a)), .int ((S 5 (tn a)) + kq)])) := gup_s
                    have hP : gP E A (n + 1) (gup G' (x + 18 + tn a) (.inr (4, [.int (minOf 3000 ((S 1 (tn a)) + kq * groOf (S 2 (tn a)))), .int (S 2 (tn a)), .int (S 3 (tn a)), .int (S 4 (tn a)), .int ((S 5 (tn a)) + kq)]))) H := hP
                    have hV_158 := sV.kp (kp_up (e1 := .inr (4, [.int (minOf 3000 ((S 1 (tn a)) + kq * groOf (S 2 (tn a)))), .int (S 2 (tn a)), .int (S 3 (tn a)), .int (S 4 (tn a)), .int ((S 5 (tn a)) + kq)])) fr0) (kpn (by decide : (22 : Nat) ≠ 4)) hV_w
                    have hR_158 := sR.kp (kp_up (e1 := .inr (4, [.int (minOf 3000 ((S 1 (tn a)) + kq * groOf (S 2 (tn a)))), .int (S 2 (tn a)), .int (S 3 (tn a)), .int (S 4 (tn a)), .int ((S 5 (tn a)) + kq)])) fr0) (kpn (by decide : (22 : Nat) ≠ 4)) hR_w
                    have hH1_158 := sH.kp (kp_up (e1 := .inr (4, [.int (minOf 3000 ((S 1 (tn a)) + kq * groOf (S 2 (tn a)))), .int (S 2 (tn a)), .int (S 3 (tn a)), .int (S 4 (tn a)), .int ((S 5 (tn a)) + kq)])) fr0) (kpn (by decide : (22 : Nat) ≠ 4)) hH1_w
                    have hB_158 := sB.kp (kp_up (e1 := .inr (4, [.int (minOf 3000 ((S 1 (tn a)) + kq * groOf (S 2 (tn a)))), .int (S 2 (tn a)), .int (S 3 (tn a)), .int (S 4 (tn a)), .int ((S 5 (tn a)) + kq)])) fr0) (kpn (by decide : (2 : Nat) ≠ 4)) (kpn (by decide : (1 : Nat) ≠ 4)) hB_w
                    have hL_158 := sL.kp (kp_up (e1 := .inr (4, [.int (minOf 3000 ((S 1 (tn a)) + kq * groOf (S 2 (tn a)))), .int (S 2 (tn a)), .int (S 3 (tn a)), .int (S 4 (tn a)), .int ((S 5 (tn a)) + kq)])) fr0) (kpn (by decide : (22 : Nat) ≠ 4)) (kpn (by decide : (1 : Nat) ≠ 4)) hL_w
                    have hPl_158 := sP.kp (kp_up (e1 := .inr (4, [.int (minOf 3000 ((S 1 (tn a)) + kq * groOf (S 2 (tn a)))), .int (S 2 (tn a)), .int (S 3 (tn a)), .int (S 4 (tn a)), .int ((S 5 (tn a)) + kq)])) fr0) (kpn (by decide : (21 : Nat) ≠ 4)) (kpn (by decide : (3 : Nat) ≠ 4)) hPl_w
                    have hHo_158 := sHo.kp (kp_up (e1 := .inr (4, [.int (minOf 3000 ((S 1 (tn a)) + kq * groOf (S 2 (tn a)))), .int (S 2 (tn a)), .int (S 3 (tn a)), .int (S 4 (tn a)), .int ((S 5 (tn a)) + kq)])) fr0) (kpn (by decide : (0 : Nat) ≠ 4)) (kpn (by decide : (5 : Nat) ≠ 4)) hHo_w
                    have hHa_158 := sHa.kp (kp_up (e1 := .inr (4, [.int (minOf 3000 ((S 1 (tn a)) + kq * groOf (S 2 (tn a)))), .int (S 2 (tn a)), .int (S 3 (tn a)), .int (S 4 (tn a)), .int ((S 5 (tn a)) + kq)])) fr0) (kpn (by decide : (20 : Nat) ≠ 4)) hHa_w
                    have hEv_158 := sE.kp (kp_up (e1 := .inr (4, [.int (minOf 3000 ((S 1 (tn a)) + kq * groOf (S 2 (tn a)))), .int (S 2 (tn a)), .int (S 3 (tn a)), .int (S 4 (tn a)), .int ((S 5 (tn a)) + kq)])) fr0) (kpn (by decide : (20 : Nat) ≠ 4)) hEv_w
                    have hVi_158 := sVi.kp (kp_up (e1 := .inr (4, [.int (minOf 3000 ((S 1 (tn a)) + kq * groOf (S 2 (tn a)))), .int (S 2 (tn a)), .int (S 3 (tn a)), .int (S 4 (tn a)), .int ((S 5 (tn a)) + kq)])) fr0) (kpn (by decide : (6 : Nat) ≠ 4)) hVi_w
                    have hWk_158 := sWk.kp (kp_up (e1 := .inr (4, [.int (minOf 3000 ((S 1 (tn a)) + kq * groOf (S 2 (tn a)))), .int (S 2 (tn a)), .int (S 3 (tn a)), .int (S 4 (tn a)), .int ((S 5 (tn a)) + kq)])) fr0) (kpn (by decide : (7 : Nat) ≠ 4)) hWk_w
                    have hRo_r : sRo (gup G' (x + 18 + tn a) (.inr (4, [.int (minOf 3000 ((S 1 (tn a)) + kq * groOf (S 2 (tn a)))), .int (S 2 (tn a)), .int (S 3 (tn a)), .int (S 4 (tn a)), .int ((S 5 (tn a)) + kq)]))) x (raiS (dS (va_up (va_up (va_up S 22 (upd (S 22) (21 * fiq + tn (c 0 / 52)) (nI hiq))) 19 (upd ((va_up S 22 (upd (S 22) (21 * fiq + tn (c 0 / 52)) (nI hiq))) 19) (21 * fiq + tn (c 0 / 52)) (f2 (tn (c 0 / 52)) + kq))) 21 (upd ((va_up (va_up S 22 (upd (S 22) (21 * fiq + tn (c 0 / 52)) (nI hiq))) 19 (upd ((va_up S 22 (upd (S 22) (21 * fiq + tn (c 0 / 52)) (nI hiq))) 19) (21 * fiq + tn (c 0 / 52)) (f2 (tn (c 0 / 52)) + kq))) 21) (21 * hiq + tn (c 0 / 52)) (f4 (tn (c 0 / 52)) + kq))) vq (tn (c 0)) kq) a kq) := sRo_put (t := tn a) hRo_w (rai_rod (dS (va_up (va_up (va_up S 22 (upd (S 22) (21 * fiq + tn (c 0 / 52)) (nI hiq))) 19 (upd ((va_up S 22 (upd (S 22) (21 * fiq + tn (c 0 / 52)) (nI hiq))) 19) (21 * fiq + tn (c 0 / 52)) (f2 (tn (c 0 / 52)) + kq))) 21 (upd ((va_up (va_up S 22 (upd (S 22) (21 * fiq + tn (c 0 / 52)) (nI hiq))) 19 (upd ((va_up S 22 (upd (S 22) (21 * fiq + tn (c 0 / 52)) (nI hiq))) 19) (21 * fiq + tn (c 0 / 52)) (f2 (tn (c 0 / 52)) + kq))) 21) (21 * hiq + tn (c 0 / 52)) (f4 (tn (c 0 / 52)) + kq))) vq (tn (c 0)) kq) a kq) (fun i hi => rai_other (dS (va_up (va_up (va_up S 22 (upd (S 22) (21 * fiq + tn (c 0 / 52)) (nI hiq))) 19 (upd ((va_up S 22 (upd (S 22) (21 * fiq + tn (c 0 / 52)) (nI hiq))) 19) (21 * fiq + tn (c 0 / 52)) (f2 (tn (c 0 / 52)) + kq))) 21 (upd ((va_up (va_up S 22 (upd (S 22) (21 * fiq + tn (c 0 / 52)) (nI hiq))) 19 (upd ((va_up S 22 (upd (S 22) (21 * fiq + tn (c 0 / 52)) (nI hiq))) 19) (21 * fiq + tn (c 0 / 52)) (f2 (tn (c 0 / 52)) + kq))) 21) (21 * hiq + tn (c 0 / 52)) (f4 (tn (c 0 / 52)) + kq))) vq (tn (c 0)) kq) a kq i hi)
                    refine lv_aload_n hx hb dX8_work_177 rfl (lv_at hl 3 rfl) ?_
                    refine lv_dup hx hb dX8_work_178 rfl ?_
                    refine g_get (ci := 8) hx hb hts hin8 hown hK hP q157_0 rfl 11 (by decide) hf61 rfl rfl dX8_work_179 ?_
                    refine lv_iload_n hx hb dX8_work_182 rfl (lv_at hl 6 rfl) ?_
                    refine lv_iadd hx hb dX8_work_183 ?_
                    refine g_put (ci := 8) (ty := .int) (v := .int ((c 31) + kq)) hx hb hts hin8 tyX8 tyX8_ok nmX8 hown hK hP hS q157_0 rfl 11 (by decide) hf61 rfl (Or.inl rfl) (by decide +kernel) rfl rfl (Nat.le_of_ble_eq_true rfl) dX8_work_184 (fun H locs hP hS => ?_)
                    have q159_0 : (gup (gup G' (x + 18 + tn a) (.inr (4, [.int (minOf 3000 ((S 1 (tn a)) + kq * groOf (S 2 (tn a)))), .int (S 2 (tn a)), .int (S 3 (tn a)), .int (S 4 (tn a)), .int ((S 5 (tn a)) + kq)]))) x (.inr (8, [.ref (x + 1), .ref (x + 2), .ref (x + 3), .ref (x + 4), .ref (x + 7), .ref (x + 9), .int (c 0), .int (c 7), .int (c 12), .int (c 29), .int (c 30), .int ((c 31) + kq), .int (c 32), .int (c 33)]))) (x + 2) = some (.inl (E.2 4, 30, .inr (.inr (.inr (.inr fR))))) := (gup_n (ne_ao q157_1 q157_0)).trans q157_1
                    have q159_1 : (gup (gup G' (x + 18 + tn a) (.inr (4, [.int (minOf 3000 ((S 1 (tn a)) + kq * groOf (S 2 (tn a)))), .int (S 2 (tn a)), .int (S 3 (tn a)), .int (S 4 (tn a)), .int ((S 5 (tn a)) + kq)]))) x (.inr (8, [.ref (x + 1), .ref (x + 2), .ref (x + 3), .ref (x + 4), .ref (x + 7), .ref (x + 9), .int (c 0), .int (c 7), .int (c 12), .int (c 29), .int (c 30), .int ((c 31) + kq), .int (c 32), .int (c 33)]))) (x + 18 + tn a) = some (.inr (4, [.int (minOf 3000 ((S 1 (tn a)) + kq * groOf (S 2 (tn a)))), .int (S 2 (tn a)), .int (S 3 (tn a)), .int (S 4 (tn a)), .int ((S 5 (tn a)) + kq)])) := (gup_n (ne_oo q157_a q157_0 (by decide))).trans q157_a
                    have q159_a : (gup (gup G' (x + 18 + tn a) (.inr (4, [.int (minOf 3000 ((S 1 (tn a)) + kq * groOf (S 2 (tn a)))), .int (S 2 (tn a)), .int (S 3 (tn a)), .int (S 4 (tn a)), .int ((S 5 (tn a)) + kq)]))) x (.inr (8, [.ref (x + 1), .ref (x + 2), .ref (x + 3), .ref (x + 4), .ref (x + 7), .ref (x + 9), .int (c 0), .int (c 7), .int (c 12), .int (c 29), .int (c 30), .int ((c 31) + kq), .int (c 32), .int (c 33)]))) x = some (.inr (8, [.ref (x + 1), .ref (x + 2), .ref (x + 3), .ref (x + 4), .ref (x + 7), .ref (x + 9), .int (c 0), .int (c 7), .int (c 12), .int (c 29), .int (c 30), .int ((c 31) + kq), .int (c 32), .int (c 33)])) := gup_s
                    have hP : gP E A (n + 1) (gup (gup G' (x + 18 + tn a) (.inr (4, [.int (minOf 3000 ((S 1 (tn a)) + kq * groOf (S 2 (tn a)))), .int (S 2 (tn a)), .int (S 3 (tn a)), .int (S 4 (tn a)), .int ((S 5 (tn a)) + kq)]))) x (.inr (8, [.ref (x + 1), .ref (x + 2), .ref (x + 3), .ref (x + 4), .ref (x + 7), .ref (x + 9), .int (c 0), .int (c 7), .int (c 12), .int (c 29), .int (c 30), .int ((c 31) + kq), .int (c 32), .int (c 33)]))) H := hP
                    have hV_160 := sV.kp (kp_up (e1 := .inr (8, [.ref (x + 1), .ref (x + 2), .ref (x + 3), .ref (x + 4), .ref (x + 7), .ref (x + 9), .int (c 0), .int (c 7), .int (c 12), .int (c 29), .int (c 30), .int ((c 31) + kq), .int (c 32), .int (c 33)])) q157_0) (kpn (by decide : (22 : Nat) ≠ 8)) hV_158
                    have hR_160 := sR.kp (kp_up (e1 := .inr (8, [.ref (x + 1), .ref (x + 2), .ref (x + 3), .ref (x + 4), .ref (x + 7), .ref (x + 9), .int (c 0), .int (c 7), .int (c 12), .int (c 29), .int (c 30), .int ((c 31) + kq), .int (c 32), .int (c 33)])) q157_0) (kpn (by decide : (22 : Nat) ≠ 8)) hR_158
                    have hH1_160 := sH.kp (kp_up (e1 := .inr (8, [.ref (x + 1), .ref (x + 2), .ref (x + 3), .ref (x + 4), .ref (x + 7), .ref (x + 9), .int (c 0), .int (c 7), .int (c 12), .int (c 29), .int (c 30), .int ((c 31) + kq), .int (c 32), .int (c 33)])) q157_0) (kpn (by decide : (22 : Nat) ≠ 8)) hH1_158
                    have hB_160 := sB.kp (kp_up (e1 := .inr (8, [.ref (x + 1), .ref (x + 2), .ref (x + 3), .ref (x + 4), .ref (x + 7), .ref (x + 9), .int (c 0), .int (c 7), .int (c 12), .int (c 29), .int (c 30), .int ((c 31) + kq), .int (c 32), .int (c 33)])) q157_0) (kpn (by decide : (2 : Nat) ≠ 8)) (kpn (by decide : (1 : Nat) ≠ 8)) hB_158
                    have hL_160 := sL.kp (kp_up (e1 := .inr (8, [.ref (x + 1), .ref (x + 2), .ref (x + 3), .ref (x + 4), .ref (x + 7), .ref (x + 9), .int (c 0), .int (c 7), .int (c 12), .int (c 29), .int (c 30), .int ((c 31) + kq), .int (c 32), .int (c 33)])) q157_0) (kpn (by decide : (22 : Nat) ≠ 8)) (kpn (by decide : (1 : Nat) ≠ 8)) hL_158
                    have hPl_160 := sP.kp (kp_up (e1 := .inr (8, [.ref (x + 1), .ref (x + 2), .ref (x + 3), .ref (x + 4), .ref (x + 7), .ref (x + 9), .int (c 0), .int (c 7), .int (c 12), .int (c 29), .int (c 30), .int ((c 31) + kq), .int (c 32), .int (c 33)])) q157_0) (kpn (by decide : (21 : Nat) ≠ 8)) (kpn (by decide : (3 : Nat) ≠ 8)) hPl_158
                    have hHo_160 := sHo.kp (kp_up (e1 := .inr (8, [.ref (x + 1), .ref (x + 2), .ref (x + 3), .ref (x + 4), .ref (x + 7), .ref (x + 9), .int (c 0), .int (c 7), .int (c 12), .int (c 29), .int (c 30), .int ((c 31) + kq), .int (c 32), .int (c 33)])) q157_0) (kpn (by decide : (0 : Nat) ≠ 8)) (kpn (by decide : (5 : Nat) ≠ 8)) hHo_158
                    have hHa_160 := sHa.kp (kp_up (e1 := .inr (8, [.ref (x + 1), .ref (x + 2), .ref (x + 3), .ref (x + 4), .ref (x + 7), .ref (x + 9), .int (c 0), .int (c 7), .int (c 12), .int (c 29), .int (c 30), .int ((c 31) + kq), .int (c 32), .int (c 33)])) q157_0) (kpn (by decide : (20 : Nat) ≠ 8)) hHa_158
                    have hEv_160 := sE.kp (kp_up (e1 := .inr (8, [.ref (x + 1), .ref (x + 2), .ref (x + 3), .ref (x + 4), .ref (x + 7), .ref (x + 9), .int (c 0), .int (c 7), .int (c 12), .int (c 29), .int (c 30), .int ((c 31) + kq), .int (c 32), .int (c 33)])) q157_0) (kpn (by decide : (20 : Nat) ≠ 8)) hEv_158
                    have hVi_160 := sVi.kp (kp_up (e1 := .inr (8, [.ref (x + 1), .ref (x + 2), .ref (x + 3), .ref (x + 4), .ref (x + 7), .ref (x + 9), .int (c 0), .int (c 7), .int (c 12), .int (c 29), .int (c 30), .int ((c 31) + kq), .int (c 32), .int (c 33)])) q157_0) (kpn (by decide : (6 : Nat) ≠ 8)) hVi_158
                    have hWk_160 := sWk.kp (kp_up (e1 := .inr (8, [.ref (x + 1), .ref (x + 2), .ref (x + 3), .ref (x + 4), .ref (x + 7), .ref (x + 9), .int (c 0), .int (c 7), .int (c 12), .int (c 29), .int (c 30), .int ((c 31) + kq), .int (c 32), .int (c 33)])) q157_0) (kpn (by decide : (7 : Nat) ≠ 8)) hWk_158
                    have hRo_160 := sRo.kp (kp_up (e1 := .inr (8, [.ref (x + 1), .ref (x + 2), .ref (x + 3), .ref (x + 4), .ref (x + 7), .ref (x + 9), .int (c 0), .int (c 7), .int (c 12), .int (c 29), .int (c 30), .int ((c 31) + kq), .int (c 32), .int (c 33)])) q157_0) (kpn (by decide : (4 : Nat) ≠ 8)) hRo_r
                    refine lv_aload_n hx hb dX8_work_187 rfl (lv_at hl 3 rfl) ?_
                    refine lv_aload hx hb dX8_work_188 (lv_at hl 0 rfl) ?_
                    refine lv_iload hx hb dX8_work_190 (lv_at hl 2 rfl) ?_
                    have hk1 := Int32.le_iff_toInt_le.mp (Int32.not_lt.mp b61)
                    have e1_ : (1 : Int32).toInt = 1 := rfl
                    have hk2 := Int32.le_iff_toInt_le.mp b73
                    have hk6 := (yet_rng hp hj hf hy).1
                    have hp2 : pI (va_up c 31 (c 31 + kq)) (raiS (dS (va_up (va_up (va_up S 22 (upd (S 22) (21 * fiq + tn (c 0 / 52)) (nI hiq))) 19 (upd ((va_up S 22 (upd (S 22) (21 * fiq + tn (c 0 / 52)) (nI hiq))) 19) (21 * fiq + tn (c 0 / 52)) (f2 (tn (c 0 / 52)) + kq))) 21 (upd ((va_up (va_up S 22 (upd (S 22) (21 * fiq + tn (c 0 / 52)) (nI hiq))) 19 (upd ((va_up S 22 (upd (S 22) (21 * fiq + tn (c 0 / 52)) (nI hiq))) 19) (21 * fiq + tn (c 0 / 52)) (f2 (tn (c 0 / 52)) + kq))) 21) (21 * hiq + tn (c 0 / 52)) (f4 (tn (c 0 / 52)) + kq))) vq (tn (c 0)) kq) a kq) := ⟨hp.1, mH_rai (S := dS (va_up (va_up (va_up S 22 (upd (S 22) (21 * fiq + tn (c 0 / 52)) (nI hiq))) 19 (upd ((va_up S 22 (upd (S 22) (21 * fiq + tn (c 0 / 52)) (nI hiq))) 19) (21 * fiq + tn (c 0 / 52)) (f2 (tn (c 0 / 52)) + kq))) 21 (upd ((va_up (va_up S 22 (upd (S 22) (21 * fiq + tn (c 0 / 52)) (nI hiq))) 19 (upd ((va_up S 22 (upd (S 22) (21 * fiq + tn (c 0 / 52)) (nI hiq))) 19) (21 * fiq + tn (c 0 / 52)) (f2 (tn (c 0 / 52)) + kq))) 21) (21 * hiq + tn (c 0 / 52)) (f4 (tn (c 0 / 52)) + kq))) vq (tn (c 0)) kq) hp.2.1 (inB_vp b12 (by decide)) (by omega) (by omega), hp.2.2⟩
                    have hHo_f := sHo.cg (S' := raiS (dS (va_up (va_up (va_up S 22 (upd (S 22) (21 * fiq + tn (c 0 / 52)) (nI hiq))) 19 (upd ((va_up S 22 (upd (S 22) (21 * fiq + tn (c 0 / 52)) (nI hiq))) 19) (21 * fiq + tn (c 0 / 52)) (f2 (tn (c 0 / 52)) + kq))) 21 (upd ((va_up (va_up S 22 (upd (S 22) (21 * fiq + tn (c 0 / 52)) (nI hiq))) 19 (upd ((va_up S 22 (upd (S 22) (21 * fiq + tn (c 0 / 52)) (nI hiq))) 19) (21 * fiq + tn (c 0 / 52)) (f2 (tn (c 0 / 52)) + kq))) 21) (21 * hiq + tn (c 0 / 52)) (f4 (tn (c 0 / 52)) + kq))) vq (tn (c 0)) kq) a kq) (fun j h1 h2 => by simp only [raiS, dS, va_up]; repeat (first | rfl | (rw [if_neg (by omega)]))) hHo_160
                    have hHa_f := sHa.cg (S' := raiS (dS (va_up (va_up (va_up S 22 (upd (S 22) (21 * fiq + tn (c 0 / 52)) (nI hiq))) 19 (upd ((va_up S 22 (upd (S 22) (21 * fiq + tn (c 0 / 52)) (nI hiq))) 19) (21 * fiq + tn (c 0 / 52)) (f2 (tn (c 0 / 52)) + kq))) 21 (upd ((va_up (va_up S 22 (upd (S 22) (21 * fiq + tn (c 0 / 52)) (nI hiq))) 19 (upd ((va_up S 22 (upd (S 22) (21 * fiq + tn (c 0 / 52)) (nI hiq))) 19) (21 * fiq + tn (c 0 / 52)) (f2 (tn (c 0 / 52)) + kq))) 21) (21 * hiq + tn (c 0 / 52)) (f4 (tn (c 0 / 52)) + kq))) vq (tn (c 0)) kq) a kq) (fun j h1 h2 => by simp only [raiS, dS]; rw [va_up_ne _ _ (by omega), va_up_ne _ _ (by omega), va_up_ne _ _ (by omega)]) hHa_160
                    refine g_ci (g_runV (As := [.ref (ha fiq), .int (c 0 / 52)]) (rest := []) ⟨hx, hb, hml, hown, hts⟩ hK hP (kX8_daysOwedYet l E A (n + 1) (gup (gup G' (x + 18 + tn a) (.inr (4, [.int (minOf 3000 ((S 1 (tn a)) + kq * groOf (S 2 (tn a)))), .int (S 2 (tn a)), .int (S 3 (tn a)), .int (S 4 (tn a)), .int ((S 5 (tn a)) + kq)]))) x (.inr (8, [.ref (x + 1), .ref (x + 2), .ref (x + 3), .ref (x + 4), .ref (x + 7), .ref (x + 9), .int (c 0), .int (c 7), .int (c 12), .int (c 29), .int (c 30), .int ((c 31) + kq), .int (c 32), .int (c 33)]))) x (va_up c 31 (c 31 + kq)) (raiS (dS (va_up (va_up (va_up S 22 (upd (S 22) (21 * fiq + tn (c 0 / 52)) (nI hiq))) 19 (upd ((va_up S 22 (upd (S 22) (21 * fiq + tn (c 0 / 52)) (nI hiq))) 19) (21 * fiq + tn (c 0 / 52)) (f2 (tn (c 0 / 52)) + kq))) 21 (upd ((va_up (va_up S 22 (upd (S 22) (21 * fiq + tn (c 0 / 52)) (nI hiq))) 19 (upd ((va_up S 22 (upd (S 22) (21 * fiq + tn (c 0 / 52)) (nI hiq))) 19) (21 * fiq + tn (c 0 / 52)) (f2 (tn (c 0 / 52)) + kq))) 21) (21 * hiq + tn (c 0 / 52)) (f4 (tn (c 0 / 52)) + kq))) vq (tn (c 0)) kq) a kq) fiq (c 0 / 52) ha q159_a hB_160 la hL_160 lt hHo_f hHa_f hp2 hf hy) (cwV 2 hts gX8_work_X8_daysOwedYet rfl rfl rfl (by decide +kernel) ⟨Nat.le_of_ble_eq_true rfl, Nat.le_of_ble_eq_true rfl⟩) q159_a rfl rfl hl.1 rfl (Nat.le_of_ble_eq_true rfl) dX8_work_192 ⟨Nat.le_of_ble_eq_true rfl, Nat.le_of_ble_eq_true rfl⟩) hS (fun r192 n' G' H locs hw hP hS => ?_)
                    obtain ⟨rfl, rfl, rfl⟩ := hw
                    refine W.widen (k := 1) (n := 3) (by omega) (by omega) ?_
                    refine g_reti hx hb hr hlk hP hS dX8_work_195 ?_
                    have hB0 : wrkB c S (nI hiq) a kq (nI fiq) = true := by
                      have z1 : inB kq 1 (yetOf c S (nI fiq) (c 0 / 52)) = true := inB_of hk1 hk2
                      have z2 : ¬ c 0 = 1040 := fun z => by rw [z] at b31; exact absurd b31 (by decide)
                      have z3 := b108
                      simp only [wrkB, b5, b12, b21, z1, tn_nI (show hiq < 2 ^ 31 by omega), tn_nI (show fiq < 2 ^ 31 by omega), yk_tn (show fiq < 40 by omega) hy, z3, Bool.or_true, Bool.true_and, Bool.and_true]
                      simp [z2]
                    have hwd : tn (1040 * S 6 hiq + c 0) = 1040 * vq + tn (c 0) := by rw [evq, ec0]; rw [dd_tn hvq ht9, ← ec0]
                    have hw1_ : wrk1 c S (nI hiq) kq (nI fiq) = va_up (va_up (va_up S 22 (upd (S 22) (21 * fiq + tn (c 0 / 52)) (nI hiq))) 19 (upd ((va_up S 22 (upd (S 22) (21 * fiq + tn (c 0 / 52)) (nI hiq))) 19) (21 * fiq + tn (c 0 / 52)) (f2 (tn (c 0 / 52)) + kq))) 21 (upd ((va_up (va_up S 22 (upd (S 22) (21 * fiq + tn (c 0 / 52)) (nI hiq))) 19 (upd ((va_up S 22 (upd (S 22) (21 * fiq + tn (c 0 / 52)) (nI hiq))) 19) (21 * fiq + tn (c 0 / 52)) (f2 (tn (c 0 / 52)) + kq))) 21) (21 * hiq + tn (c 0 / 52)) (f4 (tn (c 0 / 52)) + kq)) := by
                      rw [wrk1, if_neg b81, yk_tn (by omega) hy, yk_tn (by omega) hy, u2 _ (tn_lt hy), u4 _ (tn_lt hy)]; rfl
                    have hw2_ : wrk2 c S (nI hiq) kq (nI fiq) = dS (va_up (va_up (va_up S 22 (upd (S 22) (21 * fiq + tn (c 0 / 52)) (nI hiq))) 19 (upd ((va_up S 22 (upd (S 22) (21 * fiq + tn (c 0 / 52)) (nI hiq))) 19) (21 * fiq + tn (c 0 / 52)) (f2 (tn (c 0 / 52)) + kq))) 21 (upd ((va_up (va_up S 22 (upd (S 22) (21 * fiq + tn (c 0 / 52)) (nI hiq))) 19 (upd ((va_up S 22 (upd (S 22) (21 * fiq + tn (c 0 / 52)) (nI hiq))) 19) (21 * fiq + tn (c 0 / 52)) (f2 (tn (c 0 / 52)) + kq))) 21) (21 * hiq + tn (c 0 / 52)) (f4 (tn (c 0 / 52)) + kq))) vq (tn (c 0)) kq := by
                      rw [wrk2, hw1_, tn_nI (by omega), hwd]; rfl
                    refine ⟨by rw [wrkR, if_pos hB0, hw2_], by omega, ⟨ha, la, lt, wa2 wa wn vq n, wa2 ww wn vq (tn (c 0)), va_up wn vq (wn vq + 1)⟩, ?_⟩
                    rw [wrkS, wrkC, if_pos hB0, if_pos hB0, hw2_]
                    exact ⟨q159_a, hV_160, hR_160, hH1_160, hB_160, hL_160, hPl_160, hEv_160, hRo_160, hVi_160, hWk_160, hW_w, hHo_f, hHa_f, hHp⟩
                  · have fw0 := hWk_156 vq hvq (wn vq - 1) (by omega)
                    have fvB : (gup (gup (gup G (ha fiq + 5) (.inl (E.2 0, 21, .inl (upd f5 (tn (c 0 / 52)) (nI hiq))))) (ha fiq + 2) (.inl (E.2 0, 21, .inl (upd f2 (tn (c 0 / 52)) ((f2 (tn (c 0 / 52))) + kq))))) (ha hiq + 4) (.inl (E.2 0, 21, .inl (upd f4 (tn (c 0 / 52)) ((f4 (tn (c 0 / 52))) + kq))))) (x + 10 + vq) = some (.inr (6, [.int (S 0 vq), va_rf (wFs wa wn vq), .ref (wa vq (wn vq - 1))])) := by
                      have z := fv0
                      rw [show wLs wa wn vq = some (wa vq (wn vq - 1)) from by rw [wLs, if_neg hw0]] at z; exact z
                    by_cases hw1 : ww vq (wn vq - 1) = tn (c 0)
                    · have hdummy : True := trivial
                      refine g_cv (g_runV (As := [.int (c 0), .int kq]) (rest := []) ⟨hx, hb, hml, hown, hts⟩ hK hP (kX6_addDays1 l E A n (gup (gup (gup G (ha fiq + 5) (.inl (E.2 0, 21, .inl (upd f5 (tn (c 0 / 52)) (nI hiq))))) (ha fiq + 2) (.inl (E.2 0, 21, .inl (upd f2 (tn (c 0 / 52)) ((f2 (tn (c 0 / 52))) + kq))))) (ha hiq + 4) (.inl (E.2 0, 21, .inl (upd f4 (tn (c 0 / 52)) ((f4 (tn (c 0 / 52))) + kq))))) (x + 10 + vq) (wa vq (wn vq - 1)) (wFs wa wn vq) (wNx wa wn vq (wn vq - 1)) (S 0 vq) (c 0) kq (nI (ww vq (wn vq - 1))) (S 23 (1040 * vq + ww vq (wn vq - 1))) fvB fw0 (by rw [hw1, ← ec0])) (cwV 2 hts gX8_work_X6_addDays rfl rfl rfl (by decide +kernel) ⟨Nat.le_of_ble_eq_true rfl, Nat.le_of_ble_eq_true rfl⟩) fvB rfl rfl hl.1 rfl (Nat.le_of_ble_eq_true rfl) dX8_work_164 ⟨Nat.le_of_ble_eq_true rfl, Nat.le_of_ble_eq_true rfl⟩) hS (fun n' G' H locs hw hP hS => ?_)
                      obtain ⟨rfl, hGw⟩ := hw
                      have hKw : Kp [6, 7] (gup (gup (gup G (ha fiq + 5) (.inl (E.2 0, 21, .inl (upd f5 (tn (c 0 / 52)) (nI hiq))))) (ha fiq + 2) (.inl (E.2 0, 21, .inl (upd f2 (tn (c 0 / 52)) ((f2 (tn (c 0 / 52))) + kq))))) (ha hiq + 4) (.inl (E.2 0, 21, .inl (upd f4 (tn (c 0 / 52)) ((f4 (tn (c 0 / 52))) + kq))))) G' := fun b e q1 q2 => by rw [← hGw]; exact kp_up fw0 b e (fun z => q1 (by rw [List.mem_singleton.mp z]; simp [kd])) q2
                      obtain ⟨hVi_w, hWk_w, hW_w⟩ := wk_same (S := S) (k := kq) (G' := G') hvq (by omega) hw1 hVi_156 hWk_156 hW (by rw [← hGw, hw1])
                      have qw_x : G' x = some (.inr (8, [.ref (x + 1), .ref (x + 2), .ref (x + 3), .ref (x + 4), .ref (x + 7), .ref (x + 9), .int (c 0), .int (c 7), .int (c 12), .int (c 29), .int (c 30), .int (c 31), .int (c 32), .int (c 33)])) := hKw _ _ (by simp [kd]) q155_0
                      have qw_x2 : G' (x + 2) = some (.inl (E.2 4, 30, .inr (.inr (.inr (.inr fR))))) := hKw _ _ (by simp [kd]) q155_2
                      have hV_w := sV.kp hKw (by decide) hV_156
                      have hR_w := sR.kp hKw (by decide) hR_156
                      have hH1_w := sH.kp hKw (by decide) hH1_156
                      have hB_w := sB.kp hKw (by decide) (by decide) hB_156
                      have hL_w := sL.kp hKw (by decide) (by decide) hL_156
                      have hPl_w := sP.kp hKw (by decide) (by decide) hPl_156
                      have hRo_w := sRo.kp hKw (by decide) hRo_156
                      have hHo_w := sHo.kp hKw (by decide) (by decide) hHo_156
                      have hHa_w := sHa.kp hKw (by decide) hHa_c
                      have hEv_w := sE.kp hKw (by decide) hEv_c
                      refine lv_aload_n hx hb dX8_work_167 rfl (lv_at hl 3 rfl) ?_
                      refine g_get (ci := 8) hx hb hts hin8 hown hK hP qw_x rfl 1 (by decide) hf17 rfl rfl dX8_work_168 ?_
                      refine lv_iload_n hx hb dX8_work_171 rfl (lv_at hl 5 rfl) ?_
                      have fr0 := hRo_w (tn a) htr
                      refine g_aald (t0 := 4) (v := .ref (x + 18 + tn a)) hx hb hK hP qw_x2 rfl (inB_vp b12 (by decide)) (by rw [hR2 (tn a) htr]; rfl) dX8_work_172 ?_
                      refine lv_iload_n hx hb dX8_work_173 rfl (lv_at hl 6 rfl) ?_
                      refine g_cv (g_runV (As := [.int kq]) (rest := []) ⟨hx, hb, hml, hown, hts⟩ hK hP (kX4_raise l E A n G' (x + 18 + tn a) (S 1 (tn a)) (S 2 (tn a)) (S 3 (tn a)) (S 4 (tn a)) (S 5 (tn a)) kq fr0) (cwV 1 hts gX8_work_X4_raise rfl rfl rfl (by decide +kernel) ⟨Nat.le_of_ble_eq_true rfl, Nat.le_of_ble_eq_true rfl⟩) fr0 rfl rfl hl.1 rfl (Nat.le_of_ble_eq_true rfl) dX8_work_174 ⟨Nat.le_of_ble_eq_true rfl, Nat.le_of_ble_eq_true rfl⟩) hS (fun n' G' H locs hw hP hS => ?_)
                      obtain ⟨rfl, rfl⟩ := hw
                      have q161_0 : (gup G' (x + 18 + tn a) (.inr (4, [.int (minOf 3000 ((S 1 (tn a)) + kq * groOf (S 2 (tn a)))), .int (S 2 (tn a)), .int (S 3 (tn a)), .int (S 4 (tn a)), .int ((S 5 (tn a)) + kq)]))) x = some (.inr (8, [.ref (x + 1), .ref (x + 2), .ref (x + 3), .ref (x + 4), .ref (x + 7), .ref (x + 9), .int (c 0), .int (c 7), .int (c 12), .int (c 29), .int (c 30), .int (c 31), .int (c 32), .int (c 33)])) := (gup_n (ne_oo qw_x fr0 (by decide))).trans qw_x
                      have q161_1 : (gup G' (x + 18 + tn a) (.inr (4, [.int (minOf 3000 ((S 1 (tn a)) + kq * groOf (S 2 (tn a)))), .int (S 2 (tn a)), .int (S 3 (tn a)), .int (S 4 (tn a)), .int ((S 5 (tn a)) + kq)]))) (x + 2) = some (.inl (E.2 4, 30, .inr (.inr (.inr (.inr fR))))) := (gup_n (ne_ao qw_x2 fr0)).trans qw_x2
                      have q161_a : (gup G' (x + 18 + tn a) (.inr (4, [.int (minOf 3000 ((S 1 (tn a)) + kq * groOf (S 2 (tn a)))), .int (S 2 (tn a)), .int (S 3 (tn a)), .int (S 4 (tn a)), .int ((S 5 (tn a)) + kq)]))) (x + 18 + tn a) = some (.inr (4, [.int (minOf 3000 ((S 1 (tn a)) + kq * groOf (S 2 (tn a)))), .int (S 2 (tn a)), .int (S 3 (tn a)), .int (S 4 (tn a)), .int ((S 5 (tn a)) + kq)])) := gup_s
                      have hP : gP E A n (gup G' (x + 18 + tn a) (.inr (4, [.int (minOf 3000 ((S 1 (tn a)) + kq * groOf (S 2 (tn a)))), .int (S 2 (tn a)), .int (S 3 (tn a)), .int (S 4 (tn a)), .int ((S 5 (tn a)) + kq)]))) H := hP
                      have hV_162 := sV.kp (kp_up (e1 := .inr (4, [.int (minOf 3000 ((S 1 (tn a)) + kq * groOf (S 2 (tn a)))), .int (S 2 (tn a)), .int (S 3 (tn a)), .int (S 4 (tn a)), .int ((S 5 (tn a)) + kq)])) fr0) (kpn (by decide : (22 : Nat) ≠ 4)) hV_w
                      have hR_162 := sR.kp (kp_up (e1 := .inr (4, [.int (minOf 3000 ((S 1 (tn a)) + kq * groOf (S 2 (tn a)))), .int (S 2 (tn a)), .int (S 3 (tn a)), .int (S 4 (tn a)), .int ((S 5 (tn a)) + kq)])) fr0) (kpn (by decide : (22 : Nat) ≠ 4)) hR_w
                      have hH1_162 := sH.kp (kp_up (e1 := .inr (4, [.int (minOf 3000 ((S 1 (tn a)) + kq * groOf (S 2 (tn a)))), .int (S 2 (tn a)), .int (S 3 (tn a)), .int (S 4 (tn a)), .int ((S 5 (tn a)) + kq)])) fr0) (kpn (by decide : (22 : Nat) ≠ 4)) hH1_w
                      have hB_162 := sB.kp (kp_up (e1 := .inr (4, [.int (minOf 3000 ((S 1 (tn a)) + kq * groOf (S 2 (tn a)))), .int (S 2 (tn a)), .int (S 3 (tn a)), .int (S 4 (tn a)), .int ((S 5 (tn a)) + kq)])) fr0) (kpn (by decide : (2 : Nat) ≠ 4)) (kpn (by decide : (1 : Nat) ≠ 4)) hB_w
                      have hL_162 := sL.kp (kp_up (e1 := .inr (4, [.int (minOf 3000 ((S 1 (tn a)) + kq * groOf (S 2 (tn a)))), .int (S 2 (tn a)), .int (S 3 (tn a)), .int (S 4 (tn a)), .int ((S 5 (tn a)) + kq)])) fr0) (kpn (by decide : (22 : Nat) ≠ 4)) (kpn (by decide : (1 : Nat) ≠ 4)) hL_w
                      have hPl_162 := sP.kp (kp_up (e1 := .inr (4, [.int (minOf 3000 ((S 1 (tn a)) + kq * groOf (S 2 (tn a)))), .int (S 2 (tn a)), .int (S 3 (tn a)), .int (S 4 (tn a)), .int ((S 5 (tn a)) + kq)])) fr0) (kpn (by decide : (21 : Nat) ≠ 4)) (kpn (by decide : (3 : Nat) ≠ 4)) hPl_w
                      have hHo_162 := sHo.kp (kp_up (e1 := .inr (4, [.int (minOf 3000 ((S 1 (tn a)) + kq * groOf (S 2 (tn a)))), .int (S 2 (tn a)), .int (S 3 (tn a)), .int (S 4 (tn a)), .int ((S 5 (tn a)) + kq)])) fr0) (kpn (by decide : (0 : Nat) ≠ 4)) (kpn (by decide : (5 : Nat) ≠ 4)) hHo_w
                      have hHa_162 := sHa.kp (kp_up (e1 := .inr (4, [.int (minOf 3000 ((S 1 (tn a)) + kq * groOf (S 2 (tn a)))), .int (S 2 (tn a)), .int (S 3 (tn a)), .int (S 4 (tn a)), .int ((S 5 (tn a)) + kq)])) fr0) (kpn (by decide : (20 : Nat) ≠ 4)) hHa_w
                      have hEv_162 := sE.kp (kp_up (e1 := .inr (4, [.int (minOf 3000 ((S 1 (tn a)) + kq * groOf (S 2 (tn a)))), .int (S 2 (tn a)), .int (S 3 (tn a)), .int (S 4 (tn a)), .int ((S 5 (tn a)) + kq)])) fr0) (kpn (by decide : (20 : Nat) ≠ 4)) hEv_w
                      have hVi_162 := sVi.kp (kp_up (e1 := .inr (4, [.int (minOf 3000 ((S 1 (tn a)) + kq * groOf (S 2 (tn a)))), .int (S 2 (tn a)), .int (S 3 (tn a)), .int (S 4 (tn a)), .int ((S 5 (tn a)) + kq)])) fr0) (kpn (by decide : (6 : Nat) ≠ 4)) hVi_w
                      have hWk_162 := sWk.kp (kp_up (e1 := .inr (4, [.int (minOf 3000 ((S 1 (tn a)) + kq * groOf (S 2 (tn a)))), .int (S 2 (tn a)), .int (S 3 (tn a)), .int (S 4 (tn a)), .int ((S 5 (tn a)) + kq)])) fr0) (kpn (by decide : (7 : Nat) ≠ 4)) hWk_w
                      have hRo_r : sRo (gup G' (x + 18 + tn a) (.inr (4, [.int (minOf 3000 ((S 1 (tn a)) + kq * groOf (S 2 (tn a)))), .int (S 2 (tn a)), .int (S 3 (tn a)), .int (S 4 (tn a)), .int ((S 5 (tn a)) + kq)]))) x (raiS (dS (va_up (va_up (va_up S 22 (upd (S 22) (21 * fiq + tn (c 0 / 52)) (nI hiq))) 19 (upd ((va_up S 22 (upd (S 22) (21 * fiq + tn (c 0 / 52)) (nI hiq))) 19) (21 * fiq + tn (c 0 / 52)) (f2 (tn (c 0 / 52)) + kq))) 21 (upd ((va_up (va_up S 22 (upd (S 22) (21 * fiq + tn (c 0 / 52)) (nI hiq))) 19 (upd ((va_up S 22 (upd (S 22) (21 * fiq + tn (c 0 / 52)) (nI hiq))) 19) (21 * fiq + tn (c 0 / 52)) (f2 (tn (c 0 / 52)) + kq))) 21) (21 * hiq + tn (c 0 / 52)) (f4 (tn (c 0 / 52)) + kq))) vq (tn (c 0)) kq) a kq) := sRo_put (t := tn a) hRo_w (rai_rod (dS (va_up (va_up (va_up S 22 (upd (S 22) (21 * fiq + tn (c 0 / 52)) (nI hiq))) 19 (upd ((va_up S 22 (upd (S 22) (21 * fiq + tn (c 0 / 52)) (nI hiq))) 19) (21 * fiq + tn (c 0 / 52)) (f2 (tn (c 0 / 52)) + kq))) 21 (upd ((va_up (va_up S 22 (upd (S 22) (21 * fiq + tn (c 0 / 52)) (nI hiq))) 19 (upd ((va_up S 22 (upd (S 22) (21 * fiq + tn (c 0 / 52)) (nI hiq))) 19) (21 * fiq + tn (c 0 / 52)) (f2 (tn (c 0 / 52)) + kq))) 21) (21 * hiq + tn (c 0 / 52)) (f4 (tn (c 0 / 52)) + kq))) vq (tn (c 0)) kq) a kq) (fun i hi => rai_other (dS (va_up (va_up (va_up S 22 (upd (S 22) (21 * fiq + tn (c 0 / 52)) (nI hiq))) 19 (upd ((va_up S 22 (upd (S 22) (21 * fiq + tn (c 0 / 52)) (nI hiq))) 19) (21 * fiq + tn (c 0 / 52)) (f2 (tn (c 0 / 52)) + kq))) 21 (upd ((va_up (va_up S 22 (upd (S 22) (21 * fiq + tn (c 0 / 52)) (nI hiq))) 19 (upd ((va_up S 22 (upd (S 22) (21 * fiq + tn (c 0 / 52)) (nI hiq))) 19) (21 * fiq + tn (c 0 / 52)) (f2 (tn (c 0 / 52)) + kq))) 21) (21 * hiq + tn (c 0 / 52)) (f4 (tn (c 0 / 52)) + kq))) vq (tn (c 0)) kq) a kq i hi)
                      refine lv_aload_n hx hb dX8_work_177 rfl (lv_at hl 3 rfl) ?_
                      refine lv_dup hx hb dX8_work_178 rfl ?_
                      refine g_get (ci := 8) hx hb hts hin8 hown hK hP q161_0 rfl 11 (by decide) hf61 rfl rfl dX8_work_179 ?_
                      refine lv_iload_n hx hb dX8_work_182 rfl (lv_at hl 6 rfl) ?_
                      refine lv_iadd hx hb dX8_work_183 ?_
                      refine g_put (ci := 8) (ty := .int) (v := .int ((c 31) + kq)) hx hb hts hin8 tyX8 tyX8_ok nmX8 hown hK hP hS q161_0 rfl 11 (by decide) hf61 rfl (Or.inl rfl) (by decide +kernel) rfl rfl (Nat.le_of_ble_eq_true rfl) dX8_work_184 (fun H locs hP hS => ?_)
                      have q163_0 : (gup (gup G' (x + 18 + tn a) (.inr (4, [.int (minOf 3000 ((S 1 (tn a)) + kq * groOf (S 2 (tn a)))), .int (S 2 (tn a)), .int (S 3 (tn a)), .int (S 4 (tn a)), .int ((S 5 (tn a)) + kq)]))) x (.inr (8, [.ref (x + 1), .ref (x + 2), .ref (x + 3), .ref (x + 4), .ref (x + 7), .ref (x + 9), .int (c 0), .int (c 7), .int (c 12), .int (c 29), .int (c 30), .int ((c 31) + kq), .int (c 32), .int (c 33)]))) (x + 2) = some (.inl (E.2 4, 30, .inr (.inr (.inr (.inr fR))))) := (gup_n (ne_ao q161_1 q161_0)).trans q161_1
                      have q163_1 : (gup (gup G' (x + 18 + tn a) (.inr (4, [.int (minOf 3000 ((S 1 (tn a)) + kq * groOf (S 2 (tn a)))), .int (S 2 (tn a)), .int (S 3 (tn a)), .int (S 4 (tn a)), .int ((S 5 (tn a)) + kq)]))) x (.inr (8, [.ref (x + 1), .ref (x + 2), .ref (x + 3), .ref (x + 4), .ref (x + 7), .ref (x + 9), .int (c 0), .int (c 7), .int (c 12), .int (c 29), .int (c 30), .int ((c 31) + kq), .int (c 32), .int (c 33)]))) (x + 18 + tn a) = some (.inr (4, [.int (minOf 3000 ((S 1 (tn a)) + kq * groOf (S 2 (tn a)))), .int (S 2 (tn a)), .int (S 3 (tn a)), .int (S 4 (tn a)), .int ((S 5 (tn a)) + kq)])) := (gup_n (ne_oo q161_a q161_0 (by decide))).trans q161_a
                      have q163_a : (gup (gup G' (x + 18 + tn a) (.inr (4, [.int (minOf 3000 ((S 1 (tn a)) + kq * groOf (S 2 (tn a)))), .int (S 2 (tn a)), .int (S 3 (tn a)), .int (S 4 (tn a)), .int ((S 5 (tn a)) + kq)]))) x (.inr (8, [.ref (x + 1), .ref (x + 2), .ref (x + 3), .ref (x + 4), .ref (x + 7), .ref (x + 9), .int (c 0), .int (c 7), .int (c 12), .int (c 29), .int (c 30), .int ((c 31) + kq), .int (c 32), .int (c 33)]))) x = some (.inr (8, [.ref (x + 1), .ref (x + 2), .ref (x + 3), .ref (x + 4), .ref (x + 7), .ref (x + 9), .int (c 0), .int (c 7), .int (c 12), .int (c 29), .int (c 30), .int ((c 31) + kq), .int (c 32), .int (c 33)])) := gup_s
                      have hP : gP E A n (gup (gup G' (x + 18 + tn a) (.inr (4, [.int (minOf 3000 ((S 1 (tn a)) + kq * groOf (S 2 (tn a)))), .int (S 2 (tn a)), .int (S 3 (tn a)), .int (S 4 (tn a)), .int ((S 5 (tn a)) + kq)]))) x (.inr (8, [.ref (x + 1), .ref (x + 2), .ref (x + 3), .ref (x + 4), .ref (x + 7), .ref (x + 9), .int (c 0), .int (c 7), .int (c 12), .int (c 29), .int (c 30), .int ((c 31) + kq), .int (c 32), .int (c 33)]))) H := hP
                      have hV_164 := sV.kp (kp_up (e1 := .inr (8, [.ref (x + 1), .ref (x + 2), .ref (x + 3), .ref (x + 4), .ref (x + 7), .ref (x + 9), .int (c 0), .int (c 7), .int (c 12), .int (c 29), .int (c 30), .int ((c 31) + kq), .int (c 32), .int (c 33)])) q161_0) (kpn (by decide : (22 : Nat) ≠ 8)) hV_162
                      have hR_164 := sR.kp (kp_up (e1 := .inr (8, [.ref (x + 1), .ref (x + 2), .ref (x + 3), .ref (x + 4), .ref (x + 7), .ref (x + 9), .int (c 0), .int (c 7), .int (c 12), .int (c 29), .int (c 30), .int ((c 31) + kq), .int (c 32), .int (c 33)])) q161_0) (kpn (by decide : (22 : Nat) ≠ 8)) hR_162
                      have hH1_164 := sH.kp (kp_up (e1 := .inr (8, [.ref (x + 1), .ref (x + 2), .ref (x + 3), .ref (x + 4), .ref (x + 7), .ref (x + 9), .int (c 0), .int (c 7), .int (c 12), .int (c 29), .int (c 30), .int ((c 31) + kq), .int (c 32), .int (c 33)])) q161_0) (kpn (by decide : (22 : Nat) ≠ 8)) hH1_162
                      have hB_164 := sB.kp (kp_up (e1 := .inr (8, [.ref (x + 1), .ref (x + 2), .ref (x + 3), .ref (x + 4), .ref (x + 7), .ref (x + 9), .int (c 0), .int (c 7), .int (c 12), .int (c 29), .int (c 30), .int ((c 31) + kq), .int (c 32), .int (c 33)])) q161_0) (kpn (by decide : (2 : Nat) ≠ 8)) (kpn (by decide : (1 : Nat) ≠ 8)) hB_162
                      have hL_164 := sL.kp (kp_up (e1 := .inr (8, [.ref (x + 1), .ref (x + 2), .ref (x + 3), .ref (x + 4), .ref (x + 7), .ref (x + 9), .int (c 0), .int (c 7), .int (c 12), .int (c 29), .int (c 30), .int ((c 31) + kq), .int (c 32), .int (c 33)])) q161_0) (kpn (by decide : (22 : Nat) ≠ 8)) (kpn (by decide : (1 : Nat) ≠ 8)) hL_162
                      have hPl_164 := sP.kp (kp_up (e1 := .inr (8, [.ref (x + 1), .ref (x + 2), .ref (x + 3), .ref (x + 4), .ref (x + 7), .ref (x + 9), .int (c 0), .int (c 7), .int (c 12), .int (c 29), .int (c 30), .int ((c 31) + kq), .int (c 32), .int (c 33)])) q161_0) (kpn (by decide : (21 : Nat) ≠ 8)) (kpn (by decide : (3 : Nat) ≠ 8)) hPl_162
                      have hHo_164 := sHo.kp (kp_up (e1 := .inr (8, [.ref (x + 1), .ref (x + 2), .ref (x + 3), .ref (x + 4), .ref (x + 7), .ref (x + 9), .int (c 0), .int (c 7), .int (c 12), .int (c 29), .int (c 30), .int ((c 31) + kq), .int (c 32), .int (c 33)])) q161_0) (kpn (by decide : (0 : Nat) ≠ 8)) (kpn (by decide : (5 : Nat) ≠ 8)) hHo_162
                      have hHa_164 := sHa.kp (kp_up (e1 := .inr (8, [.ref (x + 1), .ref (x + 2), .ref (x + 3), .ref (x + 4), .ref (x + 7), .ref (x + 9), .int (c 0), .int (c 7), .int (c 12), .int (c 29), .int (c 30), .int ((c 31) + kq), .int (c 32), .int (c 33)])) q161_0) (kpn (by decide : (20 : Nat) ≠ 8)) hHa_162
                      have hEv_164 := sE.kp (kp_up (e1 := .inr (8, [.ref (x + 1), .ref (x + 2), .ref (x + 3), .ref (x + 4), .ref (x + 7), .ref (x + 9), .int (c 0), .int (c 7), .int (c 12), .int (c 29), .int (c 30), .int ((c 31) + kq), .int (c 32), .int (c 33)])) q161_0) (kpn (by decide : (20 : Nat) ≠ 8)) hEv_162
                      have hVi_164 := sVi.kp (kp_up (e1 := .inr (8, [.ref (x + 1), .ref (x + 2), .ref (x + 3), .ref (x + 4), .ref (x + 7), .ref (x + 9), .int (c 0), .int (c 7), .int (c 12), .int (c 29), .int (c 30), .int ((c 31) + kq), .int (c 32), .int (c 33)])) q161_0) (kpn (by decide : (6 : Nat) ≠ 8)) hVi_162
                      have hWk_164 := sWk.kp (kp_up (e1 := .inr (8, [.ref (x + 1), .ref (x + 2), .ref (x + 3), .ref (x + 4), .ref (x + 7), .ref (x + 9), .int (c 0), .int (c 7), .int (c 12), .int (c 29), .int (c 30), .int ((c 31) + kq), .int (c 32), .int (c 33)])) q161_0) (kpn (by decide : (7 : Nat) ≠ 8)) hWk_162
                      have hRo_164 := sRo.kp (kp_up (e1 := .inr (8, [.ref (x + 1), .ref (x + 2), .ref (x + 3), .ref (x + 4), .ref (x + 7), .ref (x + 9), .int (c 0), .int (c 7), .int (c 12), .int (c 29), .int (c 30), .int ((c 31) + kq), .int (c 32), .int (c 33)])) q161_0) (kpn (by decide : (4 : Nat) ≠ 8)) hRo_r
                      refine lv_aload_n hx hb dX8_work_187 rfl (lv_at hl 3 rfl) ?_
                      refine lv_aload hx hb dX8_work_188 (lv_at hl 0 rfl) ?_
                      refine lv_iload hx hb dX8_work_190 (lv_at hl 2 rfl) ?_
                      have hk1 := Int32.le_iff_toInt_le.mp (Int32.not_lt.mp b61)
                      have e1_ : (1 : Int32).toInt = 1 := rfl
                      have hk2 := Int32.le_iff_toInt_le.mp b73
                      have hk6 := (yet_rng hp hj hf hy).1
                      have hp2 : pI (va_up c 31 (c 31 + kq)) (raiS (dS (va_up (va_up (va_up S 22 (upd (S 22) (21 * fiq + tn (c 0 / 52)) (nI hiq))) 19 (upd ((va_up S 22 (upd (S 22) (21 * fiq + tn (c 0 / 52)) (nI hiq))) 19) (21 * fiq + tn (c 0 / 52)) (f2 (tn (c 0 / 52)) + kq))) 21 (upd ((va_up (va_up S 22 (upd (S 22) (21 * fiq + tn (c 0 / 52)) (nI hiq))) 19 (upd ((va_up S 22 (upd (S 22) (21 * fiq + tn (c 0 / 52)) (nI hiq))) 19) (21 * fiq + tn (c 0 / 52)) (f2 (tn (c 0 / 52)) + kq))) 21) (21 * hiq + tn (c 0 / 52)) (f4 (tn (c 0 / 52)) + kq))) vq (tn (c 0)) kq) a kq) := ⟨hp.1, mH_rai (S := dS (va_up (va_up (va_up S 22 (upd (S 22) (21 * fiq + tn (c 0 / 52)) (nI hiq))) 19 (upd ((va_up S 22 (upd (S 22) (21 * fiq + tn (c 0 / 52)) (nI hiq))) 19) (21 * fiq + tn (c 0 / 52)) (f2 (tn (c 0 / 52)) + kq))) 21 (upd ((va_up (va_up S 22 (upd (S 22) (21 * fiq + tn (c 0 / 52)) (nI hiq))) 19 (upd ((va_up S 22 (upd (S 22) (21 * fiq + tn (c 0 / 52)) (nI hiq))) 19) (21 * fiq + tn (c 0 / 52)) (f2 (tn (c 0 / 52)) + kq))) 21) (21 * hiq + tn (c 0 / 52)) (f4 (tn (c 0 / 52)) + kq))) vq (tn (c 0)) kq) hp.2.1 (inB_vp b12 (by decide)) (by omega) (by omega), hp.2.2⟩
                      have hHo_f := sHo.cg (S' := raiS (dS (va_up (va_up (va_up S 22 (upd (S 22) (21 * fiq + tn (c 0 / 52)) (nI hiq))) 19 (upd ((va_up S 22 (upd (S 22) (21 * fiq + tn (c 0 / 52)) (nI hiq))) 19) (21 * fiq + tn (c 0 / 52)) (f2 (tn (c 0 / 52)) + kq))) 21 (upd ((va_up (va_up S 22 (upd (S 22) (21 * fiq + tn (c 0 / 52)) (nI hiq))) 19 (upd ((va_up S 22 (upd (S 22) (21 * fiq + tn (c 0 / 52)) (nI hiq))) 19) (21 * fiq + tn (c 0 / 52)) (f2 (tn (c 0 / 52)) + kq))) 21) (21 * hiq + tn (c 0 / 52)) (f4 (tn (c 0 / 52)) + kq))) vq (tn (c 0)) kq) a kq) (fun j h1 h2 => by simp only [raiS, dS, va_up]; repeat (first | rfl | (rw [if_neg (by omega)]))) hHo_164
                      have hHa_f := sHa.cg (S' := raiS (dS (va_up (va_up (va_up S 22 (upd (S 22) (21 * fiq + tn (c 0 / 52)) (nI hiq))) 19 (upd ((va_up S 22 (upd (S 22) (21 * fiq + tn (c 0 / 52)) (nI hiq))) 19) (21 * fiq + tn (c 0 / 52)) (f2 (tn (c 0 / 52)) + kq))) 21 (upd ((va_up (va_up S 22 (upd (S 22) (21 * fiq + tn (c 0 / 52)) (nI hiq))) 19 (upd ((va_up S 22 (upd (S 22) (21 * fiq + tn (c 0 / 52)) (nI hiq))) 19) (21 * fiq + tn (c 0 / 52)) (f2 (tn (c 0 / 52)) + kq))) 21) (21 * hiq + tn (c 0 / 52)) (f4 (tn (c 0 / 52)) + kq))) vq (tn (c 0)) kq) a kq) (fun j h1 h2 => by simp only [raiS, dS]; rw [va_up_ne _ _ (by omega), va_up_ne _ _ (by omega), va_up_ne _ _ (by omega)]) hHa_164
                      refine g_ci (g_runV (As := [.ref (ha fiq), .int (c 0 / 52)]) (rest := []) ⟨hx, hb, hml, hown, hts⟩ hK hP (kX8_daysOwedYet l E A n (gup (gup G' (x + 18 + tn a) (.inr (4, [.int (minOf 3000 ((S 1 (tn a)) + kq * groOf (S 2 (tn a)))), .int (S 2 (tn a)), .int (S 3 (tn a)), .int (S 4 (tn a)), .int ((S 5 (tn a)) + kq)]))) x (.inr (8, [.ref (x + 1), .ref (x + 2), .ref (x + 3), .ref (x + 4), .ref (x + 7), .ref (x + 9), .int (c 0), .int (c 7), .int (c 12), .int (c 29), .int (c 30), .int ((c 31) + kq), .int (c 32), .int (c 33)]))) x (va_up c 31 (c 31 + kq)) (raiS (dS (va_up (va_up (va_up S 22 (upd (S 22) (21 * fiq + tn (c 0 / 52)) (nI hiq))) 19 (upd ((va_up S 22 (upd (S 22) (21 * fiq + tn (c 0 / 52)) (nI hiq))) 19) (21 * fiq + tn (c 0 / 52)) (f2 (tn (c 0 / 52)) + kq))) 21 (upd ((va_up (va_up S 22 (upd (S 22) (21 * fiq + tn (c 0 / 52)) (nI hiq))) 19 (upd ((va_up S 22 (upd (S 22) (21 * fiq + tn (c 0 / 52)) (nI hiq))) 19) (21 * fiq + tn (c 0 / 52)) (f2 (tn (c 0 / 52)) + kq))) 21) (21 * hiq + tn (c 0 / 52)) (f4 (tn (c 0 / 52)) + kq))) vq (tn (c 0)) kq) a kq) fiq (c 0 / 52) ha q163_a hB_164 la hL_164 lt hHo_f hHa_f hp2 hf hy) (cwV 2 hts gX8_work_X8_daysOwedYet rfl rfl rfl (by decide +kernel) ⟨Nat.le_of_ble_eq_true rfl, Nat.le_of_ble_eq_true rfl⟩) q163_a rfl rfl hl.1 rfl (Nat.le_of_ble_eq_true rfl) dX8_work_192 ⟨Nat.le_of_ble_eq_true rfl, Nat.le_of_ble_eq_true rfl⟩) hS (fun r192 n' G' H locs hw hP hS => ?_)
                      obtain ⟨rfl, rfl, rfl⟩ := hw
                      refine W.widen (k := 1) (n := 3) (by omega) (by omega) ?_
                      refine g_reti hx hb hr hlk hP hS dX8_work_195 ?_
                      have hB0 : wrkB c S (nI hiq) a kq (nI fiq) = true := by
                        have z1 : inB kq 1 (yetOf c S (nI fiq) (c 0 / 52)) = true := inB_of hk1 hk2
                        have z2 : ¬ c 0 = 1040 := fun z => by rw [z] at b31; exact absurd b31 (by decide)
                        have z3 := b108
                        simp only [wrkB, b5, b12, b21, z1, tn_nI (show hiq < 2 ^ 31 by omega), tn_nI (show fiq < 2 ^ 31 by omega), yk_tn (show fiq < 40 by omega) hy, z3, Bool.or_true, Bool.true_and, Bool.and_true]
                        simp [z2]
                      have hwd : tn (1040 * S 6 hiq + c 0) = 1040 * vq + tn (c 0) := by rw [evq, ec0]; rw [dd_tn hvq ht9, ← ec0]
                      have hw1_ : wrk1 c S (nI hiq) kq (nI fiq) = va_up (va_up (va_up S 22 (upd (S 22) (21 * fiq + tn (c 0 / 52)) (nI hiq))) 19 (upd ((va_up S 22 (upd (S 22) (21 * fiq + tn (c 0 / 52)) (nI hiq))) 19) (21 * fiq + tn (c 0 / 52)) (f2 (tn (c 0 / 52)) + kq))) 21 (upd ((va_up (va_up S 22 (upd (S 22) (21 * fiq + tn (c 0 / 52)) (nI hiq))) 19 (upd ((va_up S 22 (upd (S 22) (21 * fiq + tn (c 0 / 52)) (nI hiq))) 19) (21 * fiq + tn (c 0 / 52)) (f2 (tn (c 0 / 52)) + kq))) 21) (21 * hiq + tn (c 0 / 52)) (f4 (tn (c 0 / 52)) + kq)) := by
                        rw [wrk1, if_neg b81, yk_tn (by omega) hy, yk_tn (by omega) hy, u2 _ (tn_lt hy), u4 _ (tn_lt hy)]; rfl
                      have hw2_ : wrk2 c S (nI hiq) kq (nI fiq) = dS (va_up (va_up (va_up S 22 (upd (S 22) (21 * fiq + tn (c 0 / 52)) (nI hiq))) 19 (upd ((va_up S 22 (upd (S 22) (21 * fiq + tn (c 0 / 52)) (nI hiq))) 19) (21 * fiq + tn (c 0 / 52)) (f2 (tn (c 0 / 52)) + kq))) 21 (upd ((va_up (va_up S 22 (upd (S 22) (21 * fiq + tn (c 0 / 52)) (nI hiq))) 19 (upd ((va_up S 22 (upd (S 22) (21 * fiq + tn (c 0 / 52)) (nI hiq))) 19) (21 * fiq + tn (c 0 / 52)) (f2 (tn (c 0 / 52)) + kq))) 21) (21 * hiq + tn (c 0 / 52)) (f4 (tn (c 0 / 52)) + kq))) vq (tn (c 0)) kq := by
                        rw [wrk2, hw1_, tn_nI (by omega), hwd]; rfl
                      refine ⟨by rw [wrkR, if_pos hB0, hw2_], Nat.le_refl _, ⟨ha, la, lt, wa, ww, wn⟩, ?_⟩
                      rw [wrkS, wrkC, if_pos hB0, if_pos hB0, hw2_]
                      exact ⟨q163_a, hV_164, hR_164, hH1_164, hB_164, hL_164, hPl_164, hEv_164, hRo_164, hVi_164, hWk_164, hW_w, hHo_f, hHa_f, hHp⟩
                    · have hdummy : True := trivial
                      have hb9 := (hW.2.1 vq hvq (wn vq - 1) (by omega))
                      have hnw : ¬ nI (ww vq (wn vq - 1)) = c 0 := fun z => by
                        rw [ec0] at z; exact hw1 ((nI_eq (by omega) (by omega)).mp z)
                      refine g_cv (g_runV (As := [.int (c 0), .int kq]) (rest := []) ⟨hx, hb, hml, hown, hts⟩ hK hP (kX6_addDays2 l E A n (gup (gup (gup G (ha fiq + 5) (.inl (E.2 0, 21, .inl (upd f5 (tn (c 0 / 52)) (nI hiq))))) (ha fiq + 2) (.inl (E.2 0, 21, .inl (upd f2 (tn (c 0 / 52)) ((f2 (tn (c 0 / 52))) + kq))))) (ha hiq + 4) (.inl (E.2 0, 21, .inl (upd f4 (tn (c 0 / 52)) ((f4 (tn (c 0 / 52))) + kq))))) (x + 10 + vq) (wa vq (wn vq - 1)) (wFs wa wn vq) (wNx wa wn vq (wn vq - 1)) (S 0 vq) (c 0) kq (nI (ww vq (wn vq - 1))) (S 23 (1040 * vq + ww vq (wn vq - 1))) fvB fw0 hnw hA) (cwV 2 hts gX8_work_X6_addDays rfl rfl rfl (by decide +kernel) ⟨Nat.le_of_ble_eq_true rfl, Nat.le_of_ble_eq_true rfl⟩) fvB rfl rfl hl.1 rfl (Nat.le_of_ble_eq_true rfl) dX8_work_164 ⟨Nat.le_of_ble_eq_true rfl, Nat.le_of_ble_eq_true rfl⟩) hS (fun n' G' H locs hw hP hS => ?_)
                      obtain ⟨rfl, hg1, hgl, hg2, hfr⟩ := hw
                      have hKw := kp_fr2 fvB (Or.inl rfl) fw0 (Or.inr rfl) hfr
                      obtain ⟨hVi_w, hWk_w, hW_w⟩ := wk_new (S := S) (k := kq) hvq ht9 (Or.inr (by omega)) hVi_156 hWk_156 hW (hPw.none (Nat.le_refl _)) (by rw [if_neg hw0, ← show wFs wa wn vq = some (wa vq 0) from by rw [wFs, if_neg hw0]]; exact hg1) (fun _ => hgl) (by rw [← ec0]; exact hg2) (fun b e h1 h2 => hfr b e h1 (h2 (by omega)))
                      have qw_x : G' x = some (.inr (8, [.ref (x + 1), .ref (x + 2), .ref (x + 3), .ref (x + 4), .ref (x + 7), .ref (x + 9), .int (c 0), .int (c 7), .int (c 12), .int (c 29), .int (c 30), .int (c 31), .int (c 32), .int (c 33)])) := hKw _ _ (by simp [kd]) q155_0
                      have qw_x2 : G' (x + 2) = some (.inl (E.2 4, 30, .inr (.inr (.inr (.inr fR))))) := hKw _ _ (by simp [kd]) q155_2
                      have hV_w := sV.kp hKw (by decide) hV_156
                      have hR_w := sR.kp hKw (by decide) hR_156
                      have hH1_w := sH.kp hKw (by decide) hH1_156
                      have hB_w := sB.kp hKw (by decide) (by decide) hB_156
                      have hL_w := sL.kp hKw (by decide) (by decide) hL_156
                      have hPl_w := sP.kp hKw (by decide) (by decide) hPl_156
                      have hRo_w := sRo.kp hKw (by decide) hRo_156
                      have hHo_w := sHo.kp hKw (by decide) (by decide) hHo_156
                      have hHa_w := sHa.kp hKw (by decide) hHa_c
                      have hEv_w := sE.kp hKw (by decide) hEv_c
                      refine lv_aload_n hx hb dX8_work_167 rfl (lv_at hl 3 rfl) ?_
                      refine g_get (ci := 8) hx hb hts hin8 hown hK hP qw_x rfl 1 (by decide) hf17 rfl rfl dX8_work_168 ?_
                      refine lv_iload_n hx hb dX8_work_171 rfl (lv_at hl 5 rfl) ?_
                      have fr0 := hRo_w (tn a) htr
                      refine g_aald (t0 := 4) (v := .ref (x + 18 + tn a)) hx hb hK hP qw_x2 rfl (inB_vp b12 (by decide)) (by rw [hR2 (tn a) htr]; rfl) dX8_work_172 ?_
                      refine lv_iload_n hx hb dX8_work_173 rfl (lv_at hl 6 rfl) ?_
                      refine g_cv (g_runV (As := [.int kq]) (rest := []) ⟨hx, hb, hml, hown, hts⟩ hK hP (kX4_raise l E A (n + 1) G' (x + 18 + tn a) (S 1 (tn a)) (S 2 (tn a)) (S 3 (tn a)) (S 4 (tn a)) (S 5 (tn a)) kq fr0) (cwV 1 hts gX8_work_X4_raise rfl rfl rfl (by decide +kernel) ⟨Nat.le_of_ble_eq_true rfl, Nat.le_of_ble_eq_true rfl⟩) fr0 rfl rfl hl.1 rfl (Nat.le_of_ble_eq_true rfl) dX8_work_174 ⟨Nat.le_of_ble_eq_true rfl, Nat.le_of_ble_eq_true rfl⟩) hS (fun n' G' H locs hw hP hS => ?_)
                      obtain ⟨rfl, rfl⟩ := hw
                      have q165_0 : (gup G' (x + 18 + tn a) (.inr (4, [.int (minOf 3000 ((S 1 (tn a)) + kq * groOf (S 2 (tn a)))), .int (S 2 (tn a)), .int (S 3 (tn a)), .int (S 4 (tn a)), .int ((S 5 (tn a)) + kq)]))) x = some (.inr (8, [.ref (x + 1), .ref (x + 2), .ref (x + 3), .ref (x + 4), .ref (x + 7), .ref (x + 9), .int (c 0), .int (c 7), .int (c 12), .int (c 29), .int (c 30), .int (c 31), .int (c 32), .int (c 33)])) := (gup_n (ne_oo qw_x fr0 (by decide))).trans qw_x
                      have q165_1 : (gup G' (x + 18 + tn a) (.inr (4, [.int (minOf 3000 ((S 1 (tn a)) + kq * groOf (S 2 (tn a)))), .int (S 2 (tn a)), .int (S 3 (tn a)), .int (S 4 (tn a)), .int ((S 5 (tn a)) + kq)]))) (x + 2) = some (.inl (E.2 4, 30, .inr (.inr (.inr (.inr fR))))) := (gup_n (ne_ao qw_x2 fr0)).trans qw_x2
                      have q165_a : (gup G' (x + 18 + tn a) (.inr (4, [.int (minOf 3000 ((S 1 (tn a)) + kq * groOf (S 2 (tn a)))), .int (S 2 (tn a)), .int (S 3 (tn a)), .int (S 4 (tn a)), .int ((S 5 (tn a)) + kq)]))) (x + 18 + tn a) = some (.inr (4, [.int (minOf 3000 ((S 1 (tn a)) + kq * groOf (S 2 (tn a)))), .int (S 2 (tn a)), .int (S 3 (tn a)), .int (S 4 (tn a)), .int ((S 5 (tn a)) + kq)])) := gup_s
                      have hP : gP E A (n + 1) (gup G' (x + 18 + tn a) (.inr (4, [.int (minOf 3000 ((S 1 (tn a)) + kq * groOf (S 2 (tn a)))), .int (S 2 (tn a)), .int (S 3 (tn a)), .int (S 4 (tn a)), .int ((S 5 (tn a)) + kq)]))) H := hP
                      have hV_166 := sV.kp (kp_up (e1 := .inr (4, [.int (minOf 3000 ((S 1 (tn a)) + kq * groOf (S 2 (tn a)))), .int (S 2 (tn a)), .int (S 3 (tn a)), .int (S 4 (tn a)), .int ((S 5 (tn a)) + kq)])) fr0) (kpn (by decide : (22 : Nat) ≠ 4)) hV_w
                      have hR_166 := sR.kp (kp_up (e1 := .inr (4, [.int (minOf 3000 ((S 1 (tn a)) + kq * groOf (S 2 (tn a)))), .int (S 2 (tn a)), .int (S 3 (tn a)), .int (S 4 (tn a)), .int ((S 5 (tn a)) + kq)])) fr0) (kpn (by decide : (22 : Nat) ≠ 4)) hR_w
                      have hH1_166 := sH.kp (kp_up (e1 := .inr (4, [.int (minOf 3000 ((S 1 (tn a)) + kq * groOf (S 2 (tn a)))), .int (S 2 (tn a)), .int (S 3 (tn a)), .int (S 4 (tn a)), .int ((S 5 (tn a)) + kq)])) fr0) (kpn (by decide : (22 : Nat) ≠ 4)) hH1_w
                      have hB_166 := sB.kp (kp_up (e1 := .inr (4, [.int (minOf 3000 ((S 1 (tn a)) + kq * groOf (S 2 (tn a)))), .int (S 2 (tn a)), .int (S 3 (tn a)), .int (S 4 (tn a)), .int ((S 5 (tn a)) + kq)])) fr0) (kpn (by decide : (2 : Nat) ≠ 4)) (kpn (by decide : (1 : Nat) ≠ 4)) hB_w
                      have hL_166 := sL.kp (kp_up (e1 := .inr (4, [.int (minOf 3000 ((S 1 (tn a)) + kq * groOf (S 2 (tn a)))), .int (S 2 (tn a)), .int (S 3 (tn a)), .int (S 4 (tn a)), .int ((S 5 (tn a)) + kq)])) fr0) (kpn (by decide : (22 : Nat) ≠ 4)) (kpn (by decide : (1 : Nat) ≠ 4)) hL_w
                      have hPl_166 := sP.kp (kp_up (e1 := .inr (4, [.int (minOf 3000 ((S 1 (tn a)) + kq * groOf (S 2 (tn a)))), .int (S 2 (tn a)), .int (S 3 (tn a)), .int (S 4 (tn a)), .int ((S 5 (tn a)) + kq)])) fr0) (kpn (by decide : (21 : Nat) ≠ 4)) (kpn (by decide : (3 : Nat) ≠ 4)) hPl_w
                      have hHo_166 := sHo.kp (kp_up (e1 := .inr (4, [.int (minOf 3000 ((S 1 (tn a)) + kq * groOf (S 2 (tn a)))), .int (S 2 (tn a)), .int (S 3 (tn a)), .int (S 4 (tn a)), .int ((S 5 (tn a)) + kq)])) fr0) (kpn (by decide : (0 : Nat) ≠ 4)) (kpn (by decide : (5 : Nat) ≠ 4)) hHo_w
                      have hHa_166 := sHa.kp (kp_up (e1 := .inr (4, [.int (minOf 3000 ((S 1 (tn a)) + kq * groOf (S 2 (tn a)))), .int (S 2 (tn a)), .int (S 3 (tn a)), .int (S 4 (tn a)), .int ((S 5 (tn a)) + kq)])) fr0) (kpn (by decide : (20 : Nat) ≠ 4)) hHa_w
                      have hEv_166 := sE.kp (kp_up (e1 := .inr (4, [.int (minOf 3000 ((S 1 (tn a)) + kq * groOf (S 2 (tn a)))), .int (S 2 (tn a)), .int (S 3 (tn a)), .int (S 4 (tn a)), .int ((S 5 (tn a)) + kq)])) fr0) (kpn (by decide : (20 : Nat) ≠ 4)) hEv_w
                      have hVi_166 := sVi.kp (kp_up (e1 := .inr (4, [.int (minOf 3000 ((S 1 (tn a)) + kq * groOf (S 2 (tn a)))), .int (S 2 (tn a)), .int (S 3 (tn a)), .int (S 4 (tn a)), .int ((S 5 (tn a)) + kq)])) fr0) (kpn (by decide : (6 : Nat) ≠ 4)) hVi_w
                      have hWk_166 := sWk.kp (kp_up (e1 := .inr (4, [.int (minOf 3000 ((S 1 (tn a)) + kq * groOf (S 2 (tn a)))), .int (S 2 (tn a)), .int (S 3 (tn a)), .int (S 4 (tn a)), .int ((S 5 (tn a)) + kq)])) fr0) (kpn (by decide : (7 : Nat) ≠ 4)) hWk_w
                      have hRo_r : sRo (gup G' (x + 18 + tn a) (.inr (4, [.int (minOf 3000 ((S 1 (tn a)) + kq * groOf (S 2 (tn a)))), .int (S 2 (tn a)), .int (S 3 (tn a)), .int (S 4 (tn a)), .int ((S 5 (tn a)) + kq)]))) x (raiS (dS (va_up (va_up (va_up S 22 (upd (S 22) (21 * fiq + tn (c 0 / 52)) (nI hiq))) 19 (upd ((va_up S 22 (upd (S 22) (21 * fiq + tn (c 0 / 52)) (nI hiq))) 19) (21 * fiq + tn (c 0 / 52)) (f2 (tn (c 0 / 52)) + kq))) 21 (upd ((va_up (va_up S 22 (upd (S 22) (21 * fiq + tn (c 0 / 52)) (nI hiq))) 19 (upd ((va_up S 22 (upd (S 22) (21 * fiq + tn (c 0 / 52)) (nI hiq))) 19) (21 * fiq + tn (c 0 / 52)) (f2 (tn (c 0 / 52)) + kq))) 21) (21 * hiq + tn (c 0 / 52)) (f4 (tn (c 0 / 52)) + kq))) vq (tn (c 0)) kq) a kq) := sRo_put (t := tn a) hRo_w (rai_rod (dS (va_up (va_up (va_up S 22 (upd (S 22) (21 * fiq + tn (c 0 / 52)) (nI hiq))) 19 (upd ((va_up S 22 (upd (S 22) (21 * fiq + tn (c 0 / 52)) (nI hiq))) 19) (21 * fiq + tn (c 0 / 52)) (f2 (tn (c 0 / 52)) + kq))) 21 (upd ((va_up (va_up S 22 (upd (S 22) (21 * fiq + tn (c 0 / 52)) (nI hiq))) 19 (upd ((va_up S 22 (upd (S 22) (21 * fiq + tn (c 0 / 52)) (nI hiq))) 19) (21 * fiq + tn (c 0 / 52)) (f2 (tn (c 0 / 52)) + kq))) 21) (21 * hiq + tn (c 0 / 52)) (f4 (tn (c 0 / 52)) + kq))) vq (tn (c 0)) kq) a kq) (fun i hi => rai_other (dS (va_up (va_up (va_up S 22 (upd (S 22) (21 * fiq + tn (c 0 / 52)) (nI hiq))) 19 (upd ((va_up S 22 (upd (S 22) (21 * fiq + tn (c 0 / 52)) (nI hiq))) 19) (21 * fiq + tn (c 0 / 52)) (f2 (tn (c 0 / 52)) + kq))) 21 (upd ((va_up (va_up S 22 (upd (S 22) (21 * fiq + tn (c 0 / 52)) (nI hiq))) 19 (upd ((va_up S 22 (upd (S 22) (21 * fiq + tn (c 0 / 52)) (nI hiq))) 19) (21 * fiq + tn (c 0 / 52)) (f2 (tn (c 0 / 52)) + kq))) 21) (21 * hiq + tn (c 0 / 52)) (f4 (tn (c 0 / 52)) + kq))) vq (tn (c 0)) kq) a kq i hi)
                      refine lv_aload_n hx hb dX8_work_177 rfl (lv_at hl 3 rfl) ?_
                      refine lv_dup hx hb dX8_work_178 rfl ?_
                      refine g_get (ci := 8) hx hb hts hin8 hown hK hP q165_0 rfl 11 (by decide) hf61 rfl rfl dX8_work_179 ?_
                      refine lv_iload_n hx hb dX8_work_182 rfl (lv_at hl 6 rfl) ?_
                      refine lv_iadd hx hb dX8_work_183 ?_
                      refine g_put (ci := 8) (ty := .int) (v := .int ((c 31) + kq)) hx hb hts hin8 tyX8 tyX8_ok nmX8 hown hK hP hS q165_0 rfl 11 (by decide) hf61 rfl (Or.inl rfl) (by decide +kernel) rfl rfl (Nat.le_of_ble_eq_true rfl) dX8_work_184 (fun H locs hP hS => ?_)
                      have q167_0 : (gup (gup G' (x + 18 + tn a) (.inr (4, [.int (minOf 3000 ((S 1 (tn a)) + kq * groOf (S 2 (tn a)))), .int (S 2 (tn a)), .int (S 3 (tn a)), .int (S 4 (tn a)), .int ((S 5 (tn a)) + kq)]))) x (.inr (8, [.ref (x + 1), .ref (x + 2), .ref (x + 3), .ref (x + 4), .ref (x + 7), .ref (x + 9), .int (c 0), .int (c 7), .int (c 12), .int (c 29), .int (c 30), .int ((c 31) + kq), .int (c 32), .int (c 33)]))) (x + 2) = some (.inl (E.2 4, 30, .inr (.inr (.inr (.inr fR))))) := (gup_n (ne_ao q165_1 q165_0)).trans q165_1
                      have q167_1 : (gup (gup G' (x + 18 + tn a) (.inr (4, [.int (minOf 3000 ((S 1 (tn a)) + kq * groOf (S 2 (tn a)))), .int (S 2 (tn a)), .int (S 3 (tn a)), .int (S 4 (tn a)), .int ((S 5 (tn a)) + kq)]))) x (.inr (8, [.ref (x + 1), .ref (x + 2), .ref (x + 3), .ref (x + 4), .ref (x + 7), .ref (x + 9), .int (c 0), .int (c 7), .int (c 12), .int (c 29), .int (c 30), .int ((c 31) + kq), .int (c 32), .int (c 33)]))) (x + 18 + tn a) = some (.inr (4, [.int (minOf 3000 ((S 1 (tn a)) + kq * groOf (S 2 (tn a)))), .int (S 2 (tn a)), .int (S 3 (tn a)), .int (S 4 (tn a)), .int ((S 5 (tn a)) + kq)])) := (gup_n (ne_oo q165_a q165_0 (by decide))).trans q165_a
                      have q167_a : (gup (gup G' (x + 18 + tn a) (.inr (4, [.int (minOf 3000 ((S 1 (tn a)) + kq * groOf (S 2 (tn a)))), .int (S 2 (tn a)), .int (S 3 (tn a)), .int (S 4 (tn a)), .int ((S 5 (tn a)) + kq)]))) x (.inr (8, [.ref (x + 1), .ref (x + 2), .ref (x + 3), .ref (x + 4), .ref (x + 7), .ref (x + 9), .int (c 0), .int (c 7), .int (c 12), .int (c 29), .int (c 30), .int ((c 31) + kq), .int (c 32), .int (c 33)]))) x = some (.inr (8, [.ref (x + 1), .ref (x + 2), .ref (x + 3), .ref (x + 4), .ref (x + 7), .ref (x + 9), .int (c 0), .int (c 7), .int (c 12), .int (c 29), .int (c 30), .int ((c 31) + kq), .int (c 32), .int (c 33)])) := gup_s
                      have hP : gP E A (n + 1) (gup (gup G' (x + 18 + tn a) (.inr (4, [.int (minOf 3000 ((S 1 (tn a)) + kq * groOf (S 2 (tn a)))), .int (S 2 (tn a)), .int (S 3 (tn a)), .int (S 4 (tn a)), .int ((S 5 (tn a)) + kq)]))) x (.inr (8, [.ref (x + 1), .ref (x + 2), .ref (x + 3), .ref (x + 4), .ref (x + 7), .ref (x + 9), .int (c 0), .int (c 7), .int (c 12), .int (c 29), .int (c 30), .int ((c 31) + kq), .int (c 32), .int (c 33)]))) H := hP
                      have hV_168 := sV.kp (kp_up (e1 := .inr (8, [.ref (x + 1), .ref (x + 2), .ref (x + 3), .ref (x + 4), .ref (x + 7), .ref (x + 9), .int (c 0), .int (c 7), .int (c 12), .int (c 29), .int (c 30), .int ((c 31) + kq), .int (c 32), .int (c 33)])) q165_0) (kpn (by decide : (22 : Nat) ≠ 8)) hV_166
                      have hR_168 := sR.kp (kp_up (e1 := .inr (8, [.ref (x + 1), .ref (x + 2), .ref (x + 3), .ref (x + 4), .ref (x + 7), .ref (x + 9), .int (c 0), .int (c 7), .int (c 12), .int (c 29), .int (c 30), .int ((c 31) + kq), .int (c 32), .int (c 33)])) q165_0) (kpn (by decide : (22 : Nat) ≠ 8)) hR_166
                      have hH1_168 := sH.kp (kp_up (e1 := .inr (8, [.ref (x + 1), .ref (x + 2), .ref (x + 3), .ref (x + 4), .ref (x + 7), .ref (x + 9), .int (c 0), .int (c 7), .int (c 12), .int (c 29), .int (c 30), .int ((c 31) + kq), .int (c 32), .int (c 33)])) q165_0) (kpn (by decide : (22 : Nat) ≠ 8)) hH1_166
                      have hB_168 := sB.kp (kp_up (e1 := .inr (8, [.ref (x + 1), .ref (x + 2), .ref (x + 3), .ref (x + 4), .ref (x + 7), .ref (x + 9), .int (c 0), .int (c 7), .int (c 12), .int (c 29), .int (c 30), .int ((c 31) + kq), .int (c 32), .int (c 33)])) q165_0) (kpn (by decide : (2 : Nat) ≠ 8)) (kpn (by decide : (1 : Nat) ≠ 8)) hB_166
                      have hL_168 := sL.kp (kp_up (e1 := .inr (8, [.ref (x + 1), .ref (x + 2), .ref (x + 3), .ref (x + 4), .ref (x + 7), .ref (x + 9), .int (c 0), .int (c 7), .int (c 12), .int (c 29), .int (c 30), .int ((c 31) + kq), .int (c 32), .int (c 33)])) q165_0) (kpn (by decide : (22 : Nat) ≠ 8)) (kpn (by decide : (1 : Nat) ≠ 8)) hL_166
                      have hPl_168 := sP.kp (kp_up (e1 := .inr (8, [.ref (x + 1), .ref (x + 2), .ref (x + 3), .ref (x + 4), .ref (x + 7), .ref (x + 9), .int (c 0), .int (c 7), .int (c 12), .int (c 29), .int (c 30), .int ((c 31) + kq), .int (c 32), .int (c 33)])) q165_0) (kpn (by decide : (21 : Nat) ≠ 8)) (kpn (by decide : (3 : Nat) ≠ 8)) hPl_166
                      have hHo_168 := sHo.kp (kp_up (e1 := .inr (8, [.ref (x + 1), .ref (x + 2), .ref (x + 3), .ref (x + 4), .ref (x + 7), .ref (x + 9), .int (c 0), .int (c 7), .int (c 12), .int (c 29), .int (c 30), .int ((c 31) + kq), .int (c 32), .int (c 33)])) q165_0) (kpn (by decide : (0 : Nat) ≠ 8)) (kpn (by decide : (5 : Nat) ≠ 8)) hHo_166
                      have hHa_168 := sHa.kp (kp_up (e1 := .inr (8, [.ref (x + 1), .ref (x + 2), .ref (x + 3), .ref (x + 4), .ref (x + 7), .ref (x + 9), .int (c 0), .int (c 7), .int (c 12), .int (c 29), .int (c 30), .int ((c 31) + kq), .int (c 32), .int (c 33)])) q165_0) (kpn (by decide : (20 : Nat) ≠ 8)) hHa_166
                      have hEv_168 := sE.kp (kp_up (e1 := .inr (8, [.ref (x + 1), .ref (x + 2), .ref (x + 3), .ref (x + 4), .ref (x + 7), .ref (x + 9), .int (c 0), .int (c 7), .int (c 12), .int (c 29), .int (c 30), .int ((c 31) + kq), .int (c 32), .int (c 33)])) q165_0) (kpn (by decide : (20 : Nat) ≠ 8)) hEv_166
                      have hVi_168 := sVi.kp (kp_up (e1 := .inr (8, [.ref (x + 1), .ref (x + 2), .ref (x + 3), .ref (x + 4), .ref (x + 7), .ref (x + 9), .int (c 0), .int (c 7), .int (c 12), .int (c 29), .int (c 30), .int ((c 31) + kq), .int (c 32), .int (c 33)])) q165_0) (kpn (by decide : (6 : Nat) ≠ 8)) hVi_166
                      have hWk_168 := sWk.kp (kp_up (e1 := .inr (8, [.ref (x + 1), .ref (x + 2), .ref (x + 3), .ref (x + 4), .ref (x + 7), .ref (x + 9), .int (c 0), .int (c 7), .int (c 12), .int (c 29), .int (c 30), .int ((c 31) + kq), .int (c 32), .int (c 33)])) q165_0) (kpn (by decide : (7 : Nat) ≠ 8)) hWk_166
                      have hRo_168 := sRo.kp (kp_up (e1 := .inr (8, [.ref (x + 1), .ref (x + 2), .ref (x + 3), .ref (x + 4), .ref (x + 7), .ref (x + 9), .int (c 0), .int (c 7), .int (c 12), .int (c 29), .int (c 30), .int ((c 31) + kq), .int (c 32), .int (c 33)])) q165_0) (kpn (by decide : (4 : Nat) ≠ 8)) hRo_r
                      refine lv_aload_n hx hb dX8_work_187 rfl (lv_at hl 3 rfl) ?_
                      refine lv_aload hx hb dX8_work_188 (lv_at hl 0 rfl) ?_
                      refine lv_iload hx hb dX8_work_190 (lv_at hl 2 rfl) ?_
                      have hk1 := Int32.le_iff_toInt_le.mp (Int32.not_lt.mp b61)
                      have e1_ : (1 : Int32).toInt = 1 := rfl
                      have hk2 := Int32.le_iff_toInt_le.mp b73
                      have hk6 := (yet_rng hp hj hf hy).1
                      have hp2 : pI (va_up c 31 (c 31 + kq)) (raiS (dS (va_up (va_up (va_up S 22 (upd (S 22) (21 * fiq + tn (c 0 / 52)) (nI hiq))) 19 (upd ((va_up S 22 (upd (S 22) (21 * fiq + tn (c 0 / 52)) (nI hiq))) 19) (21 * fiq + tn (c 0 / 52)) (f2 (tn (c 0 / 52)) + kq))) 21 (upd ((va_up (va_up S 22 (upd (S 22) (21 * fiq + tn (c 0 / 52)) (nI hiq))) 19 (upd ((va_up S 22 (upd (S 22) (21 * fiq + tn (c 0 / 52)) (nI hiq))) 19) (21 * fiq + tn (c 0 / 52)) (f2 (tn (c 0 / 52)) + kq))) 21) (21 * hiq + tn (c 0 / 52)) (f4 (tn (c 0 / 52)) + kq))) vq (tn (c 0)) kq) a kq) := ⟨hp.1, mH_rai (S := dS (va_up (va_up (va_up S 22 (upd (S 22) (21 * fiq + tn (c 0 / 52)) (nI hiq))) 19 (upd ((va_up S 22 (upd (S 22) (21 * fiq + tn (c 0 / 52)) (nI hiq))) 19) (21 * fiq + tn (c 0 / 52)) (f2 (tn (c 0 / 52)) + kq))) 21 (upd ((va_up (va_up S 22 (upd (S 22) (21 * fiq + tn (c 0 / 52)) (nI hiq))) 19 (upd ((va_up S 22 (upd (S 22) (21 * fiq + tn (c 0 / 52)) (nI hiq))) 19) (21 * fiq + tn (c 0 / 52)) (f2 (tn (c 0 / 52)) + kq))) 21) (21 * hiq + tn (c 0 / 52)) (f4 (tn (c 0 / 52)) + kq))) vq (tn (c 0)) kq) hp.2.1 (inB_vp b12 (by decide)) (by omega) (by omega), hp.2.2⟩
                      have hHo_f := sHo.cg (S' := raiS (dS (va_up (va_up (va_up S 22 (upd (S 22) (21 * fiq + tn (c 0 / 52)) (nI hiq))) 19 (upd ((va_up S 22 (upd (S 22) (21 * fiq + tn (c 0 / 52)) (nI hiq))) 19) (21 * fiq + tn (c 0 / 52)) (f2 (tn (c 0 / 52)) + kq))) 21 (upd ((va_up (va_up S 22 (upd (S 22) (21 * fiq + tn (c 0 / 52)) (nI hiq))) 19 (upd ((va_up S 22 (upd (S 22) (21 * fiq + tn (c 0 / 52)) (nI hiq))) 19) (21 * fiq + tn (c 0 / 52)) (f2 (tn (c 0 / 52)) + kq))) 21) (21 * hiq + tn (c 0 / 52)) (f4 (tn (c 0 / 52)) + kq))) vq (tn (c 0)) kq) a kq) (fun j h1 h2 => by simp only [raiS, dS, va_up]; repeat (first | rfl | (rw [if_neg (by omega)]))) hHo_168
                      have hHa_f := sHa.cg (S' := raiS (dS (va_up (va_up (va_up S 22 (upd (S 22) (21 * fiq + tn (c 0 / 52)) (nI hiq))) 19 (upd ((va_up S 22 (upd (S 22) (21 * fiq + tn (c 0 / 52)) (nI hiq))) 19) (21 * fiq + tn (c 0 / 52)) (f2 (tn (c 0 / 52)) + kq))) 21 (upd ((va_up (va_up S 22 (upd (S 22) (21 * fiq + tn (c 0 / 52)) (nI hiq))) 19 (upd ((va_up S 22 (upd (S 22) (21 * fiq + tn (c 0 / 52)) (nI hiq))) 19) (21 * fiq + tn (c 0 / 52)) (f2 (tn (c 0 / 52)) + kq))) 21) (21 * hiq + tn (c 0 / 52)) (f4 (tn (c 0 / 52)) + kq))) vq (tn (c 0)) kq) a kq) (fun j h1 h2 => by simp only [raiS, dS]; rw [va_up_ne _ _ (by omega), va_up_ne _ _ (by omega), va_up_ne _ _ (by omega)]) hHa_168
                      refine g_ci (g_runV (As := [.ref (ha fiq), .int (c 0 / 52)]) (rest := []) ⟨hx, hb, hml, hown, hts⟩ hK hP (kX8_daysOwedYet l E A (n + 1) (gup (gup G' (x + 18 + tn a) (.inr (4, [.int (minOf 3000 ((S 1 (tn a)) + kq * groOf (S 2 (tn a)))), .int (S 2 (tn a)), .int (S 3 (tn a)), .int (S 4 (tn a)), .int ((S 5 (tn a)) + kq)]))) x (.inr (8, [.ref (x + 1), .ref (x + 2), .ref (x + 3), .ref (x + 4), .ref (x + 7), .ref (x + 9), .int (c 0), .int (c 7), .int (c 12), .int (c 29), .int (c 30), .int ((c 31) + kq), .int (c 32), .int (c 33)]))) x (va_up c 31 (c 31 + kq)) (raiS (dS (va_up (va_up (va_up S 22 (upd (S 22) (21 * fiq + tn (c 0 / 52)) (nI hiq))) 19 (upd ((va_up S 22 (upd (S 22) (21 * fiq + tn (c 0 / 52)) (nI hiq))) 19) (21 * fiq + tn (c 0 / 52)) (f2 (tn (c 0 / 52)) + kq))) 21 (upd ((va_up (va_up S 22 (upd (S 22) (21 * fiq + tn (c 0 / 52)) (nI hiq))) 19 (upd ((va_up S 22 (upd (S 22) (21 * fiq + tn (c 0 / 52)) (nI hiq))) 19) (21 * fiq + tn (c 0 / 52)) (f2 (tn (c 0 / 52)) + kq))) 21) (21 * hiq + tn (c 0 / 52)) (f4 (tn (c 0 / 52)) + kq))) vq (tn (c 0)) kq) a kq) fiq (c 0 / 52) ha q167_a hB_168 la hL_168 lt hHo_f hHa_f hp2 hf hy) (cwV 2 hts gX8_work_X8_daysOwedYet rfl rfl rfl (by decide +kernel) ⟨Nat.le_of_ble_eq_true rfl, Nat.le_of_ble_eq_true rfl⟩) q167_a rfl rfl hl.1 rfl (Nat.le_of_ble_eq_true rfl) dX8_work_192 ⟨Nat.le_of_ble_eq_true rfl, Nat.le_of_ble_eq_true rfl⟩) hS (fun r192 n' G' H locs hw hP hS => ?_)
                      obtain ⟨rfl, rfl, rfl⟩ := hw
                      refine W.widen (k := 1) (n := 3) (by omega) (by omega) ?_
                      refine g_reti hx hb hr hlk hP hS dX8_work_195 ?_
                      have hB0 : wrkB c S (nI hiq) a kq (nI fiq) = true := by
                        have z1 : inB kq 1 (yetOf c S (nI fiq) (c 0 / 52)) = true := inB_of hk1 hk2
                        have z2 : ¬ c 0 = 1040 := fun z => by rw [z] at b31; exact absurd b31 (by decide)
                        have z3 := b108
                        simp only [wrkB, b5, b12, b21, z1, tn_nI (show hiq < 2 ^ 31 by omega), tn_nI (show fiq < 2 ^ 31 by omega), yk_tn (show fiq < 40 by omega) hy, z3, Bool.or_true, Bool.true_and, Bool.and_true]
                        simp [z2]
                      have hwd : tn (1040 * S 6 hiq + c 0) = 1040 * vq + tn (c 0) := by rw [evq, ec0]; rw [dd_tn hvq ht9, ← ec0]
                      have hw1_ : wrk1 c S (nI hiq) kq (nI fiq) = va_up (va_up (va_up S 22 (upd (S 22) (21 * fiq + tn (c 0 / 52)) (nI hiq))) 19 (upd ((va_up S 22 (upd (S 22) (21 * fiq + tn (c 0 / 52)) (nI hiq))) 19) (21 * fiq + tn (c 0 / 52)) (f2 (tn (c 0 / 52)) + kq))) 21 (upd ((va_up (va_up S 22 (upd (S 22) (21 * fiq + tn (c 0 / 52)) (nI hiq))) 19 (upd ((va_up S 22 (upd (S 22) (21 * fiq + tn (c 0 / 52)) (nI hiq))) 19) (21 * fiq + tn (c 0 / 52)) (f2 (tn (c 0 / 52)) + kq))) 21) (21 * hiq + tn (c 0 / 52)) (f4 (tn (c 0 / 52)) + kq)) := by
                        rw [wrk1, if_neg b81, yk_tn (by omega) hy, yk_tn (by omega) hy, u2 _ (tn_lt hy), u4 _ (tn_lt hy)]; rfl
                      have hw2_ : wrk2 c S (nI hiq) kq (nI fiq) = dS (va_up (va_up (va_up S 22 (upd (S 22) (21 * fiq + tn (c 0 / 52)) (nI hiq))) 19 (upd ((va_up S 22 (upd (S 22) (21 * fiq + tn (c 0 / 52)) (nI hiq))) 19) (21 * fiq + tn (c 0 / 52)) (f2 (tn (c 0 / 52)) + kq))) 21 (upd ((va_up (va_up S 22 (upd (S 22) (21 * fiq + tn (c 0 / 52)) (nI hiq))) 19 (upd ((va_up S 22 (upd (S 22) (21 * fiq + tn (c 0 / 52)) (nI hiq))) 19) (21 * fiq + tn (c 0 / 52)) (f2 (tn (c 0 / 52)) + kq))) 21) (21 * hiq + tn (c 0 / 52)) (f4 (tn (c 0 / 52)) + kq))) vq (tn (c 0)) kq := by
                        rw [wrk2, hw1_, tn_nI (by omega), hwd]; rfl
                      refine ⟨by rw [wrkR, if_pos hB0, hw2_], by omega, ⟨ha, la, lt, wa2 wa wn vq n, wa2 ww wn vq (tn (c 0)), va_up wn vq (wn vq + 1)⟩, ?_⟩
                      rw [wrkS, wrkC, if_pos hB0, if_pos hB0, hw2_]
                      exact ⟨q167_a, hV_168, hR_168, hH1_168, hB_168, hL_168, hPl_168, hEv_168, hRo_168, hVi_168, hWk_168, hW_w, hHo_f, hHa_f, hHp⟩
              · have hfh : hiq = fiq := (nI_eq (by omega) (by omega)).mp b81
                subst hfh
                obtain ⟨f1, g1, u1⟩ := hHa hiq hh 0 (by decide)
                have g1 : G (ha hiq + 1) = some (.inl (E.2 0, 21, .inl f1)) := g1
                refine lv_aload hx hb dX8_work_84 (lv_at hl 0 rfl) ?_
                refine g_get (ci := 0) hx hb hts hin0 hown hK hP fh56 rfl 2 (by decide) hf152 rfl rfl dX8_work_86 ?_
                refine lv_iload hx hb dX8_work_89 (lv_at hl 2 rfl) ?_
                refine lv_dup2_11 hx hb dX8_work_91 rfl rfl ?_
                refine g_iald hx hb hK hP g1 hy dX8_work_92 ?_
                refine lv_iload_n hx hb dX8_work_93 rfl (lv_at hl 6 rfl) ?_
                refine lv_iadd hx hb dX8_work_94 ?_
                refine g_iast hx hb hK hP hS g1 hy dX8_work_95 (fun H locs hP hS => ?_)
                have q169_0 : (gup G (ha hiq + 1) (.inl (E.2 0, 21, .inl (upd f1 (tn (c 0 / 52)) ((f1 (tn (c 0 / 52))) + kq))))) x = some (.inr (8, [.ref (x + 1), .ref (x + 2), .ref (x + 3), .ref (x + 4), .ref (x + 7), .ref (x + 9), .int (c 0), .int (c 7), .int (c 12), .int (c 29), .int (c 30), .int (c 31), .int (c 32), .int (c 33)])) := (gup_n (ne_oa hA1 g1)).trans hA1
                have q169_1 : (gup G (ha hiq + 1) (.inl (E.2 0, 21, .inl (upd f1 (tn (c 0 / 52)) ((f1 (tn (c 0 / 52))) + kq))))) (x + 1) = some (.inl (E.2 5, 8, .inr (.inr (.inr (.inr fV))))) := (gup_n (by omega)).trans hV1
                have q169_2 : (gup G (ha hiq + 1) (.inl (E.2 0, 21, .inl (upd f1 (tn (c 0 / 52)) ((f1 (tn (c 0 / 52))) + kq))))) (x + 2) = some (.inl (E.2 4, 30, .inr (.inr (.inr (.inr fR))))) := (gup_n (by omega)).trans hR1
                have q169_3 : (gup G (ha hiq + 1) (.inl (E.2 0, 21, .inl (upd f1 (tn (c 0 / 52)) ((f1 (tn (c 0 / 52))) + kq))))) (x + 3) = some (.inl (E.2 2, 40, .inr (.inr (.inr (.inr fH))))) := (gup_n (by omega)).trans hH2
                have q169_4 : (gup G (ha hiq + 1) (.inl (E.2 0, 21, .inl (upd f1 (tn (c 0 / 52)) ((f1 (tn (c 0 / 52))) + kq))))) (ha hiq) = some (.inr (0, [.int (S 6 hiq), .int (S 7 hiq), .ref (ha hiq + 1), .ref (ha hiq + 2), .ref (ha hiq + 3), .ref (ha hiq + 4), .ref (ha hiq + 5), va_rf (lt hiq)])) := (gup_n (ne_oa fh56 g1)).trans fh56
                have q169_a : (gup G (ha hiq + 1) (.inl (E.2 0, 21, .inl (upd f1 (tn (c 0 / 52)) ((f1 (tn (c 0 / 52))) + kq))))) (ha hiq + 1) = some (.inl (E.2 0, 21, .inl (upd f1 (tn (c 0 / 52)) ((f1 (tn (c 0 / 52))) + kq)))) := gup_s
                have hP : gP E A n (gup G (ha hiq + 1) (.inl (E.2 0, 21, .inl (upd f1 (tn (c 0 / 52)) ((f1 (tn (c 0 / 52))) + kq))))) H := hP
                have hA1_170 := sA.kp (kp_up (e1 := .inl (E.2 0, 21, .inl (upd f1 (tn (c 0 / 52)) ((f1 (tn (c 0 / 52))) + kq)))) g1) (kpn (by decide : (8 : Nat) ≠ 20)) hA1
                have hV_170 := sV.kp (kp_up (e1 := .inl (E.2 0, 21, .inl (upd f1 (tn (c 0 / 52)) ((f1 (tn (c 0 / 52))) + kq)))) g1) (kpn (by decide : (22 : Nat) ≠ 20)) hV
                have hR_170 := sR.kp (kp_up (e1 := .inl (E.2 0, 21, .inl (upd f1 (tn (c 0 / 52)) ((f1 (tn (c 0 / 52))) + kq)))) g1) (kpn (by decide : (22 : Nat) ≠ 20)) hR
                have hH1_170 := sH.kp (kp_up (e1 := .inl (E.2 0, 21, .inl (upd f1 (tn (c 0 / 52)) ((f1 (tn (c 0 / 52))) + kq)))) g1) (kpn (by decide : (22 : Nat) ≠ 20)) hH1
                have hB_170 := sB.kp (kp_up (e1 := .inl (E.2 0, 21, .inl (upd f1 (tn (c 0 / 52)) ((f1 (tn (c 0 / 52))) + kq)))) g1) (kpn (by decide : (2 : Nat) ≠ 20)) (kpn (by decide : (1 : Nat) ≠ 20)) hB
                have hL_170 := sL.kp (kp_up (e1 := .inl (E.2 0, 21, .inl (upd f1 (tn (c 0 / 52)) ((f1 (tn (c 0 / 52))) + kq)))) g1) (kpn (by decide : (22 : Nat) ≠ 20)) (kpn (by decide : (1 : Nat) ≠ 20)) hL
                have hPl_170 := sP.kp (kp_up (e1 := .inl (E.2 0, 21, .inl (upd f1 (tn (c 0 / 52)) ((f1 (tn (c 0 / 52))) + kq)))) g1) (kpn (by decide : (21 : Nat) ≠ 20)) (kpn (by decide : (3 : Nat) ≠ 20)) hPl
                have hRo_170 := sRo.kp (kp_up (e1 := .inl (E.2 0, 21, .inl (upd f1 (tn (c 0 / 52)) ((f1 (tn (c 0 / 52))) + kq)))) g1) (kpn (by decide : (4 : Nat) ≠ 20)) hRo
                have hVi_170 := sVi.kp (kp_up (e1 := .inl (E.2 0, 21, .inl (upd f1 (tn (c 0 / 52)) ((f1 (tn (c 0 / 52))) + kq)))) g1) (kpn (by decide : (6 : Nat) ≠ 20)) hVi
                have hWk_170 := sWk.kp (kp_up (e1 := .inl (E.2 0, 21, .inl (upd f1 (tn (c 0 / 52)) ((f1 (tn (c 0 / 52))) + kq)))) g1) (kpn (by decide : (7 : Nat) ≠ 20)) hWk
                have hHo_170 := sHo.kp (kp_up (e1 := .inl (E.2 0, 21, .inl (upd f1 (tn (c 0 / 52)) ((f1 (tn (c 0 / 52))) + kq)))) g1) (kpn (by decide : (0 : Nat) ≠ 20)) (kpn (by decide : (5 : Nat) ≠ 20)) hHo
                have hHa_s := sHa_put (S' := va_up S 18 (upd (S 18) (21 * hiq + tn (c 0 / 52)) (f1 (tn (c 0 / 52)) + kq))) (j := 0) (y := tn (c 0 / 52)) hHp hh (by decide) (tn_lt hy) g1 hHa rfl
                have hEv_s := sE_ne (e := .inl (E.2 0, 21, .inl (upd f1 (tn (c 0 / 52)) ((f1 (tn (c 0 / 52))) + kq)))) (a := ha hiq + 1) (by omega) hEv
                refine lv_goto (tgt := 149) hx hb dX8_work_96 (by decide) ?_
                refine lv_aload_n hx hb dX8_work_149 rfl (lv_at hl 3 rfl) ?_
                refine g_get (ci := 8) hx hb hts hin8 hown hK hP q169_0 rfl 0 (by decide) hf11 rfl rfl dX8_work_150 ?_
                refine lv_aload hx hb dX8_work_153 (lv_at hl 1 rfl) ?_
                refine g_get (ci := 0) hx hb hts hin0 hown hK hP q169_4 rfl 0 (by decide) hf168 rfl rfl dX8_work_155 ?_
                have h6 := hp.1.2.2.2.2 hiq (by omega)
                have t6 := tn_of h6.1
                obtain ⟨vq, hvq, evq⟩ : ∃ z, z < 8 ∧ S 6 hiq = nI z := ⟨tn (S 6 hiq), by omega, (nI_tn h6.1).symm⟩
                refine W.eq (g2 := F0 m 158 ls [.int (nI vq), .ref (x + 1)]) (by rw [evq]) ?_
                have fv0 := hVi_170 vq hvq
                refine g_aald (t0 := 5) (v := .ref (x + 10 + vq)) hx hb hK hP q169_1 rfl (vp_in_nI (by omega) (by decide)) (by rw [nI_clamp (by omega), hV2 vq hvq]; rfl) dX8_work_158 ?_
                refine lv_aload_n hx hb dX8_work_159 rfl (lv_at hl 3 rfl) ?_
                refine g_get (ci := 8) hx hb hts hin8 hown hK hP q169_0 rfl 6 (by decide) hf45 rfl rfl dX8_work_160 ?_
                refine lv_iload_n hx hb dX8_work_163 rfl (lv_at hl 6 rfl) ?_
                have hPw := hP
                have ht9 : tn (c 0) < 1040 := by omega
                have ec0 : c 0 = nI (tn (c 0)) := (nI_tn j0.1).symm
                by_cases hw0 : wn vq = 0
                · have fvA : (gup G (ha hiq + 1) (.inl (E.2 0, 21, .inl (upd f1 (tn (c 0 / 52)) ((f1 (tn (c 0 / 52))) + kq))))) (x + 10 + vq) = some (.inr (6, [.int (S 0 vq), .null, .null])) := by
                    have z := fv0
                    rw [wFs, wLs, if_pos hw0, if_pos hw0] at z; exact z
                  refine g_cv (g_runV (As := [.int (c 0), .int kq]) (rest := []) ⟨hx, hb, hml, hown, hts⟩ hK hP (kX6_addDays0 l E A n (gup G (ha hiq + 1) (.inl (E.2 0, 21, .inl (upd f1 (tn (c 0 / 52)) ((f1 (tn (c 0 / 52))) + kq))))) (x + 10 + vq) (S 0 vq) (c 0) kq fvA hA) (cwV 2 hts gX8_work_X6_addDays rfl rfl rfl (by decide +kernel) ⟨Nat.le_of_ble_eq_true rfl, Nat.le_of_ble_eq_true rfl⟩) fvA rfl rfl hl.1 rfl (Nat.le_of_ble_eq_true rfl) dX8_work_164 ⟨Nat.le_of_ble_eq_true rfl, Nat.le_of_ble_eq_true rfl⟩) hS (fun n' G' H locs hw hP hS => ?_)
                  obtain ⟨rfl, hg1, hg2, hfr⟩ := hw
                  have hKw := kp_fr1 fvA (Or.inl rfl) hfr
                  obtain ⟨hVi_w, hWk_w, hW_w⟩ := wk_new (S := S) (k := kq) hvq ht9 (Or.inl hw0) hVi_170 hWk_170 hW (hPw.none (Nat.le_refl _)) (by rw [if_pos hw0]; exact hg1) (fun z => absurd z (by omega)) (by rw [← ec0]; exact hg2) (fun b e h1 _ => hfr b e h1)
                  have qw_x : G' x = some (.inr (8, [.ref (x + 1), .ref (x + 2), .ref (x + 3), .ref (x + 4), .ref (x + 7), .ref (x + 9), .int (c 0), .int (c 7), .int (c 12), .int (c 29), .int (c 30), .int (c 31), .int (c 32), .int (c 33)])) := hKw _ _ (by simp [kd]) q169_0
                  have qw_x2 : G' (x + 2) = some (.inl (E.2 4, 30, .inr (.inr (.inr (.inr fR))))) := hKw _ _ (by simp [kd]) q169_2
                  have hV_w := sV.kp hKw (by decide) hV_170
                  have hR_w := sR.kp hKw (by decide) hR_170
                  have hH1_w := sH.kp hKw (by decide) hH1_170
                  have hB_w := sB.kp hKw (by decide) (by decide) hB_170
                  have hL_w := sL.kp hKw (by decide) (by decide) hL_170
                  have hPl_w := sP.kp hKw (by decide) (by decide) hPl_170
                  have hRo_w := sRo.kp hKw (by decide) hRo_170
                  have hHo_w := sHo.kp hKw (by decide) (by decide) hHo_170
                  have hHa_w := sHa.kp hKw (by decide) hHa_s
                  have hEv_w := sE.kp hKw (by decide) hEv_s
                  refine lv_aload_n hx hb dX8_work_167 rfl (lv_at hl 3 rfl) ?_
                  refine g_get (ci := 8) hx hb hts hin8 hown hK hP qw_x rfl 1 (by decide) hf17 rfl rfl dX8_work_168 ?_
                  refine lv_iload_n hx hb dX8_work_171 rfl (lv_at hl 5 rfl) ?_
                  have fr0 := hRo_w (tn a) htr
                  refine g_aald (t0 := 4) (v := .ref (x + 18 + tn a)) hx hb hK hP qw_x2 rfl (inB_vp b12 (by decide)) (by rw [hR2 (tn a) htr]; rfl) dX8_work_172 ?_
                  refine lv_iload_n hx hb dX8_work_173 rfl (lv_at hl 6 rfl) ?_
                  refine g_cv (g_runV (As := [.int kq]) (rest := []) ⟨hx, hb, hml, hown, hts⟩ hK hP (kX4_raise l E A (n + 1) G' (x + 18 + tn a) (S 1 (tn a)) (S 2 (tn a)) (S 3 (tn a)) (S 4 (tn a)) (S 5 (tn a)) kq fr0) (cwV 1 hts gX8_work_X4_raise rfl rfl rfl (by decide +kernel) ⟨Nat.le_of_ble_eq_true rfl, Nat.le_of_ble_eq_true rfl⟩) fr0 rfl rfl hl.1 rfl (Nat.le_of_ble_eq_true rfl) dX8_work_174 ⟨Nat.le_of_ble_eq_true rfl, Nat.le_of_ble_eq_true rfl⟩) hS (fun n' G' H locs hw hP hS => ?_)
                  obtain ⟨rfl, rfl⟩ := hw
                  have q171_0 : (gup G' (x + 18 + tn a) (.inr (4, [.int (minOf 3000 ((S 1 (tn a)) + kq * groOf (S 2 (tn a)))), .int (S 2 (tn a)), .int (S 3 (tn a)), .int (S 4 (tn a)), .int ((S 5 (tn a)) + kq)]))) x = some (.inr (8, [.ref (x + 1), .ref (x + 2), .ref (x + 3), .ref (x + 4), .ref (x + 7), .ref (x + 9), .int (c 0), .int (c 7), .int (c 12), .int (c 29), .int (c 30), .int (c 31), .int (c 32), .int (c 33)])) := (gup_n (ne_oo qw_x fr0 (by decide))).trans qw_x
                  have q171_1 : (gup G' (x + 18 + tn a) (.inr (4, [.int (minOf 3000 ((S 1 (tn a)) + kq * groOf (S 2 (tn a)))), .int (S 2 (tn a)), .int (S 3 (tn a)), .int (S 4 (tn a)), .int ((S 5 (tn a)) + kq)]))) (x + 2) = some (.inl (E.2 4, 30, .inr (.inr (.inr (.inr fR))))) := (gup_n (ne_ao qw_x2 fr0)).trans qw_x2
                  have q171_a : (gup G' (x + 18 + tn a) (.inr (4, [.int (minOf 3000 ((S 1 (tn a)) + kq * groOf (S 2 (tn a)))), .int (S 2 (tn a)), .int (S 3 (tn a)), .int (S 4 (tn a)), .int ((S 5 (tn a)) + kq)]))) (x + 18 + tn a) = some (.inr (4, [.int (minOf 3000 ((S 1 (tn a)) + kq * groOf (S 2 (tn a)))), .int (S 2 (tn a)), .int (S 3 (tn a)), .int (S 4 (tn a)), .int ((S 5 (tn a)) + kq)])) := gup_s
                  have hP : gP E A (n + 1) (gup G' (x + 18 + tn a) (.inr (4, [.int (minOf 3000 ((S 1 (tn a)) + kq * groOf (S 2 (tn a)))), .int (S 2 (tn a)), .int (S 3 (tn a)), .int (S 4 (tn a)), .int ((S 5 (tn a)) + kq)]))) H := hP
                  have hV_172 := sV.kp (kp_up (e1 := .inr (4, [.int (minOf 3000 ((S 1 (tn a)) + kq * groOf (S 2 (tn a)))), .int (S 2 (tn a)), .int (S 3 (tn a)), .int (S 4 (tn a)), .int ((S 5 (tn a)) + kq)])) fr0) (kpn (by decide : (22 : Nat) ≠ 4)) hV_w
                  have hR_172 := sR.kp (kp_up (e1 := .inr (4, [.int (minOf 3000 ((S 1 (tn a)) + kq * groOf (S 2 (tn a)))), .int (S 2 (tn a)), .int (S 3 (tn a)), .int (S 4 (tn a)), .int ((S 5 (tn a)) + kq)])) fr0) (kpn (by decide : (22 : Nat) ≠ 4)) hR_w
                  have hH1_172 := sH.kp (kp_up (e1 := .inr (4, [.int (minOf 3000 ((S 1 (tn a)) + kq * groOf (S 2 (tn a)))), .int (S 2 (tn a)), .int (S 3 (tn a)), .int (S 4 (tn a)), .int ((S 5 (tn a)) + kq)])) fr0) (kpn (by decide : (22 : Nat) ≠ 4)) hH1_w
                  have hB_172 := sB.kp (kp_up (e1 := .inr (4, [.int (minOf 3000 ((S 1 (tn a)) + kq * groOf (S 2 (tn a)))), .int (S 2 (tn a)), .int (S 3 (tn a)), .int (S 4 (tn a)), .int ((S 5 (tn a)) + kq)])) fr0) (kpn (by decide : (2 : Nat) ≠ 4)) (kpn (by decide : (1 : Nat) ≠ 4)) hB_w
                  have hL_172 := sL.kp (kp_up (e1 := .inr (4, [.int (minOf 3000 ((S 1 (tn a)) + kq * groOf (S 2 (tn a)))), .int (S 2 (tn a)), .int (S 3 (tn a)), .int (S 4 (tn a)), .int ((S 5 (tn a)) + kq)])) fr0) (kpn (by decide : (22 : Nat) ≠ 4)) (kpn (by decide : (1 : Nat) ≠ 4)) hL_w
                  have hPl_172 := sP.kp (kp_up (e1 := .inr (4, [.int (minOf 3000 ((S 1 (tn a)) + kq * groOf (S 2 (tn a)))), .int (S 2 (tn a)), .int (S 3 (tn a)), .int (S 4 (tn a)), .int ((S 5 (tn a)) + kq)])) fr0) (kpn (by decide : (21 : Nat) ≠ 4)) (kpn (by decide : (3 : Nat) ≠ 4)) hPl_w
                  have hHo_172 := sHo.kp (kp_up (e1 := .inr (4, [.int (minOf 3000 ((S 1 (tn a)) + kq * groOf (S 2 (tn a)))), .int (S 2 (tn a)), .int (S 3 (tn a)), .int (S 4 (tn a)), .int ((S 5 (tn a)) + kq)])) fr0) (kpn (by decide : (0 : Nat) ≠ 4)) (kpn (by decide : (5 : Nat) ≠ 4)) hHo_w
                  have hHa_172 := sHa.kp (kp_up (e1 := .inr (4, [.int (minOf 3000 ((S 1 (tn a)) + kq * groOf (S 2 (tn a)))), .int (S 2 (tn a)), .int (S 3 (tn a)), .int (S 4 (tn a)), .int ((S 5 (tn a)) + kq)])) fr0) (kpn (by decide : (20 : Nat) ≠ 4)) hHa_w
                  have hEv_172 := sE.kp (kp_up (e1 := .inr (4, [.int (minOf 3000 ((S 1 (tn a)) + kq * groOf (S 2 (tn a)))), .int (S 2 (tn a)), .int (S 3 (tn a)), .int (S 4 (tn a)), .int ((S 5 (tn a)) + kq)])) fr0) (kpn (by decide : (20 : Nat) ≠ 4)) hEv_w
                  have hVi_172 := sVi.kp (kp_up (e1 := .inr (4, [.int (minOf 3000 ((S 1 (tn a)) + kq * groOf (S 2 (tn a)))), .int (S 2 (tn a)), .int (S 3 (tn a)), .int (S 4 (tn a)), .int ((S 5 (tn a)) + kq)])) fr0) (kpn (by decide : (6 : Nat) ≠ 4)) hVi_w
                  have hWk_172 := sWk.kp (kp_up (e1 := .inr (4, [.int (minOf 3000 ((S 1 (tn a)) + kq * groOf (S 2 (tn a)))), .int (S 2 (tn a)), .int (S 3 (tn a)), .int (S 4 (tn a)), .int ((S 5 (tn a)) + kq)])) fr0) (kpn (by decide : (7 : Nat) ≠ 4)) hWk_w
                  have hRo_r : sRo (gup G' (x + 18 + tn a) (.inr (4, [.int (minOf 3000 ((S 1 (tn a)) + kq * groOf (S 2 (tn a)))), .int (S 2 (tn a)), .int (S 3 (tn a)), .int (S 4 (tn a)), .int ((S 5 (tn a)) + kq)]))) x (raiS (dS (va_up S 18 (upd (S 18) (21 * hiq + tn (c 0 / 52)) (f1 (tn (c 0 / 52)) + kq))) vq (tn (c 0)) kq) a kq) := sRo_put (t := tn a) hRo_w (rai_rod (dS (va_up S 18 (upd (S 18) (21 * hiq + tn (c 0 / 52)) (f1 (tn (c 0 / 52)) + kq))) vq (tn (c 0)) kq) a kq) (fun i hi => rai_other (dS (va_up S 18 (upd (S 18) (21 * hiq + tn (c 0 / 52)) (f1 (tn (c 0 / 52)) + kq))) vq (tn (c 0)) kq) a kq i hi)
                  refine lv_aload_n hx hb dX8_work_177 rfl (lv_at hl 3 rfl) ?_
                  refine lv_dup hx hb dX8_work_178 rfl ?_
                  refine g_get (ci := 8) hx hb hts hin8 hown hK hP q171_0 rfl 11 (by decide) hf61 rfl rfl dX8_work_179 ?_
                  refine lv_iload_n hx hb dX8_work_182 rfl (lv_at hl 6 rfl) ?_
                  refine lv_iadd hx hb dX8_work_183 ?_
                  refine g_put (ci := 8) (ty := .int) (v := .int ((c 31) + kq)) hx hb hts hin8 tyX8 tyX8_ok nmX8 hown hK hP hS q171_0 rfl 11 (by decide) hf61 rfl (Or.inl rfl) (by decide +kernel) rfl rfl (Nat.le_of_ble_eq_true rfl) dX8_work_184 (fun H locs hP hS => ?_)
                  have q173_0 : (gup (gup G' (x + 18 + tn a) (.inr (4, [.int (minOf 3000 ((S 1 (tn a)) + kq * groOf (S 2 (tn a)))), .int (S 2 (tn a)), .int (S 3 (tn a)), .int (S 4 (tn a)), .int ((S 5 (tn a)) + kq)]))) x (.inr (8, [.ref (x + 1), .ref (x + 2), .ref (x + 3), .ref (x + 4), .ref (x + 7), .ref (x + 9), .int (c 0), .int (c 7), .int (c 12), .int (c 29), .int (c 30), .int ((c 31) + kq), .int (c 32), .int (c 33)]))) (x + 2) = some (.inl (E.2 4, 30, .inr (.inr (.inr (.inr fR))))) := (gup_n (ne_ao q171_1 q171_0)).trans q171_1
                  have q173_1 : (gup (gup G' (x + 18 + tn a) (.inr (4, [.int (minOf 3000 ((S 1 (tn a)) + kq * groOf (S 2 (tn a)))), .int (S 2 (tn a)), .int (S 3 (tn a)), .int (S 4 (tn a)), .int ((S 5 (tn a)) + kq)]))) x (.inr (8, [.ref (x + 1), .ref (x + 2), .ref (x + 3), .ref (x + 4), .ref (x + 7), .ref (x + 9), .int (c 0), .int (c 7), .int (c 12), .int (c 29), .int (c 30), .int ((c 31) + kq), .int (c 32), .int (c 33)]))) (x + 18 + tn a) = some (.inr (4, [.int (minOf 3000 ((S 1 (tn a)) + kq * groOf (S 2 (tn a)))), .int (S 2 (tn a)), .int (S 3 (tn a)), .int (S 4 (tn a)), .int ((S 5 (tn a)) + kq)])) := (gup_n (ne_oo q171_a q171_0 (by decide))).trans q171_a
                  have q173_a : (gup (gup G' (x + 18 + tn a) (.inr (4, [.int (minOf 3000 ((S 1 (tn a)) + kq * groOf (S 2 (tn a)))), .int (S 2 (tn a)), .int (S 3 (tn a)), .int (S 4 (tn a)), .int ((S 5 (tn a)) + kq)]))) x (.inr (8, [.ref (x + 1), .ref (x + 2), .ref (x + 3), .ref (x + 4), .ref (x + 7), .ref (x + 9), .int (c 0), .int (c 7), .int (c 12), .int (c 29), .int (c 30), .int ((c 31) + kq), .int (c 32), .int (c 33)]))) x = some (.inr (8, [.ref (x + 1), .ref (x + 2), .ref (x + 3), .ref (x + 4), .ref (x + 7), .ref (x + 9), .int (c 0), .int (c 7), .int (c 12), .int (c 29), .int (c 30), .int ((c 31) + kq), .int (c 32), .int (c 33)])) := gup_s
                  have hP : gP E A (n + 1) (gup (gup G' (x + 18 + tn a) (.inr (4, [.int (minOf 3000 ((S 1 (tn a)) + kq * groOf (S 2 (tn a)))), .int (S 2 (tn a)), .int (S 3 (tn a)), .int (S 4 (tn a)), .int ((S 5 (tn a)) + kq)]))) x (.inr (8, [.ref (x + 1), .ref (x + 2), .ref (x + 3), .ref (x + 4), .ref (x + 7), .ref (x + 9), .int (c 0), .int (c 7), .int (c 12), .int (c 29), .int (c 30), .int ((c 31) + kq), .int (c 32), .int (c 33)]))) H := hP
                  have hV_174 := sV.kp (kp_up (e1 := .inr (8, [.ref (x + 1), .ref (x + 2), .ref (x + 3), .ref (x + 4), .ref (x + 7), .ref (x + 9), .int (c 0), .int (c 7), .int (c 12), .int (c 29), .int (c 30), .int ((c 31) + kq), .int (c 32), .int (c 33)])) q171_0) (kpn (by decide : (22 : Nat) ≠ 8)) hV_172
                  have hR_174 := sR.kp (kp_up (e1 := .inr (8, [.ref (x + 1), .ref (x + 2), .ref (x + 3), .ref (x + 4), .ref (x + 7), .ref (x + 9), .int (c 0), .int (c 7), .int (c 12), .int (c 29), .int (c 30), .int ((c 31) + kq), .int (c 32), .int (c 33)])) q171_0) (kpn (by decide : (22 : Nat) ≠ 8)) hR_172
                  have hH1_174 := sH.kp (kp_up (e1 := .inr (8, [.ref (x + 1), .ref (x + 2), .ref (x + 3), .ref (x + 4), .ref (x + 7), .ref (x + 9), .int (c 0), .int (c 7), .int (c 12), .int (c 29), .int (c 30), .int ((c 31) + kq), .int (c 32), .int (c 33)])) q171_0) (kpn (by decide : (22 : Nat) ≠ 8)) hH1_172
                  have hB_174 := sB.kp (kp_up (e1 := .inr (8, [.ref (x + 1), .ref (x + 2), .ref (x + 3), .ref (x + 4), .ref (x + 7), .ref (x + 9), .int (c 0), .int (c 7), .int (c 12), .int (c 29), .int (c 30), .int ((c 31) + kq), .int (c 32), .int (c 33)])) q171_0) (kpn (by decide : (2 : Nat) ≠ 8)) (kpn (by decide : (1 : Nat) ≠ 8)) hB_172
                  have hL_174 := sL.kp (kp_up (e1 := .inr (8, [.ref (x + 1), .ref (x + 2), .ref (x + 3), .ref (x + 4), .ref (x + 7), .ref (x + 9), .int (c 0), .int (c 7), .int (c 12), .int (c 29), .int (c 30), .int ((c 31) + kq), .int (c 32), .int (c 33)])) q171_0) (kpn (by decide : (22 : Nat) ≠ 8)) (kpn (by decide : (1 : Nat) ≠ 8)) hL_172
                  have hPl_174 := sP.kp (kp_up (e1 := .inr (8, [.ref (x + 1), .ref (x + 2), .ref (x + 3), .ref (x + 4), .ref (x + 7), .ref (x + 9), .int (c 0), .int (c 7), .int (c 12), .int (c 29), .int (c 30), .int ((c 31) + kq), .int (c 32), .int (c 33)])) q171_0) (kpn (by decide : (21 : Nat) ≠ 8)) (kpn (by decide : (3 : Nat) ≠ 8)) hPl_172
                  have hHo_174 := sHo.kp (kp_up (e1 := .inr (8, [.ref (x + 1), .ref (x + 2), .ref (x + 3), .ref (x + 4), .ref (x + 7), .ref (x + 9), .int (c 0), .int (c 7), .int (c 12), .int (c 29), .int (c 30), .int ((c 31) + kq), .int (c 32), .int (c 33)])) q171_0) (kpn (by decide : (0 : Nat) ≠ 8)) (kpn (by decide : (5 : Nat) ≠ 8)) hHo_172
                  have hHa_174 := sHa.kp (kp_up (e1 := .inr (8, [.ref (x + 1), .ref (x + 2), .ref (x + 3), .ref (x + 4), .ref (x + 7), .ref (x + 9), .int (c 0), .int (c 7), .int (c 12), .int (c 29), .int (c 30), .int ((c 31) + kq), .int (c 32), .int (c 33)])) q171_0) (kpn (by decide : (20 : Nat) ≠ 8)) hHa_172
                  have hEv_174 := sE.kp (kp_up (e1 := .inr (8, [.ref (x + 1), .ref (x + 2), .ref (x + 3), .ref (x + 4), .ref (x + 7), .ref (x + 9), .int (c 0), .int (c 7), .int (c 12), .int (c 29), .int (c 30), .int ((c 31) + kq), .int (c 32), .int (c 33)])) q171_0) (kpn (by decide : (20 : Nat) ≠ 8)) hEv_172
                  have hVi_174 := sVi.kp (kp_up (e1 := .inr (8, [.ref (x + 1), .ref (x + 2), .ref (x + 3), .ref (x + 4), .ref (x + 7), .ref (x + 9), .int (c 0), .int (c 7), .int (c 12), .int (c 29), .int (c 30), .int ((c 31) + kq), .int (c 32), .int (c 33)])) q171_0) (kpn (by decide : (6 : Nat) ≠ 8)) hVi_172
                  have hWk_174 := sWk.kp (kp_up (e1 := .inr (8, [.ref (x + 1), .ref (x + 2), .ref (x + 3), .ref (x + 4), .ref (x + 7), .ref (x + 9), .int (c 0), .int (c 7), .int (c 12), .int (c 29), .int (c 30), .int ((c 31) + kq), .int (c 32), .int (c 33)])) q171_0) (kpn (by decide : (7 : Nat) ≠ 8)) hWk_172
                  have hRo_174 := sRo.kp (kp_up (e1 := .inr (8, [.ref (x + 1), .ref (x + 2), .ref (x + 3), .ref (x + 4), .ref (x + 7), .ref (x + 9), .int (c 0), .int (c 7), .int (c 12), .int (c 29), .int (c 30), .int ((c 31) + kq), .int (c 32), .int (c 33)])) q171_0) (kpn (by decide : (4 : Nat) ≠ 8)) hRo_r
                  refine lv_aload_n hx hb dX8_work_187 rfl (lv_at hl 3 rfl) ?_
                  refine lv_aload hx hb dX8_work_188 (lv_at hl 0 rfl) ?_
                  refine lv_iload hx hb dX8_work_190 (lv_at hl 2 rfl) ?_
                  have hk1 := Int32.le_iff_toInt_le.mp (Int32.not_lt.mp b61)
                  have e1_ : (1 : Int32).toInt = 1 := rfl
                  have hk2 := Int32.le_iff_toInt_le.mp b73
                  have hk6 := (yet_rng hp hj hh hy).1
                  have hp2 : pI (va_up c 31 (c 31 + kq)) (raiS (dS (va_up S 18 (upd (S 18) (21 * hiq + tn (c 0 / 52)) (f1 (tn (c 0 / 52)) + kq))) vq (tn (c 0)) kq) a kq) := ⟨hp.1, mH_rai (S := dS (va_up S 18 (upd (S 18) (21 * hiq + tn (c 0 / 52)) (f1 (tn (c 0 / 52)) + kq))) vq (tn (c 0)) kq) hp.2.1 (inB_vp b12 (by decide)) (by omega) (by omega), hp.2.2⟩
                  have hHo_f := sHo.cg (S' := raiS (dS (va_up S 18 (upd (S 18) (21 * hiq + tn (c 0 / 52)) (f1 (tn (c 0 / 52)) + kq))) vq (tn (c 0)) kq) a kq) (fun j h1 h2 => by simp only [raiS, dS, va_up]; repeat (first | rfl | (rw [if_neg (by omega)]))) hHo_174
                  have hHa_f := sHa.cg (S' := raiS (dS (va_up S 18 (upd (S 18) (21 * hiq + tn (c 0 / 52)) (f1 (tn (c 0 / 52)) + kq))) vq (tn (c 0)) kq) a kq) (fun j h1 h2 => by simp only [raiS, dS]; rw [va_up_ne _ _ (by omega), va_up_ne _ _ (by omega), va_up_ne _ _ (by omega)]) hHa_174
                  refine g_ci (g_runV (As := [.ref (ha hiq), .int (c 0 / 52)]) (rest := []) ⟨hx, hb, hml, hown, hts⟩ hK hP (kX8_daysOwedYet l E A (n + 1) (gup (gup G' (x + 18 + tn a) (.inr (4, [.int (minOf 3000 ((S 1 (tn a)) + kq * groOf (S 2 (tn a)))), .int (S 2 (tn a)), .int (S 3 (tn a)), .int (S 4 (tn a)), .int ((S 5 (tn a)) + kq)]))) x (.inr (8, [.ref (x + 1), .ref (x + 2), .ref (x + 3), .ref (x + 4), .ref (x + 7), .ref (x + 9), .int (c 0), .int (c 7), .int (c 12), .int (c 29), .int (c 30), .int ((c 31) + kq), .int (c 32), .int (c 33)]))) x (va_up c 31 (c 31 + kq)) (raiS (dS (va_up S 18 (upd (S 18) (21 * hiq + tn (c 0 / 52)) (f1 (tn (c 0 / 52)) + kq))) vq (tn (c 0)) kq) a kq) hiq (c 0 / 52) ha q173_a hB_174 la hL_174 lt hHo_f hHa_f hp2 hh hy) (cwV 2 hts gX8_work_X8_daysOwedYet rfl rfl rfl (by decide +kernel) ⟨Nat.le_of_ble_eq_true rfl, Nat.le_of_ble_eq_true rfl⟩) q173_a rfl rfl hl.1 rfl (Nat.le_of_ble_eq_true rfl) dX8_work_192 ⟨Nat.le_of_ble_eq_true rfl, Nat.le_of_ble_eq_true rfl⟩) hS (fun r192 n' G' H locs hw hP hS => ?_)
                  obtain ⟨rfl, rfl, rfl⟩ := hw
                  refine W.widen (k := 1) (n := 3) (by omega) (by omega) ?_
                  refine g_reti hx hb hr hlk hP hS dX8_work_195 ?_
                  have hB0 : wrkB c S (nI hiq) a kq (nI hiq) = true := by
                    have z1 : inB kq 1 (yetOf c S (nI hiq) (c 0 / 52)) = true := inB_of hk1 hk2
                    have z2 : ¬ c 0 = 1040 := fun z => by rw [z] at b31; exact absurd b31 (by decide)
                    simp [wrkB, b5, b12, z1, z2]
                  have hwd : tn (1040 * S 6 hiq + c 0) = 1040 * vq + tn (c 0) := by rw [evq, ec0]; rw [dd_tn hvq ht9, ← ec0]
                  have hw1_ : wrk1 c S (nI hiq) kq (nI hiq) = va_up S 18 (upd (S 18) (21 * hiq + tn (c 0 / 52)) (f1 (tn (c 0 / 52)) + kq)) := by rw [wrk1, if_pos rfl, yk_tn (by omega) hy, ← u1 _ (tn_lt hy)]
                  have hw2_ : wrk2 c S (nI hiq) kq (nI hiq) = dS (va_up S 18 (upd (S 18) (21 * hiq + tn (c 0 / 52)) (f1 (tn (c 0 / 52)) + kq))) vq (tn (c 0)) kq := by
                    rw [wrk2, hw1_, tn_nI (by omega), hwd]; rfl
                  refine ⟨by rw [wrkR, if_pos hB0, hw2_], by omega, ⟨ha, la, lt, wa2 wa wn vq n, wa2 ww wn vq (tn (c 0)), va_up wn vq (wn vq + 1)⟩, ?_⟩
                  rw [wrkS, wrkC, if_pos hB0, if_pos hB0, hw2_]
                  exact ⟨q173_a, hV_174, hR_174, hH1_174, hB_174, hL_174, hPl_174, hEv_174, hRo_174, hVi_174, hWk_174, hW_w, hHo_f, hHa_f, hHp⟩
                · have fw0 := hWk_170 vq hvq (wn vq - 1) (by omega)
                  have fvB : (gup G (ha hiq + 1) (.inl (E.2 0, 21, .inl (upd f1 (tn (c 0 / 52)) ((f1 (tn (c 0 / 52))) + kq))))) (x + 10 + vq) = some (.inr (6, [.int (S 0 vq), va_rf (wFs wa wn vq), .ref (wa vq (wn vq - 1))])) := by
                    have z := fv0
                    rw [show wLs wa wn vq = some (wa vq (wn vq - 1)) from by rw [wLs, if_neg hw0]] at z; exact z
                  by_cases hw1 : ww vq (wn vq - 1) = tn (c 0)
                  · have hdummy : True := trivial
                    refine g_cv (g_runV (As := [.int (c 0), .int kq]) (rest := []) ⟨hx, hb, hml, hown, hts⟩ hK hP (kX6_addDays1 l E A n (gup G (ha hiq + 1) (.inl (E.2 0, 21, .inl (upd f1 (tn (c 0 / 52)) ((f1 (tn (c 0 / 52))) + kq))))) (x + 10 + vq) (wa vq (wn vq - 1)) (wFs wa wn vq) (wNx wa wn vq (wn vq - 1)) (S 0 vq) (c 0) kq (nI (ww vq (wn vq - 1))) (S 23 (1040 * vq + ww vq (wn vq - 1))) fvB fw0 (by rw [hw1, ← ec0])) (cwV 2 hts gX8_work_X6_addDays rfl rfl rfl (by decide +kernel) ⟨Nat.le_of_ble_eq_true rfl, Nat.le_of_ble_eq_true rfl⟩) fvB rfl rfl hl.1 rfl (Nat.le_of_ble_eq_true rfl) dX8_work_164 ⟨Nat.le_of_ble_eq_true rfl, Nat.le_of_ble_eq_true rfl⟩) hS (fun n' G' H locs hw hP hS => ?_)
                    obtain ⟨rfl, hGw⟩ := hw
                    have hKw : Kp [6, 7] (gup G (ha hiq + 1) (.inl (E.2 0, 21, .inl (upd f1 (tn (c 0 / 52)) ((f1 (tn (c 0 / 52))) + kq))))) G' := fun b e q1 q2 => by rw [← hGw]; exact kp_up fw0 b e (fun z => q1 (by rw [List.mem_singleton.mp z]; simp [kd])) q2
                    obtain ⟨hVi_w, hWk_w, hW_w⟩ := wk_same (S := S) (k := kq) (G' := G') hvq (by omega) hw1 hVi_170 hWk_170 hW (by rw [← hGw, hw1])
                    have qw_x : G' x = some (.inr (8, [.ref (x + 1), .ref (x + 2), .ref (x + 3), .ref (x + 4), .ref (x + 7), .ref (x + 9), .int (c 0), .int (c 7), .int (c 12), .int (c 29), .int (c 30), .int (c 31), .int (c 32), .int (c 33)])) := hKw _ _ (by simp [kd]) q169_0
                    have qw_x2 : G' (x + 2) = some (.inl (E.2 4, 30, .inr (.inr (.inr (.inr fR))))) := hKw _ _ (by simp [kd]) q169_2
                    have hV_w := sV.kp hKw (by decide) hV_170
                    have hR_w := sR.kp hKw (by decide) hR_170
                    have hH1_w := sH.kp hKw (by decide) hH1_170
                    have hB_w := sB.kp hKw (by decide) (by decide) hB_170
                    have hL_w := sL.kp hKw (by decide) (by decide) hL_170
                    have hPl_w := sP.kp hKw (by decide) (by decide) hPl_170
                    have hRo_w := sRo.kp hKw (by decide) hRo_170
                    have hHo_w := sHo.kp hKw (by decide) (by decide) hHo_170
                    have hHa_w := sHa.kp hKw (by decide) hHa_s
                    have hEv_w := sE.kp hKw (by decide) hEv_s
                    refine lv_aload_n hx hb dX8_work_167 rfl (lv_at hl 3 rfl) ?_
                    refine g_get (ci := 8) hx hb hts hin8 hown hK hP qw_x rfl 1 (by decide) hf17 rfl rfl dX8_work_168 ?_
                    refine lv_iload_n hx hb dX8_work_171 rfl (lv_at hl 5 rfl) ?_
                    have fr0 := hRo_w (tn a) htr
                    refine g_aald (t0 := 4) (v := .ref (x + 18 + tn a)) hx hb hK hP qw_x2 rfl (inB_vp b12 (by decide)) (by rw [hR2 (tn a) htr]; rfl) dX8_work_172 ?_
                    refine lv_iload_n hx hb dX8_work_173 rfl (lv_at hl 6 rfl) ?_
                    refine g_cv (g_runV (As := [.int kq]) (rest := []) ⟨hx, hb, hml, hown, hts⟩ hK hP (kX4_raise l E A n G' (x + 18 + tn a) (S 1 (tn a)) (S 2 (tn a)) (S 3 (tn a)) (S 4 (tn a)) (S 5 (tn a)) kq fr0) (cwV 1 hts gX8_work_X4_raise rfl rfl rfl (by decide +kernel) ⟨Nat.le_of_ble_eq_true rfl, Nat.le_of_ble_eq_true rfl⟩) fr0 rfl rfl hl.1 rfl (Nat.le_of_ble_eq_true rfl) dX8_work_174 ⟨Nat.le_of_ble_eq_true rfl, Nat.le_of_ble_eq_true rfl⟩) hS (fun n' G' H locs hw hP hS => ?_)
                    obtain ⟨rfl, rfl⟩ := hw
                    have q175_0 : (gup G' (x + 18 + tn a) (.inr (4, [.int (minOf 3000 ((S 1 (tn a)) + kq * groOf (S 2 (tn a)))), .int (S 2 (tn a)), .int (S 3 (tn a)), .int (S 4 (tn a)), .int ((S 5 (tn a)) + kq)]))) x = some (.inr (8, [.ref (x + 1), .ref (x + 2), .ref (x + 3), .ref (x + 4), .ref (x + 7), .ref (x + 9), .int (c 0), .int (c 7), .int (c 12), .int (c 29), .int (c 30), .int (c 31), .int (c 32), .int (c 33)])) := (gup_n (ne_oo qw_x fr0 (by decide))).trans qw_x
                    have q175_1 : (gup G' (x + 18 + tn a) (.inr (4, [.int (minOf 3000 ((S 1 (tn a)) + kq * groOf (S 2 (tn a)))), .int (S 2 (tn a)), .int (S 3 (tn a)), .int (S 4 (tn a)), .int ((S 5 (tn a)) + kq)]))) (x + 2) = some (.inl (E.2 4, 30, .inr (.inr (.inr (.inr fR))))) := (gup_n (ne_ao qw_x2 fr0)).trans qw_x2
                    have q175_a : (gup G' (x + 18 + tn a) (.inr (4, [.int (minOf 3000 ((S 1 (tn a)) + kq * groOf (S 2 (tn a)))), .int (S 2 (tn a)), .int (S 3 (tn a)), .int (S 4 (tn a)), .int ((S 5 (tn a)) + kq)]))) (x + 18 + tn a) = some (.inr (4, [.int (minOf 3000 ((S 1 (tn a)) + kq * groOf (S 2 (tn a)))), .int (S 2 (tn a)), .int (S 3 (tn a)), .int (S 4 (tn a)), .int ((S 5 (tn a)) + kq)])) := gup_s
                    have hP : gP E A n (gup G' (x + 18 + tn a) (.inr (4, [.int (minOf 3000 ((S 1 (tn a)) + kq * groOf (S 2 (tn a)))), .int (S 2 (tn a)), .int (S 3 (tn a)), .int (S 4 (tn a)), .int ((S 5 (tn a)) + kq)]))) H := hP
                    have hV_176 := sV.kp (kp_up (e1 := .inr (4, [.int (minOf 3000 ((S 1 (tn a)) + kq * groOf (S 2 (tn a)))), .int (S 2 (tn a)), .int (S 3 (tn a)), .int (S 4 (tn a)), .int ((S 5 (tn a)) + kq)])) fr0) (kpn (by decide : (22 : Nat) ≠ 4)) hV_w
                    have hR_176 := sR.kp (kp_up (e1 := .inr (4, [.int (minOf 3000 ((S 1 (tn a)) + kq * groOf (S 2 (tn a)))), .int (S 2 (tn a)), .int (S 3 (tn a)), .int (S 4 (tn a)), .int ((S 5 (tn a)) + kq)])) fr0) (kpn (by decide : (22 : Nat) ≠ 4)) hR_w
                    have hH1_176 := sH.kp (kp_up (e1 := .inr (4, [.int (minOf 3000 ((S 1 (tn a)) + kq * groOf (S 2 (tn a)))), .int (S 2 (tn a)), .int (S 3 (tn a)), .int (S 4 (tn a)), .int ((S 5 (tn a)) + kq)])) fr0) (kpn (by decide : (22 : Nat) ≠ 4)) hH1_w
                    have hB_176 := sB.kp (kp_up (e1 := .inr (4, [.int (minOf 3000 ((S 1 (tn a)) + kq * groOf (S 2 (tn a)))), .int (S 2 (tn a)), .int (S 3 (tn a)), .int (S 4 (tn a)), .int ((S 5 (tn a)) + kq)])) fr0) (kpn (by decide : (2 : Nat) ≠ 4)) (kpn (by decide : (1 : Nat) ≠ 4)) hB_w
                    have hL_176 := sL.kp (kp_up (e1 := .inr (4, [.int (minOf 3000 ((S 1 (tn a)) + kq * groOf (S 2 (tn a)))), .int (S 2 (tn a)), .int (S 3 (tn a)), .int (S 4 (tn a)), .int ((S 5 (tn a)) + kq)])) fr0) (kpn (by decide : (22 : Nat) ≠ 4)) (kpn (by decide : (1 : Nat) ≠ 4)) hL_w
                    have hPl_176 := sP.kp (kp_up (e1 := .inr (4, [.int (minOf 3000 ((S 1 (tn a)) + kq * groOf (S 2 (tn a)))), .int (S 2 (tn a)), .int (S 3 (tn a)), .int (S 4 (tn a)), .int ((S 5 (tn a)) + kq)])) fr0) (kpn (by decide : (21 : Nat) ≠ 4)) (kpn (by decide : (3 : Nat) ≠ 4)) hPl_w
                    have hHo_176 := sHo.kp (kp_up (e1 := .inr (4, [.int (minOf 3000 ((S 1 (tn a)) + kq * groOf (S 2 (tn a)))), .int (S 2 (tn a)), .int (S 3 (tn a)), .int (S 4 (tn a)), .int ((S 5 (tn a)) + kq)])) fr0) (kpn (by decide : (0 : Nat) ≠ 4)) (kpn (by decide : (5 : Nat) ≠ 4)) hHo_w
                    have hHa_176 := sHa.kp (kp_up (e1 := .inr (4, [.int (minOf 3000 ((S 1 (tn a)) + kq * groOf (S 2 (tn a)))), .int (S 2 (tn a)), .int (S 3 (tn a)), .int (S 4 (tn a)), .int ((S 5 (tn a)) + kq)])) fr0) (kpn (by decide : (20 : Nat) ≠ 4)) hHa_w
                    have hEv_176 := sE.kp (kp_up (e1 := .inr (4, [.int (minOf 3000 ((S 1 (tn a)) + kq * groOf (S 2 (tn a)))), .int (S 2 (tn a)), .int (S 3 (tn a)), .int (S 4 (tn a)), .int ((S 5 (tn a)) + kq)])) fr0) (kpn (by decide : (20 : Nat) ≠ 4)) hEv_w
                    have hVi_176 := sVi.kp (kp_up (e1 := .inr (4, [.int (minOf 3000 ((S 1 (tn a)) + kq * groOf (S 2 (tn a)))), .int (S 2 (tn a)), .int (S 3 (tn a)), .int (S 4 (tn a)), .int ((S 5 (tn a)) + kq)])) fr0) (kpn (by decide : (6 : Nat) ≠ 4)) hVi_w
                    have hWk_176 := sWk.kp (kp_up (e1 := .inr (4, [.int (minOf 3000 ((S 1 (tn a)) + kq * groOf (S 2 (tn a)))), .int (S 2 (tn a)), .int (S 3 (tn a)), .int (S 4 (tn a)), .int ((S 5 (tn a)) + kq)])) fr0) (kpn (by decide : (7 : Nat) ≠ 4)) hWk_w
                    have hRo_r : sRo (gup G' (x + 18 + tn a) (.inr (4, [.int (minOf 3000 ((S 1 (tn a)) + kq * groOf (S 2 (tn a)))), .int (S 2 (tn a)), .int (S 3 (tn a)), .int (S 4 (tn a)), .int ((S 5 (tn a)) + kq)]))) x (raiS (dS (va_up S 18 (upd (S 18) (21 * hiq + tn (c 0 / 52)) (f1 (tn (c 0 / 52)) + kq))) vq (tn (c 0)) kq) a kq) := sRo_put (t := tn a) hRo_w (rai_rod (dS (va_up S 18 (upd (S 18) (21 * hiq + tn (c 0 / 52)) (f1 (tn (c 0 / 52)) + kq))) vq (tn (c 0)) kq) a kq) (fun i hi => rai_other (dS (va_up S 18 (upd (S 18) (21 * hiq + tn (c 0 / 52)) (f1 (tn (c 0 / 52)) + kq))) vq (tn (c 0)) kq) a kq i hi)
                    refine lv_aload_n hx hb dX8_work_177 rfl (lv_at hl 3 rfl) ?_
                    refine lv_dup hx hb dX8_work_178 rfl ?_
                    refine g_get (ci := 8) hx hb hts hin8 hown hK hP q175_0 rfl 11 (by decide) hf61 rfl rfl dX8_work_179 ?_
                    refine lv_iload_n hx hb dX8_work_182 rfl (lv_at hl 6 rfl) ?_
                    refine lv_iadd hx hb dX8_work_183 ?_
                    refine g_put (ci := 8) (ty := .int) (v := .int ((c 31) + kq)) hx hb hts hin8 tyX8 tyX8_ok nmX8 hown hK hP hS q175_0 rfl 11 (by decide) hf61 rfl (Or.inl rfl) (by decide +kernel) rfl rfl (Nat.le_of_ble_eq_true rfl) dX8_work_184 (fun H locs hP hS => ?_)
                    have q177_0 : (gup (gup G' (x + 18 + tn a) (.inr (4, [.int (minOf 3000 ((S 1 (tn a)) + kq * groOf (S 2 (tn a)))), .int (S 2 (tn a)), .int (S 3 (tn a)), .int (S 4 (tn a)), .int ((S 5 (tn a)) + kq)]))) x (.inr (8, [.ref (x + 1), .ref (x + 2), .ref (x + 3), .ref (x + 4), .ref (x + 7), .ref (x + 9), .int (c 0), .int (c 7), .int (c 12), .int (c 29), .int (c 30), .int ((c 31) + kq), .int (c 32), .int (c 33)]))) (x + 2) = some (.inl (E.2 4, 30, .inr (.inr (.inr (.inr fR))))) := (gup_n (ne_ao q175_1 q175_0)).trans q175_1
                    have q177_1 : (gup (gup G' (x + 18 + tn a) (.inr (4, [.int (minOf 3000 ((S 1 (tn a)) + kq * groOf (S 2 (tn a)))), .int (S 2 (tn a)), .int (S 3 (tn a)), .int (S 4 (tn a)), .int ((S 5 (tn a)) + kq)]))) x (.inr (8, [.ref (x + 1), .ref (x + 2), .ref (x + 3), .ref (x + 4), .ref (x + 7), .ref (x + 9), .int (c 0), .int (c 7), .int (c 12), .int (c 29), .int (c 30), .int ((c 31) + kq), .int (c 32), .int (c 33)]))) (x + 18 + tn a) = some (.inr (4, [.int (minOf 3000 ((S 1 (tn a)) + kq * groOf (S 2 (tn a)))), .int (S 2 (tn a)), .int (S 3 (tn a)), .int (S 4 (tn a)), .int ((S 5 (tn a)) + kq)])) := (gup_n (ne_oo q175_a q175_0 (by decide))).trans q175_a
                    have q177_a : (gup (gup G' (x + 18 + tn a) (.inr (4, [.int (minOf 3000 ((S 1 (tn a)) + kq * groOf (S 2 (tn a)))), .int (S 2 (tn a)), .int (S 3 (tn a)), .int (S 4 (tn a)), .int ((S 5 (tn a)) + kq)]))) x (.inr (8, [.ref (x + 1), .ref (x + 2), .ref (x + 3), .ref (x + 4), .ref (x + 7), .ref (x + 9), .int (c 0), .int (c 7), .int (c 12), .int (c 29), .int (c 30), .int ((c 31) + kq), .int (c 32), .int (c 33)]))) x = some (.inr (8, [.ref (x + 1), .ref (x + 2), .ref (x + 3), .ref (x + 4), .ref (x + 7), .ref (x + 9), .int (c 0), .int (c 7), .int (c 12), .int (c 29), .int (c 30), .int ((c 31) + kq), .int (c 32), .int (c 33)])) := gup_s
                    have hP : gP E A n (gup (gup G' (x + 18 + tn a) (.inr (4, [.int (minOf 3000 ((S 1 (tn a)) + kq * groOf (S 2 (tn a)))), .int (S 2 (tn a)), .int (S 3 (tn a)), .int (S 4 (tn a)), .int ((S 5 (tn a)) + kq)]))) x (.inr (8, [.ref (x + 1), .ref (x + 2), .ref (x + 3), .ref (x + 4), .ref (x + 7), .ref (x + 9), .int (c 0), .int (c 7), .int (c 12), .int (c 29), .int (c 30), .int ((c 31) + kq), .int (c 32), .int (c 33)]))) H := hP
                    have hV_178 := sV.kp (kp_up (e1 := .inr (8, [.ref (x + 1), .ref (x + 2), .ref (x + 3), .ref (x + 4), .ref (x + 7), .ref (x + 9), .int (c 0), .int (c 7), .int (c 12), .int (c 29), .int (c 30), .int ((c 31) + kq), .int (c 32), .int (c 33)])) q175_0) (kpn (by decide : (22 : Nat) ≠ 8)) hV_176
                    have hR_178 := sR.kp (kp_up (e1 := .inr (8, [.ref (x + 1), .ref (x + 2), .ref (x + 3), .ref (x + 4), .ref (x + 7), .ref (x + 9), .int (c 0), .int (c 7), .int (c 12), .int (c 29), .int (c 30), .int ((c 31) + kq), .int (c 32), .int (c 33)])) q175_0) (kpn (by decide : (22 : Nat) ≠ 8)) hR_176
                    have hH1_178 := sH.kp (kp_up (e1 := .inr (8, [.ref (x + 1), .ref (x + 2), .ref (x + 3), .ref (x + 4), .ref (x + 7), .ref (x + 9), .int (c 0), .int (c 7), .int (c 12), .int (c 29), .int (c 30), .int ((c 31) + kq), .int (c 32), .int (c 33)])) q175_0) (kpn (by decide : (22 : Nat) ≠ 8)) hH1_176
                    have hB_178 := sB.kp (kp_up (e1 := .inr (8, [.ref (x + 1), .ref (x + 2), .ref (x + 3), .ref (x + 4), .ref (x + 7), .ref (x + 9), .int (c 0), .int (c 7), .int (c 12), .int (c 29), .int (c 30), .int ((c 31) + kq), .int (c 32), .int (c 33)])) q175_0) (kpn (by decide : (2 : Nat) ≠ 8)) (kpn (by decide : (1 : Nat) ≠ 8)) hB_176
                    have hL_178 := sL.kp (kp_up (e1 := .inr (8, [.ref (x + 1), .ref (x + 2), .ref (x + 3), .ref (x + 4), .ref (x + 7), .ref (x + 9), .int (c 0), .int (c 7), .int (c 12), .int (c 29), .int (c 30), .int ((c 31) + kq), .int (c 32), .int (c 33)])) q175_0) (kpn (by decide : (22 : Nat) ≠ 8)) (kpn (by decide : (1 : Nat) ≠ 8)) hL_176
                    have hPl_178 := sP.kp (kp_up (e1 := .inr (8, [.ref (x + 1), .ref (x + 2), .ref (x + 3), .ref (x + 4), .ref (x + 7), .ref (x + 9), .int (c 0), .int (c 7), .int (c 12), .int (c 29), .int (c 30), .int ((c 31) + kq), .int (c 32), .int (c 33)])) q175_0) (kpn (by decide : (21 : Nat) ≠ 8)) (kpn (by decide : (3 : Nat) ≠ 8)) hPl_176
                    have hHo_178 := sHo.kp (kp_up (e1 := .inr (8, [.ref (x + 1), .ref (x + 2), .ref (x + 3), .ref (x + 4), .ref (x + 7), .ref (x + 9), .int (c 0), .int (c 7), .int (c 12), .int (c 29), .int (c 30), .int ((c 31) + kq), .int (c 32), .int (c 33)])) q175_0) (kpn (by decide : (0 : Nat) ≠ 8)) (kpn (by decide : (5 : Nat) ≠ 8)) hHo_176
                    have hHa_178 := sHa.kp (kp_up (e1 := .inr (8, [.ref (x + 1), .ref (x + 2), .ref (x + 3), .ref (x + 4), .ref (x + 7), .ref (x + 9), .int (c 0), .int (c 7), .int (c 12), .int (c 29), .int (c 30), .int ((c 31) + kq), .int (c 32), .int (c 33)])) q175_0) (kpn (by decide : (20 : Nat) ≠ 8)) hHa_176
                    have hEv_178 := sE.kp (kp_up (e1 := .inr (8, [.ref (x + 1), .ref (x + 2), .ref (x + 3), .ref (x + 4), .ref (x + 7), .ref (x + 9), .int (c 0), .int (c 7), .int (c 12), .int (c 29), .int (c 30), .int ((c 31) + kq), .int (c 32), .int (c 33)])) q175_0) (kpn (by decide : (20 : Nat) ≠ 8)) hEv_176
                    have hVi_178 := sVi.kp (kp_up (e1 := .inr (8, [.ref (x + 1), .ref (x + 2), .ref (x + 3), .ref (x + 4), .ref (x + 7), .ref (x + 9), .int (c 0), .int (c 7), .int (c 12), .int (c 29), .int (c 30), .int ((c 31) + kq), .int (c 32), .int (c 33)])) q175_0) (kpn (by decide : (6 : Nat) ≠ 8)) hVi_176
                    have hWk_178 := sWk.kp (kp_up (e1 := .inr (8, [.ref (x + 1), .ref (x + 2), .ref (x + 3), .ref (x + 4), .ref (x + 7), .ref (x + 9), .int (c 0), .int (c 7), .int (c 12), .int (c 29), .int (c 30), .int ((c 31) + kq), .int (c 32), .int (c 33)])) q175_0) (kpn (by decide : (7 : Nat) ≠ 8)) hWk_176
                    have hRo_178 := sRo.kp (kp_up (e1 := .inr (8, [.ref (x + 1), .ref (x + 2), .ref (x + 3), .ref (x + 4), .ref (x + 7), .ref (x + 9), .int (c 0), .int (c 7), .int (c 12), .int (c 29), .int (c 30), .int ((c 31) + kq), .int (c 32), .int (c 33)])) q175_0) (kpn (by decide : (4 : Nat) ≠ 8)) hRo_r
                    refine lv_aload_n hx hb dX8_work_187 rfl (lv_at hl 3 rfl) ?_
                    refine lv_aload hx hb dX8_work_188 (lv_at hl 0 rfl) ?_
                    refine lv_iload hx hb dX8_work_190 (lv_at hl 2 rfl) ?_
                    have hk1 := Int32.le_iff_toInt_le.mp (Int32.not_lt.mp b61)
                    have e1_ : (1 : Int32).toInt = 1 := rfl
                    have hk2 := Int32.le_iff_toInt_le.mp b73
                    have hk6 := (yet_rng hp hj hh hy).1
                    have hp2 : pI (va_up c 31 (c 31 + kq)) (raiS (dS (va_up S 18 (upd (S 18) (21 * hiq + tn (c 0 / 52)) (f1 (tn (c 0 / 52)) + kq))) vq (tn (c 0)) kq) a kq) := ⟨hp.1, mH_rai (S := dS (va_up S 18 (upd (S 18) (21 * hiq + tn (c 0 / 52)) (f1 (tn (c 0 / 52)) + kq))) vq (tn (c 0)) kq) hp.2.1 (inB_vp b12 (by decide)) (by omega) (by omega), hp.2.2⟩
                    have hHo_f := sHo.cg (S' := raiS (dS (va_up S 18 (upd (S 18) (21 * hiq + tn (c 0 / 52)) (f1 (tn (c 0 / 52)) + kq))) vq (tn (c 0)) kq) a kq) (fun j h1 h2 => by simp only [raiS, dS, va_up]; repeat (first | rfl | (rw [if_neg (by omega)]))) hHo_178
                    have hHa_f := sHa.cg (S' := raiS (dS (va_up S 18 (upd (S 18) (21 * hiq + tn (c 0 / 52)) (f1 (tn (c 0 / 52)) + kq))) vq (tn (c 0)) kq) a kq) (fun j h1 h2 => by simp only [raiS, dS]; rw [va_up_ne _ _ (by omega), va_up_ne _ _ (by omega), va_up_ne _ _ (by omega)]) hHa_178
                    refine g_ci (g_runV (As := [.ref (ha hiq), .int (c 0 / 52)]) (rest := []) ⟨hx, hb, hml, hown, hts⟩ hK hP (kX8_daysOwedYet l E A n (gup (gup G' (x + 18 + tn a) (.inr (4, [.int (minOf 3000 ((S 1 (tn a)) + kq * groOf (S 2 (tn a)))), .int (S 2 (tn a)), .int (S 3 (tn a)), .int (S 4 (tn a)), .int ((S 5 (tn a)) + kq)]))) x (.inr (8, [.ref (x + 1), .ref (x + 2), .ref (x + 3), .ref (x + 4), .ref (x + 7), .ref (x + 9), .int (c 0), .int (c 7), .int (c 12), .int (c 29), .int (c 30), .int ((c 31) + kq), .int (c 32), .int (c 33)]))) x (va_up c 31 (c 31 + kq)) (raiS (dS (va_up S 18 (upd (S 18) (21 * hiq + tn (c 0 / 52)) (f1 (tn (c 0 / 52)) + kq))) vq (tn (c 0)) kq) a kq) hiq (c 0 / 52) ha q177_a hB_178 la hL_178 lt hHo_f hHa_f hp2 hh hy) (cwV 2 hts gX8_work_X8_daysOwedYet rfl rfl rfl (by decide +kernel) ⟨Nat.le_of_ble_eq_true rfl, Nat.le_of_ble_eq_true rfl⟩) q177_a rfl rfl hl.1 rfl (Nat.le_of_ble_eq_true rfl) dX8_work_192 ⟨Nat.le_of_ble_eq_true rfl, Nat.le_of_ble_eq_true rfl⟩) hS (fun r192 n' G' H locs hw hP hS => ?_)
                    obtain ⟨rfl, rfl, rfl⟩ := hw
                    refine W.widen (k := 1) (n := 3) (by omega) (by omega) ?_
                    refine g_reti hx hb hr hlk hP hS dX8_work_195 ?_
                    have hB0 : wrkB c S (nI hiq) a kq (nI hiq) = true := by
                      have z1 : inB kq 1 (yetOf c S (nI hiq) (c 0 / 52)) = true := inB_of hk1 hk2
                      have z2 : ¬ c 0 = 1040 := fun z => by rw [z] at b31; exact absurd b31 (by decide)
                      simp [wrkB, b5, b12, z1, z2]
                    have hwd : tn (1040 * S 6 hiq + c 0) = 1040 * vq + tn (c 0) := by rw [evq, ec0]; rw [dd_tn hvq ht9, ← ec0]
                    have hw1_ : wrk1 c S (nI hiq) kq (nI hiq) = va_up S 18 (upd (S 18) (21 * hiq + tn (c 0 / 52)) (f1 (tn (c 0 / 52)) + kq)) := by rw [wrk1, if_pos rfl, yk_tn (by omega) hy, ← u1 _ (tn_lt hy)]
                    have hw2_ : wrk2 c S (nI hiq) kq (nI hiq) = dS (va_up S 18 (upd (S 18) (21 * hiq + tn (c 0 / 52)) (f1 (tn (c 0 / 52)) + kq))) vq (tn (c 0)) kq := by
                      rw [wrk2, hw1_, tn_nI (by omega), hwd]; rfl
                    refine ⟨by rw [wrkR, if_pos hB0, hw2_], Nat.le_refl _, ⟨ha, la, lt, wa, ww, wn⟩, ?_⟩
                    rw [wrkS, wrkC, if_pos hB0, if_pos hB0, hw2_]
                    exact ⟨q177_a, hV_178, hR_178, hH1_178, hB_178, hL_178, hPl_178, hEv_178, hRo_178, hVi_178, hWk_178, hW_w, hHo_f, hHa_f, hHp⟩
                  · have hdummy : True := trivial
                    have hb9 := (hW.2.1 vq hvq (wn vq - 1) (by omega))
                    have hnw : ¬ nI (ww vq (wn vq - 1)) = c 0 := fun z => by
                      rw [ec0] at z; exact hw1 ((nI_eq (by omega) (by omega)).mp z)
                    refine g_cv (g_runV (As := [.int (c 0), .int kq]) (rest := []) ⟨hx, hb, hml, hown, hts⟩ hK hP (kX6_addDays2 l E A n (gup G (ha hiq + 1) (.inl (E.2 0, 21, .inl (upd f1 (tn (c 0 / 52)) ((f1 (tn (c 0 / 52))) + kq))))) (x + 10 + vq) (wa vq (wn vq - 1)) (wFs wa wn vq) (wNx wa wn vq (wn vq - 1)) (S 0 vq) (c 0) kq (nI (ww vq (wn vq - 1))) (S 23 (1040 * vq + ww vq (wn vq - 1))) fvB fw0 hnw hA) (cwV 2 hts gX8_work_X6_addDays rfl rfl rfl (by decide +kernel) ⟨Nat.le_of_ble_eq_true rfl, Nat.le_of_ble_eq_true rfl⟩) fvB rfl rfl hl.1 rfl (Nat.le_of_ble_eq_true rfl) dX8_work_164 ⟨Nat.le_of_ble_eq_true rfl, Nat.le_of_ble_eq_true rfl⟩) hS (fun n' G' H locs hw hP hS => ?_)
                    obtain ⟨rfl, hg1, hgl, hg2, hfr⟩ := hw
                    have hKw := kp_fr2 fvB (Or.inl rfl) fw0 (Or.inr rfl) hfr
                    obtain ⟨hVi_w, hWk_w, hW_w⟩ := wk_new (S := S) (k := kq) hvq ht9 (Or.inr (by omega)) hVi_170 hWk_170 hW (hPw.none (Nat.le_refl _)) (by rw [if_neg hw0, ← show wFs wa wn vq = some (wa vq 0) from by rw [wFs, if_neg hw0]]; exact hg1) (fun _ => hgl) (by rw [← ec0]; exact hg2) (fun b e h1 h2 => hfr b e h1 (h2 (by omega)))
                    have qw_x : G' x = some (.inr (8, [.ref (x + 1), .ref (x + 2), .ref (x + 3), .ref (x + 4), .ref (x + 7), .ref (x + 9), .int (c 0), .int (c 7), .int (c 12), .int (c 29), .int (c 30), .int (c 31), .int (c 32), .int (c 33)])) := hKw _ _ (by simp [kd]) q169_0
                    have qw_x2 : G' (x + 2) = some (.inl (E.2 4, 30, .inr (.inr (.inr (.inr fR))))) := hKw _ _ (by simp [kd]) q169_2
                    have hV_w := sV.kp hKw (by decide) hV_170
                    have hR_w := sR.kp hKw (by decide) hR_170
                    have hH1_w := sH.kp hKw (by decide) hH1_170
                    have hB_w := sB.kp hKw (by decide) (by decide) hB_170
                    have hL_w := sL.kp hKw (by decide) (by decide) hL_170
                    have hPl_w := sP.kp hKw (by decide) (by decide) hPl_170
                    have hRo_w := sRo.kp hKw (by decide) hRo_170
                    have hHo_w := sHo.kp hKw (by decide) (by decide) hHo_170
                    have hHa_w := sHa.kp hKw (by decide) hHa_s
                    have hEv_w := sE.kp hKw (by decide) hEv_s
                    refine lv_aload_n hx hb dX8_work_167 rfl (lv_at hl 3 rfl) ?_
                    refine g_get (ci := 8) hx hb hts hin8 hown hK hP qw_x rfl 1 (by decide) hf17 rfl rfl dX8_work_168 ?_
                    refine lv_iload_n hx hb dX8_work_171 rfl (lv_at hl 5 rfl) ?_
                    have fr0 := hRo_w (tn a) htr
                    refine g_aald (t0 := 4) (v := .ref (x + 18 + tn a)) hx hb hK hP qw_x2 rfl (inB_vp b12 (by decide)) (by rw [hR2 (tn a) htr]; rfl) dX8_work_172 ?_
                    refine lv_iload_n hx hb dX8_work_173 rfl (lv_at hl 6 rfl) ?_
                    refine g_cv (g_runV (As := [.int kq]) (rest := []) ⟨hx, hb, hml, hown, hts⟩ hK hP (kX4_raise l E A (n + 1) G' (x + 18 + tn a) (S 1 (tn a)) (S 2 (tn a)) (S 3 (tn a)) (S 4 (tn a)) (S 5 (tn a)) kq fr0) (cwV 1 hts gX8_work_X4_raise rfl rfl rfl (by decide +kernel) ⟨Nat.le_of_ble_eq_true rfl, Nat.le_of_ble_eq_true rfl⟩) fr0 rfl rfl hl.1 rfl (Nat.le_of_ble_eq_true rfl) dX8_work_174 ⟨Nat.le_of_ble_eq_true rfl, Nat.le_of_ble_eq_true rfl⟩) hS (fun n' G' H locs hw hP hS => ?_)
                    obtain ⟨rfl, rfl⟩ := hw
                    have q179_0 : (gup G' (x + 18 + tn a) (.inr (4, [.int (minOf 3000 ((S 1 (tn a)) + kq * groOf (S 2 (tn a)))), .int (S 2 (tn a)), .int (S 3 (tn a)), .int (S 4 (tn a)), .int ((S 5 (tn a)) + kq)]))) x = some (.inr (8, [.ref (x + 1), .ref (x + 2), .ref (x + 3), .ref (x + 4), .ref (x + 7), .ref (x + 9), .int (c 0), .int (c 7), .int (c 12), .int (c 29), .int (c 30), .int (c 31), .int (c 32), .int (c 33)])) := (gup_n (ne_oo qw_x fr0 (by decide))).trans qw_x
                    have q179_1 : (gup G' (x + 18 + tn a) (.inr (4, [.int (minOf 3000 ((S 1 (tn a)) + kq * groOf (S 2 (tn a)))), .int (S 2 (tn a)), .int (S 3 (tn a)), .int (S 4 (tn a)), .int ((S 5 (tn a)) + kq)]))) (x + 2) = some (.inl (E.2 4, 30, .inr (.inr (.inr (.inr fR))))) := (gup_n (ne_ao qw_x2 fr0)).trans qw_x2
                    have q179_a : (gup G' (x + 18 + tn a) (.inr (4, [.int (minOf 3000 ((S 1 (tn a)) + kq * groOf (S 2 (tn a)))), .int (S 2 (tn a)), .int (S 3 (tn a)), .int (S 4 (tn a)), .int ((S 5 (tn a)) + kq)]))) (x + 18 + tn a) = some (.inr (4, [.int (minOf 3000 ((S 1 (tn a)) + kq * groOf (S 2 (tn a)))), .int (S 2 (tn a)), .int (S 3 (tn a)), .int (S 4 (tn a)), .int ((S 5 (tn a)) + kq)])) := gup_s
                    have hP : gP E A (n + 1) (gup G' (x + 18 + tn a) (.inr (4, [.int (minOf 3000 ((S 1 (tn a)) + kq * groOf (S 2 (tn a)))), .int (S 2 (tn a)), .int (S 3 (tn a)), .int (S 4 (tn a)), .int ((S 5 (tn a)) + kq)]))) H := hP
                    have hV_180 := sV.kp (kp_up (e1 := .inr (4, [.int (minOf 3000 ((S 1 (tn a)) + kq * groOf (S 2 (tn a)))), .int (S 2 (tn a)), .int (S 3 (tn a)), .int (S 4 (tn a)), .int ((S 5 (tn a)) + kq)])) fr0) (kpn (by decide : (22 : Nat) ≠ 4)) hV_w
                    have hR_180 := sR.kp (kp_up (e1 := .inr (4, [.int (minOf 3000 ((S 1 (tn a)) + kq * groOf (S 2 (tn a)))), .int (S 2 (tn a)), .int (S 3 (tn a)), .int (S 4 (tn a)), .int ((S 5 (tn a)) + kq)])) fr0) (kpn (by decide : (22 : Nat) ≠ 4)) hR_w
                    have hH1_180 := sH.kp (kp_up (e1 := .inr (4, [.int (minOf 3000 ((S 1 (tn a)) + kq * groOf (S 2 (tn a)))), .int (S 2 (tn a)), .int (S 3 (tn a)), .int (S 4 (tn a)), .int ((S 5 (tn a)) + kq)])) fr0) (kpn (by decide : (22 : Nat) ≠ 4)) hH1_w
                    have hB_180 := sB.kp (kp_up (e1 := .inr (4, [.int (minOf 3000 ((S 1 (tn a)) + kq * groOf (S 2 (tn a)))), .int (S 2 (tn a)), .int (S 3 (tn a)), .int (S 4 (tn a)), .int ((S 5 (tn a)) + kq)])) fr0) (kpn (by decide : (2 : Nat) ≠ 4)) (kpn (by decide : (1 : Nat) ≠ 4)) hB_w
                    have hL_180 := sL.kp (kp_up (e1 := .inr (4, [.int (minOf 3000 ((S 1 (tn a)) + kq * groOf (S 2 (tn a)))), .int (S 2 (tn a)), .int (S 3 (tn a)), .int (S 4 (tn a)), .int ((S 5 (tn a)) + kq)])) fr0) (kpn (by decide : (22 : Nat) ≠ 4)) (kpn (by decide : (1 : Nat) ≠ 4)) hL_w
                    have hPl_180 := sP.kp (kp_up (e1 := .inr (4, [.int (minOf 3000 ((S 1 (tn a)) + kq * groOf (S 2 (tn a)))), .int (S 2 (tn a)), .int (S 3 (tn a)), .int (S 4 (tn a)), .int ((S 5 (tn a)) + kq)])) fr0) (kpn (by decide : (21 : Nat) ≠ 4)) (kpn (by decide : (3 : Nat) ≠ 4)) hPl_w
                    have hHo_180 := sHo.kp (kp_up (e1 := .inr (4, [.int (minOf 3000 ((S 1 (tn a)) + kq * groOf (S 2 (tn a)))), .int (S 2 (tn a)), .int (S 3 (tn a)), .int (S 4 (tn a)), .int ((S 5 (tn a)) + kq)])) fr0) (kpn (by decide : (0 : Nat) ≠ 4)) (kpn (by decide : (5 : Nat) ≠ 4)) hHo_w
                    have hHa_180 := sHa.kp (kp_up (e1 := .inr (4, [.int (minOf 3000 ((S 1 (tn a)) + kq * groOf (S 2 (tn a)))), .int (S 2 (tn a)), .int (S 3 (tn a)), .int (S 4 (tn a)), .int ((S 5 (tn a)) + kq)])) fr0) (kpn (by decide : (20 : Nat) ≠ 4)) hHa_w
                    have hEv_180 := sE.kp (kp_up (e1 := .inr (4, [.int (minOf 3000 ((S 1 (tn a)) + kq * groOf (S 2 (tn a)))), .int (S 2 (tn a)), .int (S 3 (tn a)), .int (S 4 (tn a)), .int ((S 5 (tn a)) + kq)])) fr0) (kpn (by decide : (20 : Nat) ≠ 4)) hEv_w
                    have hVi_180 := sVi.kp (kp_up (e1 := .inr (4, [.int (minOf 3000 ((S 1 (tn a)) + kq * groOf (S 2 (tn a)))), .int (S 2 (tn a)), .int (S 3 (tn a)), .int (S 4 (tn a)), .int ((S 5 (tn a)) + kq)])) fr0) (kpn (by decide : (6 : Nat) ≠ 4)) hVi_w
                    have hWk_180 := sWk.kp (kp_up (e1 := .inr (4, [.int (minOf 3000 ((S 1 (tn a)) + kq * groOf (S 2 (tn a)))), .int (S 2 (tn a)), .int (S 3 (tn a)), .int (S 4 (tn a)), .int ((S 5 (tn a)) + kq)])) fr0) (kpn (by decide : (7 : Nat) ≠ 4)) hWk_w
                    have hRo_r : sRo (gup G' (x + 18 + tn a) (.inr (4, [.int (minOf 3000 ((S 1 (tn a)) + kq * groOf (S 2 (tn a)))), .int (S 2 (tn a)), .int (S 3 (tn a)), .int (S 4 (tn a)), .int ((S 5 (tn a)) + kq)]))) x (raiS (dS (va_up S 18 (upd (S 18) (21 * hiq + tn (c 0 / 52)) (f1 (tn (c 0 / 52)) + kq))) vq (tn (c 0)) kq) a kq) := sRo_put (t := tn a) hRo_w (rai_rod (dS (va_up S 18 (upd (S 18) (21 * hiq + tn (c 0 / 52)) (f1 (tn (c 0 / 52)) + kq))) vq (tn (c 0)) kq) a kq) (fun i hi => rai_other (dS (va_up S 18 (upd (S 18) (21 * hiq + tn (c 0 / 52)) (f1 (tn (c 0 / 52)) + kq))) vq (tn (c 0)) kq) a kq i hi)
                    refine lv_aload_n hx hb dX8_work_177 rfl (lv_at hl 3 rfl) ?_
                    refine lv_dup hx hb dX8_work_178 rfl ?_
                    refine g_get (ci := 8) hx hb hts hin8 hown hK hP q179_0 rfl 11 (by decide) hf61 rfl rfl dX8_work_179 ?_
                    refine lv_iload_n hx hb dX8_work_182 rfl (lv_at hl 6 rfl) ?_
                    refine lv_iadd hx hb dX8_work_183 ?_
                    refine g_put (ci := 8) (ty := .int) (v := .int ((c 31) + kq)) hx hb hts hin8 tyX8 tyX8_ok nmX8 hown hK hP hS q179_0 rfl 11 (by decide) hf61 rfl (Or.inl rfl) (by decide +kernel) rfl rfl (Nat.le_of_ble_eq_true rfl) dX8_work_184 (fun H locs hP hS => ?_)
                    have q181_0 : (gup (gup G' (x + 18 + tn a) (.inr (4, [.int (minOf 3000 ((S 1 (tn a)) + kq * groOf (S 2 (tn a)))), .int (S 2 (tn a)), .int (S 3 (tn a)), .int (S 4 (tn a)), .int ((S 5 (tn a)) + kq)]))) x (.inr (8, [.ref (x + 1), .ref (x + 2), .ref (x + 3), .ref (x + 4), .ref (x + 7), .ref (x + 9), .int (c 0), .int (c 7), .int (c 12), .int (c 29), .int (c 30), .int ((c 31) + kq), .int (c 32), .int (c 33)]))) (x + 2) = some (.inl (E.2 4, 30, .inr (.inr (.inr (.inr fR))))) := (gup_n (ne_ao q179_1 q179_0)).trans q179_1
                    have q181_1 : (gup (gup G' (x + 18 + tn a) (.inr (4, [.int (minOf 3000 ((S 1 (tn a)) + kq * groOf (S 2 (tn a)))), .int (S 2 (tn a)), .int (S 3 (tn a)), .int (S 4 (tn a)), .int ((S 5 (tn a)) + kq)]))) x (.inr (8, [.ref (x + 1), .ref (x + 2), .ref (x + 3), .ref (x + 4), .ref (x + 7), .ref (x + 9), .int (c 0), .int (c 7), .int (c 12), .int (c 29), .int (c 30), .int ((c 31) + kq), .int (c 32), .int (c 33)]))) (x + 18 + tn a) = some (.inr (4, [.int (minOf 3000 ((S 1 (tn a)) + kq * groOf (S 2 (tn a)))), .int (S 2 (tn a)), .int (S 3 (tn a)), .int (S 4 (tn a)), .int ((S 5 (tn a)) + kq)])) := (gup_n (ne_oo q179_a q179_0 (by decide))).trans q179_a
                    have q181_a : (gup (gup G' (x + 18 + tn a) (.inr (4, [.int (minOf 3000 ((S 1 (tn a)) + kq * groOf (S 2 (tn a)))), .int (S 2 (tn a)), .int (S 3 (tn a)), .int (S 4 (tn a)), .int ((S 5 (tn a)) + kq)]))) x (.inr (8, [.ref (x + 1), .ref (x + 2), .ref (x + 3), .ref (x + 4), .ref (x + 7), .ref (x + 9), .int (c 0), .int (c 7), .int (c 12), .int (c 29), .int (c 30), .int ((c 31) + kq), .int (c 32), .int (c 33)]))) x = some (.inr (8, [.ref (x + 1), .ref (x + 2), .ref (x + 3), .ref (x + 4), .ref (x + 7), .ref (x + 9), .int (c 0), .int (c 7), .int (c 12), .int (c 29), .int (c 30), .int ((c 31) + kq), .int (c 32), .int (c 33)])) := gup_s
                    have hP : gP E A (n + 1) (gup (gup G' (x + 18 + tn a) (.inr (4, [.int (minOf 3000 ((S 1 (tn a)) + kq * groOf (S 2 (tn a)))), .int (S 2 (tn a)), .int (S 3 (tn a)), .int (S 4 (tn a)), .int ((S 5 (tn a)) + kq)]))) x (.inr (8, [.ref (x + 1), .ref (x + 2), .ref (x + 3), .ref (x + 4), .ref (x + 7), .ref (x + 9), .int (c 0), .int (c 7), .int (c 12), .int (c 29), .int (c 30), .int ((c 31) + kq), .int (c 32), .int (c 33)]))) H := hP
                    have hV_182 := sV.kp (kp_up (e1 := .inr (8, [.ref (x + 1), .ref (x + 2), .ref (x + 3), .ref (x + 4), .ref (x + 7), .ref (x + 9), .int (c 0), .int (c 7), .int (c 12), .int (c 29), .int (c 30), .int ((c 31) + kq), .int (c 32), .int (c 33)])) q179_0) (kpn (by decide : (22 : Nat) ≠ 8)) hV_180
                    have hR_182 := sR.kp (kp_up (e1 := .inr (8, [.ref (x + 1), .ref (x + 2), .ref (x + 3), .ref (x + 4), .ref (x + 7), .ref (x + 9), .int (c 0), .int (c 7), .int (c 12), .int (c 29), .int (c 30), .int ((c 31) + kq), .int (c 32), .int (c 33)])) q179_0) (kpn (by decide : (22 : Nat) ≠ 8)) hR_180
                    have hH1_182 := sH.kp (kp_up (e1 := .inr (8, [.ref (x + 1), .ref (x + 2), .ref (x + 3), .ref (x + 4), .ref (x + 7), .ref (x + 9), .int (c 0), .int (c 7), .int (c 12), .int (c 29), .int (c 30), .int ((c 31) + kq), .int (c 32), .int (c 33)])) q179_0) (kpn (by decide : (22 : Nat) ≠ 8)) hH1_180
                    have hB_182 := sB.kp (kp_up (e1 := .inr (8, [.ref (x + 1), .ref (x + 2), .ref (x + 3), .ref (x + 4), .ref (x + 7), .ref (x + 9), .int (c 0), .int (c 7), .int (c 12), .int (c 29), .int (c 30), .int ((c 31) + kq), .int (c 32), .int (c 33)])) q179_0) (kpn (by decide : (2 : Nat) ≠ 8)) (kpn (by decide : (1 : Nat) ≠ 8)) hB_180
                    have hL_182 := sL.kp (kp_up (e1 := .inr (8, [.ref (x + 1), .ref (x + 2), .ref (x + 3), .ref (x + 4), .ref (x + 7), .ref (x + 9), .int (c 0), .int (c 7), .int (c 12), .int (c 29), .int (c 30), .int ((c 31) + kq), .int (c 32), .int (c 33)])) q179_0) (kpn (by decide : (22 : Nat) ≠ 8)) (kpn (by decide : (1 : Nat) ≠ 8)) hL_180
                    have hPl_182 := sP.kp (kp_up (e1 := .inr (8, [.ref (x + 1), .ref (x + 2), .ref (x + 3), .ref (x + 4), .ref (x + 7), .ref (x + 9), .int (c 0), .int (c 7), .int (c 12), .int (c 29), .int (c 30), .int ((c 31) + kq), .int (c 32), .int (c 33)])) q179_0) (kpn (by decide : (21 : Nat) ≠ 8)) (kpn (by decide : (3 : Nat) ≠ 8)) hPl_180
                    have hHo_182 := sHo.kp (kp_up (e1 := .inr (8, [.ref (x + 1), .ref (x + 2), .ref (x + 3), .ref (x + 4), .ref (x + 7), .ref (x + 9), .int (c 0), .int (c 7), .int (c 12), .int (c 29), .int (c 30), .int ((c 31) + kq), .int (c 32), .int (c 33)])) q179_0) (kpn (by decide : (0 : Nat) ≠ 8)) (kpn (by decide : (5 : Nat) ≠ 8)) hHo_180
                    have hHa_182 := sHa.kp (kp_up (e1 := .inr (8, [.ref (x + 1), .ref (x + 2), .ref (x + 3), .ref (x + 4), .ref (x + 7), .ref (x + 9), .int (c 0), .int (c 7), .int (c 12), .int (c 29), .int (c 30), .int ((c 31) + kq), .int (c 32), .int (c 33)])) q179_0) (kpn (by decide : (20 : Nat) ≠ 8)) hHa_180
                    have hEv_182 := sE.kp (kp_up (e1 := .inr (8, [.ref (x + 1), .ref (x + 2), .ref (x + 3), .ref (x + 4), .ref (x + 7), .ref (x + 9), .int (c 0), .int (c 7), .int (c 12), .int (c 29), .int (c 30), .int ((c 31) + kq), .int (c 32), .int (c 33)])) q179_0) (kpn (by decide : (20 : Nat) ≠ 8)) hEv_180
                    have hVi_182 := sVi.kp (kp_up (e1 := .inr (8, [.ref (x + 1), .ref (x + 2), .ref (x + 3), .ref (x + 4), .ref (x + 7), .ref (x + 9), .int (c 0), .int (c 7), .int (c 12), .int (c 29), .int (c 30), .int ((c 31) + kq), .int (c 32), .int (c 33)])) q179_0) (kpn (by decide : (6 : Nat) ≠ 8)) hVi_180
                    have hWk_182 := sWk.kp (kp_up (e1 := .inr (8, [.ref (x + 1), .ref (x + 2), .ref (x + 3), .ref (x + 4), .ref (x + 7), .ref (x + 9), .int (c 0), .int (c 7), .int (c 12), .int (c 29), .int (c 30), .int ((c 31) + kq), .int (c 32), .int (c 33)])) q179_0) (kpn (by decide : (7 : Nat) ≠ 8)) hWk_180
                    have hRo_182 := sRo.kp (kp_up (e1 := .inr (8, [.ref (x + 1), .ref (x + 2), .ref (x + 3), .ref (x + 4), .ref (x + 7), .ref (x + 9), .int (c 0), .int (c 7), .int (c 12), .int (c 29), .int (c 30), .int ((c 31) + kq), .int (c 32), .int (c 33)])) q179_0) (kpn (by decide : (4 : Nat) ≠ 8)) hRo_r
                    refine lv_aload_n hx hb dX8_work_187 rfl (lv_at hl 3 rfl) ?_
                    refine lv_aload hx hb dX8_work_188 (lv_at hl 0 rfl) ?_
                    refine lv_iload hx hb dX8_work_190 (lv_at hl 2 rfl) ?_
                    have hk1 := Int32.le_iff_toInt_le.mp (Int32.not_lt.mp b61)
                    have e1_ : (1 : Int32).toInt = 1 := rfl
                    have hk2 := Int32.le_iff_toInt_le.mp b73
                    have hk6 := (yet_rng hp hj hh hy).1
                    have hp2 : pI (va_up c 31 (c 31 + kq)) (raiS (dS (va_up S 18 (upd (S 18) (21 * hiq + tn (c 0 / 52)) (f1 (tn (c 0 / 52)) + kq))) vq (tn (c 0)) kq) a kq) := ⟨hp.1, mH_rai (S := dS (va_up S 18 (upd (S 18) (21 * hiq + tn (c 0 / 52)) (f1 (tn (c 0 / 52)) + kq))) vq (tn (c 0)) kq) hp.2.1 (inB_vp b12 (by decide)) (by omega) (by omega), hp.2.2⟩
                    have hHo_f := sHo.cg (S' := raiS (dS (va_up S 18 (upd (S 18) (21 * hiq + tn (c 0 / 52)) (f1 (tn (c 0 / 52)) + kq))) vq (tn (c 0)) kq) a kq) (fun j h1 h2 => by simp only [raiS, dS, va_up]; repeat (first | rfl | (rw [if_neg (by omega)]))) hHo_182
                    have hHa_f := sHa.cg (S' := raiS (dS (va_up S 18 (upd (S 18) (21 * hiq + tn (c 0 / 52)) (f1 (tn (c 0 / 52)) + kq))) vq (tn (c 0)) kq) a kq) (fun j h1 h2 => by simp only [raiS, dS]; rw [va_up_ne _ _ (by omega), va_up_ne _ _ (by omega), va_up_ne _ _ (by omega)]) hHa_182
                    refine g_ci (g_runV (As := [.ref (ha hiq), .int (c 0 / 52)]) (rest := []) ⟨hx, hb, hml, hown, hts⟩ hK hP (kX8_daysOwedYet l E A (n + 1) (gup (gup G' (x + 18 + tn a) (.inr (4, [.int (minOf 3000 ((S 1 (tn a)) + kq * groOf (S 2 (tn a)))), .int (S 2 (tn a)), .int (S 3 (tn a)), .int (S 4 (tn a)), .int ((S 5 (tn a)) + kq)]))) x (.inr (8, [.ref (x + 1), .ref (x + 2), .ref (x + 3), .ref (x + 4), .ref (x + 7), .ref (x + 9), .int (c 0), .int (c 7), .int (c 12), .int (c 29), .int (c 30), .int ((c 31) + kq), .int (c 32), .int (c 33)]))) x (va_up c 31 (c 31 + kq)) (raiS (dS (va_up S 18 (upd (S 18) (21 * hiq + tn (c 0 / 52)) (f1 (tn (c 0 / 52)) + kq))) vq (tn (c 0)) kq) a kq) hiq (c 0 / 52) ha q181_a hB_182 la hL_182 lt hHo_f hHa_f hp2 hh hy) (cwV 2 hts gX8_work_X8_daysOwedYet rfl rfl rfl (by decide +kernel) ⟨Nat.le_of_ble_eq_true rfl, Nat.le_of_ble_eq_true rfl⟩) q181_a rfl rfl hl.1 rfl (Nat.le_of_ble_eq_true rfl) dX8_work_192 ⟨Nat.le_of_ble_eq_true rfl, Nat.le_of_ble_eq_true rfl⟩) hS (fun r192 n' G' H locs hw hP hS => ?_)
                    obtain ⟨rfl, rfl, rfl⟩ := hw
                    refine W.widen (k := 1) (n := 3) (by omega) (by omega) ?_
                    refine g_reti hx hb hr hlk hP hS dX8_work_195 ?_
                    have hB0 : wrkB c S (nI hiq) a kq (nI hiq) = true := by
                      have z1 : inB kq 1 (yetOf c S (nI hiq) (c 0 / 52)) = true := inB_of hk1 hk2
                      have z2 : ¬ c 0 = 1040 := fun z => by rw [z] at b31; exact absurd b31 (by decide)
                      simp [wrkB, b5, b12, z1, z2]
                    have hwd : tn (1040 * S 6 hiq + c 0) = 1040 * vq + tn (c 0) := by rw [evq, ec0]; rw [dd_tn hvq ht9, ← ec0]
                    have hw1_ : wrk1 c S (nI hiq) kq (nI hiq) = va_up S 18 (upd (S 18) (21 * hiq + tn (c 0 / 52)) (f1 (tn (c 0 / 52)) + kq)) := by rw [wrk1, if_pos rfl, yk_tn (by omega) hy, ← u1 _ (tn_lt hy)]
                    have hw2_ : wrk2 c S (nI hiq) kq (nI hiq) = dS (va_up S 18 (upd (S 18) (21 * hiq + tn (c 0 / 52)) (f1 (tn (c 0 / 52)) + kq))) vq (tn (c 0)) kq := by
                      rw [wrk2, hw1_, tn_nI (by omega), hwd]; rfl
                    refine ⟨by rw [wrkR, if_pos hB0, hw2_], by omega, ⟨ha, la, lt, wa2 wa wn vq n, wa2 ww wn vq (tn (c 0)), va_up wn vq (wn vq + 1)⟩, ?_⟩
                    rw [wrkS, wrkC, if_pos hB0, if_pos hB0, hw2_]
                    exact ⟨q181_a, hV_182, hR_182, hH1_182, hB_182, hL_182, hPl_182, hEv_182, hRo_182, hVi_182, hWk_182, hW_w, hHo_f, hHa_f, hHp⟩
            · refine lv_iconst (v := (-1)) hx hb dX8_work_76 (by decide) ?_
              refine W.widen (k := 1) (n := 3) (by omega) (by omega) ?_
              refine g_reti hx hb hr hlk hP hS dX8_work_77 ?_
              have hB0 : wrkB c S (nI hiq) a kq (nI fiq) = false := by
                cases hz : wrkB c S (nI hiq) a kq (nI fiq)
                · rfl
                · exfalso
                  simp only [wrkB, Bool.and_eq_true] at hz
                  have z := (inB_i hz.1.2).2; exact b73 (Int32.le_iff_toInt_le.mpr z)
              exact ⟨by rw [wrkR, if_neg (by rw [hB0]; decide)], Nat.le_refl _, _, by rw [wrkS, wrkC, if_neg (by rw [hB0]; decide), if_neg (by rw [hB0]; decide)]; exact hs⟩
        · refine lv_iconst (v := (-1)) hx hb dX8_work_34 (by decide) ?_
          refine W.widen (k := 1) (n := 3) (by omega) (by omega) ?_
          refine g_reti hx hb hr hlk hP hS dX8_work_35 ?_
          have hB0 : wrkB c S h a kq f = false := by
            cases hz : wrkB c S h a kq f
            · rfl
            · exfalso
              simp only [wrkB, Bool.and_eq_true] at hz
              have z : ¬ c 0 = 1040 := by have := hz.1.1.2; simpa using this
              have z1 := Int32.le_iff_toInt_le.mp (Int32.not_lt.mp b31)
              have z2 := hp.1.1
              have e1 : (1040 : Int32).toInt = 1040 := rfl
              exact z (Int32.toInt_inj.mp (by omega))
          exact ⟨by rw [wrkR, if_neg (by rw [hB0]; decide)], Nat.le_refl _, _, by rw [wrkS, wrkC, if_neg (by rw [hB0]; decide), if_neg (by rw [hB0]; decide)]; exact hs⟩
