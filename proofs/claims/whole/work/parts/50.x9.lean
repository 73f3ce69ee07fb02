set_option maxHeartbeats 1000000 in
set_option maxRecDepth 100000 in
theorem kX3_bestWorth (l : Launch) (E : gT) (A : Nat → Prop) (n : Nat) (G : gH) (a b ar nn : Nat) (lv : Int32) (f : Nat → Int64) (fr : Nat → Option Nat) (ra : Nat → Nat) (S : Nat → Nat → Int32) (hH : mH S) (hlv : inB lv 0 3000 = true) (hnn : nn ≤ 300) (fa : G a = some (.inr (3, [.ref b]))) (fb : G b = some (.inl (E.2 1, 301, .inr (.inl f)))) (fc : G ar = some (.inl (E.2 4, 30, .inr (.inr (.inr (.inr fr)))))) (hra : ∀ iq, iq < 30 → fr iq = some (ra iq) ∧ G (ra iq) = some (rodE S iq)) : gM l yX3_bestWorth wsX3_bestWorth ({ frames := 2, cells := 0, slots := 0, locals := 50 } : Room) E A n G [.ref a, .ref ar, .int (nI nn), .int lv] (gQl E A (fun r' n' G' => bwN S lv f nn 30 nn = r' ∧ n = n' ∧ gup G b (.inl (E.2 1, 301, .inr (.inl (bwN S lv f nn 30)))) = G')) 0 0 := by
  refine g_entry (by decide) rfl (Nat.le_of_ble_eq_true rfl) ?_
  intro p e s m below meth c0 hx hb hr hlk hml hown hnm hts hK H locs ls hP hS hl
  have hin3 : ∀ wq ∈ u_ws RX3 TX3 1, wq ∈ wsX3_bestWorth := by decide +kernel
  have hin4 : ∀ wq ∈ u_ws RX4 TX4 5, wq ∈ wsX3_bestWorth := by decide +kernel
  have hf11 := hts (.fieldLink RX3 11 "DikeHands$Plan" "worthWithin" "[J") (by decide +kernel)
  have hf19 := hts (.fieldLink RX3 19 "DikeHands$Rod" "height" "I") (by decide +kernel)
  have hf29 := hts (.fieldLink RX3 29 "DikeHands$Rod" "loss" "I") (by decide +kernel)
  have hl : lv_has ls 5 [(0, .ref a), (1, .ref ar), (2, .int (nI nn)), (3, .int lv)] := hl
  have hin0 : inB (nI nn) 0 300 = true := inB_of (by rw [nI_toInt (by omega)]; exact Int.natCast_nonneg nn) (by rw [nI_toInt (by omega)]; show (nn : Int) ≤ 300; omega)
  refine lv_iload_n hx hb dX3_bestWorth_0 rfl (lv_at hl 2 rfl) ?_
  refine lv_sipush (v := 300) hx hb dX3_bestWorth_1 (by decide) ?_
  refine g_ci (g_runSN (As := [.int (nI nn), .int 300]) (rest := []) ⟨hx, hb, hml, hown, hts⟩ hK hP (kX8_isWithin l E A n G (nI nn) 300) ⟨va_cnB 2 hts gX3_bestWorth_X8_isWithin_n15 rfl rfl rfl hK.2.2.2.2.2.2.2.1 (hts (.initialized RX8) (by decide +kernel)) (by decide +kernel) ⟨Nat.le_of_ble_eq_true rfl, Nat.le_of_ble_eq_true rfl⟩, hts (.static yX8_isWithin) (by decide +kernel), trivial⟩ rfl hl.1 rfl (Nat.le_of_ble_eq_true rfl) dX3_bestWorth_4 ⟨Nat.le_of_ble_eq_true rfl, Nat.le_of_ble_eq_true rfl⟩) hS (fun r4 n' G' H locs hw hP hS => ?_)
  obtain ⟨rfl, rfl, rfl⟩ := hw
  refine g_ifne (tgt := 12) hx hb dX3_bestWorth_7 (by decide) (fun _ => ?_) (fun b7 => absurd hin0 (by rw [b7]; decide))
  have hneR : ar ≠ b := fun q => by
    rw [q, fb] at fc
    have := congrArg (Option.map kd) fc
    simp [kd] at this
  have hP : gP E A n (gup G b (.inl (E.2 1, 301, .inr (.inl (zF f 0))))) H := by rw [zF_0, gup_id fb]; exact hP
  refine lv_iconst (v := 0) hx hb dX3_bestWorth_12 (by decide) ?_
  refine lv_istore (lv' := [(4, .int 0), (0, .ref a), (1, .ref ar), (2, .int (nI nn)), (3, .int lv)]) hx hb dX3_bestWorth_13 hl (by decide) rfl (fun ls hl => ?_)
  refine g_loop (τ := Nat) (fun jq => jq ≤ nn + 1) (fun jq => nn + 1 - jq) (fun jq => n) (fun jq => gup G b (.inl (E.2 1, 301, .inr (.inl (zF f jq))))) (fun jq => 0) (fun jq => 0) (fun jq => [(0, .ref a), (1, .ref ar), (2, .int (nI nn)), (3, .int lv), (4, .int (nI jq))]) ?_ 0 (Nat.zero_le _) H locs ls hP hS (lv_sub hl [1, 2, 3, 4, 0] rfl)
  intro jq hI15 ih H locs ls hP hS hl
  try dsimp only at hI15
  have hl : lv_has ls 5 [(0, .ref a), (1, .ref ar), (2, .int (nI nn)), (3, .int lv), (4, .int (nI jq))] := hl
  have hP : gP E A n (gup G b (.inl (E.2 1, 301, .inr (.inl (zF f jq))))) H := hP
  have qa : gup G b (.inl (E.2 1, 301, .inr (.inl (zF f jq)))) a = some (.inr (3, [.ref b])) := (gup_n (ne_oa fa fb)).trans fa
  have qb : gup G b (.inl (E.2 1, 301, .inr (.inl (zF f jq)))) b = some (.inl (E.2 1, 301, .inr (.inl (zF f jq)))) := gup_s
  have qr : gup G b (.inl (E.2 1, 301, .inr (.inl (zF f jq)))) ar = some (.inl (E.2 4, 30, .inr (.inr (.inr (.inr fr))))) := (gup_n hneR).trans fc
  refine lv_iload hx hb dX3_bestWorth_15 (lv_at hl 4 rfl) ?_
  refine lv_iload_n hx hb dX3_bestWorth_17 rfl (lv_at hl 2 rfl) ?_
  refine lv_icmp_gt (tgt := 35) hx hb dX3_bestWorth_18 (by decide) (fun b18 => ?_) (fun b18 => ?_)
  · have hk3 := lp_gt (x := nI nn) (by rw [nI_toInt (by omega)]; omega) (by omega) b18
    rw [tn_nI (by omega)] at hk3
    have hke : jq = nn + 1 := by omega
    have hP : gP E A n (gup G b (.inl (E.2 1, 301, .inr (.inl (bwN S lv f nn 0))))) H := by rw [bwN, ← hke]; exact hP
    refine lv_iconst (v := 0) hx hb dX3_bestWorth_35 (by decide) ?_
    refine lv_istore (lv' := [(4, .int 0), (0, .ref a), (1, .ref ar), (2, .int (nI nn)), (3, .int lv)]) hx hb dX3_bestWorth_36 hl (by decide) rfl (fun ls hl => ?_)
    refine g_loop (τ := Nat) (fun iq => iq ≤ 30) (fun iq => 30 - iq) (fun iq => n) (fun iq => gup G b (.inl (E.2 1, 301, .inr (.inl (bwN S lv f nn iq))))) (fun iq => 0) (fun iq => 0) (fun iq => [(0, .ref a), (1, .ref ar), (2, .int (nI nn)), (3, .int lv), (4, .int (nI iq))]) ?_ 0 (Nat.zero_le _) H locs ls hP hS (lv_sub hl [1, 2, 3, 4, 0] rfl)
    intro iq hI38 ih2 H locs ls hP hS hl
    try dsimp only at hI38
    have hl : lv_has ls 5 [(0, .ref a), (1, .ref ar), (2, .int (nI nn)), (3, .int lv), (4, .int (nI iq))] := hl
    have hP : gP E A n (gup G b (.inl (E.2 1, 301, .inr (.inl (bwN S lv f nn iq))))) H := hP
    have qa : gup G b (.inl (E.2 1, 301, .inr (.inl (bwN S lv f nn iq)))) a = some (.inr (3, [.ref b])) := (gup_n (ne_oa fa fb)).trans fa
    have qb : gup G b (.inl (E.2 1, 301, .inr (.inl (bwN S lv f nn iq)))) b = some (.inl (E.2 1, 301, .inr (.inl (bwN S lv f nn iq)))) := gup_s
    have qr : gup G b (.inl (E.2 1, 301, .inr (.inl (bwN S lv f nn iq)))) ar = some (.inl (E.2 4, 30, .inr (.inr (.inr (.inr fr))))) := (gup_n hneR).trans fc
    refine lv_iload hx hb dX3_bestWorth_38 (lv_at hl 4 rfl) ?_
    refine lv_aload_n hx hb dX3_bestWorth_40 rfl (lv_at hl 1 rfl) ?_
    refine g_alen (t0 := 4) (v := 30) hx hb hK hP qr rfl rfl dX3_bestWorth_41 ?_
    refine lv_icmp_ge (tgt := 91) hx hb dX3_bestWorth_42 (by decide) (fun b42 => ?_) (fun b42 => ?_)
    · have hk3 := lp_ge (x := 30) (by decide) (by omega) b42
      have hk5 : tn 30 = 30 := by decide
      have hke : iq = 30 := by omega
      refine lv_aload_n hx hb dX3_bestWorth_91 rfl (lv_at hl 0 rfl) ?_
      refine g_get (ci := 3) hx hb hts hin3 hown hK hP qa rfl 0 (by decide) hf11 rfl rfl dX3_bestWorth_92 ?_
      refine lv_iload_n hx hb dX3_bestWorth_95 rfl (lv_at hl 2 rfl) ?_
      refine g_lald_n hx hb hK hP qb (by omega) (by decide) dX3_bestWorth_96 ?_
      refine g_retl hx hb hr hlk hP hS dX3_bestWorth_97 ?_
      exact ⟨by rw [hke], rfl, by rw [hke]⟩
    · have hk3 := lp_lt (x := 30) (by decide) (by omega) b42
      have hk5 : tn 30 = 30 := by decide
      rw [hk5] at hk3
      refine lv_aload_n hx hb dX3_bestWorth_45 rfl (lv_at hl 1 rfl) ?_
      refine lv_iload hx hb dX3_bestWorth_46 (lv_at hl 4 rfl) ?_
      have fq48 : gup G b (.inl (E.2 1, 301, .inr (.inl (bwN S lv f nn iq)))) (ra iq) = some (rodE S iq) := (gup_n (ne_oa (hra iq hk3).2 fb)).trans (hra iq hk3).2
      refine g_aald (t0 := 4) (v := .ref (ra iq)) hx hb hK hP qr rfl (vp_in_nI (by omega) (by decide)) (by rw [nI_clamp (by omega), (hra iq hk3).1]; rfl) dX3_bestWorth_48 ?_
      refine g_get (ci := 4) hx hb hts hin4 hown hK hP fq48 rfl 0 (by decide) hf19 rfl rfl dX3_bestWorth_49 ?_
      refine lv_iload_n hx hb dX3_bestWorth_52 rfl (lv_at hl 3 rfl) ?_
      refine lv_icmp_ge (tgt := 85) hx hb dX3_bestWorth_53 (by decide) (fun b53 => ?_) (fun b53 => ?_)
      · have hP : gP E A n (gup G b (.inl (E.2 1, 301, .inr (.inl (bwN S lv f nn (iq + 1)))))) H := by rw [bwN, if_neg (fun z => absurd z (Int32.not_lt.mpr b53))]; exact hP
        refine lv_iinc (v := (nI iq) + 1) (lv' := [(4, .int ((nI iq) + 1)), (0, .ref a), (1, .ref ar), (2, .int (nI nn)), (3, .int lv)]) hx hb dX3_bestWorth_85 hl (k := 4) rfl rfl (by decide) rfl (fun ls hl => ?_)
        refine lv_goto (tgt := 38) hx hb dX3_bestWorth_88 (by decide) ?_
        refine ih2 (iq + 1) (by omega) (by omega) H locs ls hP hS ?_
        show lv_has ls 5 [(0, .ref a), (1, .ref ar), (2, .int (nI nn)), (3, .int lv), (4, .int (nI (iq + 1)))]
        rw [← nI_1 iq]
        exact lv_sub hl [1, 2, 3, 4, 0] rfl
      · refine lv_aload_n hx hb dX3_bestWorth_56 rfl (lv_at hl 0 rfl) ?_
        refine lv_aload_n hx hb dX3_bestWorth_57 rfl (lv_at hl 1 rfl) ?_
        refine lv_iload hx hb dX3_bestWorth_58 (lv_at hl 4 rfl) ?_
        have fq60 : gup G b (.inl (E.2 1, 301, .inr (.inl (bwN S lv f nn iq)))) (ra iq) = some (rodE S iq) := (gup_n (ne_oa (hra iq hk3).2 fb)).trans (hra iq hk3).2
        refine g_aald (t0 := 4) (v := .ref (ra iq)) hx hb hK hP qr rfl (vp_in_nI (by omega) (by decide)) (by rw [nI_clamp (by omega), (hra iq hk3).1]; rfl) dX3_bestWorth_60 ?_
        refine lv_iload_n hx hb dX3_bestWorth_61 rfl (lv_at hl 3 rfl) ?_
        refine g_ci (g_runV (As := [.int lv]) (rest := [.ref a]) ⟨hx, hb, hml, hown, hts⟩ hK hP (kX4_daysTo l E A n (gup G b (.inl (E.2 1, 301, .inr (.inl (bwN S lv f nn iq))))) (ra iq) (S 1 iq) (S 2 iq) (S 3 iq) (S 4 iq) (S 5 iq) lv fq60) (cwV 1 hts gX3_bestWorth_X4_daysTo rfl rfl rfl (by decide +kernel) ⟨Nat.le_of_ble_eq_true rfl, Nat.le_of_ble_eq_true rfl⟩) fq60 rfl rfl hl.1 rfl (Nat.le_of_ble_eq_true rfl) dX3_bestWorth_62 ⟨Nat.le_of_ble_eq_true rfl, Nat.le_of_ble_eq_true rfl⟩) hS (fun r62 n' G' H locs hw hP hS => ?_)
        obtain ⟨rfl, rfl, rfl⟩ := hw
        have hnd := needOf_rng hH hlv hk3
        have hnt := tn_of hnd.1
        rw [need_eq hH hlv hk3, show needOf S (nI iq) lv = nI (tn (needOf S (nI iq) lv)) from (nI_tn hnd.1).symm]
        refine lv_aload_n hx hb dX3_bestWorth_65 rfl (lv_at hl 1 rfl) ?_
        refine lv_iload hx hb dX3_bestWorth_66 (lv_at hl 4 rfl) ?_
        have fq68 : gup G b (.inl (E.2 1, 301, .inr (.inl (bwN S lv f nn iq)))) (ra iq) = some (rodE S iq) := (gup_n (ne_oa (hra iq hk3).2 fb)).trans (hra iq hk3).2
        refine g_aald (t0 := 4) (v := .ref (ra iq)) hx hb hK hP qr rfl (vp_in_nI (by omega) (by decide)) (by rw [nI_clamp (by omega), (hra iq hk3).1]; rfl) dX3_bestWorth_68 ?_
        refine g_get (ci := 4) hx hb hts hin4 hown hK hP fq68 rfl 2 (by decide) hf29 rfl rfl dX3_bestWorth_69 ?_
        refine lv_i2l hx hb dX3_bestWorth_72 rfl ?_
        refine lv_bipush (v := 30) hx hb dX3_bestWorth_73 (by decide) ?_
        refine lv_lshl hx hb dX3_bestWorth_75 rfl ?_
        refine lv_lconst (v := 1) hx hb dX3_bestWorth_76 (by decide) ?_
        refine lv_iload hx hb dX3_bestWorth_77 (lv_at hl 4 rfl) ?_
        refine lv_lshl hx hb dX3_bestWorth_79 rfl ?_
        refine lv_lsub hx hb dX3_bestWorth_80 ?_
        refine lv_iload_n hx hb dX3_bestWorth_81 rfl (lv_at hl 2 rfl) ?_
        rw [show ((S 3 iq).toInt64 <<< ((30 : Int32).toInt64 &&& 63)) - ((1 : Int64) <<< ((nI iq).toInt64 &&& 63)) = woR S iq from rfl]
        refine g_cv (g_runV (As := [.int (nI (tn (needOf S (nI iq) lv))), .long (woR S iq), .int (nI nn)]) (rest := []) ⟨hx, hb, hml, hown, hts⟩ hK hP (kX3_offer l E A n (gup G b (.inl (E.2 1, 301, .inr (.inl (bwN S lv f nn iq))))) a b (tn (needOf S (nI iq) lv)) nn (woR S iq) (bwN S lv f nn iq) (by omega) hnn qa qb) (cwV 3 hts gX3_bestWorth_X3_offer rfl rfl rfl (by decide +kernel) ⟨Nat.le_of_ble_eq_true rfl, Nat.le_of_ble_eq_true rfl⟩) qa rfl rfl hl.1 rfl (Nat.le_of_ble_eq_true rfl) dX3_bestWorth_82 ⟨Nat.le_of_ble_eq_true rfl, Nat.le_of_ble_eq_true rfl⟩) hS (fun n' G' H locs hw hP hS => ?_)
        obtain ⟨rfl, rfl⟩ := hw
        rw [gup_gup] at hP
        have hP : gP E A n (gup G b (.inl (E.2 1, 301, .inr (.inl (bwN S lv f nn (iq + 1)))))) H := by rw [bwN, if_pos (Int32.not_le.mp b53)]; exact hP
        refine lv_iinc (v := (nI iq) + 1) (lv' := [(4, .int ((nI iq) + 1)), (0, .ref a), (1, .ref ar), (2, .int (nI nn)), (3, .int lv)]) hx hb dX3_bestWorth_85 hl (k := 4) rfl rfl (by decide) rfl (fun ls hl => ?_)
        refine lv_goto (tgt := 38) hx hb dX3_bestWorth_88 (by decide) ?_
        refine ih2 (iq + 1) (by omega) (by omega) H locs ls hP hS ?_
        show lv_has ls 5 [(0, .ref a), (1, .ref ar), (2, .int (nI nn)), (3, .int lv), (4, .int (nI (iq + 1)))]
        rw [← nI_1 iq]
        exact lv_sub hl [1, 2, 3, 4, 0] rfl
  · have hk3 := lp_ngt (x := nI nn) (by rw [nI_toInt (by omega)]; omega) (by omega) b18
    rw [tn_nI (by omega)] at hk3
    refine lv_aload_n hx hb dX3_bestWorth_21 rfl (lv_at hl 0 rfl) ?_
    refine g_get (ci := 3) hx hb hts hin3 hown hK hP qa rfl 0 (by decide) hf11 rfl rfl dX3_bestWorth_22 ?_
    refine lv_iload hx hb dX3_bestWorth_25 (lv_at hl 4 rfl) ?_
    refine lv_lconst (v := 0) hx hb dX3_bestWorth_27 (by decide) ?_
    refine g_last_n hx hb hK hP hS qb (by omega) (by decide) dX3_bestWorth_28 (fun H locs hP hS => ?_)
    have q141_0 : (gup (gup G b (.inl (E.2 1, 301, .inr (.inl (zF f jq))))) b (.inl (E.2 1, 301, .inr (.inl (vp_updL (zF f jq) jq 0))))) a = some (.inr (3, [.ref b])) := (gup_n (ne_oa qa qb)).trans qa
    have q141_1 : (gup (gup G b (.inl (E.2 1, 301, .inr (.inl (zF f jq))))) b (.inl (E.2 1, 301, .inr (.inl (vp_updL (zF f jq) jq 0))))) ar = some (.inl (E.2 4, 30, .inr (.inr (.inr (.inr fr))))) := (gup_n (by omega)).trans qr
    have q141_a : (gup (gup G b (.inl (E.2 1, 301, .inr (.inl (zF f jq))))) b (.inl (E.2 1, 301, .inr (.inl (vp_updL (zF f jq) jq 0))))) b = some (.inl (E.2 1, 301, .inr (.inl (vp_updL (zF f jq) jq 0)))) := gup_s
    have hP : gP E A n (gup (gup G b (.inl (E.2 1, 301, .inr (.inl (zF f jq))))) b (.inl (E.2 1, 301, .inr (.inl (vp_updL (zF f jq) jq 0))))) H := hP
    refine lv_iinc (v := (nI jq) + 1) (lv' := [(4, .int ((nI jq) + 1)), (0, .ref a), (1, .ref ar), (2, .int (nI nn)), (3, .int lv)]) hx hb dX3_bestWorth_29 hl (k := 4) rfl rfl (by decide) rfl (fun ls hl => ?_)
    refine lv_goto (tgt := 15) hx hb dX3_bestWorth_32 (by decide) ?_
    rw [gup_gup, zF_s] at hP
    refine ih (jq + 1) (by omega) (by omega) H locs ls hP hS ?_
    show lv_has ls 5 [(0, .ref a), (1, .ref ar), (2, .int (nI nn)), (3, .int lv), (4, .int (nI (jq + 1)))]
    rw [← nI_1 jq]
    exact lv_sub hl [1, 2, 3, 4, 0] rfl
