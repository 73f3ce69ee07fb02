set_option maxHeartbeats 4000000 in
set_option maxRecDepth 100000 in
theorem kX9_lawOf (l : Launch) (E : gT) (A : Nat → Prop) (n : Nat) (o : Nat) (c : Nat → Int32) (S : Nat → Nat → Int32) (y : Int32) (hI : mI c S) : gM l yX9_lawOf wsX9_lawOf ({ frames := 0, cells := 0, slots := 0, locals := 0 } : Room) E A n (GM E o c S) [.ref o, .int y] (gQi E A (fun r' n' G' => lawOf c S y = r' ∧ n = n' ∧ (GM E o c S) = G')) 0 0 := by
  refine g_entry (by decide) rfl (Nat.le_of_ble_eq_true rfl) ?_
  intro p e s m below meth c0 hx hb hr hlk hml hown hnm hts hK H locs ls hP hS hl
  have hin9 : ∀ w ∈ u_ws RX9 TX9 35, w ∈ wsX9_lawOf := by decide +kernel
  have hf55 := hts (.fieldLink RX9 55 "DikeHandsModel" "lawYear" "[I") (by decide +kernel)
  have hf106 := hts (.fieldLink RX9 106 "DikeHandsModel" "laws" "I") (by decide +kernel)
  have hl : lv_has ls 4 [(0, .ref o), (1, .int y)] := hl
  have j0 := hI.1
  have j7 := hI.2.1
  have j12 := hI.2.2.1
  have j18 := hI.2.2.2.1
  have t0_ := tn_of j0.1
  have t7_ := tn_of j7.1
  have t12_ := tn_of j12.1
  have t18_ := tn_of j18.1
  refine lv_iconst (v := (-1)) hx hb dX9_lawOf_0 (by decide) ?_
  refine lv_istore_n (lv' := [(2, .int (-1)), (0, .ref o), (1, .int y)]) hx hb dX9_lawOf_1 rfl hl (by decide) rfl (fun ls hl => ?_)
  refine lv_iconst (v := 0) hx hb dX9_lawOf_2 (by decide) ?_
  refine lv_istore_n (lv' := [(3, .int 0), (2, .int (-1)), (0, .ref o), (1, .int y)]) hx hb dX9_lawOf_3 rfl hl (by decide) rfl (fun ls hl => ?_)
  refine g_loop (τ := Nat) (fun k => k ≤ tn (c 18)) (fun k => tn (c 18) - k) (fun k => n) (fun k => (GM E o c S)) (fun k => 0) (fun k => 0) (fun k => [(0, .ref o), (1, .int y), (2, .int (lawN S y k)), (3, .int (nI k))]) ?_ 0 (Nat.zero_le _) H locs ls hP hS (lv_sub hl [2, 3, 1, 0] rfl)
  intro k hI4 ih H locs ls hP hS hl
  try dsimp only at hI4
  have hl : lv_has ls 4 [(0, .ref o), (1, .int y), (2, .int (lawN S y k)), (3, .int (nI k))] := hl
  have hP : gP E A n (GM E o c S) H := hP
  refine lv_iload_n hx hb dX9_lawOf_4 rfl (lv_at hl 3 rfl) ?_
  refine lv_aload_n hx hb dX9_lawOf_5 rfl (lv_at hl 0 rfl) ?_
  refine m_get hx hb hts hin9 hown hK hP 18 (by decide) hf106 rfl rfl dX9_lawOf_6 ?_
  refine lv_icmp_ge (tgt := 50) hx hb dX9_lawOf_9 (by decide) (fun b9 => ?_) (fun b9 => ?_)
  · have hk3 := lp_ge j18.1 (by omega) b9
    have hke : k = tn (c 18) := by omega
    subst hke
    refine lv_iload_n hx hb dX9_lawOf_50 rfl (lv_at hl 2 rfl) ?_
    refine g_reti hx hb hr hlk hP hS dX9_lawOf_51 ?_
    exact ⟨rfl, rfl, rfl⟩
  · have hk3 := lp_lt j18.1 (by omega) b9
    refine lv_aload_n hx hb dX9_lawOf_12 rfl (lv_at hl 0 rfl) ?_
    refine m_get hx hb hts hin9 hown hK hP 19 (by decide) hf55 rfl rfl dX9_lawOf_13 ?_
    refine lv_iload_n hx hb dX9_lawOf_16 rfl (lv_at hl 3 rfl) ?_
    refine m_iald_n hx hb hK hP 15 40 rfl (by decide) rfl (by omega) dX9_lawOf_17 ?_
    refine lv_iload_n hx hb dX9_lawOf_18 rfl (lv_at hl 1 rfl) ?_
    refine lv_icmp_gt (tgt := 44) hx hb dX9_lawOf_19 (by decide) (fun b19 => ?_) (fun b19 => ?_)
    · refine lv_iinc (v := (nI k) + 1) (lv' := [(3, .int ((nI k) + 1)), (0, .ref o), (1, .int y), (2, .int (lawN S y k))]) hx hb dX9_lawOf_44 hl (k := 3) rfl rfl (by decide) rfl (fun ls hl => ?_)
      refine lv_goto (tgt := 4) hx hb dX9_lawOf_47 (by decide) ?_
      refine ih (k + 1) (by omega) (by omega) H locs ls hP hS ?_
      show lv_has ls 4 [(0, .ref o), (1, .int y), (2, .int (lawN S y (k + 1))), (3, .int (nI (k + 1)))]
      rw [show lawN S y (k + 1) = lawN S y k from by first | (simp [lawN, b9, Int32.not_le.mp b9, b19, Int32.not_le.mpr b19]; done) | (exfalso; simp_all; done), ← nI_1]
      exact lv_sub hl [1, 2, 3, 0] rfl
    · refine lv_iload_n hx hb dX9_lawOf_22 rfl (lv_at hl 2 rfl) ?_
      refine lv_iconst (v := (-1)) hx hb dX9_lawOf_23 (by decide) ?_
      refine lv_icmp_eq (tgt := 42) hx hb dX9_lawOf_24 (by decide) (fun b24 => ?_) (fun b24 => ?_)
      · refine lv_iload_n hx hb dX9_lawOf_42 rfl (lv_at hl 3 rfl) ?_
        refine lv_istore_n (lv' := [(2, .int (nI k)), (0, .ref o), (1, .int y), (3, .int (nI k))]) hx hb dX9_lawOf_43 rfl hl (by decide) rfl (fun ls hl => ?_)
        refine lv_iinc (v := (nI k) + 1) (lv' := [(3, .int ((nI k) + 1)), (2, .int (nI k)), (0, .ref o), (1, .int y)]) hx hb dX9_lawOf_44 hl (k := 3) rfl rfl (by decide) rfl (fun ls hl => ?_)
        refine lv_goto (tgt := 4) hx hb dX9_lawOf_47 (by decide) ?_
        refine ih (k + 1) (by omega) (by omega) H locs ls hP hS ?_
        show lv_has ls 4 [(0, .ref o), (1, .int y), (2, .int (lawN S y (k + 1))), (3, .int (nI (k + 1)))]
        rw [show lawN S y (k + 1) = nI k from by first | (simp [lawN, b9, Int32.not_le.mp b9, b19, Int32.not_lt.mp b19, b24]; done) | (exfalso; simp_all; done), ← nI_1]
        exact lv_sub hl [2, 3, 1, 0] rfl
      · refine lv_aload_n hx hb dX9_lawOf_27 rfl (lv_at hl 0 rfl) ?_
        refine m_get hx hb hts hin9 hown hK hP 19 (by decide) hf55 rfl rfl dX9_lawOf_28 ?_
        refine lv_iload_n hx hb dX9_lawOf_31 rfl (lv_at hl 3 rfl) ?_
        refine m_iald_n hx hb hK hP 15 40 rfl (by decide) rfl (by omega) dX9_lawOf_32 ?_
        refine lv_aload_n hx hb dX9_lawOf_33 rfl (lv_at hl 0 rfl) ?_
        refine m_get hx hb hts hin9 hown hK hP 19 (by decide) hf55 rfl rfl dX9_lawOf_34 ?_
        have hv38 : vp_in (lawN S y k) 40 := by
          rcases lawN_in S y k (by omega) with h1 | h1
          · exact absurd h1 b24
          · exact vp_in_iff.mpr ⟨h1.1, by omega⟩
        refine lv_iload_n hx hb dX9_lawOf_37 rfl (lv_at hl 2 rfl) ?_
        refine m_iald hx hb hK hP 15 40 rfl (by decide) rfl hv38 dX9_lawOf_38 ?_
        refine lv_icmp_lt (tgt := 44) hx hb dX9_lawOf_39 (by decide) (fun b39 => ?_) (fun b39 => ?_)
        · refine lv_iinc (v := (nI k) + 1) (lv' := [(3, .int ((nI k) + 1)), (0, .ref o), (1, .int y), (2, .int (lawN S y k))]) hx hb dX9_lawOf_44 hl (k := 3) rfl rfl (by decide) rfl (fun ls hl => ?_)
          refine lv_goto (tgt := 4) hx hb dX9_lawOf_47 (by decide) ?_
          refine ih (k + 1) (by omega) (by omega) H locs ls hP hS ?_
          show lv_has ls 4 [(0, .ref o), (1, .int y), (2, .int (lawN S y (k + 1))), (3, .int (nI (k + 1)))]
          rw [show lawN S y (k + 1) = lawN S y k from by first | (simp [lawN, b9, Int32.not_le.mp b9, b19, Int32.not_lt.mp b19, b24, b39, Int32.not_le.mpr b39]; done) | (exfalso; simp_all; done), ← nI_1]
          exact lv_sub hl [1, 2, 3, 0] rfl
        · refine lv_iload_n hx hb dX9_lawOf_42 rfl (lv_at hl 3 rfl) ?_
          refine lv_istore_n (lv' := [(2, .int (nI k)), (0, .ref o), (1, .int y), (3, .int (nI k))]) hx hb dX9_lawOf_43 rfl hl (by decide) rfl (fun ls hl => ?_)
          refine lv_iinc (v := (nI k) + 1) (lv' := [(3, .int ((nI k) + 1)), (2, .int (nI k)), (0, .ref o), (1, .int y)]) hx hb dX9_lawOf_44 hl (k := 3) rfl rfl (by decide) rfl (fun ls hl => ?_)
          refine lv_goto (tgt := 4) hx hb dX9_lawOf_47 (by decide) ?_
          refine ih (k + 1) (by omega) (by omega) H locs ls hP hS ?_
          show lv_has ls 4 [(0, .ref o), (1, .int y), (2, .int (lawN S y (k + 1))), (3, .int (nI (k + 1)))]
          rw [show lawN S y (k + 1) = nI k from by first | (simp [lawN, b9, Int32.not_le.mp b9, b19, Int32.not_lt.mp b19, b24, b39, Int32.not_lt.mp b39]; done) | (exfalso; simp_all; done), ← nI_1]
          exact lv_sub hl [2, 3, 1, 0] rfl
set_option maxHeartbeats 4000000 in
set_option maxRecDepth 100000 in
theorem kX9_coinNow (l : Launch) (E : gT) (A : Nat → Prop) (n : Nat) (o : Nat) (c : Nat → Int32) (S : Nat → Nat → Int32)  (hI : mI c S) : gM l yX9_coinNow wsX9_coinNow ({ frames := 1, cells := 0, slots := 0, locals := 23 } : Room) E A n (GM E o c S) [.ref o] (gQi E A (fun r' n' G' => coinOf c S = r' ∧ n = n' ∧ (GM E o c S) = G')) 0 0 := by
  refine g_entry (by decide) rfl (Nat.le_of_ble_eq_true rfl) ?_
  intro p e s m below meth c0 hx hb hr hlk hml hown hnm hts hK H locs ls hP hS hl
  have hin9 : ∀ w ∈ u_ws RX9 TX9 35, w ∈ wsX9_coinNow := by decide +kernel
  have hf61 := hts (.fieldLink RX9 61 "DikeHandsModel" "lawCoin" "[I") (by decide +kernel)
  have hf96 := hts (.fieldLink RX9 96 "DikeHandsModel" "now" "I") (by decide +kernel)
  have hl : lv_has ls 2 [(0, .ref o)] := hl
  refine lv_aload_n hx hb dX9_coinNow_0 rfl (lv_at hl 0 rfl) ?_
  refine lv_aload_n hx hb dX9_coinNow_1 rfl (lv_at hl 0 rfl) ?_
  refine m_get hx hb hts hin9 hown hK hP 0 (by decide) hf96 rfl rfl dX9_coinNow_2 ?_
  refine lv_bipush (v := 52) hx hb dX9_coinNow_5 (by decide) ?_
  refine lv_idiv hx hb dX9_coinNow_7 (by decide) ?_
  refine g_ci (g_runV (As := [.int ((c 0) / 52)]) (rest := []) ⟨hx, hb, hml, hown, hts⟩ hK hP (kX9_lawOf l E A n o c S ((c 0) / 52) hI) (cwV 1 hts gX9_coinNow_X9_lawOf rfl rfl rfl (by decide +kernel) ⟨Nat.le_of_ble_eq_true rfl, Nat.le_of_ble_eq_true rfl⟩) GM_o rfl rfl hl.1 rfl (Nat.le_of_ble_eq_true rfl) dX9_coinNow_8 ⟨Nat.le_of_ble_eq_true rfl, Nat.le_of_ble_eq_true rfl⟩) hS (fun r8 n' G' H locs hw hP hS => ?_)
  obtain ⟨rfl, rfl, rfl⟩ := hw
  refine lv_istore_n (lv' := [(1, .int (lawOf c S ((c 0) / 52))), (0, .ref o)]) hx hb dX9_coinNow_11 rfl hl (by decide) rfl (fun ls hl => ?_)
  refine lv_iload_n hx hb dX9_coinNow_12 rfl (lv_at hl 0 rfl) ?_
  refine lv_iconst (v := (-1)) hx hb dX9_coinNow_13 (by decide) ?_
  refine lv_icmp_ne (tgt := 21) hx hb dX9_coinNow_14 (by decide) (fun b14 => ?_) (fun b14 => ?_)
  · refine lv_aload_n hx hb dX9_coinNow_21 rfl (lv_at hl 1 rfl) ?_
    refine m_get hx hb hts hin9 hown hK hP 21 (by decide) hf61 rfl rfl dX9_coinNow_22 ?_
    refine lv_iload_n hx hb dX9_coinNow_25 rfl (lv_at hl 0 rfl) ?_
    refine m_iald hx hb hK hP 17 40 rfl (by decide) rfl (lawOf_vp hI b14) dX9_coinNow_26 ?_
    refine g_reti hx hb hr hlk hP hS dX9_coinNow_27 ?_
    exact ⟨by first | (simp [coinOf, b14]; done) | (exfalso; simp_all; done), rfl, rfl⟩
  · refine lv_iconst (v := 0) hx hb dX9_coinNow_17 (by decide) ?_
    refine lv_goto (tgt := 27) hx hb dX9_coinNow_18 (by decide) ?_
    refine g_reti hx hb hr hlk hP hS dX9_coinNow_27 ?_
    exact ⟨by first | (simp [coinOf, b14]; done) | (exfalso; simp_all; done), rfl, rfl⟩
set_option maxHeartbeats 4000000 in
set_option maxRecDepth 100000 in
theorem kX9_listedOf (l : Launch) (E : gT) (A : Nat → Prop) (n : Nat) (o : Nat) (c : Nat → Int32) (S : Nat → Nat → Int32) (h y w : Int32) (hI : mI c S) (hh : vp_in h 40) : gM l yX9_listedOf wsX9_listedOf ({ frames := 0, cells := 0, slots := 0, locals := 0 } : Room) E A n (GM E o c S) [.ref o, .int h, .int y, .int w] (gQi E A (fun r' n' G' => lisOf c S h y w = r' ∧ n = n' ∧ (GM E o c S) = G')) 0 0 := by
  refine g_entry (by decide) rfl (Nat.le_of_ble_eq_true rfl) ?_
  intro p e s m below meth c0 hx hb hr hlk hml hown hnm hts hK H locs ls hP hS hl
  have hin9 : ∀ w ∈ u_ws RX9 TX9 35, w ∈ wsX9_listedOf := by decide +kernel
  have hf34 := hts (.fieldLink RX9 34 "DikeHandsModel" "firstAcres" "[I") (by decide +kernel)
  have hf37 := hts (.fieldLink RX9 37 "DikeHandsModel" "firstHands" "[I") (by decide +kernel)
  have hf40 := hts (.fieldLink RX9 40 "DikeHandsModel" "changeOf" "[I") (by decide +kernel)
  have hf46 := hts (.fieldLink RX9 46 "DikeHandsModel" "toldAt" "[I") (by decide +kernel)
  have hf49 := hts (.fieldLink RX9 49 "DikeHandsModel" "acresTo" "[I") (by decide +kernel)
  have hf52 := hts (.fieldLink RX9 52 "DikeHandsModel" "handsTo" "[I") (by decide +kernel)
  have hf116 := hts (.fieldLink RX9 116 "DikeHandsModel" "changes" "I") (by decide +kernel)
  have hl : lv_has ls 6 [(0, .ref o), (1, .int h), (2, .int y), (3, .int w)] := hl
  have j0 := hI.1
  have j7 := hI.2.1
  have j12 := hI.2.2.1
  have j18 := hI.2.2.2.1
  have t0_ := tn_of j0.1
  have t7_ := tn_of j7.1
  have t12_ := tn_of j12.1
  have t18_ := tn_of j18.1
  refine lv_iload_n hx hb dX9_listedOf_0 rfl (lv_at hl 3 rfl) ?_
  refine lv_if_ne (tgt := 13) hx hb dX9_listedOf_1 (by decide) (fun b1 => ?_) (fun b1 => ?_)
  · refine lv_aload_n hx hb dX9_listedOf_13 rfl (lv_at hl 0 rfl) ?_
    refine m_get hx hb hts hin9 hown hK hP 11 (by decide) hf37 rfl rfl dX9_listedOf_14 ?_
    refine lv_iload_n hx hb dX9_listedOf_17 rfl (lv_at hl 1 rfl) ?_
    refine m_iald hx hb hK hP 9 40 rfl (by decide) rfl hh dX9_listedOf_18 ?_
    rw [show S 9 (tn h) = lisN S h y w 0 from by simp [lisN, b1]]
    refine lv_istore (lv' := [(4, .int (lisN S h y w 0)), (0, .ref o), (1, .int h), (2, .int y), (3, .int w)]) hx hb dX9_listedOf_19 hl (by decide) rfl (fun ls hl => ?_)
    refine lv_iconst (v := 0) hx hb dX9_listedOf_21 (by decide) ?_
    refine lv_istore (lv' := [(5, .int 0), (4, .int (lisN S h y w 0)), (0, .ref o), (1, .int h), (2, .int y), (3, .int w)]) hx hb dX9_listedOf_22 hl (by decide) rfl (fun ls hl => ?_)
    refine g_loop (τ := Nat) (fun k => k ≤ tn (c 12)) (fun k => tn (c 12) - k) (fun k => n) (fun k => (GM E o c S)) (fun k => 0) (fun k => 0) (fun k => [(0, .ref o), (1, .int h), (2, .int y), (3, .int w), (4, .int (lisN S h y w k)), (5, .int (nI k))]) ?_ 0 (Nat.zero_le _) H locs ls hP hS (lv_sub hl [2, 3, 4, 5, 1, 0] rfl)
    intro k hI24 ih H locs ls hP hS hl
    try dsimp only at hI24
    have hl : lv_has ls 6 [(0, .ref o), (1, .int h), (2, .int y), (3, .int w), (4, .int (lisN S h y w k)), (5, .int (nI k))] := hl
    have hP : gP E A n (GM E o c S) H := hP
    refine lv_iload hx hb dX9_listedOf_24 (lv_at hl 5 rfl) ?_
    refine lv_aload_n hx hb dX9_listedOf_26 rfl (lv_at hl 0 rfl) ?_
    refine m_get hx hb hts hin9 hown hK hP 12 (by decide) hf116 rfl rfl dX9_listedOf_27 ?_
    refine lv_icmp_ge (tgt := 87) hx hb dX9_listedOf_30 (by decide) (fun b30 => ?_) (fun b30 => ?_)
    · have hk3 := lp_ge j12.1 (by omega) b30
      have hke : k = tn (c 12) := by omega
      subst hke
      refine lv_iload hx hb dX9_listedOf_87 (lv_at hl 4 rfl) ?_
      refine g_reti hx hb hr hlk hP hS dX9_listedOf_89 ?_
      exact ⟨rfl, rfl, rfl⟩
    · have hk3 := lp_lt j12.1 (by omega) b30
      refine lv_aload_n hx hb dX9_listedOf_33 rfl (lv_at hl 0 rfl) ?_
      refine m_get hx hb hts hin9 hown hK hP 13 (by decide) hf40 rfl rfl dX9_listedOf_34 ?_
      refine lv_iload hx hb dX9_listedOf_37 (lv_at hl 5 rfl) ?_
      refine m_iald_n hx hb hK hP 10 200 rfl (by decide) rfl (by omega) dX9_listedOf_39 ?_
      refine lv_iload_n hx hb dX9_listedOf_40 rfl (lv_at hl 1 rfl) ?_
      refine lv_icmp_ne (tgt := 81) hx hb dX9_listedOf_41 (by decide) (fun b41 => ?_) (fun b41 => ?_)
      · refine lv_iinc (v := (nI k) + 1) (lv' := [(5, .int ((nI k) + 1)), (0, .ref o), (1, .int h), (2, .int y), (3, .int w), (4, .int (lisN S h y w k))]) hx hb dX9_listedOf_81 hl (k := 5) rfl rfl (by decide) rfl (fun ls hl => ?_)
        refine lv_goto (tgt := 24) hx hb dX9_listedOf_84 (by decide) ?_
        refine ih (k + 1) (by omega) (by omega) H locs ls hP hS ?_
        show lv_has ls 6 [(0, .ref o), (1, .int h), (2, .int y), (3, .int w), (4, .int (lisN S h y w (k + 1))), (5, .int (nI (k + 1)))]
        rw [show lisN S h y w (k + 1) = lisN S h y w k from by first | (simp [lisN, b1, b30, Int32.not_le.mp b30, b41]; done) | (exfalso; simp_all; done), ← nI_1]
        exact lv_sub hl [1, 2, 3, 4, 5, 0] rfl
      · refine lv_aload_n hx hb dX9_listedOf_44 rfl (lv_at hl 0 rfl) ?_
        refine m_get hx hb hts hin9 hown hK hP 15 (by decide) hf46 rfl rfl dX9_listedOf_45 ?_
        refine lv_iload hx hb dX9_listedOf_48 (lv_at hl 5 rfl) ?_
        refine m_iald_n hx hb hK hP 12 200 rfl (by decide) rfl (by omega) dX9_listedOf_50 ?_
        refine lv_bipush (v := 52) hx hb dX9_listedOf_51 (by decide) ?_
        refine lv_iload_n hx hb dX9_listedOf_53 rfl (lv_at hl 2 rfl) ?_
        refine lv_imul hx hb dX9_listedOf_54 ?_
        refine lv_icmp_ge (tgt := 81) hx hb dX9_listedOf_55 (by decide) (fun b55 => ?_) (fun b55 => ?_)
        · refine lv_iinc (v := (nI k) + 1) (lv' := [(5, .int ((nI k) + 1)), (0, .ref o), (1, .int h), (2, .int y), (3, .int w), (4, .int (lisN S h y w k))]) hx hb dX9_listedOf_81 hl (k := 5) rfl rfl (by decide) rfl (fun ls hl => ?_)
          refine lv_goto (tgt := 24) hx hb dX9_listedOf_84 (by decide) ?_
          refine ih (k + 1) (by omega) (by omega) H locs ls hP hS ?_
          show lv_has ls 6 [(0, .ref o), (1, .int h), (2, .int y), (3, .int w), (4, .int (lisN S h y w (k + 1))), (5, .int (nI (k + 1)))]
          rw [show lisN S h y w (k + 1) = lisN S h y w k from by first | (simp [lisN, b1, b30, Int32.not_le.mp b30, b41, b55, Int32.not_lt.mpr b55]; done) | (exfalso; simp_all; done), ← nI_1]
          exact lv_sub hl [1, 2, 3, 4, 5, 0] rfl
        · refine lv_iload_n hx hb dX9_listedOf_58 rfl (lv_at hl 3 rfl) ?_
          refine lv_if_ne (tgt := 72) hx hb dX9_listedOf_59 (by decide) (fun b59 => ?_) (fun b59 => ?_)
          · refine lv_aload_n hx hb dX9_listedOf_72 rfl (lv_at hl 0 rfl) ?_
            refine m_get hx hb hts hin9 hown hK hP 17 (by decide) hf52 rfl rfl dX9_listedOf_73 ?_
            refine lv_iload hx hb dX9_listedOf_76 (lv_at hl 5 rfl) ?_
            refine m_iald_n hx hb hK hP 14 200 rfl (by decide) rfl (by omega) dX9_listedOf_78 ?_
            refine lv_istore (lv' := [(4, .int (S 14 k)), (0, .ref o), (1, .int h), (2, .int y), (3, .int w), (5, .int (nI k))]) hx hb dX9_listedOf_79 hl (by decide) rfl (fun ls hl => ?_)
            refine lv_iinc (v := (nI k) + 1) (lv' := [(5, .int ((nI k) + 1)), (4, .int (S 14 k)), (0, .ref o), (1, .int h), (2, .int y), (3, .int w)]) hx hb dX9_listedOf_81 hl (k := 5) rfl rfl (by decide) rfl (fun ls hl => ?_)
            refine lv_goto (tgt := 24) hx hb dX9_listedOf_84 (by decide) ?_
            refine ih (k + 1) (by omega) (by omega) H locs ls hP hS ?_
            show lv_has ls 6 [(0, .ref o), (1, .int h), (2, .int y), (3, .int w), (4, .int (lisN S h y w (k + 1))), (5, .int (nI (k + 1)))]
            rw [show lisN S h y w (k + 1) = S 14 k from by first | (simp [lisN, b1, b30, Int32.not_le.mp b30, b41, b55, Int32.not_le.mp b55, b59]; done) | (exfalso; simp_all; done), ← nI_1]
            exact lv_sub hl [2, 3, 4, 5, 1, 0] rfl
          · refine lv_aload_n hx hb dX9_listedOf_62 rfl (lv_at hl 0 rfl) ?_
            refine m_get hx hb hts hin9 hown hK hP 16 (by decide) hf49 rfl rfl dX9_listedOf_63 ?_
            refine lv_iload hx hb dX9_listedOf_66 (lv_at hl 5 rfl) ?_
            refine m_iald_n hx hb hK hP 13 200 rfl (by decide) rfl (by omega) dX9_listedOf_68 ?_
            refine lv_goto (tgt := 79) hx hb dX9_listedOf_69 (by decide) ?_
            refine lv_istore (lv' := [(4, .int (S 13 k)), (0, .ref o), (1, .int h), (2, .int y), (3, .int w), (5, .int (nI k))]) hx hb dX9_listedOf_79 hl (by decide) rfl (fun ls hl => ?_)
            refine lv_iinc (v := (nI k) + 1) (lv' := [(5, .int ((nI k) + 1)), (4, .int (S 13 k)), (0, .ref o), (1, .int h), (2, .int y), (3, .int w)]) hx hb dX9_listedOf_81 hl (k := 5) rfl rfl (by decide) rfl (fun ls hl => ?_)
            refine lv_goto (tgt := 24) hx hb dX9_listedOf_84 (by decide) ?_
            refine ih (k + 1) (by omega) (by omega) H locs ls hP hS ?_
            show lv_has ls 6 [(0, .ref o), (1, .int h), (2, .int y), (3, .int w), (4, .int (lisN S h y w (k + 1))), (5, .int (nI (k + 1)))]
            rw [show lisN S h y w (k + 1) = S 13 k from by first | (simp [lisN, b1, b30, Int32.not_le.mp b30, b41, b55, Int32.not_le.mp b55, b59]; done) | (exfalso; simp_all; done), ← nI_1]
            exact lv_sub hl [2, 3, 4, 5, 1, 0] rfl
  · refine lv_aload_n hx hb dX9_listedOf_4 rfl (lv_at hl 0 rfl) ?_
    refine m_get hx hb hts hin9 hown hK hP 10 (by decide) hf34 rfl rfl dX9_listedOf_5 ?_
    refine lv_iload_n hx hb dX9_listedOf_8 rfl (lv_at hl 1 rfl) ?_
    refine m_iald hx hb hK hP 8 40 rfl (by decide) rfl hh dX9_listedOf_9 ?_
    refine lv_goto (tgt := 19) hx hb dX9_listedOf_10 (by decide) ?_
    rw [show S 8 (tn h) = lisN S h y w 0 from by simp [lisN, b1]]
    refine lv_istore (lv' := [(4, .int (lisN S h y w 0)), (0, .ref o), (1, .int h), (2, .int y), (3, .int w)]) hx hb dX9_listedOf_19 hl (by decide) rfl (fun ls hl => ?_)
    refine lv_iconst (v := 0) hx hb dX9_listedOf_21 (by decide) ?_
    refine lv_istore (lv' := [(5, .int 0), (4, .int (lisN S h y w 0)), (0, .ref o), (1, .int h), (2, .int y), (3, .int w)]) hx hb dX9_listedOf_22 hl (by decide) rfl (fun ls hl => ?_)
    refine g_loop (τ := Nat) (fun k => k ≤ tn (c 12)) (fun k => tn (c 12) - k) (fun k => n) (fun k => (GM E o c S)) (fun k => 0) (fun k => 0) (fun k => [(0, .ref o), (1, .int h), (2, .int y), (3, .int w), (4, .int (lisN S h y w k)), (5, .int (nI k))]) ?_ 0 (Nat.zero_le _) H locs ls hP hS (lv_sub hl [2, 3, 4, 5, 1, 0] rfl)
    intro k hI24 ih H locs ls hP hS hl
    try dsimp only at hI24
    have hl : lv_has ls 6 [(0, .ref o), (1, .int h), (2, .int y), (3, .int w), (4, .int (lisN S h y w k)), (5, .int (nI k))] := hl
    have hP : gP E A n (GM E o c S) H := hP
    refine lv_iload hx hb dX9_listedOf_24 (lv_at hl 5 rfl) ?_
    refine lv_aload_n hx hb dX9_listedOf_26 rfl (lv_at hl 0 rfl) ?_
    refine m_get hx hb hts hin9 hown hK hP 12 (by decide) hf116 rfl rfl dX9_listedOf_27 ?_
    refine lv_icmp_ge (tgt := 87) hx hb dX9_listedOf_30 (by decide) (fun b30 => ?_) (fun b30 => ?_)
    · have hk3 := lp_ge j12.1 (by omega) b30
      have hke : k = tn (c 12) := by omega
      subst hke
      refine lv_iload hx hb dX9_listedOf_87 (lv_at hl 4 rfl) ?_
      refine g_reti hx hb hr hlk hP hS dX9_listedOf_89 ?_
      exact ⟨rfl, rfl, rfl⟩
    · have hk3 := lp_lt j12.1 (by omega) b30
      refine lv_aload_n hx hb dX9_listedOf_33 rfl (lv_at hl 0 rfl) ?_
      refine m_get hx hb hts hin9 hown hK hP 13 (by decide) hf40 rfl rfl dX9_listedOf_34 ?_
      refine lv_iload hx hb dX9_listedOf_37 (lv_at hl 5 rfl) ?_
      refine m_iald_n hx hb hK hP 10 200 rfl (by decide) rfl (by omega) dX9_listedOf_39 ?_
      refine lv_iload_n hx hb dX9_listedOf_40 rfl (lv_at hl 1 rfl) ?_
      refine lv_icmp_ne (tgt := 81) hx hb dX9_listedOf_41 (by decide) (fun b41 => ?_) (fun b41 => ?_)
      · refine lv_iinc (v := (nI k) + 1) (lv' := [(5, .int ((nI k) + 1)), (0, .ref o), (1, .int h), (2, .int y), (3, .int w), (4, .int (lisN S h y w k))]) hx hb dX9_listedOf_81 hl (k := 5) rfl rfl (by decide) rfl (fun ls hl => ?_)
        refine lv_goto (tgt := 24) hx hb dX9_listedOf_84 (by decide) ?_
        refine ih (k + 1) (by omega) (by omega) H locs ls hP hS ?_
        show lv_has ls 6 [(0, .ref o), (1, .int h), (2, .int y), (3, .int w), (4, .int (lisN S h y w (k + 1))), (5, .int (nI (k + 1)))]
        rw [show lisN S h y w (k + 1) = lisN S h y w k from by first | (simp [lisN, b1, b30, Int32.not_le.mp b30, b41]; done) | (exfalso; simp_all; done), ← nI_1]
        exact lv_sub hl [1, 2, 3, 4, 5, 0] rfl
      · refine lv_aload_n hx hb dX9_listedOf_44 rfl (lv_at hl 0 rfl) ?_
        refine m_get hx hb hts hin9 hown hK hP 15 (by decide) hf46 rfl rfl dX9_listedOf_45 ?_
        refine lv_iload hx hb dX9_listedOf_48 (lv_at hl 5 rfl) ?_
        refine m_iald_n hx hb hK hP 12 200 rfl (by decide) rfl (by omega) dX9_listedOf_50 ?_
        refine lv_bipush (v := 52) hx hb dX9_listedOf_51 (by decide) ?_
        refine lv_iload_n hx hb dX9_listedOf_53 rfl (lv_at hl 2 rfl) ?_
        refine lv_imul hx hb dX9_listedOf_54 ?_
        refine lv_icmp_ge (tgt := 81) hx hb dX9_listedOf_55 (by decide) (fun b55 => ?_) (fun b55 => ?_)
        · refine lv_iinc (v := (nI k) + 1) (lv' := [(5, .int ((nI k) + 1)), (0, .ref o), (1, .int h), (2, .int y), (3, .int w), (4, .int (lisN S h y w k))]) hx hb dX9_listedOf_81 hl (k := 5) rfl rfl (by decide) rfl (fun ls hl => ?_)
          refine lv_goto (tgt := 24) hx hb dX9_listedOf_84 (by decide) ?_
          refine ih (k + 1) (by omega) (by omega) H locs ls hP hS ?_
          show lv_has ls 6 [(0, .ref o), (1, .int h), (2, .int y), (3, .int w), (4, .int (lisN S h y w (k + 1))), (5, .int (nI (k + 1)))]
          rw [show lisN S h y w (k + 1) = lisN S h y w k from by first | (simp [lisN, b1, b30, Int32.not_le.mp b30, b41, b55, Int32.not_lt.mpr b55]; done) | (exfalso; simp_all; done), ← nI_1]
          exact lv_sub hl [1, 2, 3, 4, 5, 0] rfl
        · refine lv_iload_n hx hb dX9_listedOf_58 rfl (lv_at hl 3 rfl) ?_
          refine lv_if_ne (tgt := 72) hx hb dX9_listedOf_59 (by decide) (fun b59 => ?_) (fun b59 => ?_)
          · refine lv_aload_n hx hb dX9_listedOf_72 rfl (lv_at hl 0 rfl) ?_
            refine m_get hx hb hts hin9 hown hK hP 17 (by decide) hf52 rfl rfl dX9_listedOf_73 ?_
            refine lv_iload hx hb dX9_listedOf_76 (lv_at hl 5 rfl) ?_
            refine m_iald_n hx hb hK hP 14 200 rfl (by decide) rfl (by omega) dX9_listedOf_78 ?_
            refine lv_istore (lv' := [(4, .int (S 14 k)), (0, .ref o), (1, .int h), (2, .int y), (3, .int w), (5, .int (nI k))]) hx hb dX9_listedOf_79 hl (by decide) rfl (fun ls hl => ?_)
            refine lv_iinc (v := (nI k) + 1) (lv' := [(5, .int ((nI k) + 1)), (4, .int (S 14 k)), (0, .ref o), (1, .int h), (2, .int y), (3, .int w)]) hx hb dX9_listedOf_81 hl (k := 5) rfl rfl (by decide) rfl (fun ls hl => ?_)
            refine lv_goto (tgt := 24) hx hb dX9_listedOf_84 (by decide) ?_
            refine ih (k + 1) (by omega) (by omega) H locs ls hP hS ?_
            show lv_has ls 6 [(0, .ref o), (1, .int h), (2, .int y), (3, .int w), (4, .int (lisN S h y w (k + 1))), (5, .int (nI (k + 1)))]
            rw [show lisN S h y w (k + 1) = S 14 k from by first | (simp [lisN, b1, b30, Int32.not_le.mp b30, b41, b55, Int32.not_le.mp b55, b59]; done) | (exfalso; simp_all; done), ← nI_1]
            exact lv_sub hl [2, 3, 4, 5, 1, 0] rfl
          · refine lv_aload_n hx hb dX9_listedOf_62 rfl (lv_at hl 0 rfl) ?_
            refine m_get hx hb hts hin9 hown hK hP 16 (by decide) hf49 rfl rfl dX9_listedOf_63 ?_
            refine lv_iload hx hb dX9_listedOf_66 (lv_at hl 5 rfl) ?_
            refine m_iald_n hx hb hK hP 13 200 rfl (by decide) rfl (by omega) dX9_listedOf_68 ?_
            refine lv_goto (tgt := 79) hx hb dX9_listedOf_69 (by decide) ?_
            refine lv_istore (lv' := [(4, .int (S 13 k)), (0, .ref o), (1, .int h), (2, .int y), (3, .int w), (5, .int (nI k))]) hx hb dX9_listedOf_79 hl (by decide) rfl (fun ls hl => ?_)
            refine lv_iinc (v := (nI k) + 1) (lv' := [(5, .int ((nI k) + 1)), (4, .int (S 13 k)), (0, .ref o), (1, .int h), (2, .int y), (3, .int w)]) hx hb dX9_listedOf_81 hl (k := 5) rfl rfl (by decide) rfl (fun ls hl => ?_)
            refine lv_goto (tgt := 24) hx hb dX9_listedOf_84 (by decide) ?_
            refine ih (k + 1) (by omega) (by omega) H locs ls hP hS ?_
            show lv_has ls 6 [(0, .ref o), (1, .int h), (2, .int y), (3, .int w), (4, .int (lisN S h y w (k + 1))), (5, .int (nI (k + 1)))]
            rw [show lisN S h y w (k + 1) = S 13 k from by first | (simp [lisN, b1, b30, Int32.not_le.mp b30, b41, b55, Int32.not_le.mp b55, b59]; done) | (exfalso; simp_all; done), ← nI_1]
            exact lv_sub hl [2, 3, 4, 5, 1, 0] rfl
set_option maxHeartbeats 4000000 in
set_option maxRecDepth 100000 in
theorem kX9_trueHands (l : Launch) (E : gT) (A : Nat → Prop) (n : Nat) (o : Nat) (c : Nat → Int32) (S : Nat → Nat → Int32) (h w : Int32) (hI : mI c S) (hh : vp_in h 40) : gM l yX9_trueHands wsX9_trueHands ({ frames := 0, cells := 0, slots := 0, locals := 0 } : Room) E A n (GM E o c S) [.ref o, .int h, .int w] (gQi E A (fun r' n' G' => truOf c S h w = r' ∧ n = n' ∧ (GM E o c S) = G')) 0 0 := by
  refine g_entry (by decide) rfl (Nat.le_of_ble_eq_true rfl) ?_
  intro p e s m below meth c0 hx hb hr hlk hml hown hnm hts hK H locs ls hP hS hl
  have hin9 : ∀ w ∈ u_ws RX9 TX9 35, w ∈ wsX9_trueHands := by decide +kernel
  have hf31 := hts (.fieldLink RX9 31 "DikeHandsModel" "came" "[I") (by decide +kernel)
  have hf37 := hts (.fieldLink RX9 37 "DikeHandsModel" "firstHands" "[I") (by decide +kernel)
  have hf40 := hts (.fieldLink RX9 40 "DikeHandsModel" "changeOf" "[I") (by decide +kernel)
  have hf43 := hts (.fieldLink RX9 43 "DikeHandsModel" "trueFrom" "[I") (by decide +kernel)
  have hf52 := hts (.fieldLink RX9 52 "DikeHandsModel" "handsTo" "[I") (by decide +kernel)
  have hf116 := hts (.fieldLink RX9 116 "DikeHandsModel" "changes" "I") (by decide +kernel)
  have hl : lv_has ls 6 [(0, .ref o), (1, .int h), (2, .int w)] := hl
  have j0 := hI.1
  have j7 := hI.2.1
  have j12 := hI.2.2.1
  have j18 := hI.2.2.2.1
  have t0_ := tn_of j0.1
  have t7_ := tn_of j7.1
  have t12_ := tn_of j12.1
  have t18_ := tn_of j18.1
  refine lv_iload_n hx hb dX9_trueHands_0 rfl (lv_at hl 2 rfl) ?_
  refine lv_aload_n hx hb dX9_trueHands_1 rfl (lv_at hl 0 rfl) ?_
  refine m_get hx hb hts hin9 hown hK hP 9 (by decide) hf31 rfl rfl dX9_trueHands_2 ?_
  refine lv_iload_n hx hb dX9_trueHands_5 rfl (lv_at hl 1 rfl) ?_
  refine m_iald hx hb hK hP 7 40 rfl (by decide) rfl hh dX9_trueHands_6 ?_
  refine lv_icmp_ge (tgt := 12) hx hb dX9_trueHands_7 (by decide) (fun b7 => ?_) (fun b7 => ?_)
  · refine lv_aload_n hx hb dX9_trueHands_12 rfl (lv_at hl 0 rfl) ?_
    refine m_get hx hb hts hin9 hown hK hP 9 (by decide) hf31 rfl rfl dX9_trueHands_13 ?_
    refine lv_iload_n hx hb dX9_trueHands_16 rfl (lv_at hl 1 rfl) ?_
    refine m_iald hx hb hK hP 7 40 rfl (by decide) rfl hh dX9_trueHands_17 ?_
    refine lv_istore_n (lv' := [(3, .int (S 7 (tn h))), (0, .ref o), (1, .int h), (2, .int w)]) hx hb dX9_trueHands_18 rfl hl (by decide) rfl (fun ls hl => ?_)
    refine lv_aload_n hx hb dX9_trueHands_19 rfl (lv_at hl 1 rfl) ?_
    refine m_get hx hb hts hin9 hown hK hP 11 (by decide) hf37 rfl rfl dX9_trueHands_20 ?_
    refine lv_iload_n hx hb dX9_trueHands_23 rfl (lv_at hl 2 rfl) ?_
    refine m_iald hx hb hK hP 9 40 rfl (by decide) rfl hh dX9_trueHands_24 ?_
    refine lv_istore (lv' := [(4, .int (S 9 (tn h))), (3, .int (S 7 (tn h))), (0, .ref o), (1, .int h), (2, .int w)]) hx hb dX9_trueHands_25 hl (by decide) rfl (fun ls hl => ?_)
    refine lv_iconst (v := 0) hx hb dX9_trueHands_27 (by decide) ?_
    refine lv_istore (lv' := [(5, .int 0), (4, .int (S 9 (tn h))), (3, .int (S 7 (tn h))), (0, .ref o), (1, .int h), (2, .int w)]) hx hb dX9_trueHands_28 hl (by decide) rfl (fun ls hl => ?_)
    refine g_loop (τ := Nat) (fun k => k ≤ tn (c 12)) (fun k => tn (c 12) - k) (fun k => n) (fun k => (GM E o c S)) (fun k => 0) (fun k => 0) (fun k => [(0, .ref o), (1, .int h), (2, .int w), (3, .int ((truN S h w k).1)), (4, .int ((truN S h w k).2)), (5, .int (nI k))]) ?_ 0 (Nat.zero_le _) H locs ls hP hS (lv_sub hl [3, 4, 5, 2, 1, 0] rfl)
    intro k hI30 ih H locs ls hP hS hl
    try dsimp only at hI30
    have hl : lv_has ls 6 [(0, .ref o), (1, .int h), (2, .int w), (3, .int ((truN S h w k).1)), (4, .int ((truN S h w k).2)), (5, .int (nI k))] := hl
    have hP : gP E A n (GM E o c S) H := hP
    refine lv_iload hx hb dX9_trueHands_30 (lv_at hl 5 rfl) ?_
    refine lv_aload_n hx hb dX9_trueHands_32 rfl (lv_at hl 0 rfl) ?_
    refine m_get hx hb hts hin9 hown hK hP 12 (by decide) hf116 rfl rfl dX9_trueHands_33 ?_
    refine lv_icmp_ge (tgt := 98) hx hb dX9_trueHands_36 (by decide) (fun b36 => ?_) (fun b36 => ?_)
    · have hk3 := lp_ge j12.1 (by omega) b36
      have hke : k = tn (c 12) := by omega
      subst hke
      refine lv_iload hx hb dX9_trueHands_98 (lv_at hl 4 rfl) ?_
      refine g_reti hx hb hr hlk hP hS dX9_trueHands_100 ?_
      exact ⟨by simp [truOf, b7, Int32.not_lt.mpr b7], rfl, rfl⟩
    · have hk3 := lp_lt j12.1 (by omega) b36
      refine lv_aload_n hx hb dX9_trueHands_39 rfl (lv_at hl 0 rfl) ?_
      refine m_get hx hb hts hin9 hown hK hP 13 (by decide) hf40 rfl rfl dX9_trueHands_40 ?_
      refine lv_iload hx hb dX9_trueHands_43 (lv_at hl 5 rfl) ?_
      refine m_iald_n hx hb hK hP 10 200 rfl (by decide) rfl (by omega) dX9_trueHands_45 ?_
      refine lv_iload_n hx hb dX9_trueHands_46 rfl (lv_at hl 1 rfl) ?_
      refine lv_icmp_ne (tgt := 92) hx hb dX9_trueHands_47 (by decide) (fun b47 => ?_) (fun b47 => ?_)
      · refine lv_iinc (v := (nI k) + 1) (lv' := [(5, .int ((nI k) + 1)), (0, .ref o), (1, .int h), (2, .int w), (3, .int ((truN S h w k).1)), (4, .int ((truN S h w k).2))]) hx hb dX9_trueHands_92 hl (k := 5) rfl rfl (by decide) rfl (fun ls hl => ?_)
        refine lv_goto (tgt := 30) hx hb dX9_trueHands_95 (by decide) ?_
        refine ih (k + 1) (by omega) (by omega) H locs ls hP hS ?_
        show lv_has ls 6 [(0, .ref o), (1, .int h), (2, .int w), (3, .int ((truN S h w (k + 1)).1)), (4, .int ((truN S h w (k + 1)).2)), (5, .int (nI (k + 1)))]
        rw [show truN S h w (k + 1) = truN S h w k from by first | (simp [truN, b7, Int32.not_lt.mpr b7, b36, Int32.not_le.mp b36, b47]; done) | (exfalso; simp_all; done), ← nI_1]
        exact lv_sub hl [1, 2, 3, 4, 5, 0] rfl
      · refine lv_aload_n hx hb dX9_trueHands_50 rfl (lv_at hl 0 rfl) ?_
        refine m_get hx hb hts hin9 hown hK hP 14 (by decide) hf43 rfl rfl dX9_trueHands_51 ?_
        refine lv_iload hx hb dX9_trueHands_54 (lv_at hl 5 rfl) ?_
        refine m_iald_n hx hb hK hP 11 200 rfl (by decide) rfl (by omega) dX9_trueHands_56 ?_
        refine lv_iload_n hx hb dX9_trueHands_57 rfl (lv_at hl 2 rfl) ?_
        refine lv_icmp_gt (tgt := 92) hx hb dX9_trueHands_58 (by decide) (fun b58 => ?_) (fun b58 => ?_)
        · refine lv_iinc (v := (nI k) + 1) (lv' := [(5, .int ((nI k) + 1)), (0, .ref o), (1, .int h), (2, .int w), (3, .int ((truN S h w k).1)), (4, .int ((truN S h w k).2))]) hx hb dX9_trueHands_92 hl (k := 5) rfl rfl (by decide) rfl (fun ls hl => ?_)
          refine lv_goto (tgt := 30) hx hb dX9_trueHands_95 (by decide) ?_
          refine ih (k + 1) (by omega) (by omega) H locs ls hP hS ?_
          show lv_has ls 6 [(0, .ref o), (1, .int h), (2, .int w), (3, .int ((truN S h w (k + 1)).1)), (4, .int ((truN S h w (k + 1)).2)), (5, .int (nI (k + 1)))]
          rw [show truN S h w (k + 1) = truN S h w k from by first | (simp [truN, b7, Int32.not_lt.mpr b7, b36, Int32.not_le.mp b36, b47, b58, Int32.not_le.mpr b58]; done) | (exfalso; simp_all; done), ← nI_1]
          exact lv_sub hl [1, 2, 3, 4, 5, 0] rfl
        · refine lv_aload_n hx hb dX9_trueHands_61 rfl (lv_at hl 0 rfl) ?_
          refine m_get hx hb hts hin9 hown hK hP 14 (by decide) hf43 rfl rfl dX9_trueHands_62 ?_
          refine lv_iload hx hb dX9_trueHands_65 (lv_at hl 5 rfl) ?_
          refine m_iald_n hx hb hK hP 11 200 rfl (by decide) rfl (by omega) dX9_trueHands_67 ?_
          refine lv_iload_n hx hb dX9_trueHands_68 rfl (lv_at hl 3 rfl) ?_
          refine lv_icmp_ge (tgt := 75) hx hb dX9_trueHands_69 (by decide) (fun b69 => ?_) (fun b69 => ?_)
          · refine lv_aload_n hx hb dX9_trueHands_75 rfl (lv_at hl 0 rfl) ?_
            refine m_get hx hb hts hin9 hown hK hP 14 (by decide) hf43 rfl rfl dX9_trueHands_76 ?_
            refine lv_iload hx hb dX9_trueHands_79 (lv_at hl 5 rfl) ?_
            refine m_iald_n hx hb hK hP 11 200 rfl (by decide) rfl (by omega) dX9_trueHands_81 ?_
            refine lv_istore_n (lv' := [(3, .int (S 11 k)), (0, .ref o), (1, .int h), (2, .int w), (4, .int ((truN S h w k).2)), (5, .int (nI k))]) hx hb dX9_trueHands_82 rfl hl (by decide) rfl (fun ls hl => ?_)
            refine lv_aload_n hx hb dX9_trueHands_83 rfl (lv_at hl 1 rfl) ?_
            refine m_get hx hb hts hin9 hown hK hP 17 (by decide) hf52 rfl rfl dX9_trueHands_84 ?_
            refine lv_iload hx hb dX9_trueHands_87 (lv_at hl 5 rfl) ?_
            refine m_iald_n hx hb hK hP 14 200 rfl (by decide) rfl (by omega) dX9_trueHands_89 ?_
            refine lv_istore (lv' := [(4, .int (S 14 k)), (3, .int (S 11 k)), (0, .ref o), (1, .int h), (2, .int w), (5, .int (nI k))]) hx hb dX9_trueHands_90 hl (by decide) rfl (fun ls hl => ?_)
            refine lv_iinc (v := (nI k) + 1) (lv' := [(5, .int ((nI k) + 1)), (4, .int (S 14 k)), (3, .int (S 11 k)), (0, .ref o), (1, .int h), (2, .int w)]) hx hb dX9_trueHands_92 hl (k := 5) rfl rfl (by decide) rfl (fun ls hl => ?_)
            refine lv_goto (tgt := 30) hx hb dX9_trueHands_95 (by decide) ?_
            refine ih (k + 1) (by omega) (by omega) H locs ls hP hS ?_
            show lv_has ls 6 [(0, .ref o), (1, .int h), (2, .int w), (3, .int ((truN S h w (k + 1)).1)), (4, .int ((truN S h w (k + 1)).2)), (5, .int (nI (k + 1)))]
            rw [show truN S h w (k + 1) = (S 11 k, S 14 k) from by first | (simp [truN, b7, Int32.not_lt.mpr b7, b36, Int32.not_le.mp b36, b47, b58, Int32.not_lt.mp b58, b69, Int32.not_lt.mpr b69]; done) | (exfalso; simp_all; done), ← nI_1]
            exact lv_sub hl [3, 4, 5, 2, 1, 0] rfl
          · refine lv_goto (tgt := 92) hx hb dX9_trueHands_72 (by decide) ?_
            refine lv_iinc (v := (nI k) + 1) (lv' := [(5, .int ((nI k) + 1)), (0, .ref o), (1, .int h), (2, .int w), (3, .int ((truN S h w k).1)), (4, .int ((truN S h w k).2))]) hx hb dX9_trueHands_92 hl (k := 5) rfl rfl (by decide) rfl (fun ls hl => ?_)
            refine lv_goto (tgt := 30) hx hb dX9_trueHands_95 (by decide) ?_
            refine ih (k + 1) (by omega) (by omega) H locs ls hP hS ?_
            show lv_has ls 6 [(0, .ref o), (1, .int h), (2, .int w), (3, .int ((truN S h w (k + 1)).1)), (4, .int ((truN S h w (k + 1)).2)), (5, .int (nI (k + 1)))]
            rw [show truN S h w (k + 1) = truN S h w k from by first | (simp [truN, b7, Int32.not_lt.mpr b7, b36, Int32.not_le.mp b36, b47, b58, Int32.not_lt.mp b58, b69, Int32.not_le.mp b69]; done) | (exfalso; simp_all; done), ← nI_1]
            exact lv_sub hl [1, 2, 3, 4, 5, 0] rfl
  · refine lv_iconst (v := 0) hx hb dX9_trueHands_10 (by decide) ?_
    refine g_reti hx hb hr hlk hP hS dX9_trueHands_11 ?_
    exact ⟨by simp [truOf, b7, Int32.not_le.mp b7], rfl, rfl⟩
set_option maxHeartbeats 4000000 in
set_option maxRecDepth 100000 in
theorem kX9_villageHands (l : Launch) (E : gT) (A : Nat → Prop) (n : Nat) (o : Nat) (c : Nat → Int32) (S : Nat → Nat → Int32) (v w : Int32) (hI : mI c S) : gM l yX9_villageHands wsX9_villageHands ({ frames := 1, cells := 0, slots := 0, locals := 25 } : Room) E A n (GM E o c S) [.ref o, .int v, .int w] (gQi E A (fun r' n' G' => vilOf c S v w = r' ∧ n = n' ∧ (GM E o c S) = G')) 0 0 := by
  refine g_entry (by decide) rfl (Nat.le_of_ble_eq_true rfl) ?_
  intro p e s m below meth c0 hx hb hr hlk hml hown hnm hts hK H locs ls hP hS hl
  have hin9 : ∀ w ∈ u_ws RX9 TX9 35, w ∈ wsX9_villageHands := by decide +kernel
  have hf28 := hts (.fieldLink RX9 28 "DikeHandsModel" "village" "[I") (by decide +kernel)
  have hf92 := hts (.fieldLink RX9 92 "DikeHandsModel" "houses" "I") (by decide +kernel)
  have hl : lv_has ls 5 [(0, .ref o), (1, .int v), (2, .int w)] := hl
  have j0 := hI.1
  have j7 := hI.2.1
  have j12 := hI.2.2.1
  have j18 := hI.2.2.2.1
  have t0_ := tn_of j0.1
  have t7_ := tn_of j7.1
  have t12_ := tn_of j12.1
  have t18_ := tn_of j18.1
  refine lv_iconst (v := 0) hx hb dX9_villageHands_0 (by decide) ?_
  refine lv_istore_n (lv' := [(3, .int 0), (0, .ref o), (1, .int v), (2, .int w)]) hx hb dX9_villageHands_1 rfl hl (by decide) rfl (fun ls hl => ?_)
  refine lv_iconst (v := 0) hx hb dX9_villageHands_2 (by decide) ?_
  refine lv_istore (lv' := [(4, .int 0), (3, .int 0), (0, .ref o), (1, .int v), (2, .int w)]) hx hb dX9_villageHands_3 hl (by decide) rfl (fun ls hl => ?_)
  refine g_loop (τ := Nat) (fun k => k ≤ tn (c 7)) (fun k => tn (c 7) - k) (fun k => n) (fun k => (GM E o c S)) (fun k => 0) (fun k => 0) (fun k => [(0, .ref o), (1, .int v), (2, .int w), (3, .int (vilN c S v w k)), (4, .int (nI k))]) ?_ 0 (Nat.zero_le _) H locs ls hP hS (lv_sub hl [2, 3, 4, 1, 0] rfl)
  intro k hI5 ih H locs ls hP hS hl
  try dsimp only at hI5
  have hl : lv_has ls 5 [(0, .ref o), (1, .int v), (2, .int w), (3, .int (vilN c S v w k)), (4, .int (nI k))] := hl
  have hP : gP E A n (GM E o c S) H := hP
  refine lv_iload hx hb dX9_villageHands_5 (lv_at hl 4 rfl) ?_
  refine lv_aload_n hx hb dX9_villageHands_7 rfl (lv_at hl 0 rfl) ?_
  refine m_get hx hb hts hin9 hown hK hP 7 (by decide) hf92 rfl rfl dX9_villageHands_8 ?_
  refine lv_icmp_ge (tgt := 45) hx hb dX9_villageHands_11 (by decide) (fun b11 => ?_) (fun b11 => ?_)
  · have hk3 := lp_ge j7.1 (by omega) b11
    have hke : k = tn (c 7) := by omega
    subst hke
    refine lv_iload_n hx hb dX9_villageHands_45 rfl (lv_at hl 3 rfl) ?_
    refine g_reti hx hb hr hlk hP hS dX9_villageHands_46 ?_
    exact ⟨rfl, rfl, rfl⟩
  · have hk3 := lp_lt j7.1 (by omega) b11
    refine lv_iload_n hx hb dX9_villageHands_14 rfl (lv_at hl 3 rfl) ?_
    refine lv_aload_n hx hb dX9_villageHands_15 rfl (lv_at hl 0 rfl) ?_
    refine m_get hx hb hts hin9 hown hK hP 8 (by decide) hf28 rfl rfl dX9_villageHands_16 ?_
    refine lv_iload hx hb dX9_villageHands_19 (lv_at hl 4 rfl) ?_
    refine m_iald_n hx hb hK hP 6 40 rfl (by decide) rfl (by omega) dX9_villageHands_21 ?_
    refine lv_iload_n hx hb dX9_villageHands_22 rfl (lv_at hl 1 rfl) ?_
    refine lv_icmp_ne (tgt := 36) hx hb dX9_villageHands_23 (by decide) (fun b23 => ?_) (fun b23 => ?_)
    · refine lv_iconst (v := 0) hx hb dX9_villageHands_36 (by decide) ?_
      refine lv_iadd hx hb dX9_villageHands_37 ?_
      refine lv_istore_n (lv' := [(3, .int ((vilN c S v w k) + 0)), (0, .ref o), (1, .int v), (2, .int w), (4, .int (nI k))]) hx hb dX9_villageHands_38 rfl hl (by decide) rfl (fun ls hl => ?_)
      refine lv_iinc (v := (nI k) + 1) (lv' := [(4, .int ((nI k) + 1)), (3, .int ((vilN c S v w k) + 0)), (0, .ref o), (1, .int v), (2, .int w)]) hx hb dX9_villageHands_39 hl (k := 4) rfl rfl (by decide) rfl (fun ls hl => ?_)
      refine lv_goto (tgt := 5) hx hb dX9_villageHands_42 (by decide) ?_
      refine ih (k + 1) (by omega) (by omega) H locs ls hP hS ?_
      show lv_has ls 5 [(0, .ref o), (1, .int v), (2, .int w), (3, .int (vilN c S v w (k + 1))), (4, .int (nI (k + 1)))]
      rw [show vilN c S v w (k + 1) = (vilN c S v w k) + 0 from by first | (simp [vilN, b11, Int32.not_le.mp b11, b23]; done) | (exfalso; simp_all; done), ← nI_1]
      exact lv_sub hl [2, 3, 4, 1, 0] rfl
    · refine lv_aload_n hx hb dX9_villageHands_26 rfl (lv_at hl 0 rfl) ?_
      refine lv_iload hx hb dX9_villageHands_27 (lv_at hl 4 rfl) ?_
      refine lv_iload_n hx hb dX9_villageHands_29 rfl (lv_at hl 2 rfl) ?_
      refine g_ci (g_runV (As := [.int (nI k), .int w]) (rest := [.int (vilN c S v w k)]) ⟨hx, hb, hml, hown, hts⟩ hK hP (kX9_trueHands l E A n o c S (nI k) w hI (vp_in_nI (by omega) (by decide))) (cwV 2 hts gX9_villageHands_X9_trueHands rfl rfl rfl (by decide +kernel) ⟨Nat.le_of_ble_eq_true rfl, Nat.le_of_ble_eq_true rfl⟩) GM_o rfl rfl hl.1 rfl (Nat.le_of_ble_eq_true rfl) dX9_villageHands_30 ⟨Nat.le_of_ble_eq_true rfl, Nat.le_of_ble_eq_true rfl⟩) hS (fun r30 n' G' H locs hw hP hS => ?_)
      obtain ⟨rfl, rfl, rfl⟩ := hw
      refine lv_goto (tgt := 37) hx hb dX9_villageHands_33 (by decide) ?_
      refine lv_iadd hx hb dX9_villageHands_37 ?_
      refine lv_istore_n (lv' := [(3, .int ((vilN c S v w k) + (truOf c S (nI k) w))), (0, .ref o), (1, .int v), (2, .int w), (4, .int (nI k))]) hx hb dX9_villageHands_38 rfl hl (by decide) rfl (fun ls hl => ?_)
      refine lv_iinc (v := (nI k) + 1) (lv' := [(4, .int ((nI k) + 1)), (3, .int ((vilN c S v w k) + (truOf c S (nI k) w))), (0, .ref o), (1, .int v), (2, .int w)]) hx hb dX9_villageHands_39 hl (k := 4) rfl rfl (by decide) rfl (fun ls hl => ?_)
      refine lv_goto (tgt := 5) hx hb dX9_villageHands_42 (by decide) ?_
      refine ih (k + 1) (by omega) (by omega) H locs ls hP hS ?_
      show lv_has ls 5 [(0, .ref o), (1, .int v), (2, .int w), (3, .int (vilN c S v w (k + 1))), (4, .int (nI (k + 1)))]
      rw [show vilN c S v w (k + 1) = (vilN c S v w k) + (truOf c S (nI k) w) from by first | (simp [vilN, b11, Int32.not_le.mp b11, b23]; done) | (exfalso; simp_all; done), ← nI_1]
      exact lv_sub hl [2, 3, 4, 1, 0] rfl
