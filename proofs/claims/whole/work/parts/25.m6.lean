def mH (S : Nat → Nat → Int32) : Prop := ∀ r, r < 30 → 0 ≤ (S 1 r).toInt ∧ (S 1 r).toInt ≤ 3000
theorem perOf_rng (S : Nat → Nat → Int32) (r : Int32) : (perOf S r).toInt = 30 ∨ (perOf S r).toInt = 20 ∨ (perOf S r).toInt = 10 := by
  unfold perOf
  by_cases h1 : S 2 (tn r) = 0
  · simp only [h1]; left; rfl
  · by_cases h2 : S 2 (tn r) = 1
    · simp only [h2]; right; left; rfl
    · simp only [h1, h2, if_false]; right; right; rfl
theorem needOf_rng {S : Nat → Nat → Int32} {d : Int32} {r : Nat} (hH : mH S) (hd : inB d 0 3000 = true) (hr : r < 30) : 0 ≤ (needOf S (nI r) d).toInt ∧ (needOf S (nI r) d).toInt ≤ 300 := by
  have h1 := hH r hr
  have h2 := inB_i hd
  have e0 : (0 : Int32).toInt = 0 := rfl
  have e1 : (1 : Int32).toInt = 1 := rfl
  have e2 : (3000 : Int32).toInt = 3000 := rfl
  have h3 : (d - S 1 (tn (nI r))).toInt = d.toInt - (S 1 r).toInt := by rw [tn_nI (by omega), fb_subI] <;> omega
  have hp := perOf_rng S (nI r)
  unfold needOf
  split
  · decide
  · rename_i hc
    have hc2 : ¬ (d - S 1 (tn (nI r))).toInt ≤ 0 := fun q => hc (Int32.le_iff_toInt_le.mpr q)
    have h4 : (d - S 1 (tn (nI r)) + perOf S (nI r)).toInt = (d - S 1 (tn (nI r))).toInt + (perOf S (nI r)).toInt := by rw [fb_addI] <;> omega
    have h5 : (d - S 1 (tn (nI r)) + perOf S (nI r) - 1).toInt = (d - S 1 (tn (nI r))).toInt + (perOf S (nI r)).toInt - 1 := by rw [fb_subI] <;> omega
    rw [divI (by omega) (by omega), h5, h3]
    rcases hp with q | q | q <;> rw [q] <;> omega
theorem idx301 (k w : Nat) : nI (301 * (k + 1) + w) - 300 - 1 = nI (301 * k + w) := by
  show nI (301 * (k + 1) + w) - nI 300 - nI 1 = _
  have e1 : nI (301 * (k + 1) + w) - nI 300 = nI (301 * (k + 1) + w - 300) := pk_sub (by omega)
  have e2 : nI (301 * (k + 1) + w - 300) - nI 1 = nI (301 * (k + 1) + w - 300 - 1) := pk_sub (by omega)
  rw [e1, e2, show 301 * (k + 1) + w - 300 - 1 = 301 * k + w by omega]
theorem at301 (k w : Nat) : (301 : Int32) * nI k + nI w = nI (301 * k + w) := by
  rw [show (301 : Int32) = nI 301 from rfl, pk_mul, nI_add]
theorem idxsub {x : Int32} {b w : Nat} (h0 : 0 ≤ x.toInt) (hw : tn x ≤ w) : nI (b + w) - x = nI (b + (w - tn x)) := by
  have h1 : nI (b + w) - x = nI (b + w) - nI (tn x) := by rw [nI_tn h0]
  rw [h1, pk_sub (by omega), show b + w - tn x = b + (w - tn x) by omega]
theorem idxsub0 {x : Int32} {w : Nat} (h0 : 0 ≤ x.toInt) (hw : tn x ≤ w) : nI w - x = nI (w - tn x) := by
  have h1 : nI w - x = nI w - nI (tn x) := by rw [nI_tn h0]
  rw [h1, pk_sub (by omega)]
theorem lp_le {x : Int32} {k : Nat} (h0 : 0 ≤ x.toInt) (hk : k < 2 ^ 31) (h : x ≤ nI k) : tn x ≤ k := lp_ge h0 hk h
theorem plM_eq1 {S : Nat → Nat → Int32} {d : Int32} {k w : Nat} (h : needOf S (nI k) d = 0 ∨ nI w < needOf S (nI k) d) : plM S d (k + 1) w = plM S d k w := by rw [plM, if_pos h]
theorem plM_eq2 {S : Nat → Nat → Int32} {d : Int32} {k w : Nat} (h : ¬ (needOf S (nI k) d = 0 ∨ nI w < needOf S (nI k) d)) (h2 : plM S d k (w - tn (needOf S (nI k) d)) + S 3 k ≤ plM S d k w) : plM S d (k + 1) w = plM S d k w := by rw [plM, if_neg h, if_pos h2]
theorem plM_eq3 {S : Nat → Nat → Int32} {d : Int32} {k w : Nat} (h : ¬ (needOf S (nI k) d = 0 ∨ nI w < needOf S (nI k) d)) (h2 : ¬ plM S d k (w - tn (needOf S (nI k) d)) + S 3 k ≤ plM S d k w) : plM S d (k + 1) w = plM S d k (w - tn (needOf S (nI k) d)) + S 3 k := by rw [plM, if_neg h, if_neg h2]
theorem plM_ne {S : Nat → Nat → Int32} {d : Int32} {k w : Nat} (h : ¬ plM S d (k + 1) w = plM S d k w) : ¬ nI w < needOf S (nI k) d := fun q => h (plM_eq1 (Or.inr q))

set_option maxHeartbeats 1000000 in
set_option maxRecDepth 100000 in
theorem kX9_plans (l : Launch) (E : gT) (A : Nat → Prop) (n : Nat) (o : Nat) (c : Nat → Int32) (S : Nat → Nat → Int32) (d : Int32) (hH : mH S) (hd : inB d 0 3000 = true) : gM l yX9_plans wsX9_plans ({ frames := 2, cells := 0, slots := 0, locals := 44 } : Room) E A n (GM E o c S) [.ref o, .int d] (gQv E A (fun n' G' => n = n' ∧ (GM E o c (va_up S 25 (plF S d 9331))) = G')) 0 0 := by
  refine g_entry (by decide) rfl (Nat.le_of_ble_eq_true rfl) ?_
  intro p e s m below meth c0 hx hb hr hlk hml hown hnm hts hK H locs ls hP hS hl
  have hin9 : ∀ wq ∈ u_ws RX9 TX9 35, wq ∈ wsX9_plans := by decide +kernel
  have hf19 := hts (.fieldLink RX9 19 "DikeHandsModel" "loss" "[I") (by decide +kernel)
  have hf85 := hts (.fieldLink RX9 85 "DikeHandsModel" "most" "[I") (by decide +kernel)
  have hl : lv_has ls 7 [(0, .ref o), (1, .int d)] := hl
  have hP : gP E A n (GM E o c (va_up S 25 (plF S d 0))) H := by rw [plF_0, va_up_id]; exact hP
  refine lv_iconst (v := 0) hx hb dX9_plans_0 (by decide) ?_
  refine lv_istore_n (lv' := [(2, .int 0), (0, .ref o), (1, .int d)]) hx hb dX9_plans_1 rfl hl (by decide) rfl (fun ls hl => ?_)
  refine g_loop (τ := Nat) (fun kq => kq ≤ 31) (fun kq => 31 - kq) (fun kq => n) (fun kq => GM E o c (va_up S 25 (plF S d (301 * kq)))) (fun kq => 0) (fun kq => 0) (fun kq => [(0, .ref o), (1, .int d), (2, .int (nI kq))]) ?_ 0 (Nat.zero_le _) H locs ls hP hS (lv_sub hl [1, 2, 0] rfl)
  intro kq hI2 ih H locs ls hP hS hl
  try dsimp only at hI2
  have hl : lv_has ls 7 [(0, .ref o), (1, .int d), (2, .int (nI kq))] := hl
  have hP : gP E A n (GM E o c (va_up S 25 (plF S d (301 * kq)))) H := hP
  refine lv_iload_n hx hb dX9_plans_2 rfl (lv_at hl 2 rfl) ?_
  refine lv_bipush (v := 30) hx hb dX9_plans_3 (by decide) ?_
  refine lv_icmp_gt (tgt := 146) hx hb dX9_plans_5 (by decide) (fun b5 => ?_) (fun b5 => ?_)
  · have hk3 := lp_gt (x := 30) (by decide) (by omega) b5
    have hk5 : tn 30 = 30 := by decide
    have hk7 : kq = 31 := by omega
    refine g_retv hx hb hr hlk hP hS dX9_plans_146 ?_
    exact ⟨rfl, by rw [show (9331 : Nat) = 301 * kq by omega]⟩
  · have hk3 := lp_ngt (x := 30) (by decide) (by omega) b5
    have hk5 : tn 30 = 30 := by decide
    refine lv_iconst (v := 0) hx hb dX9_plans_8 (by decide) ?_
    refine lv_istore_n (lv' := [(3, .int 0), (0, .ref o), (1, .int d), (2, .int (nI kq))]) hx hb dX9_plans_9 rfl hl (by decide) rfl (fun ls hl => ?_)
    refine g_loop (τ := Nat) (fun wq => wq ≤ 301) (fun wq => 301 - wq) (fun wq => n) (fun wq => GM E o c (va_up S 25 (plF S d (301 * kq + wq)))) (fun wq => 0) (fun wq => 0) (fun wq => [(0, .ref o), (1, .int d), (2, .int (nI kq)), (3, .int (nI wq))]) ?_ 0 (Nat.zero_le _) H locs ls hP hS (lv_sub hl [1, 2, 3, 0] rfl)
    intro wq hI10 ih2 H locs ls hP hS hl
    try dsimp only at hI10
    have hl : lv_has ls 7 [(0, .ref o), (1, .int d), (2, .int (nI kq)), (3, .int (nI wq))] := hl
    have hP : gP E A n (GM E o c (va_up S 25 (plF S d (301 * kq + wq)))) H := hP
    refine lv_iload_n hx hb dX9_plans_10 rfl (lv_at hl 3 rfl) ?_
    refine lv_sipush (v := 300) hx hb dX9_plans_11 (by decide) ?_
    refine lv_icmp_gt (tgt := 140) hx hb dX9_plans_14 (by decide) (fun b14 => ?_) (fun b14 => ?_)
    · have hk4 := lp_gt (x := 300) (by decide) (by omega) b14
      have hk6 : tn 300 = 300 := by decide
      have hw3 : wq = 301 := by omega
      refine lv_iinc (v := (nI kq) + 1) (lv' := [(2, .int ((nI kq) + 1)), (0, .ref o), (1, .int d), (3, .int (nI wq))]) hx hb dX9_plans_140 hl (k := 2) rfl rfl (by decide) rfl (fun ls hl => ?_)
      refine lv_goto (tgt := 2) hx hb dX9_plans_143 (by decide) ?_
      have hP : gP E A n (GM E o c (va_up S 25 (plF S d (301 * (kq + 1))))) H := by rw [show 301 * (kq + 1) = 301 * kq + wq by omega]; exact hP
      refine ih (kq + 1) (by omega) (by omega) H locs ls hP hS ?_
      show lv_has ls 7 [(0, .ref o), (1, .int d), (2, .int (nI (kq + 1)))]
      rw [← nI_1]
      exact lv_sub hl [1, 2, 0] rfl
    · have hk4 := lp_ngt (x := 300) (by decide) (by omega) b14
      have hk6 : tn 300 = 300 := by decide
      refine lv_sipush (v := 301) hx hb dX9_plans_17 (by decide) ?_
      refine lv_iload_n hx hb dX9_plans_20 rfl (lv_at hl 2 rfl) ?_
      refine lv_imul hx hb dX9_plans_21 ?_
      refine lv_iload_n hx hb dX9_plans_22 rfl (lv_at hl 3 rfl) ?_
      refine lv_iadd hx hb dX9_plans_23 ?_
      rw [at301]
      refine lv_istore (lv' := [(4, .int (nI (301 * kq + wq))), (0, .ref o), (1, .int d), (2, .int (nI kq)), (3, .int (nI wq))]) hx hb dX9_plans_24 hl (by decide) rfl (fun ls hl => ?_)
      refine lv_aload_n hx hb dX9_plans_26 rfl (lv_at hl 1 rfl) ?_
      refine m_get (v := .ref (o + 26)) hx hb hts hin9 hown hK hP 34 (by decide) hf85 rfl rfl dX9_plans_27 ?_
      refine lv_iload hx hb dX9_plans_30 (lv_at hl 0 rfl) ?_
      refine lv_iload_n hx hb dX9_plans_32 rfl (lv_at hl 3 rfl) ?_
      refine lv_if_ne (tgt := 40) hx hb dX9_plans_33 (by decide) (fun b33 => ?_) (fun b33 => ?_)
      · have hk0 : kq ≠ 0 := fun q => b33 (by rw [q]; rfl)
        obtain ⟨k2, rfl⟩ : ∃ j, kq = j + 1 := ⟨kq - 1, by omega⟩
        refine lv_aload_n hx hb dX9_plans_40 rfl (lv_at hl 1 rfl) ?_
        refine m_get (v := .ref (o + 26)) hx hb hts hin9 hown hK hP 34 (by decide) hf85 rfl rfl dX9_plans_41 ?_
        refine lv_iload hx hb dX9_plans_44 (lv_at hl 0 rfl) ?_
        refine lv_sipush (v := 300) hx hb dX9_plans_46 (by decide) ?_
        refine lv_isub hx hb dX9_plans_49 ?_
        refine lv_iconst (v := 1) hx hb dX9_plans_50 (by decide) ?_
        refine lv_isub hx hb dX9_plans_51 ?_
        rw [idx301]
        refine m_iald_n hx hb hK hP 25 9331 rfl (by decide) rfl (by omega) dX9_plans_52 ?_
        refine W.eq (g2 := F0 m 53 ls [.int ((plF S d (301 * (k2 + 1) + wq)) (301 * k2 + wq)), .int (nI (301 * (k2 + 1) + wq)), .ref (o + 26)]) rfl ?_
        rw [plF_in S d (by omega) (by omega)]
        refine m_iast_n hx hb hK hP hS 25 9331 rfl (by decide) rfl (by omega) dX9_plans_53 (fun H locs hP hS => ?_)
        have hP : gP E A n (GM E o c (va_up (va_up S 25 (plF S d (301 * (k2 + 1) + wq))) 25 (upd (plF S d (301 * (k2 + 1) + wq)) (301 * (k2 + 1) + wq) (plM S d k2 wq)))) H := hP
        refine lv_iload_n hx hb dX9_plans_54 rfl (lv_at hl 3 rfl) ?_
        refine lv_if_ne (tgt := 62) hx hb dX9_plans_55 (by decide) (fun _ => ?_) (fun b55 => absurd b55 b33)
        refine lv_aload_n hx hb dX9_plans_62 rfl (lv_at hl 1 rfl) ?_
        refine lv_iload_n hx hb dX9_plans_63 rfl (lv_at hl 3 rfl) ?_
        refine lv_iconst (v := 1) hx hb dX9_plans_64 (by decide) ?_
        refine lv_isub hx hb dX9_plans_65 ?_
        refine lv_iload_n hx hb dX9_plans_66 rfl (lv_at hl 2 rfl) ?_
        rw [nI_pred]
        refine g_ci (g_runV (As := [.int (nI k2), .int d]) (rest := []) ⟨hx, hb, hml, hown, hts⟩ hK hP (kX9_needs l E A n o c (va_up (va_up S 25 (plF S d (301 * (k2 + 1) + wq))) 25 (upd (plF S d (301 * (k2 + 1) + wq)) (301 * (k2 + 1) + wq) (plM S d k2 wq))) (nI k2) d (vp_in_nI (by omega) (by decide))) (cwV 2 hts gX9_plans_X9_needs rfl rfl rfl (by decide +kernel) ⟨Nat.le_of_ble_eq_true rfl, Nat.le_of_ble_eq_true rfl⟩) GM_o rfl rfl hl.1 rfl (Nat.le_of_ble_eq_true rfl) dX9_plans_67 ⟨Nat.le_of_ble_eq_true rfl, Nat.le_of_ble_eq_true rfl⟩) hS (fun r67 n' G' H locs hw hP hS => ?_)
        obtain ⟨rfl, rfl, rfl⟩ := hw
        rw [show needOf (va_up (va_up S 25 (plF S d (301 * (k2 + 1) + wq))) 25 (upd (plF S d (301 * (k2 + 1) + wq)) (301 * (k2 + 1) + wq) (plM S d k2 wq))) (nI k2) d = needOf S (nI k2) d from rfl]
        refine lv_topi (fun nd e_nd => ?_)
        refine lv_istore (lv' := [(5, .int nd), (4, .int (nI (301 * (k2 + 1) + wq))), (0, .ref o), (1, .int d), (2, .int (nI (k2 + 1))), (3, .int (nI wq))]) hx hb dX9_plans_70 hl (by decide) rfl (fun ls hl => ?_)
        refine lv_iload hx hb dX9_plans_72 (lv_at hl 0 rfl) ?_
        refine lv_if_eq (tgt := 134) hx hb dX9_plans_74 (by decide) (fun b74 => ?_) (fun b74 => ?_)
        · refine lv_iinc (v := (nI wq) + 1) (lv' := [(3, .int ((nI wq) + 1)), (5, .int nd), (4, .int (nI (301 * (k2 + 1) + wq))), (0, .ref o), (1, .int d), (2, .int (nI (k2 + 1)))]) hx hb dX9_plans_134 hl (k := 5) rfl rfl (by decide) rfl (fun ls hl => ?_)
          refine lv_goto (tgt := 10) hx hb dX9_plans_137 (by decide) ?_
          try rw [bx_uu] at hP
          try rw [bx_uu] at hP
          try rw [fa_upd_twice] at hP
          have hval : plM S d k2 wq = plM S d (k2 + 1) wq := (plM_eq1 (Or.inl (e_nd.symm.trans b74))).symm
          rw [hval, plF_s S d (by omega)] at hP
          have hP : gP E A n (GM E o c (va_up S 25 (plF S d (301 * (k2 + 1) + (wq + 1))))) H := hP
          refine ih2 (wq + 1) (by omega) (by omega) H locs ls hP hS ?_
          show lv_has ls 7 [(0, .ref o), (1, .int d), (2, .int (nI (k2 + 1))), (3, .int (nI (wq + 1)))]
          rw [← nI_1 wq]
          exact lv_sub hl [3, 4, 5, 0] rfl
        · refine lv_iload hx hb dX9_plans_77 (lv_at hl 0 rfl) ?_
          refine lv_iload_n hx hb dX9_plans_79 rfl (lv_at hl 5 rfl) ?_
          refine lv_icmp_le (tgt := 86) hx hb dX9_plans_80 (by decide) (fun b80 => ?_) (fun b80 => ?_)
          · have hnd0 : 0 ≤ nd.toInt := by rw [e_nd]; exact (needOf_rng hH hd (by omega)).1
            have hndw : tn nd ≤ wq := lp_ge hnd0 (by omega) b80
            refine lv_aload_n hx hb dX9_plans_86 rfl (lv_at hl 2 rfl) ?_
            refine m_get (v := .ref (o + 26)) hx hb hts hin9 hown hK hP 34 (by decide) hf85 rfl rfl dX9_plans_87 ?_
            refine lv_iload hx hb dX9_plans_90 (lv_at hl 1 rfl) ?_
            refine lv_sipush (v := 300) hx hb dX9_plans_92 (by decide) ?_
            refine lv_isub hx hb dX9_plans_95 ?_
            refine lv_iconst (v := 1) hx hb dX9_plans_96 (by decide) ?_
            refine lv_isub hx hb dX9_plans_97 ?_
            rw [idx301]
            refine lv_iload hx hb dX9_plans_98 (lv_at hl 0 rfl) ?_
            refine lv_isub hx hb dX9_plans_100 ?_
            rw [idxsub hnd0 hndw]
            refine m_iald_n hx hb hK hP 25 9331 rfl (by decide) rfl (by omega) dX9_plans_101 ?_
            refine W.eq (g2 := F0 m 102 ls [.int ((upd (plF S d (301 * (k2 + 1) + wq)) (301 * (k2 + 1) + wq) (plM S d k2 wq)) (301 * k2 + (wq - tn nd)))]) rfl ?_
            rw [pk_un (by omega), plF_in S d (by omega) (by omega)]
            refine lv_aload_n hx hb dX9_plans_102 rfl (lv_at hl 2 rfl) ?_
            refine m_get (v := .ref (o + 4)) hx hb hts hin9 hown hK hP 4 (by decide) hf19 rfl rfl dX9_plans_103 ?_
            refine lv_iload_n hx hb dX9_plans_106 rfl (lv_at hl 4 rfl) ?_
            refine lv_iconst (v := 1) hx hb dX9_plans_107 (by decide) ?_
            refine lv_isub hx hb dX9_plans_108 ?_
            rw [nI_pred]
            refine m_iald_n hx hb hK hP 3 30 rfl (by decide) rfl (by omega) dX9_plans_109 ?_
            refine lv_iadd hx hb dX9_plans_110 ?_
            refine lv_istore (lv' := [(6, .int ((plM S d k2 (wq - tn nd)) + (S 3 k2))), (5, .int nd), (4, .int (nI (301 * (k2 + 1) + wq))), (0, .ref o), (1, .int d), (2, .int (nI (k2 + 1))), (3, .int (nI wq))]) hx hb dX9_plans_111 hl (by decide) rfl (fun ls hl => ?_)
            refine lv_iload hx hb dX9_plans_113 (lv_at hl 0 rfl) ?_
            refine lv_aload_n hx hb dX9_plans_115 rfl (lv_at hl 3 rfl) ?_
            refine m_get (v := .ref (o + 26)) hx hb hts hin9 hown hK hP 34 (by decide) hf85 rfl rfl dX9_plans_116 ?_
            refine lv_iload hx hb dX9_plans_119 (lv_at hl 2 rfl) ?_
            refine m_iald_n hx hb hK hP 25 9331 rfl (by decide) rfl (by omega) dX9_plans_121 ?_
            refine W.eq (g2 := F0 m 122 ls [.int (plM S d k2 wq), .int ((plM S d k2 (wq - tn nd)) + (S 3 k2))]) (by rw [show (va_up (va_up S 25 (plF S d (301 * (k2 + 1) + wq))) 25 (upd (plF S d (301 * (k2 + 1) + wq)) (301 * (k2 + 1) + wq) (plM S d k2 wq))) 25 (301 * (k2 + 1) + wq) = (plM S d k2 wq) from pk_us]) ?_
            refine lv_icmp_le (tgt := 134) hx hb dX9_plans_122 (by decide) (fun b122 => ?_) (fun b122 => ?_)
            · refine lv_iinc (v := (nI wq) + 1) (lv' := [(3, .int ((nI wq) + 1)), (6, .int ((plM S d k2 (wq - tn nd)) + (S 3 k2))), (5, .int nd), (4, .int (nI (301 * (k2 + 1) + wq))), (0, .ref o), (1, .int d), (2, .int (nI (k2 + 1)))]) hx hb dX9_plans_134 hl (k := 6) rfl rfl (by decide) rfl (fun ls hl => ?_)
              refine lv_goto (tgt := 10) hx hb dX9_plans_137 (by decide) ?_
              try rw [bx_uu] at hP
              try rw [bx_uu] at hP
              try rw [fa_upd_twice] at hP
              have hval : plM S d k2 wq = plM S d (k2 + 1) wq := (plM_eq2 (by rw [← e_nd]; exact fun q => q.elim b74 (fun q => absurd b80 (Int32.not_le.mpr q))) (by rw [← e_nd]; exact b122)).symm
              rw [hval, plF_s S d (by omega)] at hP
              have hP : gP E A n (GM E o c (va_up S 25 (plF S d (301 * (k2 + 1) + (wq + 1))))) H := hP
              refine ih2 (wq + 1) (by omega) (by omega) H locs ls hP hS ?_
              show lv_has ls 7 [(0, .ref o), (1, .int d), (2, .int (nI (k2 + 1))), (3, .int (nI (wq + 1)))]
              rw [← nI_1 wq]
              exact lv_sub hl [4, 5, 6, 0] rfl
            · refine lv_aload_n hx hb dX9_plans_125 rfl (lv_at hl 3 rfl) ?_
              refine m_get (v := .ref (o + 26)) hx hb hts hin9 hown hK hP 34 (by decide) hf85 rfl rfl dX9_plans_126 ?_
              refine lv_iload hx hb dX9_plans_129 (lv_at hl 2 rfl) ?_
              refine lv_iload hx hb dX9_plans_131 (lv_at hl 0 rfl) ?_
              refine m_iast_n hx hb hK hP hS 25 9331 rfl (by decide) rfl (by omega) dX9_plans_133 (fun H locs hP hS => ?_)
              have hP : gP E A n (GM E o c (va_up (va_up (va_up S 25 (plF S d (301 * (k2 + 1) + wq))) 25 (upd (plF S d (301 * (k2 + 1) + wq)) (301 * (k2 + 1) + wq) (plM S d k2 wq))) 25 (upd (upd (plF S d (301 * (k2 + 1) + wq)) (301 * (k2 + 1) + wq) (plM S d k2 wq)) (301 * (k2 + 1) + wq) ((plM S d k2 (wq - tn nd)) + (S 3 k2))))) H := hP
              refine lv_iinc (v := (nI wq) + 1) (lv' := [(3, .int ((nI wq) + 1)), (6, .int ((plM S d k2 (wq - tn nd)) + (S 3 k2))), (5, .int nd), (4, .int (nI (301 * (k2 + 1) + wq))), (0, .ref o), (1, .int d), (2, .int (nI (k2 + 1)))]) hx hb dX9_plans_134 hl (k := 6) rfl rfl (by decide) rfl (fun ls hl => ?_)
              refine lv_goto (tgt := 10) hx hb dX9_plans_137 (by decide) ?_
              try rw [bx_uu] at hP
              try rw [bx_uu] at hP
              try rw [fa_upd_twice] at hP
              have hval : plM S d k2 (wq - tn nd) + S 3 k2 = plM S d (k2 + 1) wq := by rw [e_nd]; exact (plM_eq3 (by rw [← e_nd]; exact fun q => q.elim b74 (fun q => absurd b80 (Int32.not_le.mpr q))) (by rw [← e_nd]; exact b122)).symm
              rw [hval, plF_s S d (by omega)] at hP
              have hP : gP E A n (GM E o c (va_up S 25 (plF S d (301 * (k2 + 1) + (wq + 1))))) H := hP
              refine ih2 (wq + 1) (by omega) (by omega) H locs ls hP hS ?_
              show lv_has ls 7 [(0, .ref o), (1, .int d), (2, .int (nI (k2 + 1))), (3, .int (nI (wq + 1)))]
              rw [← nI_1 wq]
              exact lv_sub hl [4, 5, 6, 0] rfl
          · refine lv_goto (tgt := 134) hx hb dX9_plans_83 (by decide) ?_
            refine lv_iinc (v := (nI wq) + 1) (lv' := [(3, .int ((nI wq) + 1)), (5, .int nd), (4, .int (nI (301 * (k2 + 1) + wq))), (0, .ref o), (1, .int d), (2, .int (nI (k2 + 1)))]) hx hb dX9_plans_134 hl (k := 5) rfl rfl (by decide) rfl (fun ls hl => ?_)
            refine lv_goto (tgt := 10) hx hb dX9_plans_137 (by decide) ?_
            try rw [bx_uu] at hP
            try rw [bx_uu] at hP
            try rw [fa_upd_twice] at hP
            have hval : plM S d k2 wq = plM S d (k2 + 1) wq := (plM_eq1 (Or.inr (by rw [← e_nd]; exact Int32.not_le.mp b80))).symm
            rw [hval, plF_s S d (by omega)] at hP
            have hP : gP E A n (GM E o c (va_up S 25 (plF S d (301 * (k2 + 1) + (wq + 1))))) H := hP
            refine ih2 (wq + 1) (by omega) (by omega) H locs ls hP hS ?_
            show lv_has ls 7 [(0, .ref o), (1, .int d), (2, .int (nI (k2 + 1))), (3, .int (nI (wq + 1)))]
            rw [← nI_1 wq]
            exact lv_sub hl [3, 4, 5, 0] rfl
      · obtain rfl : kq = 0 := (nI_eq (by omega) (by decide)).mp (b33.trans nI_0.symm)
        refine lv_iconst (v := 0) hx hb dX9_plans_36 (by decide) ?_
        refine lv_goto (tgt := 53) hx hb dX9_plans_37 (by decide) ?_
        refine m_iast_n hx hb hK hP hS 25 9331 rfl (by decide) rfl (by omega) dX9_plans_53 (fun H locs hP hS => ?_)
        have hP : gP E A n (GM E o c (va_up (va_up S 25 (plF S d (301 * 0 + wq))) 25 (upd (plF S d (301 * 0 + wq)) (301 * 0 + wq) 0))) H := hP
        refine lv_iload_n hx hb dX9_plans_54 rfl (lv_at hl 3 rfl) ?_
        refine lv_if_ne (tgt := 62) hx hb dX9_plans_55 (by decide) (fun b55 => absurd b33 b55) (fun _ => ?_)
        refine lv_iconst (v := 0) hx hb dX9_plans_58 (by decide) ?_
        refine lv_goto (tgt := 70) hx hb dX9_plans_59 (by decide) ?_
        refine lv_istore (lv' := [(5, .int 0), (4, .int (nI (301 * 0 + wq))), (0, .ref o), (1, .int d), (2, .int (nI 0)), (3, .int (nI wq))]) hx hb dX9_plans_70 hl (by decide) rfl (fun ls hl => ?_)
        refine lv_iload hx hb dX9_plans_72 (lv_at hl 0 rfl) ?_
        refine lv_if_eq (tgt := 134) hx hb dX9_plans_74 (by decide) (fun _ => ?_) (fun b74 => absurd rfl b74)
        refine lv_iinc (v := (nI wq) + 1) (lv' := [(3, .int ((nI wq) + 1)), (5, .int 0), (4, .int (nI (301 * 0 + wq))), (0, .ref o), (1, .int d), (2, .int (nI 0))]) hx hb dX9_plans_134 hl (k := 5) rfl rfl (by decide) rfl (fun ls hl => ?_)
        refine lv_goto (tgt := 10) hx hb dX9_plans_137 (by decide) ?_
        try rw [bx_uu] at hP
        try rw [bx_uu] at hP
        try rw [fa_upd_twice] at hP
        have hval : (0 : Int32) = plM S d 0 wq := rfl
        rw [hval, plF_s S d (by omega)] at hP
        have hP : gP E A n (GM E o c (va_up S 25 (plF S d (301 * 0 + (wq + 1))))) H := hP
        refine ih2 (wq + 1) (by omega) (by omega) H locs ls hP hS ?_
        show lv_has ls 7 [(0, .ref o), (1, .int d), (2, .int (nI 0)), (3, .int (nI (wq + 1)))]
        rw [← nI_1 wq]
        exact lv_sub hl [3, 4, 5, 0] rfl
set_option maxHeartbeats 1000000 in
set_option maxRecDepth 100000 in
theorem kX9_saved (l : Launch) (E : gT) (A : Nat → Prop) (n : Nat) (o : Nat) (c : Nat → Int32) (S : Nat → Nat → Int32) (a b : Int32) (hH : mH S) : gM l yX9_saved wsX9_saved ({ frames := 3, cells := 0, slots := 0, locals := 70 } : Room) E A n (GM E o c S) [.ref o, .int a, .int b] (gQi E A (fun r' n' G' => savR S a b = r' ∧ n = n' ∧ (GM E o c (savS S a b)) = G')) 0 0 := by
  refine g_entry (by decide) rfl (Nat.le_of_ble_eq_true rfl) ?_
  intro p e s m below meth c0 hx hb hr hlk hml hown hnm hts hK H locs ls hP hS hl
  have hin9 : ∀ wq ∈ u_ws RX9 TX9 35, wq ∈ wsX9_saved := by decide +kernel
  have hf85 := hts (.fieldLink RX9 85 "DikeHandsModel" "most" "[I") (by decide +kernel)
  have hl : lv_has ls 3 [(0, .ref o), (1, .int a), (2, .int b)] := hl
  refine lv_iload_n hx hb dX9_saved_0 rfl (lv_at hl 1 rfl) ?_
  refine lv_iload_n hx hb dX9_saved_1 rfl (lv_at hl 2 rfl) ?_
  refine g_ci (g_runS (As := [.int a, .int b]) (rest := []) ⟨hx, hb, hml, hown, hts⟩ hK hP (kX9_isPlan l E A n (GM E o c S) a b) (va_cwS 2 hts gX9_saved_X9_isPlan rfl rfl rfl (by decide +kernel) ⟨Nat.le_of_ble_eq_true rfl, Nat.le_of_ble_eq_true rfl⟩) rfl hl.1 rfl (Nat.le_of_ble_eq_true rfl) dX9_saved_2 ⟨Nat.le_of_ble_eq_true rfl, Nat.le_of_ble_eq_true rfl⟩) hS (fun r2 n' G' H locs hw hP hS => ?_)
  obtain ⟨rfl, rfl, rfl⟩ := hw
  refine g_ifne (tgt := 10) hx hb dX9_saved_5 (by decide) (fun b5 => ?_) (fun b5 => ?_)
  · refine lv_aload_n hx hb dX9_saved_10 rfl (lv_at hl 0 rfl) ?_
    refine lv_iload_n hx hb dX9_saved_11 rfl (lv_at hl 2 rfl) ?_
    have hb2 : inB b 0 3000 = true := by
      cases hq : inB b 0 3000
      · rw [hq] at b5; simp at b5
      · rfl
    have ha2 : inB a 0 300 = true := by
      cases hq : inB a 0 300
      · rw [hq] at b5; simp at b5
      · rfl
    refine g_cv (g_runV (As := [.int b]) (rest := []) ⟨hx, hb, hml, hown, hts⟩ hK hP (kX9_plans l E A n o c S b hH hb2) (cwV 1 hts gX9_saved_X9_plans rfl rfl rfl (by decide +kernel) ⟨Nat.le_of_ble_eq_true rfl, Nat.le_of_ble_eq_true rfl⟩) GM_o rfl rfl hl.1 rfl (Nat.le_of_ble_eq_true rfl) dX9_saved_12 ⟨Nat.le_of_ble_eq_true rfl, Nat.le_of_ble_eq_true rfl⟩) hS (fun n' G' H locs hw hP hS => ?_)
    obtain ⟨rfl, rfl⟩ := hw
    refine lv_aload_n hx hb dX9_saved_15 rfl (lv_at hl 0 rfl) ?_
    refine m_get (v := .ref (o + 26)) hx hb hts hin9 hown hK hP 34 (by decide) hf85 rfl rfl dX9_saved_16 ?_
    refine lv_sipush (v := 9030) hx hb dX9_saved_19 (by decide) ?_
    refine lv_iload_n hx hb dX9_saved_22 rfl (lv_at hl 1 rfl) ?_
    refine lv_iadd hx hb dX9_saved_23 ?_
    obtain ⟨ai, hai, rfl⟩ := vp_in_of (inB_vp (N := 301) ha2 (by decide)) (by decide)
    rw [show (9030 : Int32) + nI ai = nI (301 * 30 + ai) from by rw [show (9030 : Int32) = nI 9030 from rfl, nI_add]]
    refine m_iald_n hx hb hK hP 25 9331 rfl (by decide) rfl (by omega) dX9_saved_24 ?_
    refine W.eq (g2 := F0 m 25 ls [.int ((plF S b 9331) (301 * 30 + ai))]) rfl ?_
    rw [plF_in S b (by omega) (by omega)]
    refine g_reti hx hb hr hlk hP hS dX9_saved_25 ?_
    have hB : savB (nI ai) b = true := b5
    exact ⟨by rw [savR, if_pos hB, tn_nI (by omega)], rfl, by rw [savS, if_pos hB]⟩
  · refine lv_iconst (v := (-1)) hx hb dX9_saved_8 (by decide) ?_
    refine g_reti hx hb hr hlk hP hS dX9_saved_9 ?_
    have hB : ¬ savB a b = true := by rw [savB, b5]; decide
    exact ⟨by rw [savR, if_neg hB], rfl, by rw [savS, if_neg hB]⟩
set_option maxHeartbeats 1000000 in
set_option maxRecDepth 100000 in
theorem kX9_chosen (l : Launch) (E : gT) (A : Nat → Prop) (n : Nat) (o : Nat) (c : Nat → Int32) (S : Nat → Nat → Int32) (a b : Int32) (hH : mH S) : gM l yX9_chosen wsX9_chosen ({ frames := 3, cells := 0, slots := 0, locals := 70 } : Room) E A n (GM E o c S) [.ref o, .int a, .int b] (gQi E A (fun r' n' G' => choR S a b = r' ∧ n = n' ∧ (GM E o c (savS S a b)) = G')) 0 0 := by
  refine g_entry (by decide) rfl (Nat.le_of_ble_eq_true rfl) ?_
  intro p e s m below meth c0 hx hb hr hlk hml hown hnm hts hK H locs ls hP hS hl
  have hin9 : ∀ wq ∈ u_ws RX9 TX9 35, wq ∈ wsX9_chosen := by decide +kernel
  have hf85 := hts (.fieldLink RX9 85 "DikeHandsModel" "most" "[I") (by decide +kernel)
  have hl : lv_has ls 7 [(0, .ref o), (1, .int a), (2, .int b)] := hl
  refine lv_iload_n hx hb dX9_chosen_0 rfl (lv_at hl 1 rfl) ?_
  refine lv_iload_n hx hb dX9_chosen_1 rfl (lv_at hl 2 rfl) ?_
  refine g_ci (g_runS (As := [.int a, .int b]) (rest := []) ⟨hx, hb, hml, hown, hts⟩ hK hP (kX9_isPlan l E A n (GM E o c S) a b) (va_cwS 2 hts gX9_chosen_X9_isPlan rfl rfl rfl (by decide +kernel) ⟨Nat.le_of_ble_eq_true rfl, Nat.le_of_ble_eq_true rfl⟩) rfl hl.1 rfl (Nat.le_of_ble_eq_true rfl) dX9_chosen_2 ⟨Nat.le_of_ble_eq_true rfl, Nat.le_of_ble_eq_true rfl⟩) hS (fun r2 n' G' H locs hw hP hS => ?_)
  obtain ⟨rfl, rfl, rfl⟩ := hw
  refine g_ifne (tgt := 10) hx hb dX9_chosen_5 (by decide) (fun b5 => ?_) (fun b5 => ?_)
  · refine lv_aload_n hx hb dX9_chosen_10 rfl (lv_at hl 0 rfl) ?_
    refine lv_iload_n hx hb dX9_chosen_11 rfl (lv_at hl 2 rfl) ?_
    have hb2 : inB b 0 3000 = true := by
      cases hq : inB b 0 3000
      · rw [hq] at b5; simp at b5
      · rfl
    have ha2 : inB a 0 300 = true := by
      cases hq : inB a 0 300
      · rw [hq] at b5; simp at b5
      · rfl
    refine g_cv (g_runV (As := [.int b]) (rest := []) ⟨hx, hb, hml, hown, hts⟩ hK hP (kX9_plans l E A n o c S b hH hb2) (cwV 1 hts gX9_chosen_X9_plans rfl rfl rfl (by decide +kernel) ⟨Nat.le_of_ble_eq_true rfl, Nat.le_of_ble_eq_true rfl⟩) GM_o rfl rfl hl.1 rfl (Nat.le_of_ble_eq_true rfl) dX9_chosen_12 ⟨Nat.le_of_ble_eq_true rfl, Nat.le_of_ble_eq_true rfl⟩) hS (fun n' G' H locs hw hP hS => ?_)
    obtain ⟨rfl, rfl⟩ := hw
    obtain ⟨ai, hai, rfl⟩ := vp_in_of (inB_vp (N := 301) ha2 (by decide)) (by decide)
    refine lv_iconst (v := 0) hx hb dX9_chosen_15 (by decide) ?_
    refine lv_istore_n (lv' := [(3, .int 0), (0, .ref o), (1, .int (nI ai)), (2, .int b)]) hx hb dX9_chosen_16 rfl hl (by decide) rfl (fun ls hl => ?_)
    refine lv_iload_n hx hb dX9_chosen_17 rfl (lv_at hl 2 rfl) ?_
    refine lv_istore (lv' := [(4, .int (nI ai)), (3, .int 0), (0, .ref o), (1, .int (nI ai)), (2, .int b)]) hx hb dX9_chosen_18 hl (by decide) rfl (fun ls hl => ?_)
    refine lv_bipush (v := 30) hx hb dX9_chosen_20 (by decide) ?_
    refine lv_istore (lv' := [(5, .int 30), (4, .int (nI ai)), (3, .int 0), (0, .ref o), (1, .int (nI ai)), (2, .int b)]) hx hb dX9_chosen_22 hl (by decide) rfl (fun ls hl => ?_)
    refine g_loop (τ := Nat × Nat × Int32) (fun ⟨kq, wq, zq⟩ => kq ≤ 30 ∧ wq ≤ 300 ∧ chO S b 30 ai 0 = chO S b kq wq zq) (fun ⟨kq, wq, zq⟩ => kq) (fun ⟨kq, wq, zq⟩ => n) (fun ⟨kq, wq, zq⟩ => GM E o c (va_up S 25 (plF S b 9331))) (fun ⟨kq, wq, zq⟩ => 0) (fun ⟨kq, wq, zq⟩ => 0) (fun ⟨kq, wq, zq⟩ => [(0, .ref o), (1, .int (nI ai)), (2, .int b), (3, .int zq), (4, .int (nI wq)), (5, .int (nI kq))]) ?_ (30, ai, 0) (⟨by omega, by omega, rfl⟩) H locs ls hP hS (lv_sub hl [3, 4, 5, 2, 1, 0] rfl)
    intro t hI24 ih H locs ls hP hS hl
    obtain ⟨kq, wq, zq⟩ := t
    try dsimp only at hI24
    have hl : lv_has ls 7 [(0, .ref o), (1, .int (nI ai)), (2, .int b), (3, .int zq), (4, .int (nI wq)), (5, .int (nI kq))] := hl
    have hP : gP E A n (GM E o c (va_up S 25 (plF S b 9331))) H := hP
    refine lv_iload hx hb dX9_chosen_24 (lv_at hl 5 rfl) ?_
    refine lv_if_le (tgt := 95) hx hb dX9_chosen_26 (by decide) (fun b26 => ?_) (fun b26 => ?_)
    · have hk0 : kq = 0 := by
        have h1 := Int32.le_iff_toInt_le.mp b26
        rw [nI_toInt (by omega)] at h1
        have e0 : (0 : Int32).toInt = 0 := rfl
        omega
      refine lv_iload_n hx hb dX9_chosen_95 rfl (lv_at hl 3 rfl) ?_
      refine g_reti hx hb hr hlk hP hS dX9_chosen_96 ?_
      have hB : savB (nI ai) b = true := b5
      exact ⟨by rw [choR, if_pos hB, tn_nI (by omega), hI24.2.2, hk0, chO], rfl, by rw [savS, if_pos hB]⟩
    · have hk0 : kq ≠ 0 := fun q => b26 (by rw [q]; decide)
      obtain ⟨k2, rfl⟩ : ∃ j, kq = j + 1 := ⟨kq - 1, by omega⟩
      refine lv_sipush (v := 301) hx hb dX9_chosen_29 (by decide) ?_
      refine lv_iload hx hb dX9_chosen_32 (lv_at hl 5 rfl) ?_
      refine lv_imul hx hb dX9_chosen_34 ?_
      refine lv_iload hx hb dX9_chosen_35 (lv_at hl 4 rfl) ?_
      refine lv_iadd hx hb dX9_chosen_37 ?_
      rw [at301]
      refine lv_istore (lv' := [(6, .int (nI (301 * (k2 + 1) + wq))), (0, .ref o), (1, .int (nI ai)), (2, .int b), (3, .int zq), (4, .int (nI wq)), (5, .int (nI (k2 + 1)))]) hx hb dX9_chosen_38 hl (by decide) rfl (fun ls hl => ?_)
      refine lv_aload_n hx hb dX9_chosen_40 rfl (lv_at hl 1 rfl) ?_
      refine m_get (v := .ref (o + 26)) hx hb hts hin9 hown hK hP 34 (by decide) hf85 rfl rfl dX9_chosen_41 ?_
      refine lv_iload hx hb dX9_chosen_44 (lv_at hl 0 rfl) ?_
      refine m_iald_n hx hb hK hP 25 9331 rfl (by decide) rfl (by omega) dX9_chosen_46 ?_
      refine W.eq (g2 := F0 m 47 ls [.int ((plF S b 9331) (301 * (k2 + 1) + wq))]) rfl ?_
      rw [plF_in S b (by omega) (by omega)]
      refine lv_aload_n hx hb dX9_chosen_47 rfl (lv_at hl 1 rfl) ?_
      refine m_get (v := .ref (o + 26)) hx hb hts hin9 hown hK hP 34 (by decide) hf85 rfl rfl dX9_chosen_48 ?_
      refine lv_iload hx hb dX9_chosen_51 (lv_at hl 0 rfl) ?_
      refine lv_sipush (v := 300) hx hb dX9_chosen_53 (by decide) ?_
      refine lv_isub hx hb dX9_chosen_56 ?_
      refine lv_iconst (v := 1) hx hb dX9_chosen_57 (by decide) ?_
      refine lv_isub hx hb dX9_chosen_58 ?_
      rw [idx301]
      refine m_iald_n hx hb hK hP 25 9331 rfl (by decide) rfl (by omega) dX9_chosen_59 ?_
      refine W.eq (g2 := F0 m 60 ls [.int ((plF S b 9331) (301 * k2 + wq)), .int (plM S b (k2 + 1) wq)]) rfl ?_
      rw [plF_in S b (by omega) (by omega)]
      refine lv_icmp_ne (tgt := 66) hx hb dX9_chosen_60 (by decide) (fun b60 => ?_) (fun b60 => ?_)
      · refine lv_iload_n hx hb dX9_chosen_66 rfl (lv_at hl 4 rfl) ?_
        refine lv_iconst (v := 1) hx hb dX9_chosen_67 (by decide) ?_
        refine lv_iload hx hb dX9_chosen_68 (lv_at hl 6 rfl) ?_
        refine lv_iconst (v := 1) hx hb dX9_chosen_70 (by decide) ?_
        refine lv_isub hx hb dX9_chosen_71 ?_
        rw [nI_pred]
        refine lv_ishl hx hb dX9_chosen_72 ?_
        refine lv_ior hx hb dX9_chosen_73 ?_
        refine lv_istore_n (lv' := [(3, .int (zq ||| (1 <<< ((nI k2) &&& 31)))), (6, .int (nI (301 * (k2 + 1) + wq))), (0, .ref o), (1, .int (nI ai)), (2, .int b), (4, .int (nI wq)), (5, .int (nI (k2 + 1)))]) hx hb dX9_chosen_74 rfl hl (by decide) rfl (fun ls hl => ?_)
        refine lv_iload hx hb dX9_chosen_75 (lv_at hl 5 rfl) ?_
        refine lv_aload_n hx hb dX9_chosen_77 rfl (lv_at hl 2 rfl) ?_
        refine lv_iload hx hb dX9_chosen_78 (lv_at hl 6 rfl) ?_
        refine lv_iconst (v := 1) hx hb dX9_chosen_80 (by decide) ?_
        refine lv_isub hx hb dX9_chosen_81 ?_
        refine lv_iload_n hx hb dX9_chosen_82 rfl (lv_at hl 4 rfl) ?_
        rw [nI_pred]
        refine g_ci (g_runV (As := [.int (nI k2), .int b]) (rest := [.int (nI wq)]) ⟨hx, hb, hml, hown, hts⟩ hK hP (kX9_needs l E A n o c (va_up S 25 (plF S b 9331)) (nI k2) b (vp_in_nI (by omega) (by decide))) (cwV 2 hts gX9_chosen_X9_needs rfl rfl rfl (by decide +kernel) ⟨Nat.le_of_ble_eq_true rfl, Nat.le_of_ble_eq_true rfl⟩) GM_o rfl rfl hl.1 rfl (Nat.le_of_ble_eq_true rfl) dX9_chosen_83 ⟨Nat.le_of_ble_eq_true rfl, Nat.le_of_ble_eq_true rfl⟩) hS (fun r83 n' G' H locs hw hP hS => ?_)
        obtain ⟨rfl, rfl, rfl⟩ := hw
        rw [show needOf (va_up S 25 (plF S b 9331)) (nI k2) b = needOf S (nI k2) b from rfl]
        have hnd := needOf_rng hH hb2 (show k2 < 30 by omega)
        have hndw : tn (needOf S (nI k2) b) ≤ wq := lp_ge hnd.1 (by omega) (Int32.not_lt.mp (plM_ne b60))
        refine lv_isub hx hb dX9_chosen_86 ?_
        rw [idxsub0 hnd.1 hndw]
        refine lv_istore (lv' := [(4, .int (nI (wq - tn (needOf S (nI k2) b)))), (3, .int (zq ||| (1 <<< ((nI k2) &&& 31)))), (6, .int (nI (301 * (k2 + 1) + wq))), (0, .ref o), (1, .int (nI ai)), (2, .int b), (5, .int (nI (k2 + 1)))]) hx hb dX9_chosen_87 hl (by decide) rfl (fun ls hl => ?_)
        refine lv_iinc (v := (nI (k2 + 1)) + (-1)) (lv' := [(5, .int ((nI (k2 + 1)) + (-1))), (4, .int (nI (wq - tn (needOf S (nI k2) b)))), (3, .int (zq ||| (1 <<< ((nI k2) &&& 31)))), (6, .int (nI (301 * (k2 + 1) + wq))), (0, .ref o), (1, .int (nI ai)), (2, .int b)]) hx hb dX9_chosen_89 hl (k := 6) rfl rfl (by decide) rfl (fun ls hl => ?_)
        rw [pk_m1] at hl
        refine lv_goto (tgt := 24) hx hb dX9_chosen_92 (by decide) ?_
        have hch : chO S b (k2 + 1) wq zq = chO S b k2 (wq - tn (needOf S (nI k2) b)) (zq ||| ((1 : Int32) <<< (nI k2 &&& 31))) := by rw [chO, if_neg b60]
        refine ih (k2, wq - tn (needOf S (nI k2) b), zq ||| ((1 : Int32) <<< (nI k2 &&& 31))) (⟨by omega, by omega, hI24.2.2.trans hch⟩) (by show k2 < k2 + 1; omega) H locs ls hP hS ?_
        show lv_has ls 7 [(0, .ref o), (1, .int (nI ai)), (2, .int b), (3, .int (zq ||| ((1 : Int32) <<< (nI k2 &&& 31)))), (4, .int (nI (wq - tn (needOf S (nI k2) b)))), (5, .int (nI k2))]
        exact lv_sub hl [4, 5, 6, 2, 1, 0] rfl
      · refine lv_goto (tgt := 89) hx hb dX9_chosen_63 (by decide) ?_
        refine lv_iinc (v := (nI (k2 + 1)) + (-1)) (lv' := [(5, .int ((nI (k2 + 1)) + (-1))), (6, .int (nI (301 * (k2 + 1) + wq))), (0, .ref o), (1, .int (nI ai)), (2, .int b), (3, .int zq), (4, .int (nI wq))]) hx hb dX9_chosen_89 hl (k := 6) rfl rfl (by decide) rfl (fun ls hl => ?_)
        rw [pk_m1] at hl
        refine lv_goto (tgt := 24) hx hb dX9_chosen_92 (by decide) ?_
        have hch : chO S b (k2 + 1) wq zq = chO S b k2 wq zq := by rw [chO, if_pos b60]
        refine ih (k2, wq, zq) (⟨by omega, by omega, hI24.2.2.trans hch⟩) (by show k2 < k2 + 1; omega) H locs ls hP hS ?_
        show lv_has ls 7 [(0, .ref o), (1, .int (nI ai)), (2, .int b), (3, .int zq), (4, .int (nI wq)), (5, .int (nI k2))]
        exact lv_sub hl [2, 3, 4, 5, 6, 0] rfl
  · refine lv_iconst (v := (-1)) hx hb dX9_chosen_8 (by decide) ?_
    refine g_reti hx hb hr hlk hP hS dX9_chosen_9 ?_
    have hB : ¬ savB a b = true := by rw [savB, b5]; decide
    exact ⟨by rw [choR, if_neg hB], rfl, by rw [savS, if_neg hB]⟩
