def wrkB (c : Nat → Int32) (S : Nat → Nat → Int32) (h a k f : Int32) : Bool := hsB c h && hsB c f && inB a 0 29 && !decide (c 0 = 1040) && inB k 1 (yetOf c S f (c 0 / 52)) && (decide (h = f) || (decide (S 6 (tn h) = S 6 (tn f)) && (decide (S 22 (tn (21 * f + c 0 / 52)) = -1) || decide (S 22 (tn (21 * f + c 0 / 52)) = h))))
def wrk1 (c : Nat → Int32) (S : Nat → Nat → Int32) (h k f : Int32) : Nat → Nat → Int32 := if h = f then va_up S 18 (upd (S 18) (tn (21 * f + c 0 / 52)) (S 18 (tn (21 * f + c 0 / 52)) + k)) else va_up (va_up (va_up S 22 (upd (S 22) (tn (21 * f + c 0 / 52)) h)) 19 (upd (S 19) (tn (21 * f + c 0 / 52)) (S 19 (tn (21 * f + c 0 / 52)) + k))) 21 (upd (S 21) (tn (21 * h + c 0 / 52)) (S 21 (tn (21 * h + c 0 / 52)) + k))
def wrk2 (c : Nat → Int32) (S : Nat → Nat → Int32) (h k f : Int32) : Nat → Nat → Int32 := va_up (wrk1 c S h k f) 23 (upd (S 23) (tn (1040 * S 6 (tn h) + c 0)) (S 23 (tn (1040 * S 6 (tn h) + c 0)) + k))
def wrkS (c : Nat → Int32) (S : Nat → Nat → Int32) (h a k f : Int32) : Nat → Nat → Int32 := if wrkB c S h a k f then raiS (wrk2 c S h k f) a k else S
def wrkC (c : Nat → Int32) (S : Nat → Nat → Int32) (h a k f : Int32) : Nat → Int32 := if wrkB c S h a k f then va_up c 31 (c 31 + k) else c
def wrkR (c : Nat → Int32) (S : Nat → Nat → Int32) (h a k f : Int32) : Int32 := if wrkB c S h a k f then yetOf (va_up c 31 (c 31 + k)) (raiS (wrk2 c S h k f) a k) f (c 0 / 52) else -1
def buyB (c : Nat → Int32) (S : Nat → Nat → Int32) (h k : Int32) : Bool := hsB c h && !decide (c 0 = 1040) && inB k 1 (yetOf c S h (c 0 / 52))
def buyT (c : Nat → Int32) (S : Nat → Nat → Int32) (h k : Int32) : Nat → Nat → Int32 := va_up S 20 (upd (S 20) (tn (21 * h + c 0 / 52)) (S 20 (tn (21 * h + c 0 / 52)) + k))
def buyS (c : Nat → Int32) (S : Nat → Nat → Int32) (h k : Int32) : Nat → Nat → Int32 := if buyB c S h k then buyT c S h k else S
def buyX (c : Nat → Int32) (S : Nat → Nat → Int32) (h k : Int32) : Int32 := c 29 + k * coinOf (va_up c 32 (c 32 + k)) (buyT c S h k)
def buyC (c : Nat → Int32) (S : Nat → Nat → Int32) (h k : Int32) : Nat → Int32 := if buyB c S h k then va_up (va_up c 32 (c 32 + k)) 29 (buyX c S h k) else c
def buyR (c : Nat → Int32) (S : Nat → Nat → Int32) (h k : Int32) : Int32 := if buyB c S h k then buyX c S h k else -1
def hirB (c : Nat → Int32) (S : Nat → Nat → Int32) (a k : Int32) : Bool := inB a 0 29 && inB k 1 1000 && !decide (coinOf c S = 0) && decide (k * coinOf c S ≤ c 29)
def hirS (c : Nat → Int32) (S : Nat → Nat → Int32) (a k : Int32) : Nat → Nat → Int32 := if hirB c S a k then raiS S a k else S
def hirC (c : Nat → Int32) (S : Nat → Nat → Int32) (a k : Int32) : Nat → Int32 := if hirB c S a k then va_up (va_up c 29 (c 29 - k * coinOf c S)) 33 (c 33 + k) else c
def hirR (c : Nat → Int32) (S : Nat → Nat → Int32) (a k : Int32) : Int32 := if hirB c S a k then c 29 - k * coinOf c S else -1

set_option maxHeartbeats 4000000 in
set_option maxRecDepth 100000 in
theorem kX9_law (l : Launch) (E : gT) (A : Nat → Prop) (n : Nat) (o : Nat) (c : Nat → Int32) (S : Nat → Nat → Int32) (y w k : Int32) (hI : mI c S) : gM l yX9_law wsX9_law ({ frames := 1, cells := 0, slots := 0, locals := 22 } : Room) E A n (GM E o c S) [.ref o, .int y, .int w, .int k] (gQi E A (fun r' n' G' => lawR c y w k = r' ∧ n = n' ∧ (GM E o (lawC c y w k) (lawS c S y w k)) = G')) 0 0 := by
  refine g_entry (by decide) rfl (Nat.le_of_ble_eq_true rfl) ?_
  intro p e s m below meth c0 hx hb hr hlk hml hown hnm hts hK H locs ls hP hS hl
  have hin9 : ∀ w ∈ u_ws RX9 TX9 35, w ∈ wsX9_law := by decide +kernel
  have hf55 := hts (.fieldLink RX9 55 "DikeHandsModel" "lawYear" "[I") (by decide +kernel)
  have hf58 := hts (.fieldLink RX9 58 "DikeHandsModel" "lawWhat" "[I") (by decide +kernel)
  have hf61 := hts (.fieldLink RX9 61 "DikeHandsModel" "lawCoin" "[I") (by decide +kernel)
  have hf106 := hts (.fieldLink RX9 106 "DikeHandsModel" "laws" "I") (by decide +kernel)
  have hl : lv_has ls 4 [(0, .ref o), (1, .int y), (2, .int w), (3, .int k)] := hl
  refine lv_iload_n hx hb dX9_law_0 rfl (lv_at hl 1 rfl) ?_
  refine lv_iconst (v := 0) hx hb dX9_law_1 (by decide) ?_
  refine lv_bipush (v := 19) hx hb dX9_law_2 (by decide) ?_
  refine g_ci (g_runS (As := [.int y, .int 0, .int 19]) (rest := []) ⟨hx, hb, hml, hown, hts⟩ hK hP (kX9_in l E A n (GM E o c S) y 0 19) (va_cwS 3 hts gX9_law_X9_in rfl rfl rfl (by decide +kernel) ⟨Nat.le_of_ble_eq_true rfl, Nat.le_of_ble_eq_true rfl⟩) rfl hl.1 rfl (Nat.le_of_ble_eq_true rfl) dX9_law_4 ⟨Nat.le_of_ble_eq_true rfl, Nat.le_of_ble_eq_true rfl⟩) hS (fun r4 n' G' H locs hw hP hS => ?_)
  obtain ⟨rfl, rfl, rfl⟩ := hw
  refine g_ifeq (tgt := 54) hx hb dX9_law_7 (by decide) (fun b7 => ?_) (fun b7 => ?_)
  · refine lv_iconst (v := (-1)) hx hb dX9_law_54 (by decide) ?_
    refine g_reti hx hb hr hlk hP hS dX9_law_55 ?_
    exact ⟨by first | (simp [lawR, lawS, lawC, lawB, rem32, bx_uu, fa_upd_twice, b7]; done) | (exfalso; simp_all; done), rfl, by first | rfl | (first | (simp [lawR, lawS, lawC, lawB, rem32, bx_uu, fa_upd_twice, b7]; done) | (exfalso; simp_all; done))⟩
  · refine lv_iload_n hx hb dX9_law_10 rfl (lv_at hl 2 rfl) ?_
    refine lv_if_lt (tgt := 54) hx hb dX9_law_11 (by decide) (fun b11 => ?_) (fun b11 => ?_)
    · refine lv_iconst (v := (-1)) hx hb dX9_law_54 (by decide) ?_
      refine g_reti hx hb hr hlk hP hS dX9_law_55 ?_
      exact ⟨by first | (simp [lawR, lawS, lawC, lawB, rem32, bx_uu, fa_upd_twice, b7, b11, Int32.not_le.mpr b11]; done) | (exfalso; simp_all; done), rfl, by first | rfl | (first | (simp [lawR, lawS, lawC, lawB, rem32, bx_uu, fa_upd_twice, b7, b11, Int32.not_le.mpr b11]; done) | (exfalso; simp_all; done))⟩
    · refine lv_iload_n hx hb dX9_law_14 rfl (lv_at hl 2 rfl) ?_
      refine lv_sipush (v := 10000) hx hb dX9_law_15 (by decide) ?_
      refine lv_idiv hx hb dX9_law_18 (by decide) ?_
      refine lv_bipush (v := 9) hx hb dX9_law_19 (by decide) ?_
      refine lv_icmp_gt (tgt := 54) hx hb dX9_law_21 (by decide) (fun b21 => ?_) (fun b21 => ?_)
      · refine lv_iconst (v := (-1)) hx hb dX9_law_54 (by decide) ?_
        refine g_reti hx hb hr hlk hP hS dX9_law_55 ?_
        exact ⟨by first | (simp [lawR, lawS, lawC, lawB, rem32, bx_uu, fa_upd_twice, b7, b11, Int32.not_lt.mp b11, b21, Int32.not_le.mpr b21]; done) | (exfalso; simp_all; done), rfl, by first | rfl | (first | (simp [lawR, lawS, lawC, lawB, rem32, bx_uu, fa_upd_twice, b7, b11, Int32.not_lt.mp b11, b21, Int32.not_le.mpr b21]; done) | (exfalso; simp_all; done))⟩
      · refine lv_iload_n hx hb dX9_law_24 rfl (lv_at hl 2 rfl) ?_
        refine lv_sipush (v := 1000) hx hb dX9_law_25 (by decide) ?_
        refine lv_irem hx hb dX9_law_28 (by decide) ?_
        refine lv_sipush (v := 500) hx hb dX9_law_29 (by decide) ?_
        refine lv_icmp_gt (tgt := 54) hx hb dX9_law_32 (by decide) (fun b32 => ?_) (fun b32 => ?_)
        · refine lv_iconst (v := (-1)) hx hb dX9_law_54 (by decide) ?_
          refine g_reti hx hb hr hlk hP hS dX9_law_55 ?_
          exact ⟨by first | (simp [lawR, lawS, lawC, lawB, rem32, bx_uu, fa_upd_twice, b7, b11, Int32.not_lt.mp b11, b21, Int32.not_lt.mp b21, b32, Int32.not_le.mpr b32]; done) | (exfalso; simp_all; done), rfl, by first | rfl | (first | (simp [lawR, lawS, lawC, lawB, rem32, bx_uu, fa_upd_twice, b7, b11, Int32.not_lt.mp b11, b21, Int32.not_lt.mp b21, b32, Int32.not_le.mpr b32]; done) | (exfalso; simp_all; done))⟩
        · refine lv_iload_n hx hb dX9_law_35 rfl (lv_at hl 3 rfl) ?_
          refine lv_iconst (v := 0) hx hb dX9_law_36 (by decide) ?_
          refine lv_bipush (v := 100) hx hb dX9_law_37 (by decide) ?_
          refine g_ci (g_runS (As := [.int k, .int 0, .int 100]) (rest := []) ⟨hx, hb, hml, hown, hts⟩ hK hP (kX9_in l E A n (GM E o c S) k 0 100) (va_cwS 3 hts gX9_law_X9_in rfl rfl rfl (by decide +kernel) ⟨Nat.le_of_ble_eq_true rfl, Nat.le_of_ble_eq_true rfl⟩) rfl hl.1 rfl (Nat.le_of_ble_eq_true rfl) dX9_law_39 ⟨Nat.le_of_ble_eq_true rfl, Nat.le_of_ble_eq_true rfl⟩) hS (fun r39 n' G' H locs hw hP hS => ?_)
          obtain ⟨rfl, rfl, rfl⟩ := hw
          refine g_ifeq (tgt := 54) hx hb dX9_law_42 (by decide) (fun b42 => ?_) (fun b42 => ?_)
          · refine lv_iconst (v := (-1)) hx hb dX9_law_54 (by decide) ?_
            refine g_reti hx hb hr hlk hP hS dX9_law_55 ?_
            exact ⟨by first | (simp [lawR, lawS, lawC, lawB, rem32, bx_uu, fa_upd_twice, b7, b11, Int32.not_lt.mp b11, b21, Int32.not_lt.mp b21, b32, Int32.not_lt.mp b32, b42]; done) | (exfalso; simp_all; done), rfl, by first | rfl | (first | (simp [lawR, lawS, lawC, lawB, rem32, bx_uu, fa_upd_twice, b7, b11, Int32.not_lt.mp b11, b21, Int32.not_lt.mp b21, b32, Int32.not_lt.mp b32, b42]; done) | (exfalso; simp_all; done))⟩
          · refine lv_aload_n hx hb dX9_law_45 rfl (lv_at hl 0 rfl) ?_
            refine m_get (v := .int (c 18)) hx hb hts hin9 hown hK hP 18 (by decide) hf106 rfl rfl dX9_law_46 ?_
            refine lv_bipush (v := 40) hx hb dX9_law_49 (by decide) ?_
            refine lv_icmp_ne (tgt := 56) hx hb dX9_law_51 (by decide) (fun b51 => ?_) (fun b51 => ?_)
            · refine lv_aload_n hx hb dX9_law_56 rfl (lv_at hl 0 rfl) ?_
              refine m_get (v := .ref (o + 16)) hx hb hts hin9 hown hK hP 19 (by decide) hf55 rfl rfl dX9_law_57 ?_
              refine lv_aload_n hx hb dX9_law_60 rfl (lv_at hl 0 rfl) ?_
              refine m_get (v := .int (c 18)) hx hb hts hin9 hown hK hP 18 (by decide) hf106 rfl rfl dX9_law_61 ?_
              refine lv_iload_n hx hb dX9_law_64 rfl (lv_at hl 1 rfl) ?_
              refine m_iast hx hb hK hP hS 15 40 rfl (by decide) rfl (cnt_vp hI.2.2.2.1.1 hI.2.2.2.1.2 rfl b51) dX9_law_65 (fun H locs hP hS => ?_)
              have hP : gP E A n (GM E o c (va_up S 15 (upd (S 15) (tn (c 18)) y))) H := hP
              refine lv_aload_n hx hb dX9_law_66 rfl (lv_at hl 0 rfl) ?_
              refine m_get (v := .ref (o + 17)) hx hb hts hin9 hown hK hP 20 (by decide) hf58 rfl rfl dX9_law_67 ?_
              refine lv_aload_n hx hb dX9_law_70 rfl (lv_at hl 0 rfl) ?_
              refine m_get (v := .int (c 18)) hx hb hts hin9 hown hK hP 18 (by decide) hf106 rfl rfl dX9_law_71 ?_
              refine lv_iload_n hx hb dX9_law_74 rfl (lv_at hl 2 rfl) ?_
              refine m_iast hx hb hK hP hS 16 40 rfl (by decide) rfl (cnt_vp hI.2.2.2.1.1 hI.2.2.2.1.2 rfl b51) dX9_law_75 (fun H locs hP hS => ?_)
              have hP : gP E A n (GM E o c (va_up (va_up S 15 (upd (S 15) (tn (c 18)) y)) 16 (upd (S 16) (tn (c 18)) w))) H := hP
              refine lv_aload_n hx hb dX9_law_76 rfl (lv_at hl 0 rfl) ?_
              refine m_get (v := .ref (o + 18)) hx hb hts hin9 hown hK hP 21 (by decide) hf61 rfl rfl dX9_law_77 ?_
              refine lv_aload_n hx hb dX9_law_80 rfl (lv_at hl 0 rfl) ?_
              refine m_get (v := .int (c 18)) hx hb hts hin9 hown hK hP 18 (by decide) hf106 rfl rfl dX9_law_81 ?_
              refine lv_iload_n hx hb dX9_law_84 rfl (lv_at hl 3 rfl) ?_
              refine m_iast hx hb hK hP hS 17 40 rfl (by decide) rfl (cnt_vp hI.2.2.2.1.1 hI.2.2.2.1.2 rfl b51) dX9_law_85 (fun H locs hP hS => ?_)
              have hP : gP E A n (GM E o c (va_up (va_up (va_up S 15 (upd (S 15) (tn (c 18)) y)) 16 (upd (S 16) (tn (c 18)) w)) 17 (upd (S 17) (tn (c 18)) k))) H := hP
              refine lv_aload_n hx hb dX9_law_86 rfl (lv_at hl 0 rfl) ?_
              refine lv_dup hx hb dX9_law_87 rfl ?_
              refine m_get (v := .int (c 18)) hx hb hts hin9 hown hK hP 18 (by decide) hf106 rfl rfl dX9_law_88 ?_
              refine lv_iconst (v := 1) hx hb dX9_law_91 (by decide) ?_
              refine lv_iadd hx hb dX9_law_92 ?_
              refine m_put hx hb hts hin9 hown hK hP hS 18 (by decide) hf106 rfl rfl (by decide +kernel) rfl dX9_law_93 (fun H locs hP hS => ?_)
              have hP : gP E A n (GM E o (va_up c 18 ((c 18) + 1)) (va_up (va_up (va_up S 15 (upd (S 15) (tn (c 18)) y)) 16 (upd (S 16) (tn (c 18)) w)) 17 (upd (S 17) (tn (c 18)) k))) H := hP
              refine lv_aload_n hx hb dX9_law_96 rfl (lv_at hl 0 rfl) ?_
              refine m_get (v := .int ((c 18) + 1)) hx hb hts hin9 hown hK hP 18 (by decide) hf106 rfl rfl dX9_law_97 ?_
              refine g_reti hx hb hr hlk hP hS dX9_law_100 ?_
              exact ⟨by first | (simp [lawR, lawS, lawC, lawB, rem32, bx_uu, fa_upd_twice, b7, b11, Int32.not_lt.mp b11, b21, Int32.not_lt.mp b21, b32, Int32.not_lt.mp b32, b42, b51]; done) | (exfalso; simp_all; done), rfl, by first | rfl | (first | (simp [lawR, lawS, lawC, lawB, rem32, bx_uu, fa_upd_twice, b7, b11, Int32.not_lt.mp b11, b21, Int32.not_lt.mp b21, b32, Int32.not_lt.mp b32, b42, b51]; done) | (exfalso; simp_all; done))⟩
            · refine lv_iconst (v := (-1)) hx hb dX9_law_54 (by decide) ?_
              refine g_reti hx hb hr hlk hP hS dX9_law_55 ?_
              exact ⟨by first | (simp [lawR, lawS, lawC, lawB, rem32, bx_uu, fa_upd_twice, b7, b11, Int32.not_lt.mp b11, b21, Int32.not_lt.mp b21, b32, Int32.not_lt.mp b32, b42, b51]; done) | (exfalso; simp_all; done), rfl, by first | rfl | (first | (simp [lawR, lawS, lawC, lawB, rem32, bx_uu, fa_upd_twice, b7, b11, Int32.not_lt.mp b11, b21, Int32.not_lt.mp b21, b32, Int32.not_lt.mp b32, b42, b51]; done) | (exfalso; simp_all; done))⟩
set_option maxHeartbeats 4000000 in
set_option maxRecDepth 100000 in
theorem kX9_house (l : Launch) (E : gT) (A : Nat → Prop) (n : Nat) (o : Nat) (c : Nat → Int32) (S : Nat → Nat → Int32) (v a b : Int32) (hI : mI c S) : gM l yX9_house wsX9_house ({ frames := 2, cells := 0, slots := 0, locals := 42 } : Room) E A n (GM E o c S) [.ref o, .int v, .int a, .int b] (gQi E A (fun r' n' G' => houR c v a b = r' ∧ n = n' ∧ (GM E o (houC c v a b) (houS c S v a b)) = G')) 0 0 := by
  refine g_entry (by decide) rfl (Nat.le_of_ble_eq_true rfl) ?_
  intro p e s m below meth c0 hx hb hr hlk hml hown hnm hts hK H locs ls hP hS hl
  have hin9 : ∀ w ∈ u_ws RX9 TX9 35, w ∈ wsX9_house := by decide +kernel
  have hf28 := hts (.fieldLink RX9 28 "DikeHandsModel" "village" "[I") (by decide +kernel)
  have hf31 := hts (.fieldLink RX9 31 "DikeHandsModel" "came" "[I") (by decide +kernel)
  have hf34 := hts (.fieldLink RX9 34 "DikeHandsModel" "firstAcres" "[I") (by decide +kernel)
  have hf37 := hts (.fieldLink RX9 37 "DikeHandsModel" "firstHands" "[I") (by decide +kernel)
  have hf92 := hts (.fieldLink RX9 92 "DikeHandsModel" "houses" "I") (by decide +kernel)
  have hf96 := hts (.fieldLink RX9 96 "DikeHandsModel" "now" "I") (by decide +kernel)
  have hl : lv_has ls 4 [(0, .ref o), (1, .int v), (2, .int a), (3, .int b)] := hl
  refine lv_iload_n hx hb dX9_house_0 rfl (lv_at hl 1 rfl) ?_
  refine g_ci (g_runS (As := [.int v]) (rest := []) ⟨hx, hb, hml, hown, hts⟩ hK hP (kX9_isVillage l E A n (GM E o c S) v) (va_cwS 1 hts gX9_house_X9_isVillage rfl rfl rfl (by decide +kernel) ⟨Nat.le_of_ble_eq_true rfl, Nat.le_of_ble_eq_true rfl⟩) rfl hl.1 rfl (Nat.le_of_ble_eq_true rfl) dX9_house_1 ⟨Nat.le_of_ble_eq_true rfl, Nat.le_of_ble_eq_true rfl⟩) hS (fun r1 n' G' H locs hw hP hS => ?_)
  obtain ⟨rfl, rfl, rfl⟩ := hw
  refine g_ifeq (tgt := 37) hx hb dX9_house_4 (by decide) (fun b4 => ?_) (fun b4 => ?_)
  · refine lv_iconst (v := (-1)) hx hb dX9_house_37 (by decide) ?_
    refine g_reti hx hb hr hlk hP hS dX9_house_38 ?_
    exact ⟨by first | (simp [houR, houS, houC, houB, bx_uu, fa_upd_twice, b4]; done) | (exfalso; simp_all; done), rfl, by first | rfl | (first | (simp [houR, houS, houC, houB, bx_uu, fa_upd_twice, b4]; done) | (exfalso; simp_all; done))⟩
  · refine lv_iload_n hx hb dX9_house_7 rfl (lv_at hl 2 rfl) ?_
    refine lv_iconst (v := 0) hx hb dX9_house_8 (by decide) ?_
    refine lv_sipush (v := 500) hx hb dX9_house_9 (by decide) ?_
    refine g_ci (g_runS (As := [.int a, .int 0, .int 500]) (rest := []) ⟨hx, hb, hml, hown, hts⟩ hK hP (kX9_in l E A n (GM E o c S) a 0 500) (va_cwS 3 hts gX9_house_X9_in rfl rfl rfl (by decide +kernel) ⟨Nat.le_of_ble_eq_true rfl, Nat.le_of_ble_eq_true rfl⟩) rfl hl.1 rfl (Nat.le_of_ble_eq_true rfl) dX9_house_12 ⟨Nat.le_of_ble_eq_true rfl, Nat.le_of_ble_eq_true rfl⟩) hS (fun r12 n' G' H locs hw hP hS => ?_)
    obtain ⟨rfl, rfl, rfl⟩ := hw
    refine g_ifeq (tgt := 37) hx hb dX9_house_15 (by decide) (fun b15 => ?_) (fun b15 => ?_)
    · refine lv_iconst (v := (-1)) hx hb dX9_house_37 (by decide) ?_
      refine g_reti hx hb hr hlk hP hS dX9_house_38 ?_
      exact ⟨by first | (simp [houR, houS, houC, houB, bx_uu, fa_upd_twice, b4, b15]; done) | (exfalso; simp_all; done), rfl, by first | rfl | (first | (simp [houR, houS, houC, houB, bx_uu, fa_upd_twice, b4, b15]; done) | (exfalso; simp_all; done))⟩
    · refine lv_iload_n hx hb dX9_house_18 rfl (lv_at hl 3 rfl) ?_
      refine lv_iconst (v := 0) hx hb dX9_house_19 (by decide) ?_
      refine lv_bipush (v := 20) hx hb dX9_house_20 (by decide) ?_
      refine g_ci (g_runS (As := [.int b, .int 0, .int 20]) (rest := []) ⟨hx, hb, hml, hown, hts⟩ hK hP (kX9_in l E A n (GM E o c S) b 0 20) (va_cwS 3 hts gX9_house_X9_in rfl rfl rfl (by decide +kernel) ⟨Nat.le_of_ble_eq_true rfl, Nat.le_of_ble_eq_true rfl⟩) rfl hl.1 rfl (Nat.le_of_ble_eq_true rfl) dX9_house_22 ⟨Nat.le_of_ble_eq_true rfl, Nat.le_of_ble_eq_true rfl⟩) hS (fun r22 n' G' H locs hw hP hS => ?_)
      obtain ⟨rfl, rfl, rfl⟩ := hw
      refine g_ifeq (tgt := 37) hx hb dX9_house_25 (by decide) (fun b25 => ?_) (fun b25 => ?_)
      · refine lv_iconst (v := (-1)) hx hb dX9_house_37 (by decide) ?_
        refine g_reti hx hb hr hlk hP hS dX9_house_38 ?_
        exact ⟨by first | (simp [houR, houS, houC, houB, bx_uu, fa_upd_twice, b4, b15, b25]; done) | (exfalso; simp_all; done), rfl, by first | rfl | (first | (simp [houR, houS, houC, houB, bx_uu, fa_upd_twice, b4, b15, b25]; done) | (exfalso; simp_all; done))⟩
      · refine lv_aload_n hx hb dX9_house_28 rfl (lv_at hl 0 rfl) ?_
        refine m_get (v := .int (c 7)) hx hb hts hin9 hown hK hP 7 (by decide) hf92 rfl rfl dX9_house_29 ?_
        refine lv_bipush (v := 40) hx hb dX9_house_32 (by decide) ?_
        refine lv_icmp_ne (tgt := 39) hx hb dX9_house_34 (by decide) (fun b34 => ?_) (fun b34 => ?_)
        · refine lv_aload_n hx hb dX9_house_39 rfl (lv_at hl 0 rfl) ?_
          refine m_get (v := .ref (o + 7)) hx hb hts hin9 hown hK hP 8 (by decide) hf28 rfl rfl dX9_house_40 ?_
          refine lv_aload_n hx hb dX9_house_43 rfl (lv_at hl 0 rfl) ?_
          refine m_get (v := .int (c 7)) hx hb hts hin9 hown hK hP 7 (by decide) hf92 rfl rfl dX9_house_44 ?_
          refine lv_iload_n hx hb dX9_house_47 rfl (lv_at hl 1 rfl) ?_
          refine m_iast hx hb hK hP hS 6 40 rfl (by decide) rfl (cnt_vp hI.2.1.1 hI.2.1.2 rfl b34) dX9_house_48 (fun H locs hP hS => ?_)
          have hP : gP E A n (GM E o c (va_up S 6 (upd (S 6) (tn (c 7)) v))) H := hP
          refine lv_aload_n hx hb dX9_house_49 rfl (lv_at hl 0 rfl) ?_
          refine m_get (v := .ref (o + 8)) hx hb hts hin9 hown hK hP 9 (by decide) hf31 rfl rfl dX9_house_50 ?_
          refine lv_aload_n hx hb dX9_house_53 rfl (lv_at hl 0 rfl) ?_
          refine m_get (v := .int (c 7)) hx hb hts hin9 hown hK hP 7 (by decide) hf92 rfl rfl dX9_house_54 ?_
          refine lv_aload_n hx hb dX9_house_57 rfl (lv_at hl 0 rfl) ?_
          refine m_get (v := .int (c 0)) hx hb hts hin9 hown hK hP 0 (by decide) hf96 rfl rfl dX9_house_58 ?_
          refine m_iast hx hb hK hP hS 7 40 rfl (by decide) rfl (cnt_vp hI.2.1.1 hI.2.1.2 rfl b34) dX9_house_61 (fun H locs hP hS => ?_)
          have hP : gP E A n (GM E o c (va_up (va_up S 6 (upd (S 6) (tn (c 7)) v)) 7 (upd (S 7) (tn (c 7)) (c 0)))) H := hP
          refine lv_aload_n hx hb dX9_house_62 rfl (lv_at hl 0 rfl) ?_
          refine m_get (v := .ref (o + 9)) hx hb hts hin9 hown hK hP 10 (by decide) hf34 rfl rfl dX9_house_63 ?_
          refine lv_aload_n hx hb dX9_house_66 rfl (lv_at hl 0 rfl) ?_
          refine m_get (v := .int (c 7)) hx hb hts hin9 hown hK hP 7 (by decide) hf92 rfl rfl dX9_house_67 ?_
          refine lv_iload_n hx hb dX9_house_70 rfl (lv_at hl 2 rfl) ?_
          refine m_iast hx hb hK hP hS 8 40 rfl (by decide) rfl (cnt_vp hI.2.1.1 hI.2.1.2 rfl b34) dX9_house_71 (fun H locs hP hS => ?_)
          have hP : gP E A n (GM E o c (va_up (va_up (va_up S 6 (upd (S 6) (tn (c 7)) v)) 7 (upd (S 7) (tn (c 7)) (c 0))) 8 (upd (S 8) (tn (c 7)) a))) H := hP
          refine lv_aload_n hx hb dX9_house_72 rfl (lv_at hl 0 rfl) ?_
          refine m_get (v := .ref (o + 10)) hx hb hts hin9 hown hK hP 11 (by decide) hf37 rfl rfl dX9_house_73 ?_
          refine lv_aload_n hx hb dX9_house_76 rfl (lv_at hl 0 rfl) ?_
          refine m_get (v := .int (c 7)) hx hb hts hin9 hown hK hP 7 (by decide) hf92 rfl rfl dX9_house_77 ?_
          refine lv_iload_n hx hb dX9_house_80 rfl (lv_at hl 3 rfl) ?_
          refine m_iast hx hb hK hP hS 9 40 rfl (by decide) rfl (cnt_vp hI.2.1.1 hI.2.1.2 rfl b34) dX9_house_81 (fun H locs hP hS => ?_)
          have hP : gP E A n (GM E o c (va_up (va_up (va_up (va_up S 6 (upd (S 6) (tn (c 7)) v)) 7 (upd (S 7) (tn (c 7)) (c 0))) 8 (upd (S 8) (tn (c 7)) a)) 9 (upd (S 9) (tn (c 7)) b))) H := hP
          refine lv_aload_n hx hb dX9_house_82 rfl (lv_at hl 0 rfl) ?_
          refine lv_dup hx hb dX9_house_83 rfl ?_
          refine m_get (v := .int (c 7)) hx hb hts hin9 hown hK hP 7 (by decide) hf92 rfl rfl dX9_house_84 ?_
          refine lv_iconst (v := 1) hx hb dX9_house_87 (by decide) ?_
          refine lv_iadd hx hb dX9_house_88 ?_
          refine m_put hx hb hts hin9 hown hK hP hS 7 (by decide) hf92 rfl rfl (by decide +kernel) rfl dX9_house_89 (fun H locs hP hS => ?_)
          have hP : gP E A n (GM E o (va_up c 7 ((c 7) + 1)) (va_up (va_up (va_up (va_up S 6 (upd (S 6) (tn (c 7)) v)) 7 (upd (S 7) (tn (c 7)) (c 0))) 8 (upd (S 8) (tn (c 7)) a)) 9 (upd (S 9) (tn (c 7)) b))) H := hP
          refine lv_aload_n hx hb dX9_house_92 rfl (lv_at hl 0 rfl) ?_
          refine m_get (v := .int ((c 7) + 1)) hx hb hts hin9 hown hK hP 7 (by decide) hf92 rfl rfl dX9_house_93 ?_
          refine lv_iconst (v := 1) hx hb dX9_house_96 (by decide) ?_
          refine lv_isub hx hb dX9_house_97 ?_
          refine g_reti hx hb hr hlk hP hS dX9_house_98 ?_
          exact ⟨by first | (simp [houR, houS, houC, houB, bx_uu, fa_upd_twice, b4, b15, b25, b34]; done) | (exfalso; simp_all; done), rfl, by first | rfl | (first | (simp [houR, houS, houC, houB, bx_uu, fa_upd_twice, b4, b15, b25, b34]; done) | (exfalso; simp_all; done))⟩
        · refine lv_iconst (v := (-1)) hx hb dX9_house_37 (by decide) ?_
          refine g_reti hx hb hr hlk hP hS dX9_house_38 ?_
          exact ⟨by first | (simp [houR, houS, houC, houB, bx_uu, fa_upd_twice, b4, b15, b25, b34]; done) | (exfalso; simp_all; done), rfl, by first | rfl | (first | (simp [houR, houS, houC, houB, bx_uu, fa_upd_twice, b4, b15, b25, b34]; done) | (exfalso; simp_all; done))⟩
set_option maxHeartbeats 4000000 in
set_option maxRecDepth 100000 in
theorem kX9_change (l : Launch) (E : gT) (A : Nat → Prop) (n : Nat) (o : Nat) (c : Nat → Int32) (S : Nat → Nat → Int32) (h w a b : Int32) (hI : mI c S) : gM l yX9_change wsX9_change ({ frames := 2, cells := 0, slots := 0, locals := 43 } : Room) E A n (GM E o c S) [.ref o, .int h, .int w, .int a, .int b] (gQi E A (fun r' n' G' => gb (chgB c S h w a b) = r' ∧ n = n' ∧ (GM E o (chgC c S h w a b) (chgS c S h w a b)) = G')) 0 0 := by
  refine g_entry (by decide) rfl (Nat.le_of_ble_eq_true rfl) ?_
  intro p e s m below meth c0 hx hb hr hlk hml hown hnm hts hK H locs ls hP hS hl
  have hin9 : ∀ w ∈ u_ws RX9 TX9 35, w ∈ wsX9_change := by decide +kernel
  have hf31 := hts (.fieldLink RX9 31 "DikeHandsModel" "came" "[I") (by decide +kernel)
  have hf40 := hts (.fieldLink RX9 40 "DikeHandsModel" "changeOf" "[I") (by decide +kernel)
  have hf43 := hts (.fieldLink RX9 43 "DikeHandsModel" "trueFrom" "[I") (by decide +kernel)
  have hf46 := hts (.fieldLink RX9 46 "DikeHandsModel" "toldAt" "[I") (by decide +kernel)
  have hf49 := hts (.fieldLink RX9 49 "DikeHandsModel" "acresTo" "[I") (by decide +kernel)
  have hf52 := hts (.fieldLink RX9 52 "DikeHandsModel" "handsTo" "[I") (by decide +kernel)
  have hf96 := hts (.fieldLink RX9 96 "DikeHandsModel" "now" "I") (by decide +kernel)
  have hf116 := hts (.fieldLink RX9 116 "DikeHandsModel" "changes" "I") (by decide +kernel)
  have hl : lv_has ls 5 [(0, .ref o), (1, .int h), (2, .int w), (3, .int a), (4, .int b)] := hl
  refine lv_aload_n hx hb dX9_change_0 rfl (lv_at hl 0 rfl) ?_
  refine lv_iload_n hx hb dX9_change_1 rfl (lv_at hl 1 rfl) ?_
  refine g_ci (g_runV (As := [.int h]) (rest := []) ⟨hx, hb, hml, hown, hts⟩ hK hP (kX9_isHouse l E A n o c S h ) (cwV 1 hts gX9_change_X9_isHouse rfl rfl rfl (by decide +kernel) ⟨Nat.le_of_ble_eq_true rfl, Nat.le_of_ble_eq_true rfl⟩) GM_o rfl rfl hl.1 rfl (Nat.le_of_ble_eq_true rfl) dX9_change_2 ⟨Nat.le_of_ble_eq_true rfl, Nat.le_of_ble_eq_true rfl⟩) hS (fun r2 n' G' H locs hw hP hS => ?_)
  obtain ⟨rfl, rfl, rfl⟩ := hw
  refine g_ifeq (tgt := 57) hx hb dX9_change_5 (by decide) (fun b5 => ?_) (fun b5 => ?_)
  · refine lv_iconst (v := 0) hx hb dX9_change_57 (by decide) ?_
    refine g_retz hx hb hr hlk hP hS dX9_change_58 rfl ?_
    exact ⟨by first | (simp [chgS, chgC, chgB, gb, bx_uu, fa_upd_twice, b5]; done) | (exfalso; simp_all; done), rfl, by first | rfl | (first | (simp [chgS, chgC, chgB, gb, bx_uu, fa_upd_twice, b5]; done) | (exfalso; simp_all; done))⟩
  · refine lv_iload_n hx hb dX9_change_8 rfl (lv_at hl 2 rfl) ?_
    refine lv_aload_n hx hb dX9_change_9 rfl (lv_at hl 0 rfl) ?_
    refine m_get (v := .ref (o + 8)) hx hb hts hin9 hown hK hP 9 (by decide) hf31 rfl rfl dX9_change_10 ?_
    refine lv_iload_n hx hb dX9_change_13 rfl (lv_at hl 1 rfl) ?_
    refine m_iald hx hb hK hP 7 40 rfl (by decide) rfl (hsB_vp hI b5) dX9_change_14 ?_
    refine lv_aload_n hx hb dX9_change_15 rfl (lv_at hl 0 rfl) ?_
    refine m_get (v := .int (c 0)) hx hb hts hin9 hown hK hP 0 (by decide) hf96 rfl rfl dX9_change_16 ?_
    refine g_ci (g_runS (As := [.int w, .int (S 7 (tn h)), .int (c 0)]) (rest := []) ⟨hx, hb, hml, hown, hts⟩ hK hP (kX9_in l E A n (GM E o c S) w (S 7 (tn h)) (c 0)) (va_cwS 3 hts gX9_change_X9_in rfl rfl rfl (by decide +kernel) ⟨Nat.le_of_ble_eq_true rfl, Nat.le_of_ble_eq_true rfl⟩) rfl hl.1 rfl (Nat.le_of_ble_eq_true rfl) dX9_change_19 ⟨Nat.le_of_ble_eq_true rfl, Nat.le_of_ble_eq_true rfl⟩) hS (fun r19 n' G' H locs hw hP hS => ?_)
    obtain ⟨rfl, rfl, rfl⟩ := hw
    refine g_ifeq (tgt := 57) hx hb dX9_change_22 (by decide) (fun b22 => ?_) (fun b22 => ?_)
    · refine lv_iconst (v := 0) hx hb dX9_change_57 (by decide) ?_
      refine g_retz hx hb hr hlk hP hS dX9_change_58 rfl ?_
      exact ⟨by first | (simp [chgS, chgC, chgB, gb, bx_uu, fa_upd_twice, b5, b22]; done) | (exfalso; simp_all; done), rfl, by first | rfl | (first | (simp [chgS, chgC, chgB, gb, bx_uu, fa_upd_twice, b5, b22]; done) | (exfalso; simp_all; done))⟩
    · refine lv_iload_n hx hb dX9_change_25 rfl (lv_at hl 3 rfl) ?_
      refine lv_iconst (v := 0) hx hb dX9_change_26 (by decide) ?_
      refine lv_sipush (v := 500) hx hb dX9_change_27 (by decide) ?_
      refine g_ci (g_runS (As := [.int a, .int 0, .int 500]) (rest := []) ⟨hx, hb, hml, hown, hts⟩ hK hP (kX9_in l E A n (GM E o c S) a 0 500) (va_cwS 3 hts gX9_change_X9_in rfl rfl rfl (by decide +kernel) ⟨Nat.le_of_ble_eq_true rfl, Nat.le_of_ble_eq_true rfl⟩) rfl hl.1 rfl (Nat.le_of_ble_eq_true rfl) dX9_change_30 ⟨Nat.le_of_ble_eq_true rfl, Nat.le_of_ble_eq_true rfl⟩) hS (fun r30 n' G' H locs hw hP hS => ?_)
      obtain ⟨rfl, rfl, rfl⟩ := hw
      refine g_ifeq (tgt := 57) hx hb dX9_change_33 (by decide) (fun b33 => ?_) (fun b33 => ?_)
      · refine lv_iconst (v := 0) hx hb dX9_change_57 (by decide) ?_
        refine g_retz hx hb hr hlk hP hS dX9_change_58 rfl ?_
        exact ⟨by first | (simp [chgS, chgC, chgB, gb, bx_uu, fa_upd_twice, b5, b22, b33]; done) | (exfalso; simp_all; done), rfl, by first | rfl | (first | (simp [chgS, chgC, chgB, gb, bx_uu, fa_upd_twice, b5, b22, b33]; done) | (exfalso; simp_all; done))⟩
      · refine lv_iload hx hb dX9_change_36 (lv_at hl 4 rfl) ?_
        refine lv_iconst (v := 0) hx hb dX9_change_38 (by decide) ?_
        refine lv_bipush (v := 20) hx hb dX9_change_39 (by decide) ?_
        refine g_ci (g_runS (As := [.int b, .int 0, .int 20]) (rest := []) ⟨hx, hb, hml, hown, hts⟩ hK hP (kX9_in l E A n (GM E o c S) b 0 20) (va_cwS 3 hts gX9_change_X9_in rfl rfl rfl (by decide +kernel) ⟨Nat.le_of_ble_eq_true rfl, Nat.le_of_ble_eq_true rfl⟩) rfl hl.1 rfl (Nat.le_of_ble_eq_true rfl) dX9_change_41 ⟨Nat.le_of_ble_eq_true rfl, Nat.le_of_ble_eq_true rfl⟩) hS (fun r41 n' G' H locs hw hP hS => ?_)
        obtain ⟨rfl, rfl, rfl⟩ := hw
        refine g_ifeq (tgt := 57) hx hb dX9_change_44 (by decide) (fun b44 => ?_) (fun b44 => ?_)
        · refine lv_iconst (v := 0) hx hb dX9_change_57 (by decide) ?_
          refine g_retz hx hb hr hlk hP hS dX9_change_58 rfl ?_
          exact ⟨by first | (simp [chgS, chgC, chgB, gb, bx_uu, fa_upd_twice, b5, b22, b33, b44]; done) | (exfalso; simp_all; done), rfl, by first | rfl | (first | (simp [chgS, chgC, chgB, gb, bx_uu, fa_upd_twice, b5, b22, b33, b44]; done) | (exfalso; simp_all; done))⟩
        · refine lv_aload_n hx hb dX9_change_47 rfl (lv_at hl 0 rfl) ?_
          refine m_get (v := .int (c 12)) hx hb hts hin9 hown hK hP 12 (by decide) hf116 rfl rfl dX9_change_48 ?_
          refine lv_sipush (v := 200) hx hb dX9_change_51 (by decide) ?_
          refine lv_icmp_ne (tgt := 59) hx hb dX9_change_54 (by decide) (fun b54 => ?_) (fun b54 => ?_)
          · refine lv_aload_n hx hb dX9_change_59 rfl (lv_at hl 0 rfl) ?_
            refine m_get (v := .ref (o + 11)) hx hb hts hin9 hown hK hP 13 (by decide) hf40 rfl rfl dX9_change_60 ?_
            refine lv_aload_n hx hb dX9_change_63 rfl (lv_at hl 0 rfl) ?_
            refine m_get (v := .int (c 12)) hx hb hts hin9 hown hK hP 12 (by decide) hf116 rfl rfl dX9_change_64 ?_
            refine lv_iload_n hx hb dX9_change_67 rfl (lv_at hl 1 rfl) ?_
            refine m_iast hx hb hK hP hS 10 200 rfl (by decide) rfl (cnt_vp hI.2.2.1.1 hI.2.2.1.2 rfl b54) dX9_change_68 (fun H locs hP hS => ?_)
            have hP : gP E A n (GM E o c (va_up S 10 (upd (S 10) (tn (c 12)) h))) H := hP
            refine lv_aload_n hx hb dX9_change_69 rfl (lv_at hl 0 rfl) ?_
            refine m_get (v := .ref (o + 12)) hx hb hts hin9 hown hK hP 14 (by decide) hf43 rfl rfl dX9_change_70 ?_
            refine lv_aload_n hx hb dX9_change_73 rfl (lv_at hl 0 rfl) ?_
            refine m_get (v := .int (c 12)) hx hb hts hin9 hown hK hP 12 (by decide) hf116 rfl rfl dX9_change_74 ?_
            refine lv_iload_n hx hb dX9_change_77 rfl (lv_at hl 2 rfl) ?_
            refine m_iast hx hb hK hP hS 11 200 rfl (by decide) rfl (cnt_vp hI.2.2.1.1 hI.2.2.1.2 rfl b54) dX9_change_78 (fun H locs hP hS => ?_)
            have hP : gP E A n (GM E o c (va_up (va_up S 10 (upd (S 10) (tn (c 12)) h)) 11 (upd (S 11) (tn (c 12)) w))) H := hP
            refine lv_aload_n hx hb dX9_change_79 rfl (lv_at hl 0 rfl) ?_
            refine m_get (v := .ref (o + 13)) hx hb hts hin9 hown hK hP 15 (by decide) hf46 rfl rfl dX9_change_80 ?_
            refine lv_aload_n hx hb dX9_change_83 rfl (lv_at hl 0 rfl) ?_
            refine m_get (v := .int (c 12)) hx hb hts hin9 hown hK hP 12 (by decide) hf116 rfl rfl dX9_change_84 ?_
            refine lv_aload_n hx hb dX9_change_87 rfl (lv_at hl 0 rfl) ?_
            refine m_get (v := .int (c 0)) hx hb hts hin9 hown hK hP 0 (by decide) hf96 rfl rfl dX9_change_88 ?_
            refine m_iast hx hb hK hP hS 12 200 rfl (by decide) rfl (cnt_vp hI.2.2.1.1 hI.2.2.1.2 rfl b54) dX9_change_91 (fun H locs hP hS => ?_)
            have hP : gP E A n (GM E o c (va_up (va_up (va_up S 10 (upd (S 10) (tn (c 12)) h)) 11 (upd (S 11) (tn (c 12)) w)) 12 (upd (S 12) (tn (c 12)) (c 0)))) H := hP
            refine lv_aload_n hx hb dX9_change_92 rfl (lv_at hl 0 rfl) ?_
            refine m_get (v := .ref (o + 14)) hx hb hts hin9 hown hK hP 16 (by decide) hf49 rfl rfl dX9_change_93 ?_
            refine lv_aload_n hx hb dX9_change_96 rfl (lv_at hl 0 rfl) ?_
            refine m_get (v := .int (c 12)) hx hb hts hin9 hown hK hP 12 (by decide) hf116 rfl rfl dX9_change_97 ?_
            refine lv_iload_n hx hb dX9_change_100 rfl (lv_at hl 3 rfl) ?_
            refine m_iast hx hb hK hP hS 13 200 rfl (by decide) rfl (cnt_vp hI.2.2.1.1 hI.2.2.1.2 rfl b54) dX9_change_101 (fun H locs hP hS => ?_)
            have hP : gP E A n (GM E o c (va_up (va_up (va_up (va_up S 10 (upd (S 10) (tn (c 12)) h)) 11 (upd (S 11) (tn (c 12)) w)) 12 (upd (S 12) (tn (c 12)) (c 0))) 13 (upd (S 13) (tn (c 12)) a))) H := hP
            refine lv_aload_n hx hb dX9_change_102 rfl (lv_at hl 0 rfl) ?_
            refine m_get (v := .ref (o + 15)) hx hb hts hin9 hown hK hP 17 (by decide) hf52 rfl rfl dX9_change_103 ?_
            refine lv_aload_n hx hb dX9_change_106 rfl (lv_at hl 0 rfl) ?_
            refine m_get (v := .int (c 12)) hx hb hts hin9 hown hK hP 12 (by decide) hf116 rfl rfl dX9_change_107 ?_
            refine lv_iload hx hb dX9_change_110 (lv_at hl 4 rfl) ?_
            refine m_iast hx hb hK hP hS 14 200 rfl (by decide) rfl (cnt_vp hI.2.2.1.1 hI.2.2.1.2 rfl b54) dX9_change_112 (fun H locs hP hS => ?_)
            have hP : gP E A n (GM E o c (va_up (va_up (va_up (va_up (va_up S 10 (upd (S 10) (tn (c 12)) h)) 11 (upd (S 11) (tn (c 12)) w)) 12 (upd (S 12) (tn (c 12)) (c 0))) 13 (upd (S 13) (tn (c 12)) a)) 14 (upd (S 14) (tn (c 12)) b))) H := hP
            refine lv_aload_n hx hb dX9_change_113 rfl (lv_at hl 0 rfl) ?_
            refine lv_dup hx hb dX9_change_114 rfl ?_
            refine m_get (v := .int (c 12)) hx hb hts hin9 hown hK hP 12 (by decide) hf116 rfl rfl dX9_change_115 ?_
            refine lv_iconst (v := 1) hx hb dX9_change_118 (by decide) ?_
            refine lv_iadd hx hb dX9_change_119 ?_
            refine m_put hx hb hts hin9 hown hK hP hS 12 (by decide) hf116 rfl rfl (by decide +kernel) rfl dX9_change_120 (fun H locs hP hS => ?_)
            have hP : gP E A n (GM E o (va_up c 12 ((c 12) + 1)) (va_up (va_up (va_up (va_up (va_up S 10 (upd (S 10) (tn (c 12)) h)) 11 (upd (S 11) (tn (c 12)) w)) 12 (upd (S 12) (tn (c 12)) (c 0))) 13 (upd (S 13) (tn (c 12)) a)) 14 (upd (S 14) (tn (c 12)) b))) H := hP
            refine lv_iconst (v := 1) hx hb dX9_change_123 (by decide) ?_
            refine g_retz hx hb hr hlk hP hS dX9_change_124 rfl ?_
            exact ⟨by first | (simp [chgS, chgC, chgB, gb, bx_uu, fa_upd_twice, b5, b22, b33, b44, b54]; done) | (exfalso; simp_all; done), rfl, by first | rfl | (first | (simp [chgS, chgC, chgB, gb, bx_uu, fa_upd_twice, b5, b22, b33, b44, b54]; done) | (exfalso; simp_all; done))⟩
          · refine lv_iconst (v := 0) hx hb dX9_change_57 (by decide) ?_
            refine g_retz hx hb hr hlk hP hS dX9_change_58 rfl ?_
            exact ⟨by first | (simp [chgS, chgC, chgB, gb, bx_uu, fa_upd_twice, b5, b22, b33, b44, b54]; done) | (exfalso; simp_all; done), rfl, by first | rfl | (first | (simp [chgS, chgC, chgB, gb, bx_uu, fa_upd_twice, b5, b22, b33, b44, b54]; done) | (exfalso; simp_all; done))⟩
set_option maxHeartbeats 4000000 in
set_option maxRecDepth 100000 in
theorem kX9_work (l : Launch) (E : gT) (A : Nat → Prop) (n : Nat) (o : Nat) (c : Nat → Int32) (S : Nat → Nat → Int32) (h a k f : Int32) (hI : mI c S) : gM l yX9_work wsX9_work ({ frames := 3, cells := 0, slots := 0, locals := 73 } : Room) E A n (GM E o c S) [.ref o, .int h, .int a, .int k, .int f] (gQi E A (fun r' n' G' => wrkR c S h a k f = r' ∧ n = n' ∧ (GM E o (wrkC c S h a k f) (wrkS c S h a k f)) = G')) 0 0 := by
  refine g_entry (by decide) rfl (Nat.le_of_ble_eq_true rfl) ?_
  intro p e s m below meth c0 hx hb hr hlk hml hown hnm hts hK H locs ls hP hS hl
  have hin9 : ∀ w ∈ u_ws RX9 TX9 35, w ∈ wsX9_work := by decide +kernel
  have hf28 := hts (.fieldLink RX9 28 "DikeHandsModel" "village" "[I") (by decide +kernel)
  have hf64 := hts (.fieldLink RX9 64 "DikeHandsModel" "own" "[I") (by decide +kernel)
  have hf67 := hts (.fieldLink RX9 67 "DikeHandsModel" "others" "[I") (by decide +kernel)
  have hf73 := hts (.fieldLink RX9 73 "DikeHandsModel" "forOthers" "[I") (by decide +kernel)
  have hf76 := hts (.fieldLink RX9 76 "DikeHandsModel" "substitute" "[I") (by decide +kernel)
  have hf79 := hts (.fieldLink RX9 79 "DikeHandsModel" "did" "[I") (by decide +kernel)
  have hf96 := hts (.fieldLink RX9 96 "DikeHandsModel" "now" "I") (by decide +kernel)
  have hf143 := hts (.fieldLink RX9 143 "DikeHandsModel" "daysDone" "I") (by decide +kernel)
  have hl : lv_has ls 7 [(0, .ref o), (1, .int h), (2, .int a), (3, .int k), (4, .int f)] := hl
  refine lv_aload_n hx hb dX9_work_0 rfl (lv_at hl 0 rfl) ?_
  refine lv_iload_n hx hb dX9_work_1 rfl (lv_at hl 1 rfl) ?_
  refine g_ci (g_runV (As := [.int h]) (rest := []) ⟨hx, hb, hml, hown, hts⟩ hK hP (kX9_isHouse l E A n o c S h ) (cwV 1 hts gX9_work_X9_isHouse rfl rfl rfl (by decide +kernel) ⟨Nat.le_of_ble_eq_true rfl, Nat.le_of_ble_eq_true rfl⟩) GM_o rfl rfl hl.1 rfl (Nat.le_of_ble_eq_true rfl) dX9_work_2 ⟨Nat.le_of_ble_eq_true rfl, Nat.le_of_ble_eq_true rfl⟩) hS (fun r2 n' G' H locs hw hP hS => ?_)
  obtain ⟨rfl, rfl, rfl⟩ := hw
  refine g_ifeq (tgt := 34) hx hb dX9_work_5 (by decide) (fun b5 => ?_) (fun b5 => ?_)
  · refine lv_iconst (v := (-1)) hx hb dX9_work_34 (by decide) ?_
    refine g_reti hx hb hr hlk hP hS dX9_work_35 ?_
    exact ⟨by first | (simp [wrkR, wrkS, wrkC, wrkB, wrk1, wrk2, bx_uu, fa_upd_twice, b5]; done) | (exfalso; simp_all; done), rfl, by first | rfl | (first | (simp [wrkR, wrkS, wrkC, wrkB, wrk1, wrk2, bx_uu, fa_upd_twice, b5]; done) | (exfalso; simp_all; done))⟩
  · refine lv_aload_n hx hb dX9_work_8 rfl (lv_at hl 0 rfl) ?_
    refine lv_iload hx hb dX9_work_9 (lv_at hl 4 rfl) ?_
    refine g_ci (g_runV (As := [.int f]) (rest := []) ⟨hx, hb, hml, hown, hts⟩ hK hP (kX9_isHouse l E A n o c S f ) (cwV 1 hts gX9_work_X9_isHouse rfl rfl rfl (by decide +kernel) ⟨Nat.le_of_ble_eq_true rfl, Nat.le_of_ble_eq_true rfl⟩) GM_o rfl rfl hl.1 rfl (Nat.le_of_ble_eq_true rfl) dX9_work_11 ⟨Nat.le_of_ble_eq_true rfl, Nat.le_of_ble_eq_true rfl⟩) hS (fun r11 n' G' H locs hw hP hS => ?_)
    obtain ⟨rfl, rfl, rfl⟩ := hw
    refine g_ifeq (tgt := 34) hx hb dX9_work_14 (by decide) (fun b14 => ?_) (fun b14 => ?_)
    · refine lv_iconst (v := (-1)) hx hb dX9_work_34 (by decide) ?_
      refine g_reti hx hb hr hlk hP hS dX9_work_35 ?_
      exact ⟨by first | (simp [wrkR, wrkS, wrkC, wrkB, wrk1, wrk2, bx_uu, fa_upd_twice, b5, b14]; done) | (exfalso; simp_all; done), rfl, by first | rfl | (first | (simp [wrkR, wrkS, wrkC, wrkB, wrk1, wrk2, bx_uu, fa_upd_twice, b5, b14]; done) | (exfalso; simp_all; done))⟩
    · refine lv_iload_n hx hb dX9_work_17 rfl (lv_at hl 2 rfl) ?_
      refine g_ci (g_runS (As := [.int a]) (rest := []) ⟨hx, hb, hml, hown, hts⟩ hK hP (kX9_isRod l E A n (GM E o c S) a) (va_cwS 1 hts gX9_work_X9_isRod rfl rfl rfl (by decide +kernel) ⟨Nat.le_of_ble_eq_true rfl, Nat.le_of_ble_eq_true rfl⟩) rfl hl.1 rfl (Nat.le_of_ble_eq_true rfl) dX9_work_18 ⟨Nat.le_of_ble_eq_true rfl, Nat.le_of_ble_eq_true rfl⟩) hS (fun r18 n' G' H locs hw hP hS => ?_)
      obtain ⟨rfl, rfl, rfl⟩ := hw
      refine g_ifeq (tgt := 34) hx hb dX9_work_21 (by decide) (fun b21 => ?_) (fun b21 => ?_)
      · refine lv_iconst (v := (-1)) hx hb dX9_work_34 (by decide) ?_
        refine g_reti hx hb hr hlk hP hS dX9_work_35 ?_
        exact ⟨by first | (simp [wrkR, wrkS, wrkC, wrkB, wrk1, wrk2, bx_uu, fa_upd_twice, b5, b14, b21]; done) | (exfalso; simp_all; done), rfl, by first | rfl | (first | (simp [wrkR, wrkS, wrkC, wrkB, wrk1, wrk2, bx_uu, fa_upd_twice, b5, b14, b21]; done) | (exfalso; simp_all; done))⟩
      · refine lv_aload_n hx hb dX9_work_24 rfl (lv_at hl 0 rfl) ?_
        refine m_get (v := .int (c 0)) hx hb hts hin9 hown hK hP 0 (by decide) hf96 rfl rfl dX9_work_25 ?_
        refine lv_sipush (v := 1040) hx hb dX9_work_28 (by decide) ?_
        refine lv_icmp_ne (tgt := 36) hx hb dX9_work_31 (by decide) (fun b31 => ?_) (fun b31 => ?_)
        · refine lv_aload_n hx hb dX9_work_36 rfl (lv_at hl 0 rfl) ?_
          refine m_get (v := .int (c 0)) hx hb hts hin9 hown hK hP 0 (by decide) hf96 rfl rfl dX9_work_37 ?_
          refine lv_bipush (v := 52) hx hb dX9_work_40 (by decide) ?_
          refine lv_idiv hx hb dX9_work_42 (by decide) ?_
          refine lv_istore (lv' := [(5, .int ((c 0) / 52)), (0, .ref o), (1, .int h), (2, .int a), (3, .int k), (4, .int f)]) hx hb dX9_work_43 hl (by decide) rfl (fun ls hl => ?_)
          refine lv_bipush (v := 21) hx hb dX9_work_45 (by decide) ?_
          refine lv_iload hx hb dX9_work_47 (lv_at hl 5 rfl) ?_
          refine lv_imul hx hb dX9_work_49 ?_
          refine lv_iload hx hb dX9_work_50 (lv_at hl 0 rfl) ?_
          refine lv_iadd hx hb dX9_work_52 ?_
          refine lv_istore (lv' := [(6, .int ((21 * f) + ((c 0) / 52))), (5, .int ((c 0) / 52)), (0, .ref o), (1, .int h), (2, .int a), (3, .int k), (4, .int f)]) hx hb dX9_work_53 hl (by decide) rfl (fun ls hl => ?_)
          refine lv_iload_n hx hb dX9_work_55 rfl (lv_at hl 5 rfl) ?_
          refine lv_iconst (v := 1) hx hb dX9_work_56 (by decide) ?_
          refine lv_aload_n hx hb dX9_work_57 rfl (lv_at hl 2 rfl) ?_
          refine lv_iload hx hb dX9_work_58 (lv_at hl 6 rfl) ?_
          refine lv_iload hx hb dX9_work_60 (lv_at hl 1 rfl) ?_
          refine g_ci (g_runV (As := [.int f, .int ((c 0) / 52)]) (rest := [.int 1, .int k]) ⟨hx, hb, hml, hown, hts⟩ hK hP (kX9_yet l E A n o c S f ((c 0) / 52) hI (hsB_vp hI b14) (yn_vp hI)) (cwV 2 hts gX9_work_X9_yet rfl rfl rfl (by decide +kernel) ⟨Nat.le_of_ble_eq_true rfl, Nat.le_of_ble_eq_true rfl⟩) GM_o rfl rfl hl.1 rfl (Nat.le_of_ble_eq_true rfl) dX9_work_62 ⟨Nat.le_of_ble_eq_true rfl, Nat.le_of_ble_eq_true rfl⟩) hS (fun r62 n' G' H locs hw hP hS => ?_)
          obtain ⟨rfl, rfl, rfl⟩ := hw
          refine g_ci (g_runS (As := [.int k, .int 1, .int (yetOf c S f ((c 0) / 52))]) (rest := []) ⟨hx, hb, hml, hown, hts⟩ hK hP (kX9_in l E A n (GM E o c S) k 1 (yetOf c S f ((c 0) / 52))) (va_cwS 3 hts gX9_work_X9_in rfl rfl rfl (by decide +kernel) ⟨Nat.le_of_ble_eq_true rfl, Nat.le_of_ble_eq_true rfl⟩) rfl hl.1 rfl (Nat.le_of_ble_eq_true rfl) dX9_work_65 ⟨Nat.le_of_ble_eq_true rfl, Nat.le_of_ble_eq_true rfl⟩) hS (fun r65 n' G' H locs hw hP hS => ?_)
          obtain ⟨rfl, rfl, rfl⟩ := hw
          refine g_ifne (tgt := 73) hx hb dX9_work_68 (by decide) (fun b68 => ?_) (fun b68 => ?_)
          · refine lv_iload_n hx hb dX9_work_73 rfl (lv_at hl 3 rfl) ?_
            refine lv_iload hx hb dX9_work_74 (lv_at hl 6 rfl) ?_
            refine lv_icmp_eq (tgt := 157) hx hb dX9_work_76 (by decide) (fun b76 => ?_) (fun b76 => ?_)
            · refine lv_aload_n hx hb dX9_work_157 rfl (lv_at hl 2 rfl) ?_
              refine m_get (v := .ref (o + 19)) hx hb hts hin9 hown hK hP 22 (by decide) hf64 rfl rfl dX9_work_158 ?_
              refine lv_iload hx hb dX9_work_161 (lv_at hl 0 rfl) ?_
              refine lv_dup2_11 hx hb dX9_work_163 rfl rfl ?_
              refine m_iald hx hb hK hP 18 840 rfl (by decide) rfl (yk_vp (hsB_vp hI b14) (yn_vp hI)) dX9_work_164 ?_
              refine lv_iload_n hx hb dX9_work_165 rfl (lv_at hl 5 rfl) ?_
              refine lv_iadd hx hb dX9_work_166 ?_
              refine m_iast hx hb hK hP hS 18 840 rfl (by decide) rfl (yk_vp (hsB_vp hI b14) (yn_vp hI)) dX9_work_167 (fun H locs hP hS => ?_)
              have hP : gP E A n (GM E o c (va_up S 18 (upd (S 18) (tn ((21 * f) + ((c 0) / 52))) ((S 18 (tn ((21 * f) + ((c 0) / 52)))) + k)))) H := hP
              refine lv_aload_n hx hb dX9_work_168 rfl (lv_at hl 2 rfl) ?_
              refine m_get (v := .ref (o + 24)) hx hb hts hin9 hown hK hP 27 (by decide) hf79 rfl rfl dX9_work_169 ?_
              refine lv_sipush (v := 1040) hx hb dX9_work_172 (by decide) ?_
              refine lv_aload_n hx hb dX9_work_175 rfl (lv_at hl 2 rfl) ?_
              refine m_get (v := .ref (o + 7)) hx hb hts hin9 hown hK hP 8 (by decide) hf28 rfl rfl dX9_work_176 ?_
              refine lv_iload_n hx hb dX9_work_179 rfl (lv_at hl 3 rfl) ?_
              refine m_iald hx hb hK hP 6 40 rfl (by decide) rfl (hsB_vp hI b5) dX9_work_180 ?_
              refine lv_imul hx hb dX9_work_181 ?_
              refine lv_aload_n hx hb dX9_work_182 rfl (lv_at hl 2 rfl) ?_
              refine m_get (v := .int (c 0)) hx hb hts hin9 hown hK hP 0 (by decide) hf96 rfl rfl dX9_work_183 ?_
              refine lv_iadd hx hb dX9_work_186 ?_
              refine lv_dup2_11 hx hb dX9_work_187 rfl rfl ?_
              refine m_iald hx hb hK hP 23 8320 rfl (by decide) rfl (dd_vp hI (hsB_vp hI b5) b31) dX9_work_188 ?_
              refine lv_iload_n hx hb dX9_work_189 rfl (lv_at hl 5 rfl) ?_
              refine lv_iadd hx hb dX9_work_190 ?_
              refine m_iast hx hb hK hP hS 23 8320 rfl (by decide) rfl (dd_vp hI (hsB_vp hI b5) b31) dX9_work_191 (fun H locs hP hS => ?_)
              have hP : gP E A n (GM E o c (va_up (va_up S 18 (upd (S 18) (tn ((21 * f) + ((c 0) / 52))) ((S 18 (tn ((21 * f) + ((c 0) / 52)))) + k))) 23 (upd (S 23) (tn ((1040 * (S 6 (tn h))) + (c 0))) ((S 23 (tn ((1040 * (S 6 (tn h))) + (c 0)))) + k)))) H := hP
              refine lv_aload_n hx hb dX9_work_192 rfl (lv_at hl 2 rfl) ?_
              refine lv_dup hx hb dX9_work_193 rfl ?_
              refine m_get (v := .int (c 31)) hx hb hts hin9 hown hK hP 31 (by decide) hf143 rfl rfl dX9_work_194 ?_
              refine lv_iload_n hx hb dX9_work_197 rfl (lv_at hl 5 rfl) ?_
              refine lv_iadd hx hb dX9_work_198 ?_
              refine m_put hx hb hts hin9 hown hK hP hS 31 (by decide) hf143 rfl rfl (by decide +kernel) rfl dX9_work_199 (fun H locs hP hS => ?_)
              have hP : gP E A n (GM E o (va_up c 31 ((c 31) + k)) (va_up (va_up S 18 (upd (S 18) (tn ((21 * f) + ((c 0) / 52))) ((S 18 (tn ((21 * f) + ((c 0) / 52)))) + k))) 23 (upd (S 23) (tn ((1040 * (S 6 (tn h))) + (c 0))) ((S 23 (tn ((1040 * (S 6 (tn h))) + (c 0)))) + k)))) H := hP
              refine lv_aload_n hx hb dX9_work_202 rfl (lv_at hl 2 rfl) ?_
              refine lv_iload_n hx hb dX9_work_203 rfl (lv_at hl 4 rfl) ?_
              refine lv_iload_n hx hb dX9_work_204 rfl (lv_at hl 5 rfl) ?_
              refine g_cv (g_runV (As := [.int a, .int k]) (rest := []) ⟨hx, hb, hml, hown, hts⟩ hK hP (kX9_raises l E A n o (va_up c 31 ((c 31) + k)) (va_up (va_up S 18 (upd (S 18) (tn ((21 * f) + ((c 0) / 52))) ((S 18 (tn ((21 * f) + ((c 0) / 52)))) + k))) 23 (upd (S 23) (tn ((1040 * (S 6 (tn h))) + (c 0))) ((S 23 (tn ((1040 * (S 6 (tn h))) + (c 0)))) + k))) a k (inB_vp b21 (by decide))) (cwV 2 hts gX9_work_X9_raises rfl rfl rfl (by decide +kernel) ⟨Nat.le_of_ble_eq_true rfl, Nat.le_of_ble_eq_true rfl⟩) GM_o rfl rfl hl.1 rfl (Nat.le_of_ble_eq_true rfl) dX9_work_205 ⟨Nat.le_of_ble_eq_true rfl, Nat.le_of_ble_eq_true rfl⟩) hS (fun n' G' H locs hw hP hS => ?_)
              obtain ⟨rfl, rfl⟩ := hw
              refine lv_aload_n hx hb dX9_work_208 rfl (lv_at hl 2 rfl) ?_
              refine lv_iload hx hb dX9_work_209 (lv_at hl 6 rfl) ?_
              refine lv_iload hx hb dX9_work_211 (lv_at hl 1 rfl) ?_
              refine g_ci (g_runV (As := [.int f, .int ((c 0) / 52)]) (rest := []) ⟨hx, hb, hml, hown, hts⟩ hK hP (kX9_yet l E A n o (va_up c 31 ((c 31) + k)) (raiS (va_up (va_up S 18 (upd (S 18) (tn ((21 * f) + ((c 0) / 52))) ((S 18 (tn ((21 * f) + ((c 0) / 52)))) + k))) 23 (upd (S 23) (tn ((1040 * (S 6 (tn h))) + (c 0))) ((S 23 (tn ((1040 * (S 6 (tn h))) + (c 0)))) + k))) a k) f ((c 0) / 52) hI (hsB_vp hI b14) (yn_vp hI)) (cwV 2 hts gX9_work_X9_yet rfl rfl rfl (by decide +kernel) ⟨Nat.le_of_ble_eq_true rfl, Nat.le_of_ble_eq_true rfl⟩) GM_o rfl rfl hl.1 rfl (Nat.le_of_ble_eq_true rfl) dX9_work_213 ⟨Nat.le_of_ble_eq_true rfl, Nat.le_of_ble_eq_true rfl⟩) hS (fun r213 n' G' H locs hw hP hS => ?_)
              obtain ⟨rfl, rfl, rfl⟩ := hw
              refine g_reti hx hb hr hlk hP hS dX9_work_216 ?_
              exact ⟨by first | (simp [wrkR, wrkS, wrkC, wrkB, wrk1, wrk2, bx_uu, fa_upd_twice, b5, b14, b21, b31, b68, b76]; done) | (exfalso; simp_all; done), rfl, by first | rfl | (first | (simp [wrkR, wrkS, wrkC, wrkB, wrk1, wrk2, bx_uu, fa_upd_twice, b5, b14, b21, b31, b68, b76]; done) | (exfalso; simp_all; done))⟩
            · refine lv_aload_n hx hb dX9_work_79 rfl (lv_at hl 2 rfl) ?_
              refine m_get (v := .ref (o + 7)) hx hb hts hin9 hown hK hP 8 (by decide) hf28 rfl rfl dX9_work_80 ?_
              refine lv_iload_n hx hb dX9_work_83 rfl (lv_at hl 3 rfl) ?_
              refine m_iald hx hb hK hP 6 40 rfl (by decide) rfl (hsB_vp hI b5) dX9_work_84 ?_
              refine lv_aload_n hx hb dX9_work_85 rfl (lv_at hl 2 rfl) ?_
              refine m_get (v := .ref (o + 7)) hx hb hts hin9 hown hK hP 8 (by decide) hf28 rfl rfl dX9_work_86 ?_
              refine lv_iload hx hb dX9_work_89 (lv_at hl 6 rfl) ?_
              refine m_iald hx hb hK hP 6 40 rfl (by decide) rfl (hsB_vp hI b14) dX9_work_91 ?_
              refine lv_icmp_ne (tgt := 117) hx hb dX9_work_92 (by decide) (fun b92 => ?_) (fun b92 => ?_)
              · refine lv_iconst (v := (-1)) hx hb dX9_work_117 (by decide) ?_
                refine g_reti hx hb hr hlk hP hS dX9_work_118 ?_
                exact ⟨by first | (simp [wrkR, wrkS, wrkC, wrkB, wrk1, wrk2, bx_uu, fa_upd_twice, b5, b14, b21, b31, b68, b76, b92]; done) | (exfalso; simp_all; done), rfl, by first | rfl | (first | (simp [wrkR, wrkS, wrkC, wrkB, wrk1, wrk2, bx_uu, fa_upd_twice, b5, b14, b21, b31, b68, b76, b92]; done) | (exfalso; simp_all; done))⟩
              · refine lv_aload_n hx hb dX9_work_95 rfl (lv_at hl 2 rfl) ?_
                refine m_get (v := .ref (o + 23)) hx hb hts hin9 hown hK hP 26 (by decide) hf76 rfl rfl dX9_work_96 ?_
                refine lv_iload hx hb dX9_work_99 (lv_at hl 0 rfl) ?_
                refine m_iald hx hb hK hP 22 840 rfl (by decide) rfl (yk_vp (hsB_vp hI b14) (yn_vp hI)) dX9_work_101 ?_
                refine lv_iconst (v := (-1)) hx hb dX9_work_102 (by decide) ?_
                refine lv_icmp_eq (tgt := 119) hx hb dX9_work_103 (by decide) (fun b103 => ?_) (fun b103 => ?_)
                · refine lv_aload_n hx hb dX9_work_119 rfl (lv_at hl 2 rfl) ?_
                  refine m_get (v := .ref (o + 23)) hx hb hts hin9 hown hK hP 26 (by decide) hf76 rfl rfl dX9_work_120 ?_
                  refine lv_iload hx hb dX9_work_123 (lv_at hl 0 rfl) ?_
                  refine lv_iload_n hx hb dX9_work_125 rfl (lv_at hl 3 rfl) ?_
                  refine m_iast hx hb hK hP hS 22 840 rfl (by decide) rfl (yk_vp (hsB_vp hI b14) (yn_vp hI)) dX9_work_126 (fun H locs hP hS => ?_)
                  have hP : gP E A n (GM E o c (va_up S 22 (upd (S 22) (tn ((21 * f) + ((c 0) / 52))) h))) H := hP
                  refine lv_aload_n hx hb dX9_work_127 rfl (lv_at hl 2 rfl) ?_
                  refine m_get (v := .ref (o + 20)) hx hb hts hin9 hown hK hP 23 (by decide) hf67 rfl rfl dX9_work_128 ?_
                  refine lv_iload hx hb dX9_work_131 (lv_at hl 0 rfl) ?_
                  refine lv_dup2_11 hx hb dX9_work_133 rfl rfl ?_
                  refine m_iald hx hb hK hP 19 840 rfl (by decide) rfl (yk_vp (hsB_vp hI b14) (yn_vp hI)) dX9_work_134 ?_
                  refine lv_iload_n hx hb dX9_work_135 rfl (lv_at hl 5 rfl) ?_
                  refine lv_iadd hx hb dX9_work_136 ?_
                  refine m_iast hx hb hK hP hS 19 840 rfl (by decide) rfl (yk_vp (hsB_vp hI b14) (yn_vp hI)) dX9_work_137 (fun H locs hP hS => ?_)
                  have hP : gP E A n (GM E o c (va_up (va_up S 22 (upd (S 22) (tn ((21 * f) + ((c 0) / 52))) h)) 19 (upd (S 19) (tn ((21 * f) + ((c 0) / 52))) ((S 19 (tn ((21 * f) + ((c 0) / 52)))) + k)))) H := hP
                  refine lv_aload_n hx hb dX9_work_138 rfl (lv_at hl 2 rfl) ?_
                  refine m_get (v := .ref (o + 22)) hx hb hts hin9 hown hK hP 25 (by decide) hf73 rfl rfl dX9_work_139 ?_
                  refine lv_bipush (v := 21) hx hb dX9_work_142 (by decide) ?_
                  refine lv_iload_n hx hb dX9_work_144 rfl (lv_at hl 3 rfl) ?_
                  refine lv_imul hx hb dX9_work_145 ?_
                  refine lv_iload hx hb dX9_work_146 (lv_at hl 1 rfl) ?_
                  refine lv_iadd hx hb dX9_work_148 ?_
                  refine lv_dup2_11 hx hb dX9_work_149 rfl rfl ?_
                  refine m_iald hx hb hK hP 21 840 rfl (by decide) rfl (yk_vp (hsB_vp hI b5) (yn_vp hI)) dX9_work_150 ?_
                  refine lv_iload_n hx hb dX9_work_151 rfl (lv_at hl 5 rfl) ?_
                  refine lv_iadd hx hb dX9_work_152 ?_
                  refine m_iast hx hb hK hP hS 21 840 rfl (by decide) rfl (yk_vp (hsB_vp hI b5) (yn_vp hI)) dX9_work_153 (fun H locs hP hS => ?_)
                  have hP : gP E A n (GM E o c (va_up (va_up (va_up S 22 (upd (S 22) (tn ((21 * f) + ((c 0) / 52))) h)) 19 (upd (S 19) (tn ((21 * f) + ((c 0) / 52))) ((S 19 (tn ((21 * f) + ((c 0) / 52)))) + k))) 21 (upd (S 21) (tn ((21 * h) + ((c 0) / 52))) ((S 21 (tn ((21 * h) + ((c 0) / 52)))) + k)))) H := hP
                  refine lv_goto (tgt := 168) hx hb dX9_work_154 (by decide) ?_
                  refine lv_aload_n hx hb dX9_work_168 rfl (lv_at hl 2 rfl) ?_
                  refine m_get (v := .ref (o + 24)) hx hb hts hin9 hown hK hP 27 (by decide) hf79 rfl rfl dX9_work_169 ?_
                  refine lv_sipush (v := 1040) hx hb dX9_work_172 (by decide) ?_
                  refine lv_aload_n hx hb dX9_work_175 rfl (lv_at hl 2 rfl) ?_
                  refine m_get (v := .ref (o + 7)) hx hb hts hin9 hown hK hP 8 (by decide) hf28 rfl rfl dX9_work_176 ?_
                  refine lv_iload_n hx hb dX9_work_179 rfl (lv_at hl 3 rfl) ?_
                  refine m_iald hx hb hK hP 6 40 rfl (by decide) rfl (hsB_vp hI b5) dX9_work_180 ?_
                  refine lv_imul hx hb dX9_work_181 ?_
                  refine lv_aload_n hx hb dX9_work_182 rfl (lv_at hl 2 rfl) ?_
                  refine m_get (v := .int (c 0)) hx hb hts hin9 hown hK hP 0 (by decide) hf96 rfl rfl dX9_work_183 ?_
                  refine lv_iadd hx hb dX9_work_186 ?_
                  refine lv_dup2_11 hx hb dX9_work_187 rfl rfl ?_
                  refine m_iald hx hb hK hP 23 8320 rfl (by decide) rfl (dd_vp hI (hsB_vp hI b5) b31) dX9_work_188 ?_
                  refine lv_iload_n hx hb dX9_work_189 rfl (lv_at hl 5 rfl) ?_
                  refine lv_iadd hx hb dX9_work_190 ?_
                  refine m_iast hx hb hK hP hS 23 8320 rfl (by decide) rfl (dd_vp hI (hsB_vp hI b5) b31) dX9_work_191 (fun H locs hP hS => ?_)
                  have hP : gP E A n (GM E o c (va_up (va_up (va_up (va_up S 22 (upd (S 22) (tn ((21 * f) + ((c 0) / 52))) h)) 19 (upd (S 19) (tn ((21 * f) + ((c 0) / 52))) ((S 19 (tn ((21 * f) + ((c 0) / 52)))) + k))) 21 (upd (S 21) (tn ((21 * h) + ((c 0) / 52))) ((S 21 (tn ((21 * h) + ((c 0) / 52)))) + k))) 23 (upd (S 23) (tn ((1040 * (S 6 (tn h))) + (c 0))) ((S 23 (tn ((1040 * (S 6 (tn h))) + (c 0)))) + k)))) H := hP
                  refine lv_aload_n hx hb dX9_work_192 rfl (lv_at hl 2 rfl) ?_
                  refine lv_dup hx hb dX9_work_193 rfl ?_
                  refine m_get (v := .int (c 31)) hx hb hts hin9 hown hK hP 31 (by decide) hf143 rfl rfl dX9_work_194 ?_
                  refine lv_iload_n hx hb dX9_work_197 rfl (lv_at hl 5 rfl) ?_
                  refine lv_iadd hx hb dX9_work_198 ?_
                  refine m_put hx hb hts hin9 hown hK hP hS 31 (by decide) hf143 rfl rfl (by decide +kernel) rfl dX9_work_199 (fun H locs hP hS => ?_)
                  have hP : gP E A n (GM E o (va_up c 31 ((c 31) + k)) (va_up (va_up (va_up (va_up S 22 (upd (S 22) (tn ((21 * f) + ((c 0) / 52))) h)) 19 (upd (S 19) (tn ((21 * f) + ((c 0) / 52))) ((S 19 (tn ((21 * f) + ((c 0) / 52)))) + k))) 21 (upd (S 21) (tn ((21 * h) + ((c 0) / 52))) ((S 21 (tn ((21 * h) + ((c 0) / 52)))) + k))) 23 (upd (S 23) (tn ((1040 * (S 6 (tn h))) + (c 0))) ((S 23 (tn ((1040 * (S 6 (tn h))) + (c 0)))) + k)))) H := hP
                  refine lv_aload_n hx hb dX9_work_202 rfl (lv_at hl 2 rfl) ?_
                  refine lv_iload_n hx hb dX9_work_203 rfl (lv_at hl 4 rfl) ?_
                  refine lv_iload_n hx hb dX9_work_204 rfl (lv_at hl 5 rfl) ?_
                  refine g_cv (g_runV (As := [.int a, .int k]) (rest := []) ⟨hx, hb, hml, hown, hts⟩ hK hP (kX9_raises l E A n o (va_up c 31 ((c 31) + k)) (va_up (va_up (va_up (va_up S 22 (upd (S 22) (tn ((21 * f) + ((c 0) / 52))) h)) 19 (upd (S 19) (tn ((21 * f) + ((c 0) / 52))) ((S 19 (tn ((21 * f) + ((c 0) / 52)))) + k))) 21 (upd (S 21) (tn ((21 * h) + ((c 0) / 52))) ((S 21 (tn ((21 * h) + ((c 0) / 52)))) + k))) 23 (upd (S 23) (tn ((1040 * (S 6 (tn h))) + (c 0))) ((S 23 (tn ((1040 * (S 6 (tn h))) + (c 0)))) + k))) a k (inB_vp b21 (by decide))) (cwV 2 hts gX9_work_X9_raises rfl rfl rfl (by decide +kernel) ⟨Nat.le_of_ble_eq_true rfl, Nat.le_of_ble_eq_true rfl⟩) GM_o rfl rfl hl.1 rfl (Nat.le_of_ble_eq_true rfl) dX9_work_205 ⟨Nat.le_of_ble_eq_true rfl, Nat.le_of_ble_eq_true rfl⟩) hS (fun n' G' H locs hw hP hS => ?_)
                  obtain ⟨rfl, rfl⟩ := hw
                  refine lv_aload_n hx hb dX9_work_208 rfl (lv_at hl 2 rfl) ?_
                  refine lv_iload hx hb dX9_work_209 (lv_at hl 6 rfl) ?_
                  refine lv_iload hx hb dX9_work_211 (lv_at hl 1 rfl) ?_
                  refine g_ci (g_runV (As := [.int f, .int ((c 0) / 52)]) (rest := []) ⟨hx, hb, hml, hown, hts⟩ hK hP (kX9_yet l E A n o (va_up c 31 ((c 31) + k)) (raiS (va_up (va_up (va_up (va_up S 22 (upd (S 22) (tn ((21 * f) + ((c 0) / 52))) h)) 19 (upd (S 19) (tn ((21 * f) + ((c 0) / 52))) ((S 19 (tn ((21 * f) + ((c 0) / 52)))) + k))) 21 (upd (S 21) (tn ((21 * h) + ((c 0) / 52))) ((S 21 (tn ((21 * h) + ((c 0) / 52)))) + k))) 23 (upd (S 23) (tn ((1040 * (S 6 (tn h))) + (c 0))) ((S 23 (tn ((1040 * (S 6 (tn h))) + (c 0)))) + k))) a k) f ((c 0) / 52) hI (hsB_vp hI b14) (yn_vp hI)) (cwV 2 hts gX9_work_X9_yet rfl rfl rfl (by decide +kernel) ⟨Nat.le_of_ble_eq_true rfl, Nat.le_of_ble_eq_true rfl⟩) GM_o rfl rfl hl.1 rfl (Nat.le_of_ble_eq_true rfl) dX9_work_213 ⟨Nat.le_of_ble_eq_true rfl, Nat.le_of_ble_eq_true rfl⟩) hS (fun r213 n' G' H locs hw hP hS => ?_)
                  obtain ⟨rfl, rfl, rfl⟩ := hw
                  refine g_reti hx hb hr hlk hP hS dX9_work_216 ?_
                  exact ⟨by first | (simp [wrkR, wrkS, wrkC, wrkB, wrk1, wrk2, bx_uu, fa_upd_twice, b5, b14, b21, b31, b68, b76, b92, b103]; done) | (exfalso; simp_all; done), rfl, by first | rfl | (first | (simp [wrkR, wrkS, wrkC, wrkB, wrk1, wrk2, bx_uu, fa_upd_twice, b5, b14, b21, b31, b68, b76, b92, b103]; done) | (exfalso; simp_all; done))⟩
                · refine lv_aload_n hx hb dX9_work_106 rfl (lv_at hl 2 rfl) ?_
                  refine m_get (v := .ref (o + 23)) hx hb hts hin9 hown hK hP 26 (by decide) hf76 rfl rfl dX9_work_107 ?_
                  refine lv_iload hx hb dX9_work_110 (lv_at hl 0 rfl) ?_
                  refine m_iald hx hb hK hP 22 840 rfl (by decide) rfl (yk_vp (hsB_vp hI b14) (yn_vp hI)) dX9_work_112 ?_
                  refine lv_iload_n hx hb dX9_work_113 rfl (lv_at hl 3 rfl) ?_
                  refine lv_icmp_eq (tgt := 119) hx hb dX9_work_114 (by decide) (fun b114 => ?_) (fun b114 => ?_)
                  · refine lv_aload_n hx hb dX9_work_119 rfl (lv_at hl 2 rfl) ?_
                    refine m_get (v := .ref (o + 23)) hx hb hts hin9 hown hK hP 26 (by decide) hf76 rfl rfl dX9_work_120 ?_
                    refine lv_iload hx hb dX9_work_123 (lv_at hl 0 rfl) ?_
                    refine lv_iload_n hx hb dX9_work_125 rfl (lv_at hl 3 rfl) ?_
                    refine m_iast hx hb hK hP hS 22 840 rfl (by decide) rfl (yk_vp (hsB_vp hI b14) (yn_vp hI)) dX9_work_126 (fun H locs hP hS => ?_)
                    have hP : gP E A n (GM E o c (va_up S 22 (upd (S 22) (tn ((21 * f) + ((c 0) / 52))) h))) H := hP
                    refine lv_aload_n hx hb dX9_work_127 rfl (lv_at hl 2 rfl) ?_
                    refine m_get (v := .ref (o + 20)) hx hb hts hin9 hown hK hP 23 (by decide) hf67 rfl rfl dX9_work_128 ?_
                    refine lv_iload hx hb dX9_work_131 (lv_at hl 0 rfl) ?_
                    refine lv_dup2_11 hx hb dX9_work_133 rfl rfl ?_
                    refine m_iald hx hb hK hP 19 840 rfl (by decide) rfl (yk_vp (hsB_vp hI b14) (yn_vp hI)) dX9_work_134 ?_
                    refine lv_iload_n hx hb dX9_work_135 rfl (lv_at hl 5 rfl) ?_
                    refine lv_iadd hx hb dX9_work_136 ?_
                    refine m_iast hx hb hK hP hS 19 840 rfl (by decide) rfl (yk_vp (hsB_vp hI b14) (yn_vp hI)) dX9_work_137 (fun H locs hP hS => ?_)
                    have hP : gP E A n (GM E o c (va_up (va_up S 22 (upd (S 22) (tn ((21 * f) + ((c 0) / 52))) h)) 19 (upd (S 19) (tn ((21 * f) + ((c 0) / 52))) ((S 19 (tn ((21 * f) + ((c 0) / 52)))) + k)))) H := hP
                    refine lv_aload_n hx hb dX9_work_138 rfl (lv_at hl 2 rfl) ?_
                    refine m_get (v := .ref (o + 22)) hx hb hts hin9 hown hK hP 25 (by decide) hf73 rfl rfl dX9_work_139 ?_
                    refine lv_bipush (v := 21) hx hb dX9_work_142 (by decide) ?_
                    refine lv_iload_n hx hb dX9_work_144 rfl (lv_at hl 3 rfl) ?_
                    refine lv_imul hx hb dX9_work_145 ?_
                    refine lv_iload hx hb dX9_work_146 (lv_at hl 1 rfl) ?_
                    refine lv_iadd hx hb dX9_work_148 ?_
                    refine lv_dup2_11 hx hb dX9_work_149 rfl rfl ?_
                    refine m_iald hx hb hK hP 21 840 rfl (by decide) rfl (yk_vp (hsB_vp hI b5) (yn_vp hI)) dX9_work_150 ?_
                    refine lv_iload_n hx hb dX9_work_151 rfl (lv_at hl 5 rfl) ?_
                    refine lv_iadd hx hb dX9_work_152 ?_
                    refine m_iast hx hb hK hP hS 21 840 rfl (by decide) rfl (yk_vp (hsB_vp hI b5) (yn_vp hI)) dX9_work_153 (fun H locs hP hS => ?_)
                    have hP : gP E A n (GM E o c (va_up (va_up (va_up S 22 (upd (S 22) (tn ((21 * f) + ((c 0) / 52))) h)) 19 (upd (S 19) (tn ((21 * f) + ((c 0) / 52))) ((S 19 (tn ((21 * f) + ((c 0) / 52)))) + k))) 21 (upd (S 21) (tn ((21 * h) + ((c 0) / 52))) ((S 21 (tn ((21 * h) + ((c 0) / 52)))) + k)))) H := hP
                    refine lv_goto (tgt := 168) hx hb dX9_work_154 (by decide) ?_
                    refine lv_aload_n hx hb dX9_work_168 rfl (lv_at hl 2 rfl) ?_
                    refine m_get (v := .ref (o + 24)) hx hb hts hin9 hown hK hP 27 (by decide) hf79 rfl rfl dX9_work_169 ?_
                    refine lv_sipush (v := 1040) hx hb dX9_work_172 (by decide) ?_
                    refine lv_aload_n hx hb dX9_work_175 rfl (lv_at hl 2 rfl) ?_
                    refine m_get (v := .ref (o + 7)) hx hb hts hin9 hown hK hP 8 (by decide) hf28 rfl rfl dX9_work_176 ?_
                    refine lv_iload_n hx hb dX9_work_179 rfl (lv_at hl 3 rfl) ?_
                    refine m_iald hx hb hK hP 6 40 rfl (by decide) rfl (hsB_vp hI b5) dX9_work_180 ?_
                    refine lv_imul hx hb dX9_work_181 ?_
                    refine lv_aload_n hx hb dX9_work_182 rfl (lv_at hl 2 rfl) ?_
                    refine m_get (v := .int (c 0)) hx hb hts hin9 hown hK hP 0 (by decide) hf96 rfl rfl dX9_work_183 ?_
                    refine lv_iadd hx hb dX9_work_186 ?_
                    refine lv_dup2_11 hx hb dX9_work_187 rfl rfl ?_
                    refine m_iald hx hb hK hP 23 8320 rfl (by decide) rfl (dd_vp hI (hsB_vp hI b5) b31) dX9_work_188 ?_
                    refine lv_iload_n hx hb dX9_work_189 rfl (lv_at hl 5 rfl) ?_
                    refine lv_iadd hx hb dX9_work_190 ?_
                    refine m_iast hx hb hK hP hS 23 8320 rfl (by decide) rfl (dd_vp hI (hsB_vp hI b5) b31) dX9_work_191 (fun H locs hP hS => ?_)
                    have hP : gP E A n (GM E o c (va_up (va_up (va_up (va_up S 22 (upd (S 22) (tn ((21 * f) + ((c 0) / 52))) h)) 19 (upd (S 19) (tn ((21 * f) + ((c 0) / 52))) ((S 19 (tn ((21 * f) + ((c 0) / 52)))) + k))) 21 (upd (S 21) (tn ((21 * h) + ((c 0) / 52))) ((S 21 (tn ((21 * h) + ((c 0) / 52)))) + k))) 23 (upd (S 23) (tn ((1040 * (S 6 (tn h))) + (c 0))) ((S 23 (tn ((1040 * (S 6 (tn h))) + (c 0)))) + k)))) H := hP
                    refine lv_aload_n hx hb dX9_work_192 rfl (lv_at hl 2 rfl) ?_
                    refine lv_dup hx hb dX9_work_193 rfl ?_
                    refine m_get (v := .int (c 31)) hx hb hts hin9 hown hK hP 31 (by decide) hf143 rfl rfl dX9_work_194 ?_
                    refine lv_iload_n hx hb dX9_work_197 rfl (lv_at hl 5 rfl) ?_
                    refine lv_iadd hx hb dX9_work_198 ?_
                    refine m_put hx hb hts hin9 hown hK hP hS 31 (by decide) hf143 rfl rfl (by decide +kernel) rfl dX9_work_199 (fun H locs hP hS => ?_)
                    have hP : gP E A n (GM E o (va_up c 31 ((c 31) + k)) (va_up (va_up (va_up (va_up S 22 (upd (S 22) (tn ((21 * f) + ((c 0) / 52))) h)) 19 (upd (S 19) (tn ((21 * f) + ((c 0) / 52))) ((S 19 (tn ((21 * f) + ((c 0) / 52)))) + k))) 21 (upd (S 21) (tn ((21 * h) + ((c 0) / 52))) ((S 21 (tn ((21 * h) + ((c 0) / 52)))) + k))) 23 (upd (S 23) (tn ((1040 * (S 6 (tn h))) + (c 0))) ((S 23 (tn ((1040 * (S 6 (tn h))) + (c 0)))) + k)))) H := hP
                    refine lv_aload_n hx hb dX9_work_202 rfl (lv_at hl 2 rfl) ?_
                    refine lv_iload_n hx hb dX9_work_203 rfl (lv_at hl 4 rfl) ?_
                    refine lv_iload_n hx hb dX9_work_204 rfl (lv_at hl 5 rfl) ?_
                    refine g_cv (g_runV (As := [.int a, .int k]) (rest := []) ⟨hx, hb, hml, hown, hts⟩ hK hP (kX9_raises l E A n o (va_up c 31 ((c 31) + k)) (va_up (va_up (va_up (va_up S 22 (upd (S 22) (tn ((21 * f) + ((c 0) / 52))) h)) 19 (upd (S 19) (tn ((21 * f) + ((c 0) / 52))) ((S 19 (tn ((21 * f) + ((c 0) / 52)))) + k))) 21 (upd (S 21) (tn ((21 * h) + ((c 0) / 52))) ((S 21 (tn ((21 * h) + ((c 0) / 52)))) + k))) 23 (upd (S 23) (tn ((1040 * (S 6 (tn h))) + (c 0))) ((S 23 (tn ((1040 * (S 6 (tn h))) + (c 0)))) + k))) a k (inB_vp b21 (by decide))) (cwV 2 hts gX9_work_X9_raises rfl rfl rfl (by decide +kernel) ⟨Nat.le_of_ble_eq_true rfl, Nat.le_of_ble_eq_true rfl⟩) GM_o rfl rfl hl.1 rfl (Nat.le_of_ble_eq_true rfl) dX9_work_205 ⟨Nat.le_of_ble_eq_true rfl, Nat.le_of_ble_eq_true rfl⟩) hS (fun n' G' H locs hw hP hS => ?_)
                    obtain ⟨rfl, rfl⟩ := hw
                    refine lv_aload_n hx hb dX9_work_208 rfl (lv_at hl 2 rfl) ?_
                    refine lv_iload hx hb dX9_work_209 (lv_at hl 6 rfl) ?_
                    refine lv_iload hx hb dX9_work_211 (lv_at hl 1 rfl) ?_
                    refine g_ci (g_runV (As := [.int f, .int ((c 0) / 52)]) (rest := []) ⟨hx, hb, hml, hown, hts⟩ hK hP (kX9_yet l E A n o (va_up c 31 ((c 31) + k)) (raiS (va_up (va_up (va_up (va_up S 22 (upd (S 22) (tn ((21 * f) + ((c 0) / 52))) h)) 19 (upd (S 19) (tn ((21 * f) + ((c 0) / 52))) ((S 19 (tn ((21 * f) + ((c 0) / 52)))) + k))) 21 (upd (S 21) (tn ((21 * h) + ((c 0) / 52))) ((S 21 (tn ((21 * h) + ((c 0) / 52)))) + k))) 23 (upd (S 23) (tn ((1040 * (S 6 (tn h))) + (c 0))) ((S 23 (tn ((1040 * (S 6 (tn h))) + (c 0)))) + k))) a k) f ((c 0) / 52) hI (hsB_vp hI b14) (yn_vp hI)) (cwV 2 hts gX9_work_X9_yet rfl rfl rfl (by decide +kernel) ⟨Nat.le_of_ble_eq_true rfl, Nat.le_of_ble_eq_true rfl⟩) GM_o rfl rfl hl.1 rfl (Nat.le_of_ble_eq_true rfl) dX9_work_213 ⟨Nat.le_of_ble_eq_true rfl, Nat.le_of_ble_eq_true rfl⟩) hS (fun r213 n' G' H locs hw hP hS => ?_)
                    obtain ⟨rfl, rfl, rfl⟩ := hw
                    refine g_reti hx hb hr hlk hP hS dX9_work_216 ?_
                    exact ⟨by first | (simp [wrkR, wrkS, wrkC, wrkB, wrk1, wrk2, bx_uu, fa_upd_twice, b5, b14, b21, b31, b68, b76, b92, b103, b114]; done) | (exfalso; simp_all; done), rfl, by first | rfl | (first | (simp [wrkR, wrkS, wrkC, wrkB, wrk1, wrk2, bx_uu, fa_upd_twice, b5, b14, b21, b31, b68, b76, b92, b103, b114]; done) | (exfalso; simp_all; done))⟩
                  · refine lv_iconst (v := (-1)) hx hb dX9_work_117 (by decide) ?_
                    refine g_reti hx hb hr hlk hP hS dX9_work_118 ?_
                    exact ⟨by first | (simp [wrkR, wrkS, wrkC, wrkB, wrk1, wrk2, bx_uu, fa_upd_twice, b5, b14, b21, b31, b68, b76, b92, b103, b114]; done) | (exfalso; simp_all; done), rfl, by first | rfl | (first | (simp [wrkR, wrkS, wrkC, wrkB, wrk1, wrk2, bx_uu, fa_upd_twice, b5, b14, b21, b31, b68, b76, b92, b103, b114]; done) | (exfalso; simp_all; done))⟩
          · refine lv_iconst (v := (-1)) hx hb dX9_work_71 (by decide) ?_
            refine g_reti hx hb hr hlk hP hS dX9_work_72 ?_
            exact ⟨by first | (simp [wrkR, wrkS, wrkC, wrkB, wrk1, wrk2, bx_uu, fa_upd_twice, b5, b14, b21, b31, b68]; done) | (exfalso; simp_all; done), rfl, by first | rfl | (first | (simp [wrkR, wrkS, wrkC, wrkB, wrk1, wrk2, bx_uu, fa_upd_twice, b5, b14, b21, b31, b68]; done) | (exfalso; simp_all; done))⟩
        · refine lv_iconst (v := (-1)) hx hb dX9_work_34 (by decide) ?_
          refine g_reti hx hb hr hlk hP hS dX9_work_35 ?_
          exact ⟨by first | (simp [wrkR, wrkS, wrkC, wrkB, wrk1, wrk2, bx_uu, fa_upd_twice, b5, b14, b21, b31]; done) | (exfalso; simp_all; done), rfl, by first | rfl | (first | (simp [wrkR, wrkS, wrkC, wrkB, wrk1, wrk2, bx_uu, fa_upd_twice, b5, b14, b21, b31]; done) | (exfalso; simp_all; done))⟩
set_option maxHeartbeats 4000000 in
set_option maxRecDepth 100000 in
theorem kX9_buy (l : Launch) (E : gT) (A : Nat → Prop) (n : Nat) (o : Nat) (c : Nat → Int32) (S : Nat → Nat → Int32) (h k : Int32) (hI : mI c S) : gM l yX9_buy wsX9_buy ({ frames := 3, cells := 0, slots := 0, locals := 73 } : Room) E A n (GM E o c S) [.ref o, .int h, .int k] (gQi E A (fun r' n' G' => buyR c S h k = r' ∧ n = n' ∧ (GM E o (buyC c S h k) (buyS c S h k)) = G')) 0 0 := by
  refine g_entry (by decide) rfl (Nat.le_of_ble_eq_true rfl) ?_
  intro p e s m below meth c0 hx hb hr hlk hml hown hnm hts hK H locs ls hP hS hl
  have hin9 : ∀ w ∈ u_ws RX9 TX9 35, w ∈ wsX9_buy := by decide +kernel
  have hf70 := hts (.fieldLink RX9 70 "DikeHandsModel" "bought" "[I") (by decide +kernel)
  have hf96 := hts (.fieldLink RX9 96 "DikeHandsModel" "now" "I") (by decide +kernel)
  have hf150 := hts (.fieldLink RX9 150 "DikeHandsModel" "daysBought" "I") (by decide +kernel)
  have hf153 := hts (.fieldLink RX9 153 "DikeHandsModel" "chest" "I") (by decide +kernel)
  have hl : lv_has ls 3 [(0, .ref o), (1, .int h), (2, .int k)] := hl
  refine lv_aload_n hx hb dX9_buy_0 rfl (lv_at hl 0 rfl) ?_
  refine lv_iload_n hx hb dX9_buy_1 rfl (lv_at hl 1 rfl) ?_
  refine g_ci (g_runV (As := [.int h]) (rest := []) ⟨hx, hb, hml, hown, hts⟩ hK hP (kX9_isHouse l E A n o c S h ) (cwV 1 hts gX9_buy_X9_isHouse rfl rfl rfl (by decide +kernel) ⟨Nat.le_of_ble_eq_true rfl, Nat.le_of_ble_eq_true rfl⟩) GM_o rfl rfl hl.1 rfl (Nat.le_of_ble_eq_true rfl) dX9_buy_2 ⟨Nat.le_of_ble_eq_true rfl, Nat.le_of_ble_eq_true rfl⟩) hS (fun r2 n' G' H locs hw hP hS => ?_)
  obtain ⟨rfl, rfl, rfl⟩ := hw
  refine g_ifeq (tgt := 38) hx hb dX9_buy_5 (by decide) (fun b5 => ?_) (fun b5 => ?_)
  · refine lv_iconst (v := (-1)) hx hb dX9_buy_38 (by decide) ?_
    refine g_reti hx hb hr hlk hP hS dX9_buy_39 ?_
    exact ⟨by first | (simp [buyR, buyS, buyC, buyB, buyT, buyX, bx_uu, fa_upd_twice, b5]; done) | (exfalso; simp_all; done), rfl, by first | rfl | (first | (simp [buyR, buyS, buyC, buyB, buyT, buyX, bx_uu, fa_upd_twice, b5]; done) | (exfalso; simp_all; done))⟩
  · refine lv_aload_n hx hb dX9_buy_8 rfl (lv_at hl 0 rfl) ?_
    refine m_get (v := .int (c 0)) hx hb hts hin9 hown hK hP 0 (by decide) hf96 rfl rfl dX9_buy_9 ?_
    refine lv_sipush (v := 1040) hx hb dX9_buy_12 (by decide) ?_
    refine lv_icmp_eq (tgt := 38) hx hb dX9_buy_15 (by decide) (fun b15 => ?_) (fun b15 => ?_)
    · refine lv_iconst (v := (-1)) hx hb dX9_buy_38 (by decide) ?_
      refine g_reti hx hb hr hlk hP hS dX9_buy_39 ?_
      exact ⟨by first | (simp [buyR, buyS, buyC, buyB, buyT, buyX, bx_uu, fa_upd_twice, b5, b15]; done) | (exfalso; simp_all; done), rfl, by first | rfl | (first | (simp [buyR, buyS, buyC, buyB, buyT, buyX, bx_uu, fa_upd_twice, b5, b15]; done) | (exfalso; simp_all; done))⟩
    · refine lv_iload_n hx hb dX9_buy_18 rfl (lv_at hl 2 rfl) ?_
      refine lv_iconst (v := 1) hx hb dX9_buy_19 (by decide) ?_
      refine lv_aload_n hx hb dX9_buy_20 rfl (lv_at hl 0 rfl) ?_
      refine lv_iload_n hx hb dX9_buy_21 rfl (lv_at hl 1 rfl) ?_
      refine lv_aload_n hx hb dX9_buy_22 rfl (lv_at hl 0 rfl) ?_
      refine m_get (v := .int (c 0)) hx hb hts hin9 hown hK hP 0 (by decide) hf96 rfl rfl dX9_buy_23 ?_
      refine lv_bipush (v := 52) hx hb dX9_buy_26 (by decide) ?_
      refine lv_idiv hx hb dX9_buy_28 (by decide) ?_
      refine g_ci (g_runV (As := [.int h, .int ((c 0) / 52)]) (rest := [.int 1, .int k]) ⟨hx, hb, hml, hown, hts⟩ hK hP (kX9_yet l E A n o c S h ((c 0) / 52) hI (hsB_vp hI b5) (yn_vp hI)) (cwV 2 hts gX9_buy_X9_yet rfl rfl rfl (by decide +kernel) ⟨Nat.le_of_ble_eq_true rfl, Nat.le_of_ble_eq_true rfl⟩) GM_o rfl rfl hl.1 rfl (Nat.le_of_ble_eq_true rfl) dX9_buy_29 ⟨Nat.le_of_ble_eq_true rfl, Nat.le_of_ble_eq_true rfl⟩) hS (fun r29 n' G' H locs hw hP hS => ?_)
      obtain ⟨rfl, rfl, rfl⟩ := hw
      refine g_ci (g_runS (As := [.int k, .int 1, .int (yetOf c S h ((c 0) / 52))]) (rest := []) ⟨hx, hb, hml, hown, hts⟩ hK hP (kX9_in l E A n (GM E o c S) k 1 (yetOf c S h ((c 0) / 52))) (va_cwS 3 hts gX9_buy_X9_in rfl rfl rfl (by decide +kernel) ⟨Nat.le_of_ble_eq_true rfl, Nat.le_of_ble_eq_true rfl⟩) rfl hl.1 rfl (Nat.le_of_ble_eq_true rfl) dX9_buy_32 ⟨Nat.le_of_ble_eq_true rfl, Nat.le_of_ble_eq_true rfl⟩) hS (fun r32 n' G' H locs hw hP hS => ?_)
      obtain ⟨rfl, rfl, rfl⟩ := hw
      refine g_ifne (tgt := 40) hx hb dX9_buy_35 (by decide) (fun b35 => ?_) (fun b35 => ?_)
      · refine lv_aload_n hx hb dX9_buy_40 rfl (lv_at hl 0 rfl) ?_
        refine m_get (v := .ref (o + 21)) hx hb hts hin9 hown hK hP 24 (by decide) hf70 rfl rfl dX9_buy_41 ?_
        refine lv_bipush (v := 21) hx hb dX9_buy_44 (by decide) ?_
        refine lv_iload_n hx hb dX9_buy_46 rfl (lv_at hl 1 rfl) ?_
        refine lv_imul hx hb dX9_buy_47 ?_
        refine lv_aload_n hx hb dX9_buy_48 rfl (lv_at hl 0 rfl) ?_
        refine m_get (v := .int (c 0)) hx hb hts hin9 hown hK hP 0 (by decide) hf96 rfl rfl dX9_buy_49 ?_
        refine lv_bipush (v := 52) hx hb dX9_buy_52 (by decide) ?_
        refine lv_idiv hx hb dX9_buy_54 (by decide) ?_
        refine lv_iadd hx hb dX9_buy_55 ?_
        refine lv_dup2_11 hx hb dX9_buy_56 rfl rfl ?_
        refine m_iald hx hb hK hP 20 840 rfl (by decide) rfl (yk_vp (hsB_vp hI b5) (yn_vp hI)) dX9_buy_57 ?_
        refine lv_iload_n hx hb dX9_buy_58 rfl (lv_at hl 2 rfl) ?_
        refine lv_iadd hx hb dX9_buy_59 ?_
        refine m_iast hx hb hK hP hS 20 840 rfl (by decide) rfl (yk_vp (hsB_vp hI b5) (yn_vp hI)) dX9_buy_60 (fun H locs hP hS => ?_)
        have hP : gP E A n (GM E o c (va_up S 20 (upd (S 20) (tn ((21 * h) + ((c 0) / 52))) ((S 20 (tn ((21 * h) + ((c 0) / 52)))) + k)))) H := hP
        refine lv_aload_n hx hb dX9_buy_61 rfl (lv_at hl 0 rfl) ?_
        refine lv_dup hx hb dX9_buy_62 rfl ?_
        refine m_get (v := .int (c 32)) hx hb hts hin9 hown hK hP 32 (by decide) hf150 rfl rfl dX9_buy_63 ?_
        refine lv_iload_n hx hb dX9_buy_66 rfl (lv_at hl 2 rfl) ?_
        refine lv_iadd hx hb dX9_buy_67 ?_
        refine m_put hx hb hts hin9 hown hK hP hS 32 (by decide) hf150 rfl rfl (by decide +kernel) rfl dX9_buy_68 (fun H locs hP hS => ?_)
        have hP : gP E A n (GM E o (va_up c 32 ((c 32) + k)) (va_up S 20 (upd (S 20) (tn ((21 * h) + ((c 0) / 52))) ((S 20 (tn ((21 * h) + ((c 0) / 52)))) + k)))) H := hP
        refine lv_aload_n hx hb dX9_buy_71 rfl (lv_at hl 0 rfl) ?_
        refine lv_dup hx hb dX9_buy_72 rfl ?_
        refine m_get (v := .int (c 29)) hx hb hts hin9 hown hK hP 29 (by decide) hf153 rfl rfl dX9_buy_73 ?_
        refine lv_iload_n hx hb dX9_buy_76 rfl (lv_at hl 2 rfl) ?_
        refine lv_aload_n hx hb dX9_buy_77 rfl (lv_at hl 0 rfl) ?_
        refine g_ci (g_runV (As := []) (rest := [.int k, .int (c 29), .ref o]) ⟨hx, hb, hml, hown, hts⟩ hK hP (kX9_coinNow l E A n o (va_up c 32 ((c 32) + k)) (va_up S 20 (upd (S 20) (tn ((21 * h) + ((c 0) / 52))) ((S 20 (tn ((21 * h) + ((c 0) / 52)))) + k)))  hI) (cwV 0 hts gX9_buy_X9_coinNow rfl rfl rfl (by decide +kernel) ⟨Nat.le_of_ble_eq_true rfl, Nat.le_of_ble_eq_true rfl⟩) GM_o rfl rfl hl.1 rfl (Nat.le_of_ble_eq_true rfl) dX9_buy_78 ⟨Nat.le_of_ble_eq_true rfl, Nat.le_of_ble_eq_true rfl⟩) hS (fun r78 n' G' H locs hw hP hS => ?_)
        obtain ⟨rfl, rfl, rfl⟩ := hw
        refine lv_imul hx hb dX9_buy_81 ?_
        refine lv_iadd hx hb dX9_buy_82 ?_
        refine m_put hx hb hts hin9 hown hK hP hS 29 (by decide) hf153 rfl rfl (by decide +kernel) rfl dX9_buy_83 (fun H locs hP hS => ?_)
        have hP : gP E A n (GM E o (va_up (va_up c 32 ((c 32) + k)) 29 ((c 29) + (k * (coinOf (va_up c 32 ((c 32) + k)) (va_up S 20 (upd (S 20) (tn ((21 * h) + ((c 0) / 52))) ((S 20 (tn ((21 * h) + ((c 0) / 52)))) + k))))))) (va_up S 20 (upd (S 20) (tn ((21 * h) + ((c 0) / 52))) ((S 20 (tn ((21 * h) + ((c 0) / 52)))) + k)))) H := hP
        refine lv_aload_n hx hb dX9_buy_86 rfl (lv_at hl 0 rfl) ?_
        refine m_get (v := .int ((c 29) + (k * (coinOf (va_up c 32 ((c 32) + k)) (va_up S 20 (upd (S 20) (tn ((21 * h) + ((c 0) / 52))) ((S 20 (tn ((21 * h) + ((c 0) / 52)))) + k))))))) hx hb hts hin9 hown hK hP 29 (by decide) hf153 rfl rfl dX9_buy_87 ?_
        refine g_reti hx hb hr hlk hP hS dX9_buy_90 ?_
        exact ⟨by first | (simp [buyR, buyS, buyC, buyB, buyT, buyX, bx_uu, fa_upd_twice, b5, b15, b35]; done) | (exfalso; simp_all; done), rfl, by first | rfl | (first | (simp [buyR, buyS, buyC, buyB, buyT, buyX, bx_uu, fa_upd_twice, b5, b15, b35]; done) | (exfalso; simp_all; done))⟩
      · refine lv_iconst (v := (-1)) hx hb dX9_buy_38 (by decide) ?_
        refine g_reti hx hb hr hlk hP hS dX9_buy_39 ?_
        exact ⟨by first | (simp [buyR, buyS, buyC, buyB, buyT, buyX, bx_uu, fa_upd_twice, b5, b15, b35]; done) | (exfalso; simp_all; done), rfl, by first | rfl | (first | (simp [buyR, buyS, buyC, buyB, buyT, buyX, bx_uu, fa_upd_twice, b5, b15, b35]; done) | (exfalso; simp_all; done))⟩
set_option maxHeartbeats 4000000 in
set_option maxRecDepth 100000 in
theorem kX9_hire (l : Launch) (E : gT) (A : Nat → Prop) (n : Nat) (o : Nat) (c : Nat → Int32) (S : Nat → Nat → Int32) (a k : Int32) (hI : mI c S) : gM l yX9_hire wsX9_hire ({ frames := 2, cells := 0, slots := 0, locals := 44 } : Room) E A n (GM E o c S) [.ref o, .int a, .int k] (gQi E A (fun r' n' G' => hirR c S a k = r' ∧ n = n' ∧ (GM E o (hirC c S a k) (hirS c S a k)) = G')) 0 0 := by
  refine g_entry (by decide) rfl (Nat.le_of_ble_eq_true rfl) ?_
  intro p e s m below meth c0 hx hb hr hlk hml hown hnm hts hK H locs ls hP hS hl
  have hin9 : ∀ w ∈ u_ws RX9 TX9 35, w ∈ wsX9_hire := by decide +kernel
  have hf153 := hts (.fieldLink RX9 153 "DikeHandsModel" "chest" "I") (by decide +kernel)
  have hf160 := hts (.fieldLink RX9 160 "DikeHandsModel" "daysHired" "I") (by decide +kernel)
  have hl : lv_has ls 3 [(0, .ref o), (1, .int a), (2, .int k)] := hl
  refine lv_iload_n hx hb dX9_hire_0 rfl (lv_at hl 1 rfl) ?_
  refine g_ci (g_runS (As := [.int a]) (rest := []) ⟨hx, hb, hml, hown, hts⟩ hK hP (kX9_isRod l E A n (GM E o c S) a) (va_cwS 1 hts gX9_hire_X9_isRod rfl rfl rfl (by decide +kernel) ⟨Nat.le_of_ble_eq_true rfl, Nat.le_of_ble_eq_true rfl⟩) rfl hl.1 rfl (Nat.le_of_ble_eq_true rfl) dX9_hire_1 ⟨Nat.le_of_ble_eq_true rfl, Nat.le_of_ble_eq_true rfl⟩) hS (fun r1 n' G' H locs hw hP hS => ?_)
  obtain ⟨rfl, rfl, rfl⟩ := hw
  refine g_ifeq (tgt := 38) hx hb dX9_hire_4 (by decide) (fun b4 => ?_) (fun b4 => ?_)
  · refine lv_iconst (v := (-1)) hx hb dX9_hire_38 (by decide) ?_
    refine g_reti hx hb hr hlk hP hS dX9_hire_39 ?_
    exact ⟨by first | (simp [hirR, hirS, hirC, hirB, bx_uu, fa_upd_twice, b4]; done) | (exfalso; simp_all; done), rfl, by first | rfl | (first | (simp [hirR, hirS, hirC, hirB, bx_uu, fa_upd_twice, b4]; done) | (exfalso; simp_all; done))⟩
  · refine lv_iload_n hx hb dX9_hire_7 rfl (lv_at hl 2 rfl) ?_
    refine lv_iconst (v := 1) hx hb dX9_hire_8 (by decide) ?_
    refine lv_sipush (v := 1000) hx hb dX9_hire_9 (by decide) ?_
    refine g_ci (g_runS (As := [.int k, .int 1, .int 1000]) (rest := []) ⟨hx, hb, hml, hown, hts⟩ hK hP (kX9_in l E A n (GM E o c S) k 1 1000) (va_cwS 3 hts gX9_hire_X9_in rfl rfl rfl (by decide +kernel) ⟨Nat.le_of_ble_eq_true rfl, Nat.le_of_ble_eq_true rfl⟩) rfl hl.1 rfl (Nat.le_of_ble_eq_true rfl) dX9_hire_12 ⟨Nat.le_of_ble_eq_true rfl, Nat.le_of_ble_eq_true rfl⟩) hS (fun r12 n' G' H locs hw hP hS => ?_)
    obtain ⟨rfl, rfl, rfl⟩ := hw
    refine g_ifeq (tgt := 38) hx hb dX9_hire_15 (by decide) (fun b15 => ?_) (fun b15 => ?_)
    · refine lv_iconst (v := (-1)) hx hb dX9_hire_38 (by decide) ?_
      refine g_reti hx hb hr hlk hP hS dX9_hire_39 ?_
      exact ⟨by first | (simp [hirR, hirS, hirC, hirB, bx_uu, fa_upd_twice, b4, b15]; done) | (exfalso; simp_all; done), rfl, by first | rfl | (first | (simp [hirR, hirS, hirC, hirB, bx_uu, fa_upd_twice, b4, b15]; done) | (exfalso; simp_all; done))⟩
    · refine lv_aload_n hx hb dX9_hire_18 rfl (lv_at hl 0 rfl) ?_
      refine g_ci (g_runV (As := []) (rest := []) ⟨hx, hb, hml, hown, hts⟩ hK hP (kX9_coinNow l E A n o c S  hI) (cwV 0 hts gX9_hire_X9_coinNow rfl rfl rfl (by decide +kernel) ⟨Nat.le_of_ble_eq_true rfl, Nat.le_of_ble_eq_true rfl⟩) GM_o rfl rfl hl.1 rfl (Nat.le_of_ble_eq_true rfl) dX9_hire_19 ⟨Nat.le_of_ble_eq_true rfl, Nat.le_of_ble_eq_true rfl⟩) hS (fun r19 n' G' H locs hw hP hS => ?_)
      obtain ⟨rfl, rfl, rfl⟩ := hw
      refine lv_if_eq (tgt := 38) hx hb dX9_hire_22 (by decide) (fun b22 => ?_) (fun b22 => ?_)
      · refine lv_iconst (v := (-1)) hx hb dX9_hire_38 (by decide) ?_
        refine g_reti hx hb hr hlk hP hS dX9_hire_39 ?_
        exact ⟨by first | (simp [hirR, hirS, hirC, hirB, bx_uu, fa_upd_twice, b4, b15, b22]; done) | (exfalso; simp_all; done), rfl, by first | rfl | (first | (simp [hirR, hirS, hirC, hirB, bx_uu, fa_upd_twice, b4, b15, b22]; done) | (exfalso; simp_all; done))⟩
      · refine lv_iload_n hx hb dX9_hire_25 rfl (lv_at hl 2 rfl) ?_
        refine lv_aload_n hx hb dX9_hire_26 rfl (lv_at hl 0 rfl) ?_
        refine g_ci (g_runV (As := []) (rest := [.int k]) ⟨hx, hb, hml, hown, hts⟩ hK hP (kX9_coinNow l E A n o c S  hI) (cwV 0 hts gX9_hire_X9_coinNow rfl rfl rfl (by decide +kernel) ⟨Nat.le_of_ble_eq_true rfl, Nat.le_of_ble_eq_true rfl⟩) GM_o rfl rfl hl.1 rfl (Nat.le_of_ble_eq_true rfl) dX9_hire_27 ⟨Nat.le_of_ble_eq_true rfl, Nat.le_of_ble_eq_true rfl⟩) hS (fun r27 n' G' H locs hw hP hS => ?_)
        obtain ⟨rfl, rfl, rfl⟩ := hw
        refine lv_imul hx hb dX9_hire_30 ?_
        refine lv_aload_n hx hb dX9_hire_31 rfl (lv_at hl 0 rfl) ?_
        refine m_get (v := .int (c 29)) hx hb hts hin9 hown hK hP 29 (by decide) hf153 rfl rfl dX9_hire_32 ?_
        refine lv_icmp_le (tgt := 40) hx hb dX9_hire_35 (by decide) (fun b35 => ?_) (fun b35 => ?_)
        · refine lv_aload_n hx hb dX9_hire_40 rfl (lv_at hl 0 rfl) ?_
          refine lv_dup hx hb dX9_hire_41 rfl ?_
          refine m_get (v := .int (c 29)) hx hb hts hin9 hown hK hP 29 (by decide) hf153 rfl rfl dX9_hire_42 ?_
          refine lv_iload_n hx hb dX9_hire_45 rfl (lv_at hl 2 rfl) ?_
          refine lv_aload_n hx hb dX9_hire_46 rfl (lv_at hl 0 rfl) ?_
          refine g_ci (g_runV (As := []) (rest := [.int k, .int (c 29), .ref o]) ⟨hx, hb, hml, hown, hts⟩ hK hP (kX9_coinNow l E A n o c S  hI) (cwV 0 hts gX9_hire_X9_coinNow rfl rfl rfl (by decide +kernel) ⟨Nat.le_of_ble_eq_true rfl, Nat.le_of_ble_eq_true rfl⟩) GM_o rfl rfl hl.1 rfl (Nat.le_of_ble_eq_true rfl) dX9_hire_47 ⟨Nat.le_of_ble_eq_true rfl, Nat.le_of_ble_eq_true rfl⟩) hS (fun r47 n' G' H locs hw hP hS => ?_)
          obtain ⟨rfl, rfl, rfl⟩ := hw
          refine lv_imul hx hb dX9_hire_50 ?_
          refine lv_isub hx hb dX9_hire_51 ?_
          refine m_put hx hb hts hin9 hown hK hP hS 29 (by decide) hf153 rfl rfl (by decide +kernel) rfl dX9_hire_52 (fun H locs hP hS => ?_)
          have hP : gP E A n (GM E o (va_up c 29 ((c 29) - (k * (coinOf c S)))) S) H := hP
          refine lv_aload_n hx hb dX9_hire_55 rfl (lv_at hl 0 rfl) ?_
          refine lv_dup hx hb dX9_hire_56 rfl ?_
          refine m_get (v := .int (c 33)) hx hb hts hin9 hown hK hP 33 (by decide) hf160 rfl rfl dX9_hire_57 ?_
          refine lv_iload_n hx hb dX9_hire_60 rfl (lv_at hl 2 rfl) ?_
          refine lv_iadd hx hb dX9_hire_61 ?_
          refine m_put hx hb hts hin9 hown hK hP hS 33 (by decide) hf160 rfl rfl (by decide +kernel) rfl dX9_hire_62 (fun H locs hP hS => ?_)
          have hP : gP E A n (GM E o (va_up (va_up c 29 ((c 29) - (k * (coinOf c S)))) 33 ((c 33) + k)) S) H := hP
          refine lv_aload_n hx hb dX9_hire_65 rfl (lv_at hl 0 rfl) ?_
          refine lv_iload_n hx hb dX9_hire_66 rfl (lv_at hl 1 rfl) ?_
          refine lv_iload_n hx hb dX9_hire_67 rfl (lv_at hl 2 rfl) ?_
          refine g_cv (g_runV (As := [.int a, .int k]) (rest := []) ⟨hx, hb, hml, hown, hts⟩ hK hP (kX9_raises l E A n o (va_up (va_up c 29 ((c 29) - (k * (coinOf c S)))) 33 ((c 33) + k)) S a k (inB_vp b4 (by decide))) (cwV 2 hts gX9_hire_X9_raises rfl rfl rfl (by decide +kernel) ⟨Nat.le_of_ble_eq_true rfl, Nat.le_of_ble_eq_true rfl⟩) GM_o rfl rfl hl.1 rfl (Nat.le_of_ble_eq_true rfl) dX9_hire_68 ⟨Nat.le_of_ble_eq_true rfl, Nat.le_of_ble_eq_true rfl⟩) hS (fun n' G' H locs hw hP hS => ?_)
          obtain ⟨rfl, rfl⟩ := hw
          refine lv_aload_n hx hb dX9_hire_71 rfl (lv_at hl 0 rfl) ?_
          refine m_get (v := .int ((c 29) - (k * (coinOf c S)))) hx hb hts hin9 hown hK hP 29 (by decide) hf153 rfl rfl dX9_hire_72 ?_
          refine g_reti hx hb hr hlk hP hS dX9_hire_75 ?_
          exact ⟨by first | (simp [hirR, hirS, hirC, hirB, bx_uu, fa_upd_twice, b4, b15, b22, b35, Int32.not_lt.mpr b35]; done) | (exfalso; simp_all; done), rfl, by first | rfl | (first | (simp [hirR, hirS, hirC, hirB, bx_uu, fa_upd_twice, b4, b15, b22, b35, Int32.not_lt.mpr b35]; done) | (exfalso; simp_all; done))⟩
        · refine lv_iconst (v := (-1)) hx hb dX9_hire_38 (by decide) ?_
          refine g_reti hx hb hr hlk hP hS dX9_hire_39 ?_
          exact ⟨by first | (simp [hirR, hirS, hirC, hirB, bx_uu, fa_upd_twice, b4, b15, b22, b35, Int32.not_le.mp b35]; done) | (exfalso; simp_all; done), rfl, by first | rfl | (first | (simp [hirR, hirS, hirC, hirB, bx_uu, fa_upd_twice, b4, b15, b22, b35, Int32.not_le.mp b35]; done) | (exfalso; simp_all; done))⟩
