theorem fa_upd_twice (f : Nat → Int32) (i : Nat) (x y : Int32) : upd (upd f i x) i y = upd f i y := by
  funext j; by_cases h : j = i <;> simp [upd, h]
theorem yk_vp {h y : Int32} (hh : vp_in h 40) (hy : vp_in y 21) : vp_in (21 * h + y) 840 := by
  have h1 := vp_in_iff.mp hh
  have h2 := vp_in_iff.mp hy
  have e1 : (21 : Int32).toInt = 21 := rfl
  have h3 : (21 * h).toInt = 21 * h.toInt := by rw [fb_mulI] <;> rw [e1] <;> omega
  exact vp_in_iff.mpr ⟨by rw [fb_addI] <;> omega, by rw [fb_addI] <;> omega⟩
theorem yr_now {c : Nat → Int32} {S : Nat → Nat → Int32} (hI : mI c S) : (c 0 / 52).toInt = (c 0).toInt / 52 := divI hI.1.1 (by decide)
theorem yn_vp {c : Nat → Int32} {S : Nat → Nat → Int32} (hI : mI c S) : vp_in (c 0 / 52) 21 := by
  have h1 := yr_now hI
  have h2 := hI.1
  exact vp_in_iff.mpr ⟨by omega, by omega⟩
theorem yrB_vp {c : Nat → Int32} {S : Nat → Nat → Int32} {y : Int32} (hI : mI c S) (h : yrB c y = true) : vp_in y 21 := by
  have h1 := inB_i h
  have h2 := yr_now hI
  have h3 := hI.1
  have h0 : (0 : Int32).toInt = 0 := rfl
  exact vp_in_iff.mpr ⟨by omega, by omega⟩
theorem dd_vp {c : Nat → Int32} {S : Nat → Nat → Int32} {h : Int32} (hI : mI c S) (hh : vp_in h 40) (hn : ¬ c 0 = 1040) : vp_in (1040 * S 6 (tn h) + c 0) 8320 := by
  have h1 := vp_in_iff.mp hh
  have h4 := tn_of h1.1
  have h2 := hI.2.2.2.2 (tn h) (by omega)
  have h3 := hI.1
  have h5 : (c 0).toInt ≠ 1040 := fun q => hn (Int32.toInt_inj.mp (q.trans rfl))
  have e1 : (1040 : Int32).toInt = 1040 := rfl
  have h6 : (1040 * S 6 (tn h)).toInt = 1040 * (S 6 (tn h)).toInt := by rw [fb_mulI] <;> rw [e1] <;> omega
  exact vp_in_iff.mpr ⟨by rw [fb_addI] <;> omega, by rw [fb_addI] <;> omega⟩
theorem cnt_vp {x M : Int32} {N : Nat} (h0 : 0 ≤ x.toInt) (h1 : x.toInt ≤ N) (hM : M.toInt = N) (hn : ¬ x = M) : vp_in x N := by
  have h5 : x.toInt ≠ N := fun q => hn (Int32.toInt_inj.mp (q.trans hM.symm))
  exact vp_in_iff.mpr ⟨h0, by omega⟩
def owdOf (c : Nat → Int32) (S : Nat → Nat → Int32) (h y : Int32) : Int32 := if hsB c h && yrB c y then oweOf c S h y else -1
def lstOf (c : Nat → Int32) (S : Nat → Nat → Int32) (h y w : Int32) : Int32 := if hsB c h && yrB c y && inB w 0 1 && lstB S h y then lisOf c S h y w else -1
def calOf (S : Nat → Nat → Int32) (a b : Int32) : Int32 := if inB a 0 7 && inB b 0 7 then hrsOf (S 0 (tn a)) (S 0 (tn b)) 6 else -1
def tolOf (c : Nat → Int32) (S : Nat → Nat → Int32) (h y w : Int32) : Int32 := if hsB c h && yrB c y then (if w = 0 then oweOf c S h y else if w = 1 then S 18 (tn (21 * h + y)) else if w = 2 then S 19 (tn (21 * h + y)) else if w = 3 then S 20 (tn (21 * h + y)) else if w = 4 then yetOf c S h y else if w = 5 then S 22 (tn (21 * h + y)) else if w = 6 then S 21 (tn (21 * h + y)) else -1) else -1
def cntOf (c : Nat → Int32) (w : Int32) : Int32 := if w = 0 then c 0 else if w = 1 then c 7 else if w = 2 then c 18 else if w = 3 then c 12 else if w = 4 then c 29 else if w = 5 then c 30 else if w = 6 then c 31 else if w = 7 then c 32 else if w = 8 then c 33 else -1
def bnkOf (S : Nat → Nat → Int32) (a w b : Int32) : Int32 := if inB a 0 29 then (if w = 0 then S 1 (tn a) else if w = 1 then S 4 (tn a) else if w = 2 then S 5 (tn a) else if w = 3 then (if inB b 0 3000 then needOf S a b else -1) else -1) else -1
def vilB (a b : Int32) : Bool := inB a 0 7 && inB b 0 99
def vilS (S : Nat → Nat → Int32) (a b : Int32) : Nat → Nat → Int32 := if vilB a b then va_up S 0 (upd (S 0) (tn a) b) else S
def rodB (a b d : Int32) : Bool := inB a 0 29 && inB b 0 2 && inB d 0 10000
def rodS (S : Nat → Nat → Int32) (a b d : Int32) : Nat → Nat → Int32 := if rodB a b d then va_up (va_up S 2 (upd (S 2) (tn a) b)) 3 (upd (S 3) (tn a) d) else S
def raiH (S : Nat → Nat → Int32) (a k : Int32) : Int32 := if S 1 (tn a) + k * perOf S a ≤ 3000 then S 1 (tn a) + k * perOf S a else 3000
def raiS (S : Nat → Nat → Int32) (a k : Int32) : Nat → Nat → Int32 := va_up (va_up S 5 (upd (S 5) (tn a) (S 5 (tn a) + k))) 1 (upd (S 1) (tn a) (raiH S a k))
def endH (S : Nat → Nat → Int32) (a k : Int32) : Int32 := if k ≤ S 1 (tn a) then (if 0 ≤ S 1 (tn a) - k / 100 then S 1 (tn a) - k / 100 else 0) else 0
def endS (S : Nat → Nat → Int32) (a k : Int32) : Nat → Nat → Int32 := if k ≤ S 1 (tn a) then va_up S 1 (upd (S 1) (tn a) (endH S a k)) else va_up (va_up S 1 (upd (S 1) (tn a) 0)) 4 (upd (S 4) (tn a) (S 4 (tn a) + 1))
def endC (c : Nat → Int32) (S : Nat → Nat → Int32) (a k : Int32) : Nat → Int32 := if k ≤ S 1 (tn a) then c else va_up c 30 (c 30 + S 3 (tn a))
def lawB (c : Nat → Int32) (y w k : Int32) : Bool := inB y 0 19 && decide (0 ≤ w) && decide (w / 10000 ≤ 9) && decide (rem32 w 1000 ≤ 500) && inB k 0 100 && !decide (c 18 = 40)
def lawS (c : Nat → Int32) (S : Nat → Nat → Int32) (y w k : Int32) : Nat → Nat → Int32 := if lawB c y w k then va_up (va_up (va_up S 15 (upd (S 15) (tn (c 18)) y)) 16 (upd (S 16) (tn (c 18)) w)) 17 (upd (S 17) (tn (c 18)) k) else S
def lawC (c : Nat → Int32) (y w k : Int32) : Nat → Int32 := if lawB c y w k then va_up c 18 (c 18 + 1) else c
def lawR (c : Nat → Int32) (y w k : Int32) : Int32 := if lawB c y w k then c 18 + 1 else -1
def houB (c : Nat → Int32) (v a b : Int32) : Bool := inB v 0 7 && inB a 0 500 && inB b 0 20 && !decide (c 7 = 40)
def houS (c : Nat → Int32) (S : Nat → Nat → Int32) (v a b : Int32) : Nat → Nat → Int32 := if houB c v a b then va_up (va_up (va_up (va_up S 6 (upd (S 6) (tn (c 7)) v)) 7 (upd (S 7) (tn (c 7)) (c 0))) 8 (upd (S 8) (tn (c 7)) a)) 9 (upd (S 9) (tn (c 7)) b) else S
def houC (c : Nat → Int32) (v a b : Int32) : Nat → Int32 := if houB c v a b then va_up c 7 (c 7 + 1) else c
def houR (c : Nat → Int32) (v a b : Int32) : Int32 := if houB c v a b then c 7 + 1 - 1 else -1
def chgB (c : Nat → Int32) (S : Nat → Nat → Int32) (h w a b : Int32) : Bool := hsB c h && inB w (S 7 (tn h)) (c 0) && inB a 0 500 && inB b 0 20 && !decide (c 12 = 200)
def chgS (c : Nat → Int32) (S : Nat → Nat → Int32) (h w a b : Int32) : Nat → Nat → Int32 := if chgB c S h w a b then va_up (va_up (va_up (va_up (va_up S 10 (upd (S 10) (tn (c 12)) h)) 11 (upd (S 11) (tn (c 12)) w)) 12 (upd (S 12) (tn (c 12)) (c 0))) 13 (upd (S 13) (tn (c 12)) a)) 14 (upd (S 14) (tn (c 12)) b) else S
def chgC (c : Nat → Int32) (S : Nat → Nat → Int32) (h w a b : Int32) : Nat → Int32 := if chgB c S h w a b then va_up c 12 (c 12 + 1) else c

set_option maxHeartbeats 4000000 in
set_option maxRecDepth 100000 in
theorem kX9_owedOf (l : Launch) (E : gT) (A : Nat → Prop) (n : Nat) (o : Nat) (c : Nat → Int32) (S : Nat → Nat → Int32) (h y : Int32) (hI : mI c S) (hh : vp_in h 40) : gM l yX9_owedOf wsX9_owedOf ({ frames := 1, cells := 0, slots := 0, locals := 25 } : Room) E A n (GM E o c S) [.ref o, .int h, .int y] (gQi E A (fun r' n' G' => oweOf c S h y = r' ∧ n = n' ∧ (GM E o c S) = G')) 0 0 := by
  refine g_entry (by decide) rfl (Nat.le_of_ble_eq_true rfl) ?_
  intro p e s m below meth c0 hx hb hr hlk hml hown hnm hts hK H locs ls hP hS hl
  have hin9 : ∀ w ∈ u_ws RX9 TX9 35, w ∈ wsX9_owedOf := by decide +kernel
  have hf58 := hts (.fieldLink RX9 58 "DikeHandsModel" "lawWhat" "[I") (by decide +kernel)
  have hl : lv_has ls 5 [(0, .ref o), (1, .int h), (2, .int y)] := hl
  refine lv_aload_n hx hb dX9_owedOf_0 rfl (lv_at hl 0 rfl) ?_
  refine lv_iload_n hx hb dX9_owedOf_1 rfl (lv_at hl 2 rfl) ?_
  refine g_ci (g_runV (As := [.int y]) (rest := []) ⟨hx, hb, hml, hown, hts⟩ hK hP (kX9_lawOf l E A n o c S y hI) (cwV 1 hts gX9_owedOf_X9_lawOf rfl rfl rfl (by decide +kernel) ⟨Nat.le_of_ble_eq_true rfl, Nat.le_of_ble_eq_true rfl⟩) GM_o rfl rfl hl.1 rfl (Nat.le_of_ble_eq_true rfl) dX9_owedOf_2 ⟨Nat.le_of_ble_eq_true rfl, Nat.le_of_ble_eq_true rfl⟩) hS (fun r2 n' G' H locs hw hP hS => ?_)
  obtain ⟨rfl, rfl, rfl⟩ := hw
  refine lv_istore_n (lv' := [(3, .int (lawOf c S y)), (0, .ref o), (1, .int h), (2, .int y)]) hx hb dX9_owedOf_5 rfl hl (by decide) rfl (fun ls hl => ?_)
  refine lv_iload_n hx hb dX9_owedOf_6 rfl (lv_at hl 0 rfl) ?_
  refine lv_iconst (v := (-1)) hx hb dX9_owedOf_7 (by decide) ?_
  refine lv_icmp_eq (tgt := 20) hx hb dX9_owedOf_8 (by decide) (fun b8 => ?_) (fun b8 => ?_)
  · refine lv_iconst (v := 0) hx hb dX9_owedOf_20 (by decide) ?_
    refine g_reti hx hb hr hlk hP hS dX9_owedOf_21 ?_
    exact ⟨by first | (simp [oweOf, oweL, rem32, b8]; done) | (exfalso; simp_all; done), rfl, rfl⟩
  · refine lv_aload_n hx hb dX9_owedOf_11 rfl (lv_at hl 1 rfl) ?_
    refine lv_iload_n hx hb dX9_owedOf_12 rfl (lv_at hl 2 rfl) ?_
    refine lv_iload_n hx hb dX9_owedOf_13 rfl (lv_at hl 3 rfl) ?_
    refine g_ci (g_runV (As := [.int h, .int y]) (rest := []) ⟨hx, hb, hml, hown, hts⟩ hK hP (kX9_isListed l E A n o c S h y hh) (cwV 2 hts gX9_owedOf_X9_isListed rfl rfl rfl (by decide +kernel) ⟨Nat.le_of_ble_eq_true rfl, Nat.le_of_ble_eq_true rfl⟩) GM_o rfl rfl hl.1 rfl (Nat.le_of_ble_eq_true rfl) dX9_owedOf_14 ⟨Nat.le_of_ble_eq_true rfl, Nat.le_of_ble_eq_true rfl⟩) hS (fun r14 n' G' H locs hw hP hS => ?_)
    obtain ⟨rfl, rfl, rfl⟩ := hw
    refine g_ifne (tgt := 22) hx hb dX9_owedOf_17 (by decide) (fun b17 => ?_) (fun b17 => ?_)
    · refine lv_aload_n hx hb dX9_owedOf_22 rfl (lv_at hl 1 rfl) ?_
      refine lv_iload_n hx hb dX9_owedOf_23 rfl (lv_at hl 2 rfl) ?_
      refine lv_iload_n hx hb dX9_owedOf_24 rfl (lv_at hl 3 rfl) ?_
      refine lv_iconst (v := 0) hx hb dX9_owedOf_25 (by decide) ?_
      refine g_ci (g_runV (As := [.int h, .int y, .int 0]) (rest := []) ⟨hx, hb, hml, hown, hts⟩ hK hP (kX9_listedOf l E A n o c S h y 0 hI hh) (cwV 3 hts gX9_owedOf_X9_listedOf rfl rfl rfl (by decide +kernel) ⟨Nat.le_of_ble_eq_true rfl, Nat.le_of_ble_eq_true rfl⟩) GM_o rfl rfl hl.1 rfl (Nat.le_of_ble_eq_true rfl) dX9_owedOf_26 ⟨Nat.le_of_ble_eq_true rfl, Nat.le_of_ble_eq_true rfl⟩) hS (fun r26 n' G' H locs hw hP hS => ?_)
      obtain ⟨rfl, rfl, rfl⟩ := hw
      refine lv_istore (lv' := [(4, .int (lisOf c S h y 0)), (3, .int (lawOf c S y)), (0, .ref o), (1, .int h), (2, .int y)]) hx hb dX9_owedOf_29 hl (by decide) rfl (fun ls hl => ?_)
      refine lv_iload hx hb dX9_owedOf_31 (lv_at hl 0 rfl) ?_
      refine lv_aload_n hx hb dX9_owedOf_33 rfl (lv_at hl 2 rfl) ?_
      refine m_get hx hb hts hin9 hown hK hP 20 (by decide) hf58 rfl rfl dX9_owedOf_34 ?_
      refine lv_iload_n hx hb dX9_owedOf_37 rfl (lv_at hl 1 rfl) ?_
      refine m_iald hx hb hK hP 16 40 rfl (by decide) rfl (lawOf_vp hI b8) dX9_owedOf_38 ?_
      refine lv_sipush (v := 1000) hx hb dX9_owedOf_39 (by decide) ?_
      refine lv_irem hx hb dX9_owedOf_42 (by decide) ?_
      refine lv_icmp_ge (tgt := 48) hx hb dX9_owedOf_43 (by decide) (fun b43 => ?_) (fun b43 => ?_)
      · refine lv_iload hx hb dX9_owedOf_48 (lv_at hl 0 rfl) ?_
        refine lv_bipush (v := 10) hx hb dX9_owedOf_50 (by decide) ?_
        refine lv_idiv hx hb dX9_owedOf_52 (by decide) ?_
        refine lv_aload_n hx hb dX9_owedOf_53 rfl (lv_at hl 2 rfl) ?_
        refine m_get hx hb hts hin9 hown hK hP 20 (by decide) hf58 rfl rfl dX9_owedOf_54 ?_
        refine lv_iload_n hx hb dX9_owedOf_57 rfl (lv_at hl 1 rfl) ?_
        refine m_iald hx hb hK hP 16 40 rfl (by decide) rfl (lawOf_vp hI b8) dX9_owedOf_58 ?_
        refine lv_sipush (v := 10000) hx hb dX9_owedOf_59 (by decide) ?_
        refine lv_idiv hx hb dX9_owedOf_62 (by decide) ?_
        refine lv_imul hx hb dX9_owedOf_63 ?_
        refine lv_aload_n hx hb dX9_owedOf_64 rfl (lv_at hl 2 rfl) ?_
        refine lv_iload_n hx hb dX9_owedOf_65 rfl (lv_at hl 3 rfl) ?_
        refine lv_iload_n hx hb dX9_owedOf_66 rfl (lv_at hl 4 rfl) ?_
        refine lv_iconst (v := 1) hx hb dX9_owedOf_67 (by decide) ?_
        refine g_ci (g_runV (As := [.int h, .int y, .int 1]) (rest := [.int (((lisOf c S h y 0) / 10) * ((S 16 (tn (lawOf c S y))) / 10000))]) ⟨hx, hb, hml, hown, hts⟩ hK hP (kX9_listedOf l E A n o c S h y 1 hI hh) (cwV 3 hts gX9_owedOf_X9_listedOf rfl rfl rfl (by decide +kernel) ⟨Nat.le_of_ble_eq_true rfl, Nat.le_of_ble_eq_true rfl⟩) GM_o rfl rfl hl.1 rfl (Nat.le_of_ble_eq_true rfl) dX9_owedOf_68 ⟨Nat.le_of_ble_eq_true rfl, Nat.le_of_ble_eq_true rfl⟩) hS (fun r68 n' G' H locs hw hP hS => ?_)
        obtain ⟨rfl, rfl, rfl⟩ := hw
        refine lv_aload_n hx hb dX9_owedOf_71 rfl (lv_at hl 2 rfl) ?_
        refine m_get hx hb hts hin9 hown hK hP 20 (by decide) hf58 rfl rfl dX9_owedOf_72 ?_
        refine lv_iload_n hx hb dX9_owedOf_75 rfl (lv_at hl 1 rfl) ?_
        refine m_iald hx hb hK hP 16 40 rfl (by decide) rfl (lawOf_vp hI b8) dX9_owedOf_76 ?_
        refine lv_sipush (v := 1000) hx hb dX9_owedOf_77 (by decide) ?_
        refine lv_idiv hx hb dX9_owedOf_80 (by decide) ?_
        refine lv_bipush (v := 10) hx hb dX9_owedOf_81 (by decide) ?_
        refine lv_irem hx hb dX9_owedOf_83 (by decide) ?_
        refine lv_imul hx hb dX9_owedOf_84 ?_
        refine lv_iadd hx hb dX9_owedOf_85 ?_
        refine g_reti hx hb hr hlk hP hS dX9_owedOf_86 ?_
        exact ⟨by first | (simp [oweOf, oweL, rem32, b8, b17, b43, Int32.not_lt.mpr b43]; done) | (exfalso; simp_all; done), rfl, rfl⟩
      · refine lv_iconst (v := 0) hx hb dX9_owedOf_46 (by decide) ?_
        refine g_reti hx hb hr hlk hP hS dX9_owedOf_47 ?_
        exact ⟨by first | (simp [oweOf, oweL, rem32, b8, b17, b43, Int32.not_le.mp b43]; done) | (exfalso; simp_all; done), rfl, rfl⟩
    · refine lv_iconst (v := 0) hx hb dX9_owedOf_20 (by decide) ?_
      refine g_reti hx hb hr hlk hP hS dX9_owedOf_21 ?_
      exact ⟨by first | (simp [oweOf, oweL, rem32, b8, b17]; done) | (exfalso; simp_all; done), rfl, rfl⟩
set_option maxHeartbeats 4000000 in
set_option maxRecDepth 100000 in
theorem kX9_owed (l : Launch) (E : gT) (A : Nat → Prop) (n : Nat) (o : Nat) (c : Nat → Int32) (S : Nat → Nat → Int32) (h y : Int32) (hI : mI c S) : gM l yX9_owed wsX9_owed ({ frames := 2, cells := 0, slots := 0, locals := 49 } : Room) E A n (GM E o c S) [.ref o, .int h, .int y] (gQi E A (fun r' n' G' => owdOf c S h y = r' ∧ n = n' ∧ (GM E o c S) = G')) 0 0 := by
  refine g_entry (by decide) rfl (Nat.le_of_ble_eq_true rfl) ?_
  intro p e s m below meth c0 hx hb hr hlk hml hown hnm hts hK H locs ls hP hS hl
  have hl : lv_has ls 3 [(0, .ref o), (1, .int h), (2, .int y)] := hl
  refine lv_aload_n hx hb dX9_owed_0 rfl (lv_at hl 0 rfl) ?_
  refine lv_iload_n hx hb dX9_owed_1 rfl (lv_at hl 1 rfl) ?_
  refine g_ci (g_runV (As := [.int h]) (rest := []) ⟨hx, hb, hml, hown, hts⟩ hK hP (kX9_isHouse l E A n o c S h ) (cwV 1 hts gX9_owed_X9_isHouse rfl rfl rfl (by decide +kernel) ⟨Nat.le_of_ble_eq_true rfl, Nat.le_of_ble_eq_true rfl⟩) GM_o rfl rfl hl.1 rfl (Nat.le_of_ble_eq_true rfl) dX9_owed_2 ⟨Nat.le_of_ble_eq_true rfl, Nat.le_of_ble_eq_true rfl⟩) hS (fun r2 n' G' H locs hw hP hS => ?_)
  obtain ⟨rfl, rfl, rfl⟩ := hw
  refine g_ifeq (tgt := 25) hx hb dX9_owed_5 (by decide) (fun b5 => ?_) (fun b5 => ?_)
  · refine lv_iconst (v := (-1)) hx hb dX9_owed_25 (by decide) ?_
    refine g_reti hx hb hr hlk hP hS dX9_owed_26 ?_
    exact ⟨by first | (simp [owdOf, b5]; done) | (exfalso; simp_all; done), rfl, rfl⟩
  · refine lv_aload_n hx hb dX9_owed_8 rfl (lv_at hl 0 rfl) ?_
    refine lv_iload_n hx hb dX9_owed_9 rfl (lv_at hl 2 rfl) ?_
    refine g_ci (g_runV (As := [.int y]) (rest := []) ⟨hx, hb, hml, hown, hts⟩ hK hP (kX9_isYear l E A n o c S y ) (cwV 1 hts gX9_owed_X9_isYear rfl rfl rfl (by decide +kernel) ⟨Nat.le_of_ble_eq_true rfl, Nat.le_of_ble_eq_true rfl⟩) GM_o rfl rfl hl.1 rfl (Nat.le_of_ble_eq_true rfl) dX9_owed_10 ⟨Nat.le_of_ble_eq_true rfl, Nat.le_of_ble_eq_true rfl⟩) hS (fun r10 n' G' H locs hw hP hS => ?_)
    obtain ⟨rfl, rfl, rfl⟩ := hw
    refine g_ifeq (tgt := 25) hx hb dX9_owed_13 (by decide) (fun b13 => ?_) (fun b13 => ?_)
    · refine lv_iconst (v := (-1)) hx hb dX9_owed_25 (by decide) ?_
      refine g_reti hx hb hr hlk hP hS dX9_owed_26 ?_
      exact ⟨by first | (simp [owdOf, b5, b13]; done) | (exfalso; simp_all; done), rfl, rfl⟩
    · refine lv_aload_n hx hb dX9_owed_16 rfl (lv_at hl 0 rfl) ?_
      refine lv_iload_n hx hb dX9_owed_17 rfl (lv_at hl 1 rfl) ?_
      refine lv_iload_n hx hb dX9_owed_18 rfl (lv_at hl 2 rfl) ?_
      refine g_ci (g_runV (As := [.int h, .int y]) (rest := []) ⟨hx, hb, hml, hown, hts⟩ hK hP (kX9_owedOf l E A n o c S h y hI (hsB_vp hI b5)) (cwV 2 hts gX9_owed_X9_owedOf rfl rfl rfl (by decide +kernel) ⟨Nat.le_of_ble_eq_true rfl, Nat.le_of_ble_eq_true rfl⟩) GM_o rfl rfl hl.1 rfl (Nat.le_of_ble_eq_true rfl) dX9_owed_19 ⟨Nat.le_of_ble_eq_true rfl, Nat.le_of_ble_eq_true rfl⟩) hS (fun r19 n' G' H locs hw hP hS => ?_)
      obtain ⟨rfl, rfl, rfl⟩ := hw
      refine lv_goto (tgt := 26) hx hb dX9_owed_22 (by decide) ?_
      refine g_reti hx hb hr hlk hP hS dX9_owed_26 ?_
      exact ⟨by first | (simp [owdOf, b5, b13]; done) | (exfalso; simp_all; done), rfl, rfl⟩
set_option maxHeartbeats 4000000 in
set_option maxRecDepth 100000 in
theorem kX9_yet (l : Launch) (E : gT) (A : Nat → Prop) (n : Nat) (o : Nat) (c : Nat → Int32) (S : Nat → Nat → Int32) (h y : Int32) (hI : mI c S) (hh : vp_in h 40) (hy : vp_in y 21) : gM l yX9_yet wsX9_yet ({ frames := 2, cells := 0, slots := 0, locals := 49 } : Room) E A n (GM E o c S) [.ref o, .int h, .int y] (gQi E A (fun r' n' G' => yetOf c S h y = r' ∧ n = n' ∧ (GM E o c S) = G')) 0 0 := by
  refine g_entry (by decide) rfl (Nat.le_of_ble_eq_true rfl) ?_
  intro p e s m below meth c0 hx hb hr hlk hml hown hnm hts hK H locs ls hP hS hl
  have hin9 : ∀ w ∈ u_ws RX9 TX9 35, w ∈ wsX9_yet := by decide +kernel
  have hf64 := hts (.fieldLink RX9 64 "DikeHandsModel" "own" "[I") (by decide +kernel)
  have hf67 := hts (.fieldLink RX9 67 "DikeHandsModel" "others" "[I") (by decide +kernel)
  have hf70 := hts (.fieldLink RX9 70 "DikeHandsModel" "bought" "[I") (by decide +kernel)
  have hl : lv_has ls 5 [(0, .ref o), (1, .int h), (2, .int y)] := hl
  refine lv_bipush (v := 21) hx hb dX9_yet_0 (by decide) ?_
  refine lv_iload_n hx hb dX9_yet_2 rfl (lv_at hl 1 rfl) ?_
  refine lv_imul hx hb dX9_yet_3 ?_
  refine lv_iload_n hx hb dX9_yet_4 rfl (lv_at hl 2 rfl) ?_
  refine lv_iadd hx hb dX9_yet_5 ?_
  refine lv_istore_n (lv' := [(3, .int ((21 * h) + y)), (0, .ref o), (1, .int h), (2, .int y)]) hx hb dX9_yet_6 rfl hl (by decide) rfl (fun ls hl => ?_)
  refine lv_aload_n hx hb dX9_yet_7 rfl (lv_at hl 1 rfl) ?_
  refine lv_iload_n hx hb dX9_yet_8 rfl (lv_at hl 2 rfl) ?_
  refine lv_iload_n hx hb dX9_yet_9 rfl (lv_at hl 3 rfl) ?_
  refine g_ci (g_runV (As := [.int h, .int y]) (rest := []) ⟨hx, hb, hml, hown, hts⟩ hK hP (kX9_owedOf l E A n o c S h y hI hh) (cwV 2 hts gX9_yet_X9_owedOf rfl rfl rfl (by decide +kernel) ⟨Nat.le_of_ble_eq_true rfl, Nat.le_of_ble_eq_true rfl⟩) GM_o rfl rfl hl.1 rfl (Nat.le_of_ble_eq_true rfl) dX9_yet_10 ⟨Nat.le_of_ble_eq_true rfl, Nat.le_of_ble_eq_true rfl⟩) hS (fun r10 n' G' H locs hw hP hS => ?_)
  obtain ⟨rfl, rfl, rfl⟩ := hw
  refine lv_aload_n hx hb dX9_yet_13 rfl (lv_at hl 1 rfl) ?_
  refine m_get hx hb hts hin9 hown hK hP 22 (by decide) hf64 rfl rfl dX9_yet_14 ?_
  refine lv_iload_n hx hb dX9_yet_17 rfl (lv_at hl 0 rfl) ?_
  refine m_iald hx hb hK hP 18 840 rfl (by decide) rfl (yk_vp hh hy) dX9_yet_18 ?_
  refine lv_isub hx hb dX9_yet_19 ?_
  refine lv_aload_n hx hb dX9_yet_20 rfl (lv_at hl 1 rfl) ?_
  refine m_get hx hb hts hin9 hown hK hP 23 (by decide) hf67 rfl rfl dX9_yet_21 ?_
  refine lv_iload_n hx hb dX9_yet_24 rfl (lv_at hl 0 rfl) ?_
  refine m_iald hx hb hK hP 19 840 rfl (by decide) rfl (yk_vp hh hy) dX9_yet_25 ?_
  refine lv_isub hx hb dX9_yet_26 ?_
  refine lv_aload_n hx hb dX9_yet_27 rfl (lv_at hl 1 rfl) ?_
  refine m_get hx hb hts hin9 hown hK hP 24 (by decide) hf70 rfl rfl dX9_yet_28 ?_
  refine lv_iload_n hx hb dX9_yet_31 rfl (lv_at hl 0 rfl) ?_
  refine m_iald hx hb hK hP 20 840 rfl (by decide) rfl (yk_vp hh hy) dX9_yet_32 ?_
  refine lv_isub hx hb dX9_yet_33 ?_
  refine lv_istore (lv' := [(4, .int ((((oweOf c S h y) - (S 18 (tn ((21 * h) + y)))) - (S 19 (tn ((21 * h) + y)))) - (S 20 (tn ((21 * h) + y))))), (3, .int ((21 * h) + y)), (0, .ref o), (1, .int h), (2, .int y)]) hx hb dX9_yet_34 hl (by decide) rfl (fun ls hl => ?_)
  refine lv_iload hx hb dX9_yet_36 (lv_at hl 0 rfl) ?_
  refine lv_if_le (tgt := 46) hx hb dX9_yet_38 (by decide) (fun b38 => ?_) (fun b38 => ?_)
  · refine lv_iconst (v := 0) hx hb dX9_yet_46 (by decide) ?_
    refine g_reti hx hb hr hlk hP hS dX9_yet_47 ?_
    exact ⟨by first | (simp [yetOf, yet0, b38, Int32.not_lt.mpr b38]; done) | (exfalso; simp_all; done), rfl, rfl⟩
  · refine lv_iload hx hb dX9_yet_41 (lv_at hl 0 rfl) ?_
    refine lv_goto (tgt := 47) hx hb dX9_yet_43 (by decide) ?_
    refine g_reti hx hb hr hlk hP hS dX9_yet_47 ?_
    exact ⟨by first | (simp [yetOf, yet0, b38, Int32.not_le.mp b38]; done) | (exfalso; simp_all; done), rfl, rfl⟩
set_option maxHeartbeats 4000000 in
set_option maxRecDepth 100000 in
theorem kX9_listed (l : Launch) (E : gT) (A : Nat → Prop) (n : Nat) (o : Nat) (c : Nat → Int32) (S : Nat → Nat → Int32) (h y w : Int32) (hI : mI c S) : gM l yX9_listed wsX9_listed ({ frames := 2, cells := 0, slots := 0, locals := 43 } : Room) E A n (GM E o c S) [.ref o, .int h, .int y, .int w] (gQi E A (fun r' n' G' => lstOf c S h y w = r' ∧ n = n' ∧ (GM E o c S) = G')) 0 0 := by
  refine g_entry (by decide) rfl (Nat.le_of_ble_eq_true rfl) ?_
  intro p e s m below meth c0 hx hb hr hlk hml hown hnm hts hK H locs ls hP hS hl
  have hl : lv_has ls 4 [(0, .ref o), (1, .int h), (2, .int y), (3, .int w)] := hl
  refine lv_aload_n hx hb dX9_listed_0 rfl (lv_at hl 0 rfl) ?_
  refine lv_iload_n hx hb dX9_listed_1 rfl (lv_at hl 1 rfl) ?_
  refine g_ci (g_runV (As := [.int h]) (rest := []) ⟨hx, hb, hml, hown, hts⟩ hK hP (kX9_isHouse l E A n o c S h ) (cwV 1 hts gX9_listed_X9_isHouse rfl rfl rfl (by decide +kernel) ⟨Nat.le_of_ble_eq_true rfl, Nat.le_of_ble_eq_true rfl⟩) GM_o rfl rfl hl.1 rfl (Nat.le_of_ble_eq_true rfl) dX9_listed_2 ⟨Nat.le_of_ble_eq_true rfl, Nat.le_of_ble_eq_true rfl⟩) hS (fun r2 n' G' H locs hw hP hS => ?_)
  obtain ⟨rfl, rfl, rfl⟩ := hw
  refine g_ifeq (tgt := 34) hx hb dX9_listed_5 (by decide) (fun b5 => ?_) (fun b5 => ?_)
  · refine lv_iconst (v := (-1)) hx hb dX9_listed_34 (by decide) ?_
    refine g_reti hx hb hr hlk hP hS dX9_listed_35 ?_
    exact ⟨by first | (simp [lstOf, b5]; done) | (exfalso; simp_all; done), rfl, rfl⟩
  · refine lv_aload_n hx hb dX9_listed_8 rfl (lv_at hl 0 rfl) ?_
    refine lv_iload_n hx hb dX9_listed_9 rfl (lv_at hl 2 rfl) ?_
    refine g_ci (g_runV (As := [.int y]) (rest := []) ⟨hx, hb, hml, hown, hts⟩ hK hP (kX9_isYear l E A n o c S y ) (cwV 1 hts gX9_listed_X9_isYear rfl rfl rfl (by decide +kernel) ⟨Nat.le_of_ble_eq_true rfl, Nat.le_of_ble_eq_true rfl⟩) GM_o rfl rfl hl.1 rfl (Nat.le_of_ble_eq_true rfl) dX9_listed_10 ⟨Nat.le_of_ble_eq_true rfl, Nat.le_of_ble_eq_true rfl⟩) hS (fun r10 n' G' H locs hw hP hS => ?_)
    obtain ⟨rfl, rfl, rfl⟩ := hw
    refine g_ifeq (tgt := 34) hx hb dX9_listed_13 (by decide) (fun b13 => ?_) (fun b13 => ?_)
    · refine lv_iconst (v := (-1)) hx hb dX9_listed_34 (by decide) ?_
      refine g_reti hx hb hr hlk hP hS dX9_listed_35 ?_
      exact ⟨by first | (simp [lstOf, b5, b13]; done) | (exfalso; simp_all; done), rfl, rfl⟩
    · refine lv_iload_n hx hb dX9_listed_16 rfl (lv_at hl 3 rfl) ?_
      refine lv_iconst (v := 0) hx hb dX9_listed_17 (by decide) ?_
      refine lv_iconst (v := 1) hx hb dX9_listed_18 (by decide) ?_
      refine g_ci (g_runS (As := [.int w, .int 0, .int 1]) (rest := []) ⟨hx, hb, hml, hown, hts⟩ hK hP (kX9_in l E A n (GM E o c S) w 0 1) (va_cwS 3 hts gX9_listed_X9_in rfl rfl rfl (by decide +kernel) ⟨Nat.le_of_ble_eq_true rfl, Nat.le_of_ble_eq_true rfl⟩) rfl hl.1 rfl (Nat.le_of_ble_eq_true rfl) dX9_listed_19 ⟨Nat.le_of_ble_eq_true rfl, Nat.le_of_ble_eq_true rfl⟩) hS (fun r19 n' G' H locs hw hP hS => ?_)
      obtain ⟨rfl, rfl, rfl⟩ := hw
      refine g_ifeq (tgt := 34) hx hb dX9_listed_22 (by decide) (fun b22 => ?_) (fun b22 => ?_)
      · refine lv_iconst (v := (-1)) hx hb dX9_listed_34 (by decide) ?_
        refine g_reti hx hb hr hlk hP hS dX9_listed_35 ?_
        exact ⟨by first | (simp [lstOf, b5, b13, b22]; done) | (exfalso; simp_all; done), rfl, rfl⟩
      · refine lv_aload_n hx hb dX9_listed_25 rfl (lv_at hl 0 rfl) ?_
        refine lv_iload_n hx hb dX9_listed_26 rfl (lv_at hl 1 rfl) ?_
        refine lv_iload_n hx hb dX9_listed_27 rfl (lv_at hl 2 rfl) ?_
        refine g_ci (g_runV (As := [.int h, .int y]) (rest := []) ⟨hx, hb, hml, hown, hts⟩ hK hP (kX9_isListed l E A n o c S h y (hsB_vp hI b5)) (cwV 2 hts gX9_listed_X9_isListed rfl rfl rfl (by decide +kernel) ⟨Nat.le_of_ble_eq_true rfl, Nat.le_of_ble_eq_true rfl⟩) GM_o rfl rfl hl.1 rfl (Nat.le_of_ble_eq_true rfl) dX9_listed_28 ⟨Nat.le_of_ble_eq_true rfl, Nat.le_of_ble_eq_true rfl⟩) hS (fun r28 n' G' H locs hw hP hS => ?_)
        obtain ⟨rfl, rfl, rfl⟩ := hw
        refine g_ifne (tgt := 36) hx hb dX9_listed_31 (by decide) (fun b31 => ?_) (fun b31 => ?_)
        · refine lv_aload_n hx hb dX9_listed_36 rfl (lv_at hl 0 rfl) ?_
          refine lv_iload_n hx hb dX9_listed_37 rfl (lv_at hl 1 rfl) ?_
          refine lv_iload_n hx hb dX9_listed_38 rfl (lv_at hl 2 rfl) ?_
          refine lv_iload_n hx hb dX9_listed_39 rfl (lv_at hl 3 rfl) ?_
          refine g_ci (g_runV (As := [.int h, .int y, .int w]) (rest := []) ⟨hx, hb, hml, hown, hts⟩ hK hP (kX9_listedOf l E A n o c S h y w hI (hsB_vp hI b5)) (cwV 3 hts gX9_listed_X9_listedOf rfl rfl rfl (by decide +kernel) ⟨Nat.le_of_ble_eq_true rfl, Nat.le_of_ble_eq_true rfl⟩) GM_o rfl rfl hl.1 rfl (Nat.le_of_ble_eq_true rfl) dX9_listed_40 ⟨Nat.le_of_ble_eq_true rfl, Nat.le_of_ble_eq_true rfl⟩) hS (fun r40 n' G' H locs hw hP hS => ?_)
          obtain ⟨rfl, rfl, rfl⟩ := hw
          refine g_reti hx hb hr hlk hP hS dX9_listed_43 ?_
          exact ⟨by first | (simp [lstOf, b5, b13, b22, b31]; done) | (exfalso; simp_all; done), rfl, rfl⟩
        · refine lv_iconst (v := (-1)) hx hb dX9_listed_34 (by decide) ?_
          refine g_reti hx hb hr hlk hP hS dX9_listed_35 ?_
          exact ⟨by first | (simp [lstOf, b5, b13, b22, b31]; done) | (exfalso; simp_all; done), rfl, rfl⟩
set_option maxHeartbeats 4000000 in
set_option maxRecDepth 100000 in
theorem kX9_called (l : Launch) (E : gT) (A : Nat → Prop) (n : Nat) (o : Nat) (c : Nat → Int32) (S : Nat → Nat → Int32) (a b : Int32)  : gM l yX9_called wsX9_called ({ frames := 2, cells := 0, slots := 0, locals := 42 } : Room) E A n (GM E o c S) [.ref o, .int a, .int b] (gQi E A (fun r' n' G' => calOf S a b = r' ∧ n = n' ∧ (GM E o c S) = G')) 0 0 := by
  refine g_entry (by decide) rfl (Nat.le_of_ble_eq_true rfl) ?_
  intro p e s m below meth c0 hx hb hr hlk hml hown hnm hts hK H locs ls hP hS hl
  have hin9 : ∀ w ∈ u_ws RX9 TX9 35, w ∈ wsX9_called := by decide +kernel
  have hf9 := hts (.fieldLink RX9 9 "DikeHandsModel" "mile" "[I") (by decide +kernel)
  have hl : lv_has ls 3 [(0, .ref o), (1, .int a), (2, .int b)] := hl
  refine lv_iload_n hx hb dX9_called_0 rfl (lv_at hl 1 rfl) ?_
  refine g_ci (g_runS (As := [.int a]) (rest := []) ⟨hx, hb, hml, hown, hts⟩ hK hP (kX9_isVillage l E A n (GM E o c S) a) (va_cwS 1 hts gX9_called_X9_isVillage rfl rfl rfl (by decide +kernel) ⟨Nat.le_of_ble_eq_true rfl, Nat.le_of_ble_eq_true rfl⟩) rfl hl.1 rfl (Nat.le_of_ble_eq_true rfl) dX9_called_1 ⟨Nat.le_of_ble_eq_true rfl, Nat.le_of_ble_eq_true rfl⟩) hS (fun r1 n' G' H locs hw hP hS => ?_)
  obtain ⟨rfl, rfl, rfl⟩ := hw
  refine g_ifeq (tgt := 34) hx hb dX9_called_4 (by decide) (fun b4 => ?_) (fun b4 => ?_)
  · refine lv_iconst (v := (-1)) hx hb dX9_called_34 (by decide) ?_
    refine g_reti hx hb hr hlk hP hS dX9_called_35 ?_
    exact ⟨by first | (simp [calOf, b4]; done) | (exfalso; simp_all; done), rfl, rfl⟩
  · refine lv_iload_n hx hb dX9_called_7 rfl (lv_at hl 2 rfl) ?_
    refine g_ci (g_runS (As := [.int b]) (rest := []) ⟨hx, hb, hml, hown, hts⟩ hK hP (kX9_isVillage l E A n (GM E o c S) b) (va_cwS 1 hts gX9_called_X9_isVillage rfl rfl rfl (by decide +kernel) ⟨Nat.le_of_ble_eq_true rfl, Nat.le_of_ble_eq_true rfl⟩) rfl hl.1 rfl (Nat.le_of_ble_eq_true rfl) dX9_called_8 ⟨Nat.le_of_ble_eq_true rfl, Nat.le_of_ble_eq_true rfl⟩) hS (fun r8 n' G' H locs hw hP hS => ?_)
    obtain ⟨rfl, rfl, rfl⟩ := hw
    refine g_ifeq (tgt := 34) hx hb dX9_called_11 (by decide) (fun b11 => ?_) (fun b11 => ?_)
    · refine lv_iconst (v := (-1)) hx hb dX9_called_34 (by decide) ?_
      refine g_reti hx hb hr hlk hP hS dX9_called_35 ?_
      exact ⟨by first | (simp [calOf, b4, b11]; done) | (exfalso; simp_all; done), rfl, rfl⟩
    · refine lv_aload_n hx hb dX9_called_14 rfl (lv_at hl 0 rfl) ?_
      refine m_get hx hb hts hin9 hown hK hP 1 (by decide) hf9 rfl rfl dX9_called_15 ?_
      refine lv_iload_n hx hb dX9_called_18 rfl (lv_at hl 1 rfl) ?_
      refine m_iald hx hb hK hP 0 8 rfl (by decide) rfl (inB_vp b4 (by decide)) dX9_called_19 ?_
      refine lv_aload_n hx hb dX9_called_20 rfl (lv_at hl 0 rfl) ?_
      refine m_get hx hb hts hin9 hown hK hP 1 (by decide) hf9 rfl rfl dX9_called_21 ?_
      refine lv_iload_n hx hb dX9_called_24 rfl (lv_at hl 2 rfl) ?_
      refine m_iald hx hb hK hP 0 8 rfl (by decide) rfl (inB_vp b11 (by decide)) dX9_called_25 ?_
      refine lv_bipush (v := 6) hx hb dX9_called_26 (by decide) ?_
      refine g_ci (g_runS (As := [.int (S 0 (tn a)), .int (S 0 (tn b)), .int 6]) (rest := []) ⟨hx, hb, hml, hown, hts⟩ hK hP (kX9_hours l E A n (GM E o c S) (S 0 (tn a)) (S 0 (tn b)) 6 (by decide)) (va_cwS 3 hts gX9_called_X9_hours rfl rfl rfl (by decide +kernel) ⟨Nat.le_of_ble_eq_true rfl, Nat.le_of_ble_eq_true rfl⟩) rfl hl.1 rfl (Nat.le_of_ble_eq_true rfl) dX9_called_28 ⟨Nat.le_of_ble_eq_true rfl, Nat.le_of_ble_eq_true rfl⟩) hS (fun r28 n' G' H locs hw hP hS => ?_)
      obtain ⟨rfl, rfl, rfl⟩ := hw
      refine lv_goto (tgt := 35) hx hb dX9_called_31 (by decide) ?_
      refine g_reti hx hb hr hlk hP hS dX9_called_35 ?_
      exact ⟨by first | (simp [calOf, b4, b11]; done) | (exfalso; simp_all; done), rfl, rfl⟩
set_option maxHeartbeats 4000000 in
set_option maxRecDepth 100000 in
theorem kX9_told (l : Launch) (E : gT) (A : Nat → Prop) (n : Nat) (o : Nat) (c : Nat → Int32) (S : Nat → Nat → Int32) (h y w : Int32) (hI : mI c S) : gM l yX9_told wsX9_told ({ frames := 3, cells := 0, slots := 0, locals := 73 } : Room) E A n (GM E o c S) [.ref o, .int h, .int y, .int w] (gQi E A (fun r' n' G' => tolOf c S h y w = r' ∧ n = n' ∧ (GM E o c S) = G')) 0 0 := by
  refine g_entry (by decide) rfl (Nat.le_of_ble_eq_true rfl) ?_
  intro p e s m below meth c0 hx hb hr hlk hml hown hnm hts hK H locs ls hP hS hl
  have hin9 : ∀ w ∈ u_ws RX9 TX9 35, w ∈ wsX9_told := by decide +kernel
  have hf64 := hts (.fieldLink RX9 64 "DikeHandsModel" "own" "[I") (by decide +kernel)
  have hf67 := hts (.fieldLink RX9 67 "DikeHandsModel" "others" "[I") (by decide +kernel)
  have hf70 := hts (.fieldLink RX9 70 "DikeHandsModel" "bought" "[I") (by decide +kernel)
  have hf73 := hts (.fieldLink RX9 73 "DikeHandsModel" "forOthers" "[I") (by decide +kernel)
  have hf76 := hts (.fieldLink RX9 76 "DikeHandsModel" "substitute" "[I") (by decide +kernel)
  have hl : lv_has ls 5 [(0, .ref o), (1, .int h), (2, .int y), (3, .int w)] := hl
  refine lv_aload_n hx hb dX9_told_0 rfl (lv_at hl 0 rfl) ?_
  refine lv_iload_n hx hb dX9_told_1 rfl (lv_at hl 1 rfl) ?_
  refine g_ci (g_runV (As := [.int h]) (rest := []) ⟨hx, hb, hml, hown, hts⟩ hK hP (kX9_isHouse l E A n o c S h ) (cwV 1 hts gX9_told_X9_isHouse rfl rfl rfl (by decide +kernel) ⟨Nat.le_of_ble_eq_true rfl, Nat.le_of_ble_eq_true rfl⟩) GM_o rfl rfl hl.1 rfl (Nat.le_of_ble_eq_true rfl) dX9_told_2 ⟨Nat.le_of_ble_eq_true rfl, Nat.le_of_ble_eq_true rfl⟩) hS (fun r2 n' G' H locs hw hP hS => ?_)
  obtain ⟨rfl, rfl, rfl⟩ := hw
  refine g_ifeq (tgt := 16) hx hb dX9_told_5 (by decide) (fun b5 => ?_) (fun b5 => ?_)
  · refine lv_iconst (v := (-1)) hx hb dX9_told_16 (by decide) ?_
    refine g_reti hx hb hr hlk hP hS dX9_told_17 ?_
    exact ⟨by first | (simp [tolOf, b5]; done) | (exfalso; simp_all; done), rfl, rfl⟩
  · refine lv_aload_n hx hb dX9_told_8 rfl (lv_at hl 0 rfl) ?_
    refine lv_iload_n hx hb dX9_told_9 rfl (lv_at hl 2 rfl) ?_
    refine g_ci (g_runV (As := [.int y]) (rest := []) ⟨hx, hb, hml, hown, hts⟩ hK hP (kX9_isYear l E A n o c S y ) (cwV 1 hts gX9_told_X9_isYear rfl rfl rfl (by decide +kernel) ⟨Nat.le_of_ble_eq_true rfl, Nat.le_of_ble_eq_true rfl⟩) GM_o rfl rfl hl.1 rfl (Nat.le_of_ble_eq_true rfl) dX9_told_10 ⟨Nat.le_of_ble_eq_true rfl, Nat.le_of_ble_eq_true rfl⟩) hS (fun r10 n' G' H locs hw hP hS => ?_)
    obtain ⟨rfl, rfl, rfl⟩ := hw
    refine g_ifne (tgt := 18) hx hb dX9_told_13 (by decide) (fun b13 => ?_) (fun b13 => ?_)
    · refine lv_bipush (v := 21) hx hb dX9_told_18 (by decide) ?_
      refine lv_iload_n hx hb dX9_told_20 rfl (lv_at hl 1 rfl) ?_
      refine lv_imul hx hb dX9_told_21 ?_
      refine lv_iload_n hx hb dX9_told_22 rfl (lv_at hl 2 rfl) ?_
      refine lv_iadd hx hb dX9_told_23 ?_
      refine lv_istore (lv' := [(4, .int ((21 * h) + y)), (0, .ref o), (1, .int h), (2, .int y), (3, .int w)]) hx hb dX9_told_24 hl (by decide) rfl (fun ls hl => ?_)
      refine lv_iload_n hx hb dX9_told_26 rfl (lv_at hl 4 rfl) ?_
      by_cases s27_0 : w = 0
      · refine lv_tableIn (tgt := 68) hx hb dX9_told_27 (by rw [s27_0]; decide) (by rw [s27_0]; decide) (by rw [s27_0]; rfl) (by decide) ?_
        refine lv_aload_n hx hb dX9_told_68 rfl (lv_at hl 1 rfl) ?_
        refine lv_iload_n hx hb dX9_told_69 rfl (lv_at hl 2 rfl) ?_
        refine lv_iload_n hx hb dX9_told_70 rfl (lv_at hl 3 rfl) ?_
        refine g_ci (g_runV (As := [.int h, .int y]) (rest := []) ⟨hx, hb, hml, hown, hts⟩ hK hP (kX9_owedOf l E A n o c S h y hI (hsB_vp hI b5)) (cwV 2 hts gX9_told_X9_owedOf rfl rfl rfl (by decide +kernel) ⟨Nat.le_of_ble_eq_true rfl, Nat.le_of_ble_eq_true rfl⟩) GM_o rfl rfl hl.1 rfl (Nat.le_of_ble_eq_true rfl) dX9_told_71 ⟨Nat.le_of_ble_eq_true rfl, Nat.le_of_ble_eq_true rfl⟩) hS (fun r71 n' G' H locs hw hP hS => ?_)
        obtain ⟨rfl, rfl, rfl⟩ := hw
        refine g_reti hx hb hr hlk hP hS dX9_told_74 ?_
        exact ⟨by first | (simp [tolOf, b5, b13, s27_0]; done) | (exfalso; simp_all; done), rfl, rfl⟩
      by_cases s27_1 : w = 1
      · refine lv_tableIn (tgt := 75) hx hb dX9_told_27 (by rw [s27_1]; decide) (by rw [s27_1]; decide) (by rw [s27_1]; rfl) (by decide) ?_
        refine lv_aload_n hx hb dX9_told_75 rfl (lv_at hl 1 rfl) ?_
        refine m_get hx hb hts hin9 hown hK hP 22 (by decide) hf64 rfl rfl dX9_told_76 ?_
        refine lv_iload hx hb dX9_told_79 (lv_at hl 0 rfl) ?_
        refine m_iald hx hb hK hP 18 840 rfl (by decide) rfl (yk_vp (hsB_vp hI b5) (yrB_vp hI b13)) dX9_told_81 ?_
        refine g_reti hx hb hr hlk hP hS dX9_told_82 ?_
        exact ⟨by first | (simp [tolOf, b5, b13, s27_0, s27_1]; done) | (exfalso; simp_all; done), rfl, rfl⟩
      by_cases s27_2 : w = 2
      · refine lv_tableIn (tgt := 83) hx hb dX9_told_27 (by rw [s27_2]; decide) (by rw [s27_2]; decide) (by rw [s27_2]; rfl) (by decide) ?_
        refine lv_aload_n hx hb dX9_told_83 rfl (lv_at hl 1 rfl) ?_
        refine m_get hx hb hts hin9 hown hK hP 23 (by decide) hf67 rfl rfl dX9_told_84 ?_
        refine lv_iload hx hb dX9_told_87 (lv_at hl 0 rfl) ?_
        refine m_iald hx hb hK hP 19 840 rfl (by decide) rfl (yk_vp (hsB_vp hI b5) (yrB_vp hI b13)) dX9_told_89 ?_
        refine g_reti hx hb hr hlk hP hS dX9_told_90 ?_
        exact ⟨by first | (simp [tolOf, b5, b13, s27_0, s27_1, s27_2]; done) | (exfalso; simp_all; done), rfl, rfl⟩
      by_cases s27_3 : w = 3
      · refine lv_tableIn (tgt := 91) hx hb dX9_told_27 (by rw [s27_3]; decide) (by rw [s27_3]; decide) (by rw [s27_3]; rfl) (by decide) ?_
        refine lv_aload_n hx hb dX9_told_91 rfl (lv_at hl 1 rfl) ?_
        refine m_get hx hb hts hin9 hown hK hP 24 (by decide) hf70 rfl rfl dX9_told_92 ?_
        refine lv_iload hx hb dX9_told_95 (lv_at hl 0 rfl) ?_
        refine m_iald hx hb hK hP 20 840 rfl (by decide) rfl (yk_vp (hsB_vp hI b5) (yrB_vp hI b13)) dX9_told_97 ?_
        refine g_reti hx hb hr hlk hP hS dX9_told_98 ?_
        exact ⟨by first | (simp [tolOf, b5, b13, s27_0, s27_1, s27_2, s27_3]; done) | (exfalso; simp_all; done), rfl, rfl⟩
      by_cases s27_4 : w = 4
      · refine lv_tableIn (tgt := 99) hx hb dX9_told_27 (by rw [s27_4]; decide) (by rw [s27_4]; decide) (by rw [s27_4]; rfl) (by decide) ?_
        refine lv_aload_n hx hb dX9_told_99 rfl (lv_at hl 1 rfl) ?_
        refine lv_iload_n hx hb dX9_told_100 rfl (lv_at hl 2 rfl) ?_
        refine lv_iload_n hx hb dX9_told_101 rfl (lv_at hl 3 rfl) ?_
        refine g_ci (g_runV (As := [.int h, .int y]) (rest := []) ⟨hx, hb, hml, hown, hts⟩ hK hP (kX9_yet l E A n o c S h y hI (hsB_vp hI b5) (yrB_vp hI b13)) (cwV 2 hts gX9_told_X9_yet rfl rfl rfl (by decide +kernel) ⟨Nat.le_of_ble_eq_true rfl, Nat.le_of_ble_eq_true rfl⟩) GM_o rfl rfl hl.1 rfl (Nat.le_of_ble_eq_true rfl) dX9_told_102 ⟨Nat.le_of_ble_eq_true rfl, Nat.le_of_ble_eq_true rfl⟩) hS (fun r102 n' G' H locs hw hP hS => ?_)
        obtain ⟨rfl, rfl, rfl⟩ := hw
        refine g_reti hx hb hr hlk hP hS dX9_told_105 ?_
        exact ⟨by first | (simp [tolOf, b5, b13, s27_0, s27_1, s27_2, s27_3, s27_4]; done) | (exfalso; simp_all; done), rfl, rfl⟩
      by_cases s27_5 : w = 5
      · refine lv_tableIn (tgt := 106) hx hb dX9_told_27 (by rw [s27_5]; decide) (by rw [s27_5]; decide) (by rw [s27_5]; rfl) (by decide) ?_
        refine lv_aload_n hx hb dX9_told_106 rfl (lv_at hl 1 rfl) ?_
        refine m_get hx hb hts hin9 hown hK hP 26 (by decide) hf76 rfl rfl dX9_told_107 ?_
        refine lv_iload hx hb dX9_told_110 (lv_at hl 0 rfl) ?_
        refine m_iald hx hb hK hP 22 840 rfl (by decide) rfl (yk_vp (hsB_vp hI b5) (yrB_vp hI b13)) dX9_told_112 ?_
        refine g_reti hx hb hr hlk hP hS dX9_told_113 ?_
        exact ⟨by first | (simp [tolOf, b5, b13, s27_0, s27_1, s27_2, s27_3, s27_4, s27_5]; done) | (exfalso; simp_all; done), rfl, rfl⟩
      by_cases s27_6 : w = 6
      · refine lv_tableIn (tgt := 114) hx hb dX9_told_27 (by rw [s27_6]; decide) (by rw [s27_6]; decide) (by rw [s27_6]; rfl) (by decide) ?_
        refine lv_aload_n hx hb dX9_told_114 rfl (lv_at hl 1 rfl) ?_
        refine m_get hx hb hts hin9 hown hK hP 25 (by decide) hf73 rfl rfl dX9_told_115 ?_
        refine lv_iload hx hb dX9_told_118 (lv_at hl 0 rfl) ?_
        refine m_iald hx hb hK hP 21 840 rfl (by decide) rfl (yk_vp (hsB_vp hI b5) (yrB_vp hI b13)) dX9_told_120 ?_
        refine g_reti hx hb hr hlk hP hS dX9_told_121 ?_
        exact ⟨by first | (simp [tolOf, b5, b13, s27_0, s27_1, s27_2, s27_3, s27_4, s27_5, s27_6]; done) | (exfalso; simp_all; done), rfl, rfl⟩
      refine lv_tableOut (tgt := 122) hx hb dX9_told_27 (sw_out6 s27_0 s27_1 s27_2 s27_3 s27_4 s27_5 s27_6) (by decide) ?_
      refine lv_iconst (v := (-1)) hx hb dX9_told_122 (by decide) ?_
      refine g_reti hx hb hr hlk hP hS dX9_told_123 ?_
      exact ⟨by first | (simp [tolOf, b5, b13, s27_0, s27_1, s27_2, s27_3, s27_4, s27_5, s27_6]; done) | (exfalso; simp_all; done), rfl, rfl⟩
    · refine lv_iconst (v := (-1)) hx hb dX9_told_16 (by decide) ?_
      refine g_reti hx hb hr hlk hP hS dX9_told_17 ?_
      exact ⟨by first | (simp [tolOf, b5, b13]; done) | (exfalso; simp_all; done), rfl, rfl⟩
set_option maxHeartbeats 4000000 in
set_option maxRecDepth 100000 in
theorem kX9_count (l : Launch) (E : gT) (A : Nat → Prop) (n : Nat) (o : Nat) (c : Nat → Int32) (S : Nat → Nat → Int32) (w : Int32)  : gM l yX9_count wsX9_count ({ frames := 0, cells := 0, slots := 0, locals := 0 } : Room) E A n (GM E o c S) [.ref o, .int w] (gQi E A (fun r' n' G' => cntOf c w = r' ∧ n = n' ∧ (GM E o c S) = G')) 0 0 := by
  refine g_entry (by decide) rfl (Nat.le_of_ble_eq_true rfl) ?_
  intro p e s m below meth c0 hx hb hr hlk hml hown hnm hts hK H locs ls hP hS hl
  have hin9 : ∀ w ∈ u_ws RX9 TX9 35, w ∈ wsX9_count := by decide +kernel
  have hf92 := hts (.fieldLink RX9 92 "DikeHandsModel" "houses" "I") (by decide +kernel)
  have hf96 := hts (.fieldLink RX9 96 "DikeHandsModel" "now" "I") (by decide +kernel)
  have hf106 := hts (.fieldLink RX9 106 "DikeHandsModel" "laws" "I") (by decide +kernel)
  have hf116 := hts (.fieldLink RX9 116 "DikeHandsModel" "changes" "I") (by decide +kernel)
  have hf143 := hts (.fieldLink RX9 143 "DikeHandsModel" "daysDone" "I") (by decide +kernel)
  have hf150 := hts (.fieldLink RX9 150 "DikeHandsModel" "daysBought" "I") (by decide +kernel)
  have hf153 := hts (.fieldLink RX9 153 "DikeHandsModel" "chest" "I") (by decide +kernel)
  have hf160 := hts (.fieldLink RX9 160 "DikeHandsModel" "daysHired" "I") (by decide +kernel)
  have hf166 := hts (.fieldLink RX9 166 "DikeHandsModel" "lost" "I") (by decide +kernel)
  have hl : lv_has ls 2 [(0, .ref o), (1, .int w)] := hl
  refine lv_iload_n hx hb dX9_count_0 rfl (lv_at hl 1 rfl) ?_
  by_cases s1_0 : w = 0
  · refine lv_tableIn (tgt := 52) hx hb dX9_count_1 (by rw [s1_0]; decide) (by rw [s1_0]; decide) (by rw [s1_0]; rfl) (by decide) ?_
    refine lv_aload_n hx hb dX9_count_52 rfl (lv_at hl 0 rfl) ?_
    refine m_get hx hb hts hin9 hown hK hP 0 (by decide) hf96 rfl rfl dX9_count_53 ?_
    refine g_reti hx hb hr hlk hP hS dX9_count_56 ?_
    exact ⟨by first | (simp [cntOf, s1_0]; done) | (exfalso; simp_all; done), rfl, rfl⟩
  by_cases s1_1 : w = 1
  · refine lv_tableIn (tgt := 57) hx hb dX9_count_1 (by rw [s1_1]; decide) (by rw [s1_1]; decide) (by rw [s1_1]; rfl) (by decide) ?_
    refine lv_aload_n hx hb dX9_count_57 rfl (lv_at hl 0 rfl) ?_
    refine m_get hx hb hts hin9 hown hK hP 7 (by decide) hf92 rfl rfl dX9_count_58 ?_
    refine g_reti hx hb hr hlk hP hS dX9_count_61 ?_
    exact ⟨by first | (simp [cntOf, s1_0, s1_1]; done) | (exfalso; simp_all; done), rfl, rfl⟩
  by_cases s1_2 : w = 2
  · refine lv_tableIn (tgt := 62) hx hb dX9_count_1 (by rw [s1_2]; decide) (by rw [s1_2]; decide) (by rw [s1_2]; rfl) (by decide) ?_
    refine lv_aload_n hx hb dX9_count_62 rfl (lv_at hl 0 rfl) ?_
    refine m_get hx hb hts hin9 hown hK hP 18 (by decide) hf106 rfl rfl dX9_count_63 ?_
    refine g_reti hx hb hr hlk hP hS dX9_count_66 ?_
    exact ⟨by first | (simp [cntOf, s1_0, s1_1, s1_2]; done) | (exfalso; simp_all; done), rfl, rfl⟩
  by_cases s1_3 : w = 3
  · refine lv_tableIn (tgt := 67) hx hb dX9_count_1 (by rw [s1_3]; decide) (by rw [s1_3]; decide) (by rw [s1_3]; rfl) (by decide) ?_
    refine lv_aload_n hx hb dX9_count_67 rfl (lv_at hl 0 rfl) ?_
    refine m_get hx hb hts hin9 hown hK hP 12 (by decide) hf116 rfl rfl dX9_count_68 ?_
    refine g_reti hx hb hr hlk hP hS dX9_count_71 ?_
    exact ⟨by first | (simp [cntOf, s1_0, s1_1, s1_2, s1_3]; done) | (exfalso; simp_all; done), rfl, rfl⟩
  by_cases s1_4 : w = 4
  · refine lv_tableIn (tgt := 72) hx hb dX9_count_1 (by rw [s1_4]; decide) (by rw [s1_4]; decide) (by rw [s1_4]; rfl) (by decide) ?_
    refine lv_aload_n hx hb dX9_count_72 rfl (lv_at hl 0 rfl) ?_
    refine m_get hx hb hts hin9 hown hK hP 29 (by decide) hf153 rfl rfl dX9_count_73 ?_
    refine g_reti hx hb hr hlk hP hS dX9_count_76 ?_
    exact ⟨by first | (simp [cntOf, s1_0, s1_1, s1_2, s1_3, s1_4]; done) | (exfalso; simp_all; done), rfl, rfl⟩
  by_cases s1_5 : w = 5
  · refine lv_tableIn (tgt := 77) hx hb dX9_count_1 (by rw [s1_5]; decide) (by rw [s1_5]; decide) (by rw [s1_5]; rfl) (by decide) ?_
    refine lv_aload_n hx hb dX9_count_77 rfl (lv_at hl 0 rfl) ?_
    refine m_get hx hb hts hin9 hown hK hP 30 (by decide) hf166 rfl rfl dX9_count_78 ?_
    refine g_reti hx hb hr hlk hP hS dX9_count_81 ?_
    exact ⟨by first | (simp [cntOf, s1_0, s1_1, s1_2, s1_3, s1_4, s1_5]; done) | (exfalso; simp_all; done), rfl, rfl⟩
  by_cases s1_6 : w = 6
  · refine lv_tableIn (tgt := 82) hx hb dX9_count_1 (by rw [s1_6]; decide) (by rw [s1_6]; decide) (by rw [s1_6]; rfl) (by decide) ?_
    refine lv_aload_n hx hb dX9_count_82 rfl (lv_at hl 0 rfl) ?_
    refine m_get hx hb hts hin9 hown hK hP 31 (by decide) hf143 rfl rfl dX9_count_83 ?_
    refine g_reti hx hb hr hlk hP hS dX9_count_86 ?_
    exact ⟨by first | (simp [cntOf, s1_0, s1_1, s1_2, s1_3, s1_4, s1_5, s1_6]; done) | (exfalso; simp_all; done), rfl, rfl⟩
  by_cases s1_7 : w = 7
  · refine lv_tableIn (tgt := 87) hx hb dX9_count_1 (by rw [s1_7]; decide) (by rw [s1_7]; decide) (by rw [s1_7]; rfl) (by decide) ?_
    refine lv_aload_n hx hb dX9_count_87 rfl (lv_at hl 0 rfl) ?_
    refine m_get hx hb hts hin9 hown hK hP 32 (by decide) hf150 rfl rfl dX9_count_88 ?_
    refine g_reti hx hb hr hlk hP hS dX9_count_91 ?_
    exact ⟨by first | (simp [cntOf, s1_0, s1_1, s1_2, s1_3, s1_4, s1_5, s1_6, s1_7]; done) | (exfalso; simp_all; done), rfl, rfl⟩
  by_cases s1_8 : w = 8
  · refine lv_tableIn (tgt := 92) hx hb dX9_count_1 (by rw [s1_8]; decide) (by rw [s1_8]; decide) (by rw [s1_8]; rfl) (by decide) ?_
    refine lv_aload_n hx hb dX9_count_92 rfl (lv_at hl 0 rfl) ?_
    refine m_get hx hb hts hin9 hown hK hP 33 (by decide) hf160 rfl rfl dX9_count_93 ?_
    refine g_reti hx hb hr hlk hP hS dX9_count_96 ?_
    exact ⟨by first | (simp [cntOf, s1_0, s1_1, s1_2, s1_3, s1_4, s1_5, s1_6, s1_7, s1_8]; done) | (exfalso; simp_all; done), rfl, rfl⟩
  refine lv_tableOut (tgt := 97) hx hb dX9_count_1 (sw_out8 s1_0 s1_1 s1_2 s1_3 s1_4 s1_5 s1_6 s1_7 s1_8) (by decide) ?_
  refine lv_iconst (v := (-1)) hx hb dX9_count_97 (by decide) ?_
  refine g_reti hx hb hr hlk hP hS dX9_count_98 ?_
  exact ⟨by first | (simp [cntOf, s1_0, s1_1, s1_2, s1_3, s1_4, s1_5, s1_6, s1_7, s1_8]; done) | (exfalso; simp_all; done), rfl, rfl⟩
set_option maxHeartbeats 4000000 in
set_option maxRecDepth 100000 in
theorem kX9_bank (l : Launch) (E : gT) (A : Nat → Prop) (n : Nat) (o : Nat) (c : Nat → Int32) (S : Nat → Nat → Int32) (a w b : Int32)  : gM l yX9_bank wsX9_bank ({ frames := 2, cells := 0, slots := 0, locals := 44 } : Room) E A n (GM E o c S) [.ref o, .int a, .int w, .int b] (gQi E A (fun r' n' G' => bnkOf S a w b = r' ∧ n = n' ∧ (GM E o c S) = G')) 0 0 := by
  refine g_entry (by decide) rfl (Nat.le_of_ble_eq_true rfl) ?_
  intro p e s m below meth c0 hx hb hr hlk hml hown hnm hts hK H locs ls hP hS hl
  have hin9 : ∀ w ∈ u_ws RX9 TX9 35, w ∈ wsX9_bank := by decide +kernel
  have hf13 := hts (.fieldLink RX9 13 "DikeHandsModel" "height" "[I") (by decide +kernel)
  have hf22 := hts (.fieldLink RX9 22 "DikeHandsModel" "broke" "[I") (by decide +kernel)
  have hf25 := hts (.fieldLink RX9 25 "DikeHandsModel" "worked" "[I") (by decide +kernel)
  have hl : lv_has ls 4 [(0, .ref o), (1, .int a), (2, .int w), (3, .int b)] := hl
  refine lv_iload_n hx hb dX9_bank_0 rfl (lv_at hl 1 rfl) ?_
  refine g_ci (g_runS (As := [.int a]) (rest := []) ⟨hx, hb, hml, hown, hts⟩ hK hP (kX9_isRod l E A n (GM E o c S) a) (va_cwS 1 hts gX9_bank_X9_isRod rfl rfl rfl (by decide +kernel) ⟨Nat.le_of_ble_eq_true rfl, Nat.le_of_ble_eq_true rfl⟩) rfl hl.1 rfl (Nat.le_of_ble_eq_true rfl) dX9_bank_1 ⟨Nat.le_of_ble_eq_true rfl, Nat.le_of_ble_eq_true rfl⟩) hS (fun r1 n' G' H locs hw hP hS => ?_)
  obtain ⟨rfl, rfl, rfl⟩ := hw
  refine g_ifne (tgt := 9) hx hb dX9_bank_4 (by decide) (fun b4 => ?_) (fun b4 => ?_)
  · refine lv_iload_n hx hb dX9_bank_9 rfl (lv_at hl 2 rfl) ?_
    by_cases s10_0 : w = 0
    · refine lv_tableIn (tgt := 40) hx hb dX9_bank_10 (by rw [s10_0]; decide) (by rw [s10_0]; decide) (by rw [s10_0]; rfl) (by decide) ?_
      refine lv_aload_n hx hb dX9_bank_40 rfl (lv_at hl 0 rfl) ?_
      refine m_get hx hb hts hin9 hown hK hP 2 (by decide) hf13 rfl rfl dX9_bank_41 ?_
      refine lv_iload_n hx hb dX9_bank_44 rfl (lv_at hl 1 rfl) ?_
      refine m_iald hx hb hK hP 1 30 rfl (by decide) rfl (inB_vp b4 (by decide)) dX9_bank_45 ?_
      refine g_reti hx hb hr hlk hP hS dX9_bank_46 ?_
      exact ⟨by first | (simp [bnkOf, b4, s10_0]; done) | (exfalso; simp_all; done), rfl, rfl⟩
    by_cases s10_1 : w = 1
    · refine lv_tableIn (tgt := 47) hx hb dX9_bank_10 (by rw [s10_1]; decide) (by rw [s10_1]; decide) (by rw [s10_1]; rfl) (by decide) ?_
      refine lv_aload_n hx hb dX9_bank_47 rfl (lv_at hl 0 rfl) ?_
      refine m_get hx hb hts hin9 hown hK hP 5 (by decide) hf22 rfl rfl dX9_bank_48 ?_
      refine lv_iload_n hx hb dX9_bank_51 rfl (lv_at hl 1 rfl) ?_
      refine m_iald hx hb hK hP 4 30 rfl (by decide) rfl (inB_vp b4 (by decide)) dX9_bank_52 ?_
      refine g_reti hx hb hr hlk hP hS dX9_bank_53 ?_
      exact ⟨by first | (simp [bnkOf, b4, s10_0, s10_1]; done) | (exfalso; simp_all; done), rfl, rfl⟩
    by_cases s10_2 : w = 2
    · refine lv_tableIn (tgt := 54) hx hb dX9_bank_10 (by rw [s10_2]; decide) (by rw [s10_2]; decide) (by rw [s10_2]; rfl) (by decide) ?_
      refine lv_aload_n hx hb dX9_bank_54 rfl (lv_at hl 0 rfl) ?_
      refine m_get hx hb hts hin9 hown hK hP 6 (by decide) hf25 rfl rfl dX9_bank_55 ?_
      refine lv_iload_n hx hb dX9_bank_58 rfl (lv_at hl 1 rfl) ?_
      refine m_iald hx hb hK hP 5 30 rfl (by decide) rfl (inB_vp b4 (by decide)) dX9_bank_59 ?_
      refine g_reti hx hb hr hlk hP hS dX9_bank_60 ?_
      exact ⟨by first | (simp [bnkOf, b4, s10_0, s10_1, s10_2]; done) | (exfalso; simp_all; done), rfl, rfl⟩
    by_cases s10_3 : w = 3
    · refine lv_tableIn (tgt := 61) hx hb dX9_bank_10 (by rw [s10_3]; decide) (by rw [s10_3]; decide) (by rw [s10_3]; rfl) (by decide) ?_
      refine lv_iload_n hx hb dX9_bank_61 rfl (lv_at hl 3 rfl) ?_
      refine lv_iconst (v := 0) hx hb dX9_bank_62 (by decide) ?_
      refine lv_sipush (v := 3000) hx hb dX9_bank_63 (by decide) ?_
      refine g_ci (g_runS (As := [.int b, .int 0, .int 3000]) (rest := []) ⟨hx, hb, hml, hown, hts⟩ hK hP (kX9_in l E A n (GM E o c S) b 0 3000) (va_cwS 3 hts gX9_bank_X9_in rfl rfl rfl (by decide +kernel) ⟨Nat.le_of_ble_eq_true rfl, Nat.le_of_ble_eq_true rfl⟩) rfl hl.1 rfl (Nat.le_of_ble_eq_true rfl) dX9_bank_66 ⟨Nat.le_of_ble_eq_true rfl, Nat.le_of_ble_eq_true rfl⟩) hS (fun r66 n' G' H locs hw hP hS => ?_)
      obtain ⟨rfl, rfl, rfl⟩ := hw
      refine g_ifeq (tgt := 81) hx hb dX9_bank_69 (by decide) (fun b69 => ?_) (fun b69 => ?_)
      · refine lv_iconst (v := (-1)) hx hb dX9_bank_81 (by decide) ?_
        refine g_reti hx hb hr hlk hP hS dX9_bank_82 ?_
        exact ⟨by first | (simp [bnkOf, b4, s10_0, s10_1, s10_2, s10_3, b69]; done) | (exfalso; simp_all; done), rfl, rfl⟩
      · refine lv_aload_n hx hb dX9_bank_72 rfl (lv_at hl 0 rfl) ?_
        refine lv_iload_n hx hb dX9_bank_73 rfl (lv_at hl 1 rfl) ?_
        refine lv_iload_n hx hb dX9_bank_74 rfl (lv_at hl 3 rfl) ?_
        refine g_ci (g_runV (As := [.int a, .int b]) (rest := []) ⟨hx, hb, hml, hown, hts⟩ hK hP (kX9_needs l E A n o c S a b (inB_vp b4 (by decide))) (cwV 2 hts gX9_bank_X9_needs rfl rfl rfl (by decide +kernel) ⟨Nat.le_of_ble_eq_true rfl, Nat.le_of_ble_eq_true rfl⟩) GM_o rfl rfl hl.1 rfl (Nat.le_of_ble_eq_true rfl) dX9_bank_75 ⟨Nat.le_of_ble_eq_true rfl, Nat.le_of_ble_eq_true rfl⟩) hS (fun r75 n' G' H locs hw hP hS => ?_)
        obtain ⟨rfl, rfl, rfl⟩ := hw
        refine lv_goto (tgt := 82) hx hb dX9_bank_78 (by decide) ?_
        refine g_reti hx hb hr hlk hP hS dX9_bank_82 ?_
        exact ⟨by first | (simp [bnkOf, b4, s10_0, s10_1, s10_2, s10_3, b69]; done) | (exfalso; simp_all; done), rfl, rfl⟩
    refine lv_tableOut (tgt := 83) hx hb dX9_bank_10 (sw_out3 s10_0 s10_1 s10_2 s10_3) (by decide) ?_
    refine lv_iconst (v := (-1)) hx hb dX9_bank_83 (by decide) ?_
    refine g_reti hx hb hr hlk hP hS dX9_bank_84 ?_
    exact ⟨by first | (simp [bnkOf, b4, s10_0, s10_1, s10_2, s10_3]; done) | (exfalso; simp_all; done), rfl, rfl⟩
  · refine lv_iconst (v := (-1)) hx hb dX9_bank_7 (by decide) ?_
    refine g_reti hx hb hr hlk hP hS dX9_bank_8 ?_
    exact ⟨by first | (simp [bnkOf, b4]; done) | (exfalso; simp_all; done), rfl, rfl⟩
set_option maxHeartbeats 4000000 in
set_option maxRecDepth 100000 in
theorem kX9_village (l : Launch) (E : gT) (A : Nat → Prop) (n : Nat) (o : Nat) (c : Nat → Int32) (S : Nat → Nat → Int32) (a b : Int32)  : gM l yX9_village wsX9_village ({ frames := 2, cells := 0, slots := 0, locals := 42 } : Room) E A n (GM E o c S) [.ref o, .int a, .int b] (gQi E A (fun r' n' G' => gb (vilB a b) = r' ∧ n = n' ∧ (GM E o c (vilS S a b)) = G')) 0 0 := by
  refine g_entry (by decide) rfl (Nat.le_of_ble_eq_true rfl) ?_
  intro p e s m below meth c0 hx hb hr hlk hml hown hnm hts hK H locs ls hP hS hl
  have hin9 : ∀ w ∈ u_ws RX9 TX9 35, w ∈ wsX9_village := by decide +kernel
  have hf9 := hts (.fieldLink RX9 9 "DikeHandsModel" "mile" "[I") (by decide +kernel)
  have hl : lv_has ls 3 [(0, .ref o), (1, .int a), (2, .int b)] := hl
  refine lv_iload_n hx hb dX9_village_0 rfl (lv_at hl 1 rfl) ?_
  refine g_ci (g_runS (As := [.int a]) (rest := []) ⟨hx, hb, hml, hown, hts⟩ hK hP (kX9_isVillage l E A n (GM E o c S) a) (va_cwS 1 hts gX9_village_X9_isVillage rfl rfl rfl (by decide +kernel) ⟨Nat.le_of_ble_eq_true rfl, Nat.le_of_ble_eq_true rfl⟩) rfl hl.1 rfl (Nat.le_of_ble_eq_true rfl) dX9_village_1 ⟨Nat.le_of_ble_eq_true rfl, Nat.le_of_ble_eq_true rfl⟩) hS (fun r1 n' G' H locs hw hP hS => ?_)
  obtain ⟨rfl, rfl, rfl⟩ := hw
  refine g_ifeq (tgt := 17) hx hb dX9_village_4 (by decide) (fun b4 => ?_) (fun b4 => ?_)
  · refine lv_iconst (v := 0) hx hb dX9_village_17 (by decide) ?_
    refine g_retz hx hb hr hlk hP hS dX9_village_18 rfl ?_
    exact ⟨by first | (simp [vilB, vilS, gb, bx_uu, fa_upd_twice, b4]; done) | (exfalso; simp_all; done), rfl, by first | rfl | (first | (simp [vilB, vilS, gb, bx_uu, fa_upd_twice, b4]; done) | (exfalso; simp_all; done))⟩
  · refine lv_iload_n hx hb dX9_village_7 rfl (lv_at hl 2 rfl) ?_
    refine lv_iconst (v := 0) hx hb dX9_village_8 (by decide) ?_
    refine lv_bipush (v := 99) hx hb dX9_village_9 (by decide) ?_
    refine g_ci (g_runS (As := [.int b, .int 0, .int 99]) (rest := []) ⟨hx, hb, hml, hown, hts⟩ hK hP (kX9_in l E A n (GM E o c S) b 0 99) (va_cwS 3 hts gX9_village_X9_in rfl rfl rfl (by decide +kernel) ⟨Nat.le_of_ble_eq_true rfl, Nat.le_of_ble_eq_true rfl⟩) rfl hl.1 rfl (Nat.le_of_ble_eq_true rfl) dX9_village_11 ⟨Nat.le_of_ble_eq_true rfl, Nat.le_of_ble_eq_true rfl⟩) hS (fun r11 n' G' H locs hw hP hS => ?_)
    obtain ⟨rfl, rfl, rfl⟩ := hw
    refine g_ifne (tgt := 19) hx hb dX9_village_14 (by decide) (fun b14 => ?_) (fun b14 => ?_)
    · refine lv_aload_n hx hb dX9_village_19 rfl (lv_at hl 0 rfl) ?_
      refine m_get hx hb hts hin9 hown hK hP 1 (by decide) hf9 rfl rfl dX9_village_20 ?_
      refine lv_iload_n hx hb dX9_village_23 rfl (lv_at hl 1 rfl) ?_
      refine lv_iload_n hx hb dX9_village_24 rfl (lv_at hl 2 rfl) ?_
      refine m_iast hx hb hK hP hS 0 8 rfl (by decide) rfl (inB_vp b4 (by decide)) dX9_village_25 (fun H locs hP hS => ?_)
      have hP : gP E A n (GM E o c (va_up S 0 (upd (S 0) (tn a) b))) H := hP
      refine lv_iconst (v := 1) hx hb dX9_village_26 (by decide) ?_
      refine g_retz hx hb hr hlk hP hS dX9_village_27 rfl ?_
      exact ⟨by first | (simp [vilB, vilS, gb, bx_uu, fa_upd_twice, b4, b14]; done) | (exfalso; simp_all; done), rfl, by first | rfl | (first | (simp [vilB, vilS, gb, bx_uu, fa_upd_twice, b4, b14]; done) | (exfalso; simp_all; done))⟩
    · refine lv_iconst (v := 0) hx hb dX9_village_17 (by decide) ?_
      refine g_retz hx hb hr hlk hP hS dX9_village_18 rfl ?_
      exact ⟨by first | (simp [vilB, vilS, gb, bx_uu, fa_upd_twice, b4, b14]; done) | (exfalso; simp_all; done), rfl, by first | rfl | (first | (simp [vilB, vilS, gb, bx_uu, fa_upd_twice, b4, b14]; done) | (exfalso; simp_all; done))⟩
set_option maxHeartbeats 4000000 in
set_option maxRecDepth 100000 in
theorem kX9_rod (l : Launch) (E : gT) (A : Nat → Prop) (n : Nat) (o : Nat) (c : Nat → Int32) (S : Nat → Nat → Int32) (a b d : Int32)  : gM l yX9_rod wsX9_rod ({ frames := 2, cells := 0, slots := 0, locals := 42 } : Room) E A n (GM E o c S) [.ref o, .int a, .int b, .int d] (gQi E A (fun r' n' G' => gb (rodB a b d) = r' ∧ n = n' ∧ (GM E o c (rodS S a b d)) = G')) 0 0 := by
  refine g_entry (by decide) rfl (Nat.le_of_ble_eq_true rfl) ?_
  intro p e s m below meth c0 hx hb hr hlk hml hown hnm hts hK H locs ls hP hS hl
  have hin9 : ∀ w ∈ u_ws RX9 TX9 35, w ∈ wsX9_rod := by decide +kernel
  have hf16 := hts (.fieldLink RX9 16 "DikeHandsModel" "soil" "[I") (by decide +kernel)
  have hf19 := hts (.fieldLink RX9 19 "DikeHandsModel" "loss" "[I") (by decide +kernel)
  have hl : lv_has ls 4 [(0, .ref o), (1, .int a), (2, .int b), (3, .int d)] := hl
  refine lv_iload_n hx hb dX9_rod_0 rfl (lv_at hl 1 rfl) ?_
  refine g_ci (g_runS (As := [.int a]) (rest := []) ⟨hx, hb, hml, hown, hts⟩ hK hP (kX9_isRod l E A n (GM E o c S) a) (va_cwS 1 hts gX9_rod_X9_isRod rfl rfl rfl (by decide +kernel) ⟨Nat.le_of_ble_eq_true rfl, Nat.le_of_ble_eq_true rfl⟩) rfl hl.1 rfl (Nat.le_of_ble_eq_true rfl) dX9_rod_1 ⟨Nat.le_of_ble_eq_true rfl, Nat.le_of_ble_eq_true rfl⟩) hS (fun r1 n' G' H locs hw hP hS => ?_)
  obtain ⟨rfl, rfl, rfl⟩ := hw
  refine g_ifeq (tgt := 27) hx hb dX9_rod_4 (by decide) (fun b4 => ?_) (fun b4 => ?_)
  · refine lv_iconst (v := 0) hx hb dX9_rod_27 (by decide) ?_
    refine g_retz hx hb hr hlk hP hS dX9_rod_28 rfl ?_
    exact ⟨by first | (simp [rodB, rodS, gb, bx_uu, fa_upd_twice, b4]; done) | (exfalso; simp_all; done), rfl, by first | rfl | (first | (simp [rodB, rodS, gb, bx_uu, fa_upd_twice, b4]; done) | (exfalso; simp_all; done))⟩
  · refine lv_iload_n hx hb dX9_rod_7 rfl (lv_at hl 2 rfl) ?_
    refine lv_iconst (v := 0) hx hb dX9_rod_8 (by decide) ?_
    refine lv_iconst (v := 2) hx hb dX9_rod_9 (by decide) ?_
    refine g_ci (g_runS (As := [.int b, .int 0, .int 2]) (rest := []) ⟨hx, hb, hml, hown, hts⟩ hK hP (kX9_in l E A n (GM E o c S) b 0 2) (va_cwS 3 hts gX9_rod_X9_in rfl rfl rfl (by decide +kernel) ⟨Nat.le_of_ble_eq_true rfl, Nat.le_of_ble_eq_true rfl⟩) rfl hl.1 rfl (Nat.le_of_ble_eq_true rfl) dX9_rod_10 ⟨Nat.le_of_ble_eq_true rfl, Nat.le_of_ble_eq_true rfl⟩) hS (fun r10 n' G' H locs hw hP hS => ?_)
    obtain ⟨rfl, rfl, rfl⟩ := hw
    refine g_ifeq (tgt := 27) hx hb dX9_rod_13 (by decide) (fun b13 => ?_) (fun b13 => ?_)
    · refine lv_iconst (v := 0) hx hb dX9_rod_27 (by decide) ?_
      refine g_retz hx hb hr hlk hP hS dX9_rod_28 rfl ?_
      exact ⟨by first | (simp [rodB, rodS, gb, bx_uu, fa_upd_twice, b4, b13]; done) | (exfalso; simp_all; done), rfl, by first | rfl | (first | (simp [rodB, rodS, gb, bx_uu, fa_upd_twice, b4, b13]; done) | (exfalso; simp_all; done))⟩
    · refine lv_iload_n hx hb dX9_rod_16 rfl (lv_at hl 3 rfl) ?_
      refine lv_iconst (v := 0) hx hb dX9_rod_17 (by decide) ?_
      refine lv_sipush (v := 10000) hx hb dX9_rod_18 (by decide) ?_
      refine g_ci (g_runS (As := [.int d, .int 0, .int 10000]) (rest := []) ⟨hx, hb, hml, hown, hts⟩ hK hP (kX9_in l E A n (GM E o c S) d 0 10000) (va_cwS 3 hts gX9_rod_X9_in rfl rfl rfl (by decide +kernel) ⟨Nat.le_of_ble_eq_true rfl, Nat.le_of_ble_eq_true rfl⟩) rfl hl.1 rfl (Nat.le_of_ble_eq_true rfl) dX9_rod_21 ⟨Nat.le_of_ble_eq_true rfl, Nat.le_of_ble_eq_true rfl⟩) hS (fun r21 n' G' H locs hw hP hS => ?_)
      obtain ⟨rfl, rfl, rfl⟩ := hw
      refine g_ifne (tgt := 29) hx hb dX9_rod_24 (by decide) (fun b24 => ?_) (fun b24 => ?_)
      · refine lv_aload_n hx hb dX9_rod_29 rfl (lv_at hl 0 rfl) ?_
        refine m_get hx hb hts hin9 hown hK hP 3 (by decide) hf16 rfl rfl dX9_rod_30 ?_
        refine lv_iload_n hx hb dX9_rod_33 rfl (lv_at hl 1 rfl) ?_
        refine lv_iload_n hx hb dX9_rod_34 rfl (lv_at hl 2 rfl) ?_
        refine m_iast hx hb hK hP hS 2 30 rfl (by decide) rfl (inB_vp b4 (by decide)) dX9_rod_35 (fun H locs hP hS => ?_)
        have hP : gP E A n (GM E o c (va_up S 2 (upd (S 2) (tn a) b))) H := hP
        refine lv_aload_n hx hb dX9_rod_36 rfl (lv_at hl 0 rfl) ?_
        refine m_get hx hb hts hin9 hown hK hP 4 (by decide) hf19 rfl rfl dX9_rod_37 ?_
        refine lv_iload_n hx hb dX9_rod_40 rfl (lv_at hl 1 rfl) ?_
        refine lv_iload_n hx hb dX9_rod_41 rfl (lv_at hl 3 rfl) ?_
        refine m_iast hx hb hK hP hS 3 30 rfl (by decide) rfl (inB_vp b4 (by decide)) dX9_rod_42 (fun H locs hP hS => ?_)
        have hP : gP E A n (GM E o c (va_up (va_up S 2 (upd (S 2) (tn a) b)) 3 (upd (S 3) (tn a) d))) H := hP
        refine lv_iconst (v := 1) hx hb dX9_rod_43 (by decide) ?_
        refine g_retz hx hb hr hlk hP hS dX9_rod_44 rfl ?_
        exact ⟨by first | (simp [rodB, rodS, gb, bx_uu, fa_upd_twice, b4, b13, b24]; done) | (exfalso; simp_all; done), rfl, by first | rfl | (first | (simp [rodB, rodS, gb, bx_uu, fa_upd_twice, b4, b13, b24]; done) | (exfalso; simp_all; done))⟩
      · refine lv_iconst (v := 0) hx hb dX9_rod_27 (by decide) ?_
        refine g_retz hx hb hr hlk hP hS dX9_rod_28 rfl ?_
        exact ⟨by first | (simp [rodB, rodS, gb, bx_uu, fa_upd_twice, b4, b13, b24]; done) | (exfalso; simp_all; done), rfl, by first | rfl | (first | (simp [rodB, rodS, gb, bx_uu, fa_upd_twice, b4, b13, b24]; done) | (exfalso; simp_all; done))⟩
set_option maxHeartbeats 4000000 in
set_option maxRecDepth 100000 in
theorem kX9_raises (l : Launch) (E : gT) (A : Nat → Prop) (n : Nat) (o : Nat) (c : Nat → Int32) (S : Nat → Nat → Int32) (a k : Int32) (hh : vp_in a 30) : gM l yX9_raises wsX9_raises ({ frames := 1, cells := 0, slots := 0, locals := 21 } : Room) E A n (GM E o c S) [.ref o, .int a, .int k] (gQv E A (fun n' G' => n = n' ∧ (GM E o c (raiS S a k)) = G')) 0 0 := by
  refine g_entry (by decide) rfl (Nat.le_of_ble_eq_true rfl) ?_
  intro p e s m below meth c0 hx hb hr hlk hml hown hnm hts hK H locs ls hP hS hl
  have hin9 : ∀ w ∈ u_ws RX9 TX9 35, w ∈ wsX9_raises := by decide +kernel
  have hf13 := hts (.fieldLink RX9 13 "DikeHandsModel" "height" "[I") (by decide +kernel)
  have hf25 := hts (.fieldLink RX9 25 "DikeHandsModel" "worked" "[I") (by decide +kernel)
  have hl : lv_has ls 3 [(0, .ref o), (1, .int a), (2, .int k)] := hl
  refine lv_aload_n hx hb dX9_raises_0 rfl (lv_at hl 0 rfl) ?_
  refine m_get hx hb hts hin9 hown hK hP 6 (by decide) hf25 rfl rfl dX9_raises_1 ?_
  refine lv_iload_n hx hb dX9_raises_4 rfl (lv_at hl 1 rfl) ?_
  refine lv_dup2_11 hx hb dX9_raises_5 rfl rfl ?_
  refine m_iald hx hb hK hP 5 30 rfl (by decide) rfl hh dX9_raises_6 ?_
  refine lv_iload_n hx hb dX9_raises_7 rfl (lv_at hl 2 rfl) ?_
  refine lv_iadd hx hb dX9_raises_8 ?_
  refine m_iast hx hb hK hP hS 5 30 rfl (by decide) rfl hh dX9_raises_9 (fun H locs hP hS => ?_)
  have hP : gP E A n (GM E o c (va_up S 5 (upd (S 5) (tn a) ((S 5 (tn a)) + k)))) H := hP
  refine lv_aload_n hx hb dX9_raises_10 rfl (lv_at hl 0 rfl) ?_
  refine m_get hx hb hts hin9 hown hK hP 2 (by decide) hf13 rfl rfl dX9_raises_11 ?_
  refine lv_iload_n hx hb dX9_raises_14 rfl (lv_at hl 1 rfl) ?_
  refine lv_dup2_11 hx hb dX9_raises_15 rfl rfl ?_
  refine m_iald hx hb hK hP 1 30 rfl (by decide) rfl hh dX9_raises_16 ?_
  refine lv_iload_n hx hb dX9_raises_17 rfl (lv_at hl 2 rfl) ?_
  refine lv_aload_n hx hb dX9_raises_18 rfl (lv_at hl 0 rfl) ?_
  refine lv_iload_n hx hb dX9_raises_19 rfl (lv_at hl 1 rfl) ?_
  refine g_ci (g_runV (As := [.int a]) (rest := [.int k, .int (S 1 (tn a)), .int a, .ref (o + 2)]) ⟨hx, hb, hml, hown, hts⟩ hK hP (kX9_perDay l E A n o c (va_up S 5 (upd (S 5) (tn a) ((S 5 (tn a)) + k))) a hh) (cwV 1 hts gX9_raises_X9_perDay rfl rfl rfl (by decide +kernel) ⟨Nat.le_of_ble_eq_true rfl, Nat.le_of_ble_eq_true rfl⟩) GM_o rfl rfl hl.1 rfl (Nat.le_of_ble_eq_true rfl) dX9_raises_20 ⟨Nat.le_of_ble_eq_true rfl, Nat.le_of_ble_eq_true rfl⟩) hS (fun r20 n' G' H locs hw hP hS => ?_)
  obtain ⟨rfl, rfl, rfl⟩ := hw
  refine lv_imul hx hb dX9_raises_23 ?_
  refine lv_iadd hx hb dX9_raises_24 ?_
  refine m_iast hx hb hK hP hS 1 30 rfl (by decide) rfl hh dX9_raises_25 (fun H locs hP hS => ?_)
  have hP : gP E A n (GM E o c (va_up (va_up S 5 (upd (S 5) (tn a) ((S 5 (tn a)) + k))) 1 (upd (S 1) (tn a) ((S 1 (tn a)) + (k * (perOf (va_up S 5 (upd (S 5) (tn a) ((S 5 (tn a)) + k))) a)))))) H := hP
  refine lv_aload_n hx hb dX9_raises_26 rfl (lv_at hl 0 rfl) ?_
  refine m_get hx hb hts hin9 hown hK hP 2 (by decide) hf13 rfl rfl dX9_raises_27 ?_
  refine lv_iload_n hx hb dX9_raises_30 rfl (lv_at hl 1 rfl) ?_
  refine m_iald hx hb hK hP 1 30 rfl (by decide) rfl hh dX9_raises_31 ?_
  refine W.eq (g2 := F0 m 32 ls [.int ((S 1 (tn a)) + (k * (perOf (va_up S 5 (upd (S 5) (tn a) ((S 5 (tn a)) + k))) a)))]) (by rw [show (va_up (va_up S 5 (upd (S 5) (tn a) ((S 5 (tn a)) + k))) 1 (upd (S 1) (tn a) ((S 1 (tn a)) + (k * (perOf (va_up S 5 (upd (S 5) (tn a) ((S 5 (tn a)) + k))) a))))) 1 (tn a) = ((S 1 (tn a)) + (k * (perOf (va_up S 5 (upd (S 5) (tn a) ((S 5 (tn a)) + k))) a))) from pk_us]) ?_
  refine lv_sipush (v := 3000) hx hb dX9_raises_32 (by decide) ?_
  refine lv_icmp_le (tgt := 47) hx hb dX9_raises_35 (by decide) (fun b35 => ?_) (fun b35 => ?_)
  · refine g_retv hx hb hr hlk hP hS dX9_raises_47 ?_
    have e1 : perOf (va_up S 5 (upd (S 5) (tn a) (S 5 (tn a) + k))) a = perOf S a := rfl
    rw [e1] at b35
    refine ⟨rfl, ?_⟩
    rw [e1]
    simp [raiS, raiH, bx_uu, fa_upd_twice, b35, Int32.not_lt.mpr b35]
  · refine lv_aload_n hx hb dX9_raises_38 rfl (lv_at hl 0 rfl) ?_
    refine m_get hx hb hts hin9 hown hK hP 2 (by decide) hf13 rfl rfl dX9_raises_39 ?_
    refine lv_iload_n hx hb dX9_raises_42 rfl (lv_at hl 1 rfl) ?_
    refine lv_sipush (v := 3000) hx hb dX9_raises_43 (by decide) ?_
    refine m_iast hx hb hK hP hS 1 30 rfl (by decide) rfl hh dX9_raises_46 (fun H locs hP hS => ?_)
    have hP : gP E A n (GM E o c (va_up (va_up (va_up S 5 (upd (S 5) (tn a) ((S 5 (tn a)) + k))) 1 (upd (S 1) (tn a) ((S 1 (tn a)) + (k * (perOf (va_up S 5 (upd (S 5) (tn a) ((S 5 (tn a)) + k))) a))))) 1 (upd (upd (S 1) (tn a) ((S 1 (tn a)) + (k * (perOf (va_up S 5 (upd (S 5) (tn a) ((S 5 (tn a)) + k))) a)))) (tn a) 3000))) H := hP
    refine g_retv hx hb hr hlk hP hS dX9_raises_47 ?_
    have e1 : perOf (va_up S 5 (upd (S 5) (tn a) (S 5 (tn a) + k))) a = perOf S a := rfl
    rw [e1] at b35
    refine ⟨rfl, ?_⟩
    rw [e1]
    simp [raiS, raiH, bx_uu, fa_upd_twice, b35, Int32.not_le.mp b35]
set_option maxHeartbeats 4000000 in
set_option maxRecDepth 100000 in
theorem kX9_ends (l : Launch) (E : gT) (A : Nat → Prop) (n : Nat) (o : Nat) (c : Nat → Int32) (S : Nat → Nat → Int32) (a k : Int32) (hh : vp_in a 30) : gM l yX9_ends wsX9_ends ({ frames := 0, cells := 0, slots := 0, locals := 0 } : Room) E A n (GM E o c S) [.ref o, .int a, .int k] (gQv E A (fun n' G' => n = n' ∧ (GM E o (endC c S a k) (endS S a k)) = G')) 0 0 := by
  refine g_entry (by decide) rfl (Nat.le_of_ble_eq_true rfl) ?_
  intro p e s m below meth c0 hx hb hr hlk hml hown hnm hts hK H locs ls hP hS hl
  have hin9 : ∀ w ∈ u_ws RX9 TX9 35, w ∈ wsX9_ends := by decide +kernel
  have hf13 := hts (.fieldLink RX9 13 "DikeHandsModel" "height" "[I") (by decide +kernel)
  have hf19 := hts (.fieldLink RX9 19 "DikeHandsModel" "loss" "[I") (by decide +kernel)
  have hf22 := hts (.fieldLink RX9 22 "DikeHandsModel" "broke" "[I") (by decide +kernel)
  have hf166 := hts (.fieldLink RX9 166 "DikeHandsModel" "lost" "I") (by decide +kernel)
  have hl : lv_has ls 3 [(0, .ref o), (1, .int a), (2, .int k)] := hl
  refine lv_iload_n hx hb dX9_ends_0 rfl (lv_at hl 2 rfl) ?_
  refine lv_aload_n hx hb dX9_ends_1 rfl (lv_at hl 0 rfl) ?_
  refine m_get hx hb hts hin9 hown hK hP 2 (by decide) hf13 rfl rfl dX9_ends_2 ?_
  refine lv_iload_n hx hb dX9_ends_5 rfl (lv_at hl 1 rfl) ?_
  refine m_iald hx hb hK hP 1 30 rfl (by decide) rfl hh dX9_ends_6 ?_
  refine lv_icmp_le (tgt := 43) hx hb dX9_ends_7 (by decide) (fun b7 => ?_) (fun b7 => ?_)
  · refine lv_aload_n hx hb dX9_ends_43 rfl (lv_at hl 0 rfl) ?_
    refine m_get hx hb hts hin9 hown hK hP 2 (by decide) hf13 rfl rfl dX9_ends_44 ?_
    refine lv_iload_n hx hb dX9_ends_47 rfl (lv_at hl 1 rfl) ?_
    refine lv_dup2_11 hx hb dX9_ends_48 rfl rfl ?_
    refine m_iald hx hb hK hP 1 30 rfl (by decide) rfl hh dX9_ends_49 ?_
    refine lv_iload_n hx hb dX9_ends_50 rfl (lv_at hl 2 rfl) ?_
    refine lv_bipush (v := 100) hx hb dX9_ends_51 (by decide) ?_
    refine lv_idiv hx hb dX9_ends_53 (by decide) ?_
    refine lv_isub hx hb dX9_ends_54 ?_
    refine m_iast hx hb hK hP hS 1 30 rfl (by decide) rfl hh dX9_ends_55 (fun H locs hP hS => ?_)
    have hP : gP E A n (GM E o c (va_up S 1 (upd (S 1) (tn a) ((S 1 (tn a)) - (k / 100))))) H := hP
    refine lv_aload_n hx hb dX9_ends_56 rfl (lv_at hl 0 rfl) ?_
    refine m_get hx hb hts hin9 hown hK hP 2 (by decide) hf13 rfl rfl dX9_ends_57 ?_
    refine lv_iload_n hx hb dX9_ends_60 rfl (lv_at hl 1 rfl) ?_
    refine m_iald hx hb hK hP 1 30 rfl (by decide) rfl hh dX9_ends_61 ?_
    refine W.eq (g2 := F0 m 62 ls [.int ((S 1 (tn a)) - (k / 100))]) (by rw [show (va_up S 1 (upd (S 1) (tn a) ((S 1 (tn a)) - (k / 100)))) 1 (tn a) = ((S 1 (tn a)) - (k / 100)) from pk_us]) ?_
    refine lv_if_ge (tgt := 72) hx hb dX9_ends_62 (by decide) (fun b62 => ?_) (fun b62 => ?_)
    · refine g_retv hx hb hr hlk hP hS dX9_ends_72 ?_
      exact ⟨rfl, by first | rfl | (first | (simp [endS, endC, endH, bx_uu, fa_upd_twice, b7, Int32.not_lt.mpr b7, b62, Int32.not_lt.mpr b62]; done) | (exfalso; simp_all; done))⟩
    · refine lv_aload_n hx hb dX9_ends_65 rfl (lv_at hl 0 rfl) ?_
      refine m_get hx hb hts hin9 hown hK hP 2 (by decide) hf13 rfl rfl dX9_ends_66 ?_
      refine lv_iload_n hx hb dX9_ends_69 rfl (lv_at hl 1 rfl) ?_
      refine lv_iconst (v := 0) hx hb dX9_ends_70 (by decide) ?_
      refine m_iast hx hb hK hP hS 1 30 rfl (by decide) rfl hh dX9_ends_71 (fun H locs hP hS => ?_)
      have hP : gP E A n (GM E o c (va_up (va_up S 1 (upd (S 1) (tn a) ((S 1 (tn a)) - (k / 100)))) 1 (upd (upd (S 1) (tn a) ((S 1 (tn a)) - (k / 100))) (tn a) 0))) H := hP
      refine g_retv hx hb hr hlk hP hS dX9_ends_72 ?_
      exact ⟨rfl, by first | rfl | (first | (simp [endS, endC, endH, bx_uu, fa_upd_twice, b7, Int32.not_lt.mpr b7, b62, Int32.not_le.mp b62]; done) | (exfalso; simp_all; done))⟩
  · refine lv_aload_n hx hb dX9_ends_10 rfl (lv_at hl 0 rfl) ?_
    refine m_get hx hb hts hin9 hown hK hP 2 (by decide) hf13 rfl rfl dX9_ends_11 ?_
    refine lv_iload_n hx hb dX9_ends_14 rfl (lv_at hl 1 rfl) ?_
    refine lv_iconst (v := 0) hx hb dX9_ends_15 (by decide) ?_
    refine m_iast hx hb hK hP hS 1 30 rfl (by decide) rfl hh dX9_ends_16 (fun H locs hP hS => ?_)
    have hP : gP E A n (GM E o c (va_up S 1 (upd (S 1) (tn a) 0))) H := hP
    refine lv_aload_n hx hb dX9_ends_17 rfl (lv_at hl 0 rfl) ?_
    refine m_get hx hb hts hin9 hown hK hP 5 (by decide) hf22 rfl rfl dX9_ends_18 ?_
    refine lv_iload_n hx hb dX9_ends_21 rfl (lv_at hl 1 rfl) ?_
    refine lv_dup2_11 hx hb dX9_ends_22 rfl rfl ?_
    refine m_iald hx hb hK hP 4 30 rfl (by decide) rfl hh dX9_ends_23 ?_
    refine lv_iconst (v := 1) hx hb dX9_ends_24 (by decide) ?_
    refine lv_iadd hx hb dX9_ends_25 ?_
    refine m_iast hx hb hK hP hS 4 30 rfl (by decide) rfl hh dX9_ends_26 (fun H locs hP hS => ?_)
    have hP : gP E A n (GM E o c (va_up (va_up S 1 (upd (S 1) (tn a) 0)) 4 (upd (S 4) (tn a) ((S 4 (tn a)) + 1)))) H := hP
    refine lv_aload_n hx hb dX9_ends_27 rfl (lv_at hl 0 rfl) ?_
    refine lv_dup hx hb dX9_ends_28 rfl ?_
    refine m_get hx hb hts hin9 hown hK hP 30 (by decide) hf166 rfl rfl dX9_ends_29 ?_
    refine lv_aload_n hx hb dX9_ends_32 rfl (lv_at hl 0 rfl) ?_
    refine m_get hx hb hts hin9 hown hK hP 4 (by decide) hf19 rfl rfl dX9_ends_33 ?_
    refine lv_iload_n hx hb dX9_ends_36 rfl (lv_at hl 1 rfl) ?_
    refine m_iald hx hb hK hP 3 30 rfl (by decide) rfl hh dX9_ends_37 ?_
    refine lv_iadd hx hb dX9_ends_38 ?_
    refine m_put hx hb hts hin9 hown hK hP hS 30 (by decide) hf166 rfl rfl (by decide +kernel) rfl dX9_ends_39 (fun H locs hP hS => ?_)
    have hP : gP E A n (GM E o (va_up c 30 ((c 30) + (S 3 (tn a)))) (va_up (va_up S 1 (upd (S 1) (tn a) 0)) 4 (upd (S 4) (tn a) ((S 4 (tn a)) + 1)))) H := hP
    refine g_retv hx hb hr hlk hP hS dX9_ends_42 ?_
    exact ⟨rfl, by first | rfl | (first | (simp [endS, endC, endH, bx_uu, fa_upd_twice, b7, Int32.not_le.mp b7]; done) | (exfalso; simp_all; done))⟩
