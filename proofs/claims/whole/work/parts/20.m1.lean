def rem32 (x y : Int32) : Int32 := x - x / y * y
def hsB (c : Nat → Int32) (h : Int32) : Bool := inB h 0 (c 7 - 1)
def yrB (c : Nat → Int32) (y : Int32) : Bool := inB y 0 (c 0 / 52)
def lawN (S : Nat → Nat → Int32) (y : Int32) : Nat → Int32
  | 0 => -1
  | k + 1 => if S 15 k ≤ y ∧ (lawN S y k = -1 ∨ S 15 (tn (lawN S y k)) ≤ S 15 k) then nI k else lawN S y k
def lawOf (c : Nat → Int32) (S : Nat → Nat → Int32) (y : Int32) : Int32 := lawN S y (tn (c 18))
def coinOf (c : Nat → Int32) (S : Nat → Nat → Int32) : Int32 := if lawOf c S (c 0 / 52) = -1 then 0 else S 17 (tn (lawOf c S (c 0 / 52)))
def lstB (S : Nat → Nat → Int32) (h y : Int32) : Bool := decide (S 7 (tn h) < 52 * y)
def lisN (S : Nat → Nat → Int32) (h y w : Int32) : Nat → Int32
  | 0 => if w = 0 then S 8 (tn h) else S 9 (tn h)
  | k + 1 => if S 10 k = h ∧ S 12 k < 52 * y then (if w = 0 then S 13 k else S 14 k) else lisN S h y w k
def lisOf (c : Nat → Int32) (S : Nat → Nat → Int32) (h y w : Int32) : Int32 := lisN S h y w (tn (c 12))
def truN (S : Nat → Nat → Int32) (h w : Int32) : Nat → Int32 × Int32
  | 0 => (S 7 (tn h), S 9 (tn h))
  | k + 1 => if S 10 k = h ∧ S 11 k ≤ w ∧ (truN S h w k).1 ≤ S 11 k then (S 11 k, S 14 k) else truN S h w k
def truOf (c : Nat → Int32) (S : Nat → Nat → Int32) (h w : Int32) : Int32 := if w < S 7 (tn h) then 0 else (truN S h w (tn (c 12))).2
def vilN (c : Nat → Int32) (S : Nat → Nat → Int32) (v w : Int32) : Nat → Int32
  | 0 => 0
  | k + 1 => vilN c S v w k + (if S 6 k = v then truOf c S (nI k) w else 0)
def vilOf (c : Nat → Int32) (S : Nat → Nat → Int32) (v w : Int32) : Int32 := vilN c S v w (tn (c 7))
def oweL (c : Nat → Int32) (S : Nat → Nat → Int32) (h y b : Int32) : Int32 := if lisOf c S h y 0 < rem32 (S 16 (tn b)) 1000 then 0 else lisOf c S h y 0 / 10 * (S 16 (tn b) / 10000) + lisOf c S h y 1 * rem32 (S 16 (tn b) / 1000) 10
def oweOf (c : Nat → Int32) (S : Nat → Nat → Int32) (h y : Int32) : Int32 := if lawOf c S y = -1 then 0 else if lstB S h y = false then 0 else oweL c S h y (lawOf c S y)
def yet0 (c : Nat → Int32) (S : Nat → Nat → Int32) (h y : Int32) : Int32 := oweOf c S h y - S 18 (tn (21 * h + y)) - S 19 (tn (21 * h + y)) - S 20 (tn (21 * h + y))
def yetOf (c : Nat → Int32) (S : Nat → Nat → Int32) (h y : Int32) : Int32 := if yet0 c S h y ≤ 0 then 0 else yet0 c S h y
def perOf (S : Nat → Nat → Int32) (r : Int32) : Int32 := if S 2 (tn r) = 0 then 30 else if S 2 (tn r) = 1 then 20 else 10
def needOf (S : Nat → Nat → Int32) (r lv : Int32) : Int32 := if lv - S 1 (tn r) ≤ 0 then 0 else (lv - S 1 (tn r) + perOf S r - 1) / perOf S r
def hrsOf (a b k : Int32) : Int32 := if a < b then (b - a + k - 1) / k else (a - b + k - 1) / k
theorem perOf_ne (S : Nat → Nat → Int32) (r : Int32) : ¬ perOf S r = 0 := by
  unfold perOf
  by_cases h1 : S 2 (tn r) = 0
  · simp [h1]
  · by_cases h2 : S 2 (tn r) = 1 <;> simp [h1, h2]
theorem hsB_lt {c : Nat → Int32} {S : Nat → Nat → Int32} {h : Int32} (hI : mI c S) (hh : hsB c h = true) : 0 ≤ h.toInt ∧ h.toInt < (c 7).toInt := by
  have h1 := inB_i hh
  have h2 := hI.2.1
  have h3 : (c 7 - 1).toInt = (c 7).toInt - 1 := by rw [fb_subI] <;> (show _; have : (1 : Int32).toInt = 1 := rfl; omega)
  have h4 : (0 : Int32).toInt = 0 := rfl
  omega
theorem hsB_vp {c : Nat → Int32} {S : Nat → Nat → Int32} {h : Int32} (hI : mI c S) (hh : hsB c h = true) : vp_in h 40 := by
  have h1 := hsB_lt hI hh
  have h2 := hI.2.1
  exact vp_in_iff.mpr ⟨by omega, by omega⟩
theorem lawN_in (S : Nat → Nat → Int32) (y : Int32) : ∀ k, k < 2 ^ 31 → lawN S y k = -1 ∨ (0 ≤ (lawN S y k).toInt ∧ (lawN S y k).toInt < k)
  | 0, _ => Or.inl rfl
  | k + 1, hk => by
    have ih := lawN_in S y k (by omega)
    unfold lawN
    split
    · right; rw [nI_toInt (by omega)]; omega
    · rcases ih with h | h
      · exact Or.inl h
      · exact Or.inr (by omega)
theorem lawOf_vp {c : Nat → Int32} {S : Nat → Nat → Int32} {y : Int32} (hI : mI c S) (h : ¬ lawOf c S y = -1) : vp_in (lawOf c S y) 40 := by
  have h2 := hI.2.2.2.1
  have h3 := tn_of h2.1
  rcases lawN_in S y (tn (c 18)) (by omega) with h1 | h1
  · exact absurd h1 h
  · exact vp_in_iff.mpr ⟨h1.1, by have := h1.2; unfold lawOf; omega⟩

set_option maxHeartbeats 4000000 in
set_option maxRecDepth 100000 in
theorem kX9_in (l : Launch) (E : gT) (A : Nat → Prop) (n : Nat) (G : gH) (v lo hi : Int32)  : gM l yX9_in wsX9_in ({ frames := 0, cells := 0, slots := 0, locals := 0 } : Room) E A n G [.int v, .int lo, .int hi] (gQi E A (fun r' n' G' => gb (inB v lo hi) = r' ∧ n = n' ∧ G = G')) 0 0 := by
  refine g_entry (by decide) rfl (Nat.le_of_ble_eq_true rfl) ?_
  intro p e s m below meth c0 hx hb hr hlk hml hown hnm hts hK H locs ls hP hS hl
  have hl : lv_has ls 3 [(0, .int v), (1, .int lo), (2, .int hi)] := hl
  refine lv_iload_n hx hb dX9_in_0 rfl (lv_at hl 0 rfl) ?_
  refine lv_iload_n hx hb dX9_in_1 rfl (lv_at hl 1 rfl) ?_
  refine lv_icmp_lt (tgt := 14) hx hb dX9_in_2 (by decide) (fun b2 => ?_) (fun b2 => ?_)
  · refine lv_iconst (v := 0) hx hb dX9_in_14 (by decide) ?_
    refine g_retz hx hb hr hlk hP hS dX9_in_15 rfl ?_
    exact ⟨by simp [inB, gb, b2, Int32.not_le.mpr b2], rfl, rfl⟩
  · refine lv_iload_n hx hb dX9_in_5 rfl (lv_at hl 0 rfl) ?_
    refine lv_iload_n hx hb dX9_in_6 rfl (lv_at hl 2 rfl) ?_
    refine lv_icmp_gt (tgt := 14) hx hb dX9_in_7 (by decide) (fun b7 => ?_) (fun b7 => ?_)
    · refine lv_iconst (v := 0) hx hb dX9_in_14 (by decide) ?_
      refine g_retz hx hb hr hlk hP hS dX9_in_15 rfl ?_
      exact ⟨by simp [inB, gb, b2, Int32.not_lt.mp b2, b7, Int32.not_le.mpr b7], rfl, rfl⟩
    · refine lv_iconst (v := 1) hx hb dX9_in_10 (by decide) ?_
      refine lv_goto (tgt := 15) hx hb dX9_in_11 (by decide) ?_
      refine g_retz hx hb hr hlk hP hS dX9_in_15 rfl ?_
      exact ⟨by simp [inB, gb, b2, Int32.not_lt.mp b2, b7, Int32.not_lt.mp b7], rfl, rfl⟩
set_option maxHeartbeats 4000000 in
set_option maxRecDepth 100000 in
theorem kX9_isVillage (l : Launch) (E : gT) (A : Nat → Prop) (n : Nat) (G : gH) (v : Int32)  : gM l yX9_isVillage wsX9_isVillage ({ frames := 1, cells := 0, slots := 0, locals := 22 } : Room) E A n G [.int v] (gQi E A (fun r' n' G' => gb (inB v 0 7) = r' ∧ n = n' ∧ G = G')) 0 0 := by
  refine g_entry (by decide) rfl (Nat.le_of_ble_eq_true rfl) ?_
  intro p e s m below meth c0 hx hb hr hlk hml hown hnm hts hK H locs ls hP hS hl
  have hl : lv_has ls 1 [(0, .int v)] := hl
  refine lv_iload_n hx hb dX9_isVillage_0 rfl (lv_at hl 0 rfl) ?_
  refine lv_iconst (v := 0) hx hb dX9_isVillage_1 (by decide) ?_
  refine lv_bipush (v := 7) hx hb dX9_isVillage_2 (by decide) ?_
  refine g_ci (g_runS (As := [.int v, .int 0, .int 7]) (rest := []) ⟨hx, hb, hml, hown, hts⟩ hK hP (kX9_in l E A n G v 0 7) (va_cwS 3 hts gX9_isVillage_X9_in rfl rfl rfl (by decide +kernel) ⟨Nat.le_of_ble_eq_true rfl, Nat.le_of_ble_eq_true rfl⟩) rfl hl.1 rfl (Nat.le_of_ble_eq_true rfl) dX9_isVillage_4 ⟨Nat.le_of_ble_eq_true rfl, Nat.le_of_ble_eq_true rfl⟩) hS (fun r4 n' G' H locs hw hP hS => ?_)
  obtain ⟨rfl, rfl, rfl⟩ := hw
  refine g_retz hx hb hr hlk hP hS dX9_isVillage_7 (gb_nar _) ?_
  exact ⟨rfl, rfl, rfl⟩
set_option maxHeartbeats 4000000 in
set_option maxRecDepth 100000 in
theorem kX9_isRod (l : Launch) (E : gT) (A : Nat → Prop) (n : Nat) (G : gH) (v : Int32)  : gM l yX9_isRod wsX9_isRod ({ frames := 1, cells := 0, slots := 0, locals := 22 } : Room) E A n G [.int v] (gQi E A (fun r' n' G' => gb (inB v 0 29) = r' ∧ n = n' ∧ G = G')) 0 0 := by
  refine g_entry (by decide) rfl (Nat.le_of_ble_eq_true rfl) ?_
  intro p e s m below meth c0 hx hb hr hlk hml hown hnm hts hK H locs ls hP hS hl
  have hl : lv_has ls 1 [(0, .int v)] := hl
  refine lv_iload_n hx hb dX9_isRod_0 rfl (lv_at hl 0 rfl) ?_
  refine lv_iconst (v := 0) hx hb dX9_isRod_1 (by decide) ?_
  refine lv_bipush (v := 29) hx hb dX9_isRod_2 (by decide) ?_
  refine g_ci (g_runS (As := [.int v, .int 0, .int 29]) (rest := []) ⟨hx, hb, hml, hown, hts⟩ hK hP (kX9_in l E A n G v 0 29) (va_cwS 3 hts gX9_isRod_X9_in rfl rfl rfl (by decide +kernel) ⟨Nat.le_of_ble_eq_true rfl, Nat.le_of_ble_eq_true rfl⟩) rfl hl.1 rfl (Nat.le_of_ble_eq_true rfl) dX9_isRod_4 ⟨Nat.le_of_ble_eq_true rfl, Nat.le_of_ble_eq_true rfl⟩) hS (fun r4 n' G' H locs hw hP hS => ?_)
  obtain ⟨rfl, rfl, rfl⟩ := hw
  refine g_retz hx hb hr hlk hP hS dX9_isRod_7 (gb_nar _) ?_
  exact ⟨rfl, rfl, rfl⟩
set_option maxHeartbeats 4000000 in
set_option maxRecDepth 100000 in
theorem kX9_isHouse (l : Launch) (E : gT) (A : Nat → Prop) (n : Nat) (o : Nat) (c : Nat → Int32) (S : Nat → Nat → Int32) (v : Int32)  : gM l yX9_isHouse wsX9_isHouse ({ frames := 1, cells := 0, slots := 0, locals := 22 } : Room) E A n (GM E o c S) [.ref o, .int v] (gQi E A (fun r' n' G' => gb (hsB c v) = r' ∧ n = n' ∧ (GM E o c S) = G')) 0 0 := by
  refine g_entry (by decide) rfl (Nat.le_of_ble_eq_true rfl) ?_
  intro p e s m below meth c0 hx hb hr hlk hml hown hnm hts hK H locs ls hP hS hl
  have hin9 : ∀ w ∈ u_ws RX9 TX9 35, w ∈ wsX9_isHouse := by decide +kernel
  have hf92 := hts (.fieldLink RX9 92 "DikeHandsModel" "houses" "I") (by decide +kernel)
  have hl : lv_has ls 2 [(0, .ref o), (1, .int v)] := hl
  refine lv_iload_n hx hb dX9_isHouse_0 rfl (lv_at hl 1 rfl) ?_
  refine lv_iconst (v := 0) hx hb dX9_isHouse_1 (by decide) ?_
  refine lv_aload_n hx hb dX9_isHouse_2 rfl (lv_at hl 0 rfl) ?_
  refine m_get hx hb hts hin9 hown hK hP 7 (by decide) hf92 rfl rfl dX9_isHouse_3 ?_
  refine lv_iconst (v := 1) hx hb dX9_isHouse_6 (by decide) ?_
  refine lv_isub hx hb dX9_isHouse_7 ?_
  refine g_ci (g_runS (As := [.int v, .int 0, .int ((c 7) - 1)]) (rest := []) ⟨hx, hb, hml, hown, hts⟩ hK hP (kX9_in l E A n (GM E o c S) v 0 ((c 7) - 1)) (va_cwS 3 hts gX9_isHouse_X9_in rfl rfl rfl (by decide +kernel) ⟨Nat.le_of_ble_eq_true rfl, Nat.le_of_ble_eq_true rfl⟩) rfl hl.1 rfl (Nat.le_of_ble_eq_true rfl) dX9_isHouse_8 ⟨Nat.le_of_ble_eq_true rfl, Nat.le_of_ble_eq_true rfl⟩) hS (fun r8 n' G' H locs hw hP hS => ?_)
  obtain ⟨rfl, rfl, rfl⟩ := hw
  refine g_retz hx hb hr hlk hP hS dX9_isHouse_11 (gb_nar _) ?_
  exact ⟨rfl, rfl, rfl⟩
set_option maxHeartbeats 4000000 in
set_option maxRecDepth 100000 in
theorem kX9_isYear (l : Launch) (E : gT) (A : Nat → Prop) (n : Nat) (o : Nat) (c : Nat → Int32) (S : Nat → Nat → Int32) (v : Int32)  : gM l yX9_isYear wsX9_isYear ({ frames := 1, cells := 0, slots := 0, locals := 22 } : Room) E A n (GM E o c S) [.ref o, .int v] (gQi E A (fun r' n' G' => gb (yrB c v) = r' ∧ n = n' ∧ (GM E o c S) = G')) 0 0 := by
  refine g_entry (by decide) rfl (Nat.le_of_ble_eq_true rfl) ?_
  intro p e s m below meth c0 hx hb hr hlk hml hown hnm hts hK H locs ls hP hS hl
  have hin9 : ∀ w ∈ u_ws RX9 TX9 35, w ∈ wsX9_isYear := by decide +kernel
  have hf96 := hts (.fieldLink RX9 96 "DikeHandsModel" "now" "I") (by decide +kernel)
  have hl : lv_has ls 2 [(0, .ref o), (1, .int v)] := hl
  refine lv_iload_n hx hb dX9_isYear_0 rfl (lv_at hl 1 rfl) ?_
  refine lv_iconst (v := 0) hx hb dX9_isYear_1 (by decide) ?_
  refine lv_aload_n hx hb dX9_isYear_2 rfl (lv_at hl 0 rfl) ?_
  refine m_get hx hb hts hin9 hown hK hP 0 (by decide) hf96 rfl rfl dX9_isYear_3 ?_
  refine lv_bipush (v := 52) hx hb dX9_isYear_6 (by decide) ?_
  refine lv_idiv hx hb dX9_isYear_8 (by decide) ?_
  refine g_ci (g_runS (As := [.int v, .int 0, .int ((c 0) / 52)]) (rest := []) ⟨hx, hb, hml, hown, hts⟩ hK hP (kX9_in l E A n (GM E o c S) v 0 ((c 0) / 52)) (va_cwS 3 hts gX9_isYear_X9_in rfl rfl rfl (by decide +kernel) ⟨Nat.le_of_ble_eq_true rfl, Nat.le_of_ble_eq_true rfl⟩) rfl hl.1 rfl (Nat.le_of_ble_eq_true rfl) dX9_isYear_9 ⟨Nat.le_of_ble_eq_true rfl, Nat.le_of_ble_eq_true rfl⟩) hS (fun r9 n' G' H locs hw hP hS => ?_)
  obtain ⟨rfl, rfl, rfl⟩ := hw
  refine g_retz hx hb hr hlk hP hS dX9_isYear_12 (gb_nar _) ?_
  exact ⟨rfl, rfl, rfl⟩
set_option maxHeartbeats 4000000 in
set_option maxRecDepth 100000 in
theorem kX9_isPlan (l : Launch) (E : gT) (A : Nat → Prop) (n : Nat) (G : gH) (a b : Int32)  : gM l yX9_isPlan wsX9_isPlan ({ frames := 1, cells := 0, slots := 0, locals := 22 } : Room) E A n G [.int a, .int b] (gQi E A (fun r' n' G' => gb (inB a 0 300 && inB b 0 3000) = r' ∧ n = n' ∧ G = G')) 0 0 := by
  refine g_entry (by decide) rfl (Nat.le_of_ble_eq_true rfl) ?_
  intro p e s m below meth c0 hx hb hr hlk hml hown hnm hts hK H locs ls hP hS hl
  have hl : lv_has ls 2 [(0, .int a), (1, .int b)] := hl
  refine lv_iload_n hx hb dX9_isPlan_0 rfl (lv_at hl 0 rfl) ?_
  refine lv_iconst (v := 0) hx hb dX9_isPlan_1 (by decide) ?_
  refine lv_sipush (v := 300) hx hb dX9_isPlan_2 (by decide) ?_
  refine g_ci (g_runS (As := [.int a, .int 0, .int 300]) (rest := []) ⟨hx, hb, hml, hown, hts⟩ hK hP (kX9_in l E A n G a 0 300) (va_cwS 3 hts gX9_isPlan_X9_in rfl rfl rfl (by decide +kernel) ⟨Nat.le_of_ble_eq_true rfl, Nat.le_of_ble_eq_true rfl⟩) rfl hl.1 rfl (Nat.le_of_ble_eq_true rfl) dX9_isPlan_5 ⟨Nat.le_of_ble_eq_true rfl, Nat.le_of_ble_eq_true rfl⟩) hS (fun r5 n' G' H locs hw hP hS => ?_)
  obtain ⟨rfl, rfl, rfl⟩ := hw
  refine g_ifeq (tgt := 26) hx hb dX9_isPlan_8 (by decide) (fun b8 => ?_) (fun b8 => ?_)
  · refine lv_iconst (v := 0) hx hb dX9_isPlan_26 (by decide) ?_
    refine g_retz hx hb hr hlk hP hS dX9_isPlan_27 rfl ?_
    exact ⟨by simp [gb, b8], rfl, rfl⟩
  · refine lv_iload_n hx hb dX9_isPlan_11 rfl (lv_at hl 1 rfl) ?_
    refine lv_iconst (v := 0) hx hb dX9_isPlan_12 (by decide) ?_
    refine lv_sipush (v := 3000) hx hb dX9_isPlan_13 (by decide) ?_
    refine g_ci (g_runS (As := [.int b, .int 0, .int 3000]) (rest := []) ⟨hx, hb, hml, hown, hts⟩ hK hP (kX9_in l E A n G b 0 3000) (va_cwS 3 hts gX9_isPlan_X9_in rfl rfl rfl (by decide +kernel) ⟨Nat.le_of_ble_eq_true rfl, Nat.le_of_ble_eq_true rfl⟩) rfl hl.1 rfl (Nat.le_of_ble_eq_true rfl) dX9_isPlan_16 ⟨Nat.le_of_ble_eq_true rfl, Nat.le_of_ble_eq_true rfl⟩) hS (fun r16 n' G' H locs hw hP hS => ?_)
    obtain ⟨rfl, rfl, rfl⟩ := hw
    refine g_ifeq (tgt := 26) hx hb dX9_isPlan_19 (by decide) (fun b19 => ?_) (fun b19 => ?_)
    · refine lv_iconst (v := 0) hx hb dX9_isPlan_26 (by decide) ?_
      refine g_retz hx hb hr hlk hP hS dX9_isPlan_27 rfl ?_
      exact ⟨by simp [gb, b8, b19], rfl, rfl⟩
    · refine lv_iconst (v := 1) hx hb dX9_isPlan_22 (by decide) ?_
      refine lv_goto (tgt := 27) hx hb dX9_isPlan_23 (by decide) ?_
      refine g_retz hx hb hr hlk hP hS dX9_isPlan_27 rfl ?_
      exact ⟨by simp [gb, b8, b19], rfl, rfl⟩
set_option maxHeartbeats 4000000 in
set_option maxRecDepth 100000 in
theorem kX9_hours (l : Launch) (E : gT) (A : Nat → Prop) (n : Nat) (G : gH) (a b k : Int32) (hk : ¬ k = 0) : gM l yX9_hours wsX9_hours ({ frames := 0, cells := 0, slots := 0, locals := 0 } : Room) E A n G [.int a, .int b, .int k] (gQi E A (fun r' n' G' => hrsOf a b k = r' ∧ n = n' ∧ G = G')) 0 0 := by
  refine g_entry (by decide) rfl (Nat.le_of_ble_eq_true rfl) ?_
  intro p e s m below meth c0 hx hb hr hlk hml hown hnm hts hK H locs ls hP hS hl
  have hl : lv_has ls 4 [(0, .int a), (1, .int b), (2, .int k)] := hl
  refine lv_iload_n hx hb dX9_hours_0 rfl (lv_at hl 0 rfl) ?_
  refine lv_iload_n hx hb dX9_hours_1 rfl (lv_at hl 1 rfl) ?_
  refine lv_icmp_ge (tgt := 11) hx hb dX9_hours_2 (by decide) (fun b2 => ?_) (fun b2 => ?_)
  · refine lv_iload_n hx hb dX9_hours_11 rfl (lv_at hl 0 rfl) ?_
    refine lv_iload_n hx hb dX9_hours_12 rfl (lv_at hl 1 rfl) ?_
    refine lv_isub hx hb dX9_hours_13 ?_
    refine lv_istore_n (lv' := [(3, .int (a - b)), (0, .int a), (1, .int b), (2, .int k)]) hx hb dX9_hours_14 rfl hl (by decide) rfl (fun ls hl => ?_)
    refine lv_iload_n hx hb dX9_hours_15 rfl (lv_at hl 0 rfl) ?_
    refine lv_iload_n hx hb dX9_hours_16 rfl (lv_at hl 3 rfl) ?_
    refine lv_iadd hx hb dX9_hours_17 ?_
    refine lv_iconst (v := 1) hx hb dX9_hours_18 (by decide) ?_
    refine lv_isub hx hb dX9_hours_19 ?_
    refine lv_iload_n hx hb dX9_hours_20 rfl (lv_at hl 3 rfl) ?_
    refine lv_idiv hx hb dX9_hours_21 hk ?_
    refine g_reti hx hb hr hlk hP hS dX9_hours_22 ?_
    exact ⟨by simp [hrsOf, b2, Int32.not_lt.mpr b2], rfl, rfl⟩
  · refine lv_iload_n hx hb dX9_hours_5 rfl (lv_at hl 1 rfl) ?_
    refine lv_iload_n hx hb dX9_hours_6 rfl (lv_at hl 0 rfl) ?_
    refine lv_isub hx hb dX9_hours_7 ?_
    refine lv_goto (tgt := 14) hx hb dX9_hours_8 (by decide) ?_
    refine lv_istore_n (lv' := [(3, .int (b - a)), (0, .int a), (1, .int b), (2, .int k)]) hx hb dX9_hours_14 rfl hl (by decide) rfl (fun ls hl => ?_)
    refine lv_iload_n hx hb dX9_hours_15 rfl (lv_at hl 0 rfl) ?_
    refine lv_iload_n hx hb dX9_hours_16 rfl (lv_at hl 3 rfl) ?_
    refine lv_iadd hx hb dX9_hours_17 ?_
    refine lv_iconst (v := 1) hx hb dX9_hours_18 (by decide) ?_
    refine lv_isub hx hb dX9_hours_19 ?_
    refine lv_iload_n hx hb dX9_hours_20 rfl (lv_at hl 3 rfl) ?_
    refine lv_idiv hx hb dX9_hours_21 hk ?_
    refine g_reti hx hb hr hlk hP hS dX9_hours_22 ?_
    exact ⟨by simp [hrsOf, b2, Int32.not_le.mp b2], rfl, rfl⟩
set_option maxHeartbeats 4000000 in
set_option maxRecDepth 100000 in
theorem kX9_isListed (l : Launch) (E : gT) (A : Nat → Prop) (n : Nat) (o : Nat) (c : Nat → Int32) (S : Nat → Nat → Int32) (h y : Int32) (hh : vp_in h 40) : gM l yX9_isListed wsX9_isListed ({ frames := 0, cells := 0, slots := 0, locals := 0 } : Room) E A n (GM E o c S) [.ref o, .int h, .int y] (gQi E A (fun r' n' G' => gb (lstB S h y) = r' ∧ n = n' ∧ (GM E o c S) = G')) 0 0 := by
  refine g_entry (by decide) rfl (Nat.le_of_ble_eq_true rfl) ?_
  intro p e s m below meth c0 hx hb hr hlk hml hown hnm hts hK H locs ls hP hS hl
  have hin9 : ∀ w ∈ u_ws RX9 TX9 35, w ∈ wsX9_isListed := by decide +kernel
  have hf31 := hts (.fieldLink RX9 31 "DikeHandsModel" "came" "[I") (by decide +kernel)
  have hl : lv_has ls 3 [(0, .ref o), (1, .int h), (2, .int y)] := hl
  refine lv_aload_n hx hb dX9_isListed_0 rfl (lv_at hl 0 rfl) ?_
  refine m_get hx hb hts hin9 hown hK hP 9 (by decide) hf31 rfl rfl dX9_isListed_1 ?_
  refine lv_iload_n hx hb dX9_isListed_4 rfl (lv_at hl 1 rfl) ?_
  refine m_iald hx hb hK hP 7 40 rfl (by decide) rfl hh dX9_isListed_5 ?_
  refine lv_bipush (v := 52) hx hb dX9_isListed_6 (by decide) ?_
  refine lv_iload_n hx hb dX9_isListed_8 rfl (lv_at hl 2 rfl) ?_
  refine lv_imul hx hb dX9_isListed_9 ?_
  refine lv_icmp_ge (tgt := 17) hx hb dX9_isListed_10 (by decide) (fun b10 => ?_) (fun b10 => ?_)
  · refine lv_iconst (v := 0) hx hb dX9_isListed_17 (by decide) ?_
    refine g_retz hx hb hr hlk hP hS dX9_isListed_18 rfl ?_
    exact ⟨by simp [lstB, gb, b10, Int32.not_lt.mpr b10], rfl, rfl⟩
  · refine lv_iconst (v := 1) hx hb dX9_isListed_13 (by decide) ?_
    refine lv_goto (tgt := 18) hx hb dX9_isListed_14 (by decide) ?_
    refine g_retz hx hb hr hlk hP hS dX9_isListed_18 rfl ?_
    exact ⟨by simp [lstB, gb, b10, Int32.not_le.mp b10], rfl, rfl⟩
set_option maxHeartbeats 4000000 in
set_option maxRecDepth 100000 in
theorem kX9_perDay (l : Launch) (E : gT) (A : Nat → Prop) (n : Nat) (o : Nat) (c : Nat → Int32) (S : Nat → Nat → Int32) (r : Int32) (hh : vp_in r 30) : gM l yX9_perDay wsX9_perDay ({ frames := 0, cells := 0, slots := 0, locals := 0 } : Room) E A n (GM E o c S) [.ref o, .int r] (gQi E A (fun r' n' G' => perOf S r = r' ∧ n = n' ∧ (GM E o c S) = G')) 0 0 := by
  refine g_entry (by decide) rfl (Nat.le_of_ble_eq_true rfl) ?_
  intro p e s m below meth c0 hx hb hr hlk hml hown hnm hts hK H locs ls hP hS hl
  have hin9 : ∀ w ∈ u_ws RX9 TX9 35, w ∈ wsX9_perDay := by decide +kernel
  have hf16 := hts (.fieldLink RX9 16 "DikeHandsModel" "soil" "[I") (by decide +kernel)
  have hl : lv_has ls 2 [(0, .ref o), (1, .int r)] := hl
  refine lv_aload_n hx hb dX9_perDay_0 rfl (lv_at hl 0 rfl) ?_
  refine m_get hx hb hts hin9 hown hK hP 3 (by decide) hf16 rfl rfl dX9_perDay_1 ?_
  refine lv_iload_n hx hb dX9_perDay_4 rfl (lv_at hl 1 rfl) ?_
  refine m_iald hx hb hK hP 2 30 rfl (by decide) rfl hh dX9_perDay_5 ?_
  refine lv_if_ne (tgt := 14) hx hb dX9_perDay_6 (by decide) (fun b6 => ?_) (fun b6 => ?_)
  · refine lv_aload_n hx hb dX9_perDay_14 rfl (lv_at hl 0 rfl) ?_
    refine m_get hx hb hts hin9 hown hK hP 3 (by decide) hf16 rfl rfl dX9_perDay_15 ?_
    refine lv_iload_n hx hb dX9_perDay_18 rfl (lv_at hl 1 rfl) ?_
    refine m_iald hx hb hK hP 2 30 rfl (by decide) rfl hh dX9_perDay_19 ?_
    refine lv_iconst (v := 1) hx hb dX9_perDay_20 (by decide) ?_
    refine lv_icmp_ne (tgt := 29) hx hb dX9_perDay_21 (by decide) (fun b21 => ?_) (fun b21 => ?_)
    · refine lv_bipush (v := 10) hx hb dX9_perDay_29 (by decide) ?_
      refine g_reti hx hb hr hlk hP hS dX9_perDay_31 ?_
      exact ⟨by simp [perOf, b6, b21], rfl, rfl⟩
    · refine lv_bipush (v := 20) hx hb dX9_perDay_24 (by decide) ?_
      refine lv_goto (tgt := 31) hx hb dX9_perDay_26 (by decide) ?_
      refine g_reti hx hb hr hlk hP hS dX9_perDay_31 ?_
      exact ⟨by simp [perOf, b6, b21], rfl, rfl⟩
  · refine lv_bipush (v := 30) hx hb dX9_perDay_9 (by decide) ?_
    refine lv_goto (tgt := 31) hx hb dX9_perDay_11 (by decide) ?_
    refine g_reti hx hb hr hlk hP hS dX9_perDay_31 ?_
    exact ⟨by simp [perOf, b6], rfl, rfl⟩
set_option maxHeartbeats 4000000 in
set_option maxRecDepth 100000 in
theorem kX9_needs (l : Launch) (E : gT) (A : Nat → Prop) (n : Nat) (o : Nat) (c : Nat → Int32) (S : Nat → Nat → Int32) (r lv : Int32) (hh : vp_in r 30) : gM l yX9_needs wsX9_needs ({ frames := 1, cells := 0, slots := 0, locals := 21 } : Room) E A n (GM E o c S) [.ref o, .int r, .int lv] (gQi E A (fun r' n' G' => needOf S r lv = r' ∧ n = n' ∧ (GM E o c S) = G')) 0 0 := by
  refine g_entry (by decide) rfl (Nat.le_of_ble_eq_true rfl) ?_
  intro p e s m below meth c0 hx hb hr hlk hml hown hnm hts hK H locs ls hP hS hl
  have hin9 : ∀ w ∈ u_ws RX9 TX9 35, w ∈ wsX9_needs := by decide +kernel
  have hf13 := hts (.fieldLink RX9 13 "DikeHandsModel" "height" "[I") (by decide +kernel)
  have hl : lv_has ls 4 [(0, .ref o), (1, .int r), (2, .int lv)] := hl
  refine lv_iload_n hx hb dX9_needs_0 rfl (lv_at hl 2 rfl) ?_
  refine lv_aload_n hx hb dX9_needs_1 rfl (lv_at hl 0 rfl) ?_
  refine m_get hx hb hts hin9 hown hK hP 2 (by decide) hf13 rfl rfl dX9_needs_2 ?_
  refine lv_iload_n hx hb dX9_needs_5 rfl (lv_at hl 1 rfl) ?_
  refine m_iald hx hb hK hP 1 30 rfl (by decide) rfl hh dX9_needs_6 ?_
  refine lv_isub hx hb dX9_needs_7 ?_
  refine lv_istore_n (lv' := [(3, .int (lv - (S 1 (tn r)))), (0, .ref o), (1, .int r), (2, .int lv)]) hx hb dX9_needs_8 rfl hl (by decide) rfl (fun ls hl => ?_)
  refine lv_iload_n hx hb dX9_needs_9 rfl (lv_at hl 0 rfl) ?_
  refine lv_if_gt (tgt := 17) hx hb dX9_needs_10 (by decide) (fun b10 => ?_) (fun b10 => ?_)
  · refine lv_iload_n hx hb dX9_needs_17 rfl (lv_at hl 0 rfl) ?_
    refine lv_aload_n hx hb dX9_needs_18 rfl (lv_at hl 1 rfl) ?_
    refine lv_iload_n hx hb dX9_needs_19 rfl (lv_at hl 2 rfl) ?_
    refine g_ci (g_runV (As := [.int r]) (rest := [.int (lv - (S 1 (tn r)))]) ⟨hx, hb, hml, hown, hts⟩ hK hP (kX9_perDay l E A n o c S r hh) (cwV 1 hts gX9_needs_X9_perDay rfl rfl rfl (by decide +kernel) ⟨Nat.le_of_ble_eq_true rfl, Nat.le_of_ble_eq_true rfl⟩) GM_o rfl rfl hl.1 rfl (Nat.le_of_ble_eq_true rfl) dX9_needs_20 ⟨Nat.le_of_ble_eq_true rfl, Nat.le_of_ble_eq_true rfl⟩) hS (fun r20 n' G' H locs hw hP hS => ?_)
    obtain ⟨rfl, rfl, rfl⟩ := hw
    refine lv_iadd hx hb dX9_needs_23 ?_
    refine lv_iconst (v := 1) hx hb dX9_needs_24 (by decide) ?_
    refine lv_isub hx hb dX9_needs_25 ?_
    refine lv_aload_n hx hb dX9_needs_26 rfl (lv_at hl 1 rfl) ?_
    refine lv_iload_n hx hb dX9_needs_27 rfl (lv_at hl 2 rfl) ?_
    refine g_ci (g_runV (As := [.int r]) (rest := [.int (((lv - (S 1 (tn r))) + (perOf S r)) - 1)]) ⟨hx, hb, hml, hown, hts⟩ hK hP (kX9_perDay l E A n o c S r hh) (cwV 1 hts gX9_needs_X9_perDay rfl rfl rfl (by decide +kernel) ⟨Nat.le_of_ble_eq_true rfl, Nat.le_of_ble_eq_true rfl⟩) GM_o rfl rfl hl.1 rfl (Nat.le_of_ble_eq_true rfl) dX9_needs_28 ⟨Nat.le_of_ble_eq_true rfl, Nat.le_of_ble_eq_true rfl⟩) hS (fun r28 n' G' H locs hw hP hS => ?_)
    obtain ⟨rfl, rfl, rfl⟩ := hw
    refine lv_idiv hx hb dX9_needs_31 (perOf_ne _ _) ?_
    refine g_reti hx hb hr hlk hP hS dX9_needs_32 ?_
    exact ⟨by simp [needOf, b10, Int32.not_le.mpr b10], rfl, rfl⟩
  · refine lv_iconst (v := 0) hx hb dX9_needs_13 (by decide) ?_
    refine lv_goto (tgt := 32) hx hb dX9_needs_14 (by decide) ?_
    refine g_reti hx hb hr hlk hP hS dX9_needs_32 ?_
    exact ⟨by simp [needOf, b10, Int32.not_lt.mp b10], rfl, rfl⟩
