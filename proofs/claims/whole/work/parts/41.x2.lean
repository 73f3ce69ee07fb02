abbrev tlT : Type := Int32 × Int32 × Int32 × Int32
def telC (q : tlT) (r : Option Nat) : va_E := .inr (5, [.int q.1, .int q.2.1, .int q.2.2.1, .int q.2.2.2, va_rf r])
def tel (G : gH) : Option Nat → List tlT → Prop
  | r, [] => r = none
  | r, q :: L => ∃ a nx, r = some a ∧ G a = some (telC q nx) ∧ tel G nx L
def fstT (w : Int32) : List tlT → Option tlT
  | [] => none
  | q :: L => if q.1 < w then some q else fstT w L
def tres (G : gH) (r : Option Nat) (o : Option tlT) : Prop := match o with
  | none => r = none
  | some q => ∃ a nx, r = some a ∧ G a = some (telC q nx)
def hanF (w : Int32) : List tlT → Int32 × Int32 → Int32 × Int32
  | [], u => u
  | q :: L, u => hanF w L (if q.2.1 ≤ w ∧ u.1 < q.2.1 then (q.2.1, q.2.2.2) else u)
def lawE (S : Nat → Nat → Int32) (i : Nat) : va_E := .inr (1, [.int (S 15 i), .int (S 16 i / 10000), .int (rem32 (S 16 i) 10000 / 1000), .int (rem32 (S 16 i) 1000), .int (S 17 i)])
def lbA (S : Nat → Nat → Int32) (la : Nat → Nat) (nl : Nat) (y : Int32) (k : Nat) : Nat := if lawN S y k = -1 then nl else la (tn (lawN S y k))
def lbY (S : Nat → Nat → Int32) (y : Int32) (k : Nat) : Int32 := if lawN S y k = -1 then 0 else S 15 (tn (lawN S y k))
theorem lbY_0 (S : Nat → Nat → Int32) (y : Int32) : lbY S y 0 = 0 := rfl

set_option maxHeartbeats 1000000 in
set_option maxRecDepth 100000 in
theorem kX0_learn (l : Launch) (E : gT) (A : Nat → Prop) (n : Nat) (G : gH) (a a1 a2 a3 a4 a5 : Nat) (r : Option Nat) (hm cm : Int32) (x y z wq : Int32) (fa : G a = some (.inr (0, [.int hm, .int cm, .ref a1, .ref a2, .ref a3, .ref a4, .ref a5, va_rf r]))) (hA : ∀ q, n ≤ q → A q) : gM l yX0_learn wsX0_learn ({ frames := 2, cells := 1, slots := 5, locals := 45 } : Room) E A n G [.ref a, .int x, .int y, .int z, .int wq] (gQv E A (fun n' G' => n + 1 = n' ∧ (gup (gup G n (telC (x, y, z, wq) r)) a (.inr (0, [.int hm, .int cm, .ref a1, .ref a2, .ref a3, .ref a4, .ref a5, .ref n]))) = G')) 1 5 := by
  refine g_entry (by decide) rfl (Nat.le_of_ble_eq_true rfl) ?_
  intro p e s m below meth c0 hx hb hr hlk hml hown hnm hts hK H locs ls hP hS hl
  have hin0 : ∀ wq ∈ u_ws RX0 TX0 8, wq ∈ wsX0_learn := by decide +kernel
  have hin5 : ∀ wq ∈ u_ws RX5 TX5 5, wq ∈ wsX0_learn := by decide +kernel
  have hf39 := hts (.fieldLink RX0 39 "DikeHands$House" "latest" "LDikeHands$Telling;") (by decide +kernel)
  have hl : lv_has ls 5 [(0, .ref a), (1, .int x), (2, .int y), (3, .int z), (4, .int wq)] := hl
  refine lv_aload_n hx hb dX0_learn_0 rfl (lv_at hl 0 rfl) ?_
  have z23_0 := Nat.ne_of_lt (hP.lt fa)
  refine g_new (ci := 5) (fs := [.int 0, .int 0, .int 0, .int 0, .null]) hx hb hts hin5 tyX5 tyX5_ok hown (hts (.classLink RX0 34 RX5) (by decide +kernel)) (hts (.instantiable RX5 5) (by decide +kernel)) (hts (.initialized RX5) (by decide +kernel)) hK hP hS hA rfl (by decide) (Nat.le_of_ble_eq_true rfl) (Nat.le_of_ble_eq_true rfl) dX0_learn_1 (fun H hP hS => ?_)
  have q23_0 : (gup G n (.inr (5, [.int 0, .int 0, .int 0, .int 0, .null]))) a = some (.inr (0, [.int hm, .int cm, .ref a1, .ref a2, .ref a3, .ref a4, .ref a5, va_rf r])) := (gup_n z23_0).trans fa
  have q23_a : (gup G n (.inr (5, [.int 0, .int 0, .int 0, .int 0, .null]))) n = some (.inr (5, [.int 0, .int 0, .int 0, .int 0, .null])) := gup_s
  have hP : gP E A (n + 1) (gup G n (.inr (5, [.int 0, .int 0, .int 0, .int 0, .null]))) H := hP
  have hA : ∀ q, n + 1 ≤ q → A q := fun q h => hA q (by omega)
  refine lv_dup hx hb dX0_learn_4 rfl ?_
  refine lv_iload_n hx hb dX0_learn_5 rfl (lv_at hl 1 rfl) ?_
  refine lv_iload_n hx hb dX0_learn_6 rfl (lv_at hl 2 rfl) ?_
  refine lv_iload_n hx hb dX0_learn_7 rfl (lv_at hl 3 rfl) ?_
  refine lv_iload hx hb dX0_learn_8 (lv_at hl 4 rfl) ?_
  refine lv_aload_n hx hb dX0_learn_10 rfl (lv_at hl 0 rfl) ?_
  refine g_get (ci := 0) hx hb hts hin0 hown hK hP q23_0 rfl 7 (by decide) hf39 rfl rfl dX0_learn_11 ?_
  refine g_cv (g_runI (As := [.int x, .int y, .int z, .int wq, va_rf r]) (rest := [.ref n, .ref a]) ⟨hx, hb, hml, hown, hts⟩ hK hP (kX5_init l E A (n + 1) (gup G n (.inr (5, [.int 0, .int 0, .int 0, .int 0, .null]))) n x y z wq r q23_a) (cwI 5 hts gX0_learn_X5_init rfl rfl rfl (hts (.initialized RX5) (by decide +kernel)) (hts (.methodLink RX0 36 yX5_init) (by decide +kernel)) (hts (.instanceMethod yX5_init) (by decide +kernel)) rfl (by decide +kernel) ⟨Nat.le_of_ble_eq_true rfl, Nat.le_of_ble_eq_true rfl⟩) rfl hl.1 rfl (Nat.le_of_ble_eq_true rfl) dX0_learn_14 ⟨Nat.le_of_ble_eq_true rfl, Nat.le_of_ble_eq_true rfl⟩) hS (fun n' G' H locs hw hP hS => ?_)
  obtain ⟨rfl, rfl⟩ := hw
  have q24_0 : (gup (gup G n (.inr (5, [.int 0, .int 0, .int 0, .int 0, .null]))) n (.inr (5, [.int x, .int y, .int z, .int wq, va_rf r]))) a = some (.inr (0, [.int hm, .int cm, .ref a1, .ref a2, .ref a3, .ref a4, .ref a5, va_rf r])) := (gup_n (ne_oo q23_0 q23_a (by decide))).trans q23_0
  have q24_a : (gup (gup G n (.inr (5, [.int 0, .int 0, .int 0, .int 0, .null]))) n (.inr (5, [.int x, .int y, .int z, .int wq, va_rf r]))) n = some (.inr (5, [.int x, .int y, .int z, .int wq, va_rf r])) := gup_s
  have hP : gP E A (n + 1) (gup (gup G n (.inr (5, [.int 0, .int 0, .int 0, .int 0, .null]))) n (.inr (5, [.int x, .int y, .int z, .int wq, va_rf r]))) H := hP
  refine g_put (ci := 0) (ty := (.object "DikeHands$Telling")) (v := .ref n) hx hb hts hin0 tyX0 tyX0_ok nmX0 hown hK hP hS q24_0 rfl 7 (by decide) hf39 rfl (Or.inl rfl) (by decide +kernel) rfl rfl (Nat.le_of_ble_eq_true rfl) dX0_learn_17 (fun H locs hP hS => ?_)
  have q25_0 : (gup (gup (gup G n (.inr (5, [.int 0, .int 0, .int 0, .int 0, .null]))) n (.inr (5, [.int x, .int y, .int z, .int wq, va_rf r]))) a (.inr (0, [.int hm, .int cm, .ref a1, .ref a2, .ref a3, .ref a4, .ref a5, .ref n]))) n = some (.inr (5, [.int x, .int y, .int z, .int wq, va_rf r])) := (gup_n (ne_oo q24_a q24_0 (by decide))).trans q24_a
  have q25_a : (gup (gup (gup G n (.inr (5, [.int 0, .int 0, .int 0, .int 0, .null]))) n (.inr (5, [.int x, .int y, .int z, .int wq, va_rf r]))) a (.inr (0, [.int hm, .int cm, .ref a1, .ref a2, .ref a3, .ref a4, .ref a5, .ref n]))) a = some (.inr (0, [.int hm, .int cm, .ref a1, .ref a2, .ref a3, .ref a4, .ref a5, .ref n])) := gup_s
  have hP : gP E A (n + 1) (gup (gup (gup G n (.inr (5, [.int 0, .int 0, .int 0, .int 0, .null]))) n (.inr (5, [.int x, .int y, .int z, .int wq, va_rf r]))) a (.inr (0, [.int hm, .int cm, .ref a1, .ref a2, .ref a3, .ref a4, .ref a5, .ref n]))) H := hP
  refine g_retv hx hb hr hlk hP hS dX0_learn_20 ?_
  exact ⟨rfl, by simp only [gup_gup]; rfl⟩
set_option maxHeartbeats 1000000 in
set_option maxRecDepth 100000 in
theorem kX0_daysMet (l : Launch) (E : gT) (A : Nat → Prop) (n : Nat) (G : gH) (a a1 a2 a3 a4 a5 : Nat) (r : Option Nat) (hm cm : Int32) (f1 f2 f3 : Nat → Int32) (y : Int32) (fa : G a = some (.inr (0, [.int hm, .int cm, .ref a1, .ref a2, .ref a3, .ref a4, .ref a5, va_rf r]))) (fb : G a1 = some (.inl (E.2 0, 21, .inl f1))) (fc : G a2 = some (.inl (E.2 0, 21, .inl f2))) (fd : G a3 = some (.inl (E.2 0, 21, .inl f3))) (hy : vp_in y 21) : gM l yX0_daysMet wsX0_daysMet ({ frames := 0, cells := 0, slots := 0, locals := 0 } : Room) E A n G [.ref a, .int y] (gQi E A (fun r' n' G' => (f1 (tn y) + f2 (tn y) + f3 (tn y)) = r' ∧ n = n' ∧ G = G')) 0 0 := by
  refine g_entry (by decide) rfl (Nat.le_of_ble_eq_true rfl) ?_
  intro p e s m below meth c0 hx hb hr hlk hml hown hnm hts hK H locs ls hP hS hl
  have hin0 : ∀ wq ∈ u_ws RX0 TX0 8, wq ∈ wsX0_daysMet := by decide +kernel
  have hf11 := hts (.fieldLink RX0 11 "DikeHands$House" "byItself" "[I") (by decide +kernel)
  have hf15 := hts (.fieldLink RX0 15 "DikeHands$House" "bySubstitute" "[I") (by decide +kernel)
  have hf18 := hts (.fieldLink RX0 18 "DikeHands$House" "bought" "[I") (by decide +kernel)
  have hl : lv_has ls 2 [(0, .ref a), (1, .int y)] := hl
  refine lv_aload_n hx hb dX0_daysMet_0 rfl (lv_at hl 0 rfl) ?_
  refine g_get (ci := 0) hx hb hts hin0 hown hK hP fa rfl 2 (by decide) hf11 rfl rfl dX0_daysMet_1 ?_
  refine lv_iload_n hx hb dX0_daysMet_4 rfl (lv_at hl 1 rfl) ?_
  refine g_iald hx hb hK hP fb hy dX0_daysMet_5 ?_
  refine lv_aload_n hx hb dX0_daysMet_6 rfl (lv_at hl 0 rfl) ?_
  refine g_get (ci := 0) hx hb hts hin0 hown hK hP fa rfl 3 (by decide) hf15 rfl rfl dX0_daysMet_7 ?_
  refine lv_iload_n hx hb dX0_daysMet_10 rfl (lv_at hl 1 rfl) ?_
  refine g_iald hx hb hK hP fc hy dX0_daysMet_11 ?_
  refine lv_iadd hx hb dX0_daysMet_12 ?_
  refine lv_aload_n hx hb dX0_daysMet_13 rfl (lv_at hl 0 rfl) ?_
  refine g_get (ci := 0) hx hb hts hin0 hown hK hP fa rfl 4 (by decide) hf18 rfl rfl dX0_daysMet_14 ?_
  refine lv_iload_n hx hb dX0_daysMet_17 rfl (lv_at hl 1 rfl) ?_
  refine g_iald hx hb hK hP fd hy dX0_daysMet_18 ?_
  refine lv_iadd hx hb dX0_daysMet_19 ?_
  refine g_reti hx hb hr hlk hP hS dX0_daysMet_20 ?_
  exact ⟨rfl, rfl, rfl⟩
set_option maxHeartbeats 1000000 in
set_option maxRecDepth 100000 in
theorem kX0_toldAheadOf (l : Launch) (E : gT) (A : Nat → Prop) (n : Nat) (G : gH) (a a1 a2 a3 a4 a5 : Nat) (r : Option Nat) (hm cm : Int32) (L : List tlT) (y : Int32) (fa : G a = some (.inr (0, [.int hm, .int cm, .ref a1, .ref a2, .ref a3, .ref a4, .ref a5, va_rf r]))) (hT : tel G r L) : gM l yX0_toldAheadOf wsX0_toldAheadOf ({ frames := 0, cells := 0, slots := 0, locals := 0 } : Room) E A n G [.ref a, .int y] (gQq E A (fun r' n' G' => tres G r' (fstT y L) ∧ n = n' ∧ G = G')) 0 0 := by
  refine g_entry (by decide) rfl (Nat.le_of_ble_eq_true rfl) ?_
  intro p e s m below meth c0 hx hb hr hlk hml hown hnm hts hK H locs ls hP hS hl
  have hin0 : ∀ wq ∈ u_ws RX0 TX0 8, wq ∈ wsX0_toldAheadOf := by decide +kernel
  have hin5 : ∀ wq ∈ u_ws RX5 TX5 5, wq ∈ wsX0_toldAheadOf := by decide +kernel
  have hf39 := hts (.fieldLink RX0 39 "DikeHands$House" "latest" "LDikeHands$Telling;") (by decide +kernel)
  have hf43 := hts (.fieldLink RX0 43 "DikeHands$Telling" "told" "I") (by decide +kernel)
  have hf46 := hts (.fieldLink RX0 46 "DikeHands$Telling" "earlier" "LDikeHands$Telling;") (by decide +kernel)
  have hl : lv_has ls 3 [(0, .ref a), (1, .int y)] := hl
  refine lv_aload_n hx hb dX0_toldAheadOf_0 rfl (lv_at hl 0 rfl) ?_
  refine g_get (ci := 0) hx hb hts hin0 hown hK hP fa rfl 7 (by decide) hf39 rfl rfl dX0_toldAheadOf_1 ?_
  refine lv_astore_nQ (lv' := [(2, va_rf r), (0, .ref a), (1, .int y)]) hx hb dX0_toldAheadOf_4 rfl hl (by decide) rfl (fun ls hl => ?_)
  refine g_loop (τ := List tlT × Option Nat) (fun t => tel G t.2 t.1 ∧ fstT y L = fstT y t.1) (fun t => t.1.length) (fun _ => n) (fun _ => G) (fun _ => 0) (fun _ => 0) (fun t => [(0, .ref a), (1, .int y), (2, va_rf t.2)]) ?_ (L, r) ⟨hT, rfl⟩ H locs ls hP hS (lv_sub hl [1, 2, 0] rfl)
  intro t hI5 ih H locs ls hP hS hl
  obtain ⟨L1, r1⟩ := t
  try dsimp only at hI5
  rcases L1 with _ | ⟨q, L2⟩
  · have hr1 : r1 = none := hI5.1
    subst hr1
    have hl : lv_has ls 3 [(0, .ref a), (1, .int y), (2, .null)] := hl
    refine lv_aload_nN hx hb dX0_toldAheadOf_5 rfl (lv_at hl 2 rfl) ?_
    refine lv_ifnullN (tgt := 27) hx hb dX0_toldAheadOf_6 (by decide) ?_
    refine lv_null hx hb dX0_toldAheadOf_27 ?_
    refine g_retq none rfl hx hb hr hlk hP hS dX0_toldAheadOf_28 ?_
    exact ⟨by rw [hI5.2]; rfl, rfl, rfl⟩
  · obtain ⟨aq, nx, hr1, fq, ht⟩ := hI5.1
    subst hr1
    have hl : lv_has ls 3 [(0, .ref a), (1, .int y), (2, .ref aq)] := hl
    refine lv_aload_n hx hb dX0_toldAheadOf_5 rfl (lv_at hl 2 rfl) ?_
    refine lv_ifnull hx hb dX0_toldAheadOf_6 ?_
    refine lv_aload_n hx hb dX0_toldAheadOf_9 rfl (lv_at hl 2 rfl) ?_
    refine g_get (ci := 5) hx hb hts hin5 hown hK hP fq rfl 0 (by decide) hf43 rfl rfl dX0_toldAheadOf_10 ?_
    refine lv_iload_n hx hb dX0_toldAheadOf_13 rfl (lv_at hl 1 rfl) ?_
    refine lv_icmp_ge (tgt := 19) hx hb dX0_toldAheadOf_14 (by decide) (fun b14 => ?_) (fun b14 => ?_)
    · refine lv_aload_n hx hb dX0_toldAheadOf_19 rfl (lv_at hl 2 rfl) ?_
      refine g_get (ci := 5) hx hb hts hin5 hown hK hP fq rfl 4 (by decide) hf46 rfl rfl dX0_toldAheadOf_20 ?_
      refine lv_astore_nQ (lv' := [(2, va_rf nx), (0, .ref a), (1, .int y)]) hx hb dX0_toldAheadOf_23 rfl hl (by decide) rfl (fun ls hl => ?_)
      refine lv_goto (tgt := 5) hx hb dX0_toldAheadOf_24 (by decide) ?_
      refine ih (L2, nx) ⟨ht, hI5.2.trans (by rw [fstT, if_neg (Int32.not_lt.mpr b14)])⟩ (by show L2.length < (q :: L2).length; simp) H locs ls hP hS ?_
      exact lv_sub hl [1, 2, 0] rfl
    · refine lv_aload_n hx hb dX0_toldAheadOf_17 rfl (lv_at hl 2 rfl) ?_
      refine g_retq (some aq) rfl hx hb hr hlk hP hS dX0_toldAheadOf_18 ?_
      exact ⟨by rw [hI5.2, fstT, if_pos (Int32.not_le.mp b14)]; exact ⟨aq, nx, rfl, fq⟩, rfl, rfl⟩
set_option maxHeartbeats 1000000 in
set_option maxRecDepth 100000 in
theorem kX0_handsIn (l : Launch) (E : gT) (A : Nat → Prop) (n : Nat) (G : gH) (a a1 a2 a3 a4 a5 : Nat) (r : Option Nat) (hm cm : Int32) (L : List tlT) (y : Int32) (fa : G a = some (.inr (0, [.int hm, .int cm, .ref a1, .ref a2, .ref a3, .ref a4, .ref a5, va_rf r]))) (hT : tel G r L) : gM l yX0_handsIn wsX0_handsIn ({ frames := 0, cells := 0, slots := 0, locals := 0 } : Room) E A n G [.ref a, .int y] (gQi E A (fun r' n' G' => ((hanF y L (-1, 0)).2) = r' ∧ n = n' ∧ G = G')) 0 0 := by
  refine g_entry (by decide) rfl (Nat.le_of_ble_eq_true rfl) ?_
  intro p e s m below meth c0 hx hb hr hlk hml hown hnm hts hK H locs ls hP hS hl
  have hin0 : ∀ wq ∈ u_ws RX0 TX0 8, wq ∈ wsX0_handsIn := by decide +kernel
  have hin5 : ∀ wq ∈ u_ws RX5 TX5 5, wq ∈ wsX0_handsIn := by decide +kernel
  have hf39 := hts (.fieldLink RX0 39 "DikeHands$House" "latest" "LDikeHands$Telling;") (by decide +kernel)
  have hf46 := hts (.fieldLink RX0 46 "DikeHands$Telling" "earlier" "LDikeHands$Telling;") (by decide +kernel)
  have hf49 := hts (.fieldLink RX0 49 "DikeHands$Telling" "from" "I") (by decide +kernel)
  have hf52 := hts (.fieldLink RX0 52 "DikeHands$Telling" "hands" "I") (by decide +kernel)
  have hl : lv_has ls 5 [(0, .ref a), (1, .int y)] := hl
  refine lv_iconst (v := (-1)) hx hb dX0_handsIn_0 (by decide) ?_
  refine lv_istore_n (lv' := [(2, .int (-1)), (0, .ref a), (1, .int y)]) hx hb dX0_handsIn_1 rfl hl (by decide) rfl (fun ls hl => ?_)
  refine lv_iconst (v := 0) hx hb dX0_handsIn_2 (by decide) ?_
  refine lv_istore_n (lv' := [(3, .int 0), (2, .int (-1)), (0, .ref a), (1, .int y)]) hx hb dX0_handsIn_3 rfl hl (by decide) rfl (fun ls hl => ?_)
  refine lv_aload_n hx hb dX0_handsIn_4 rfl (lv_at hl 2 rfl) ?_
  refine g_get (ci := 0) hx hb hts hin0 hown hK hP fa rfl 7 (by decide) hf39 rfl rfl dX0_handsIn_5 ?_
  refine lv_astoreQ (lv' := [(4, va_rf r), (3, .int 0), (2, .int (-1)), (0, .ref a), (1, .int y)]) hx hb dX0_handsIn_8 hl (by decide) rfl (fun ls hl => ?_)
  refine g_loop (τ := List tlT × Option Nat × (Int32 × Int32)) (fun t => tel G t.2.1 t.1 ∧ hanF y L (-1, 0) = hanF y t.1 t.2.2) (fun t => t.1.length) (fun _ => n) (fun _ => G) (fun _ => 0) (fun _ => 0) (fun t => [(0, .ref a), (1, .int y), (2, .int t.2.2.1), (3, .int t.2.2.2), (4, va_rf t.2.1)]) ?_ (L, r, (-1, 0)) ⟨hT, rfl⟩ H locs ls hP hS (lv_sub hl [3, 4, 2, 1, 0] rfl)
  intro t hI10 ih H locs ls hP hS hl
  obtain ⟨L1, r1, u⟩ := t
  try dsimp only at hI10
  rcases L1 with _ | ⟨q, L2⟩
  · have hr1 : r1 = none := hI10.1
    subst hr1
    have hl : lv_has ls 5 [(0, .ref a), (1, .int y), (2, .int u.1), (3, .int u.2), (4, .null)] := hl
    refine lv_aloadN hx hb dX0_handsIn_10 (lv_at hl 4 rfl) ?_
    refine lv_ifnullN (tgt := 55) hx hb dX0_handsIn_12 (by decide) ?_
    refine lv_iload_n hx hb dX0_handsIn_55 rfl (lv_at hl 3 rfl) ?_
    refine g_reti hx hb hr hlk hP hS dX0_handsIn_56 ?_
    exact ⟨by rw [hI10.2]; rfl, rfl, rfl⟩
  · obtain ⟨aq, nx, hr1, fq, ht⟩ := hI10.1
    subst hr1
    have hl : lv_has ls 5 [(0, .ref a), (1, .int y), (2, .int u.1), (3, .int u.2), (4, .ref aq)] := hl
    refine lv_aload hx hb dX0_handsIn_10 (lv_at hl 4 rfl) ?_
    refine lv_ifnull hx hb dX0_handsIn_12 ?_
    refine lv_aload hx hb dX0_handsIn_15 (lv_at hl 4 rfl) ?_
    refine g_get (ci := 5) hx hb hts hin5 hown hK hP fq rfl 1 (by decide) hf49 rfl rfl dX0_handsIn_17 ?_
    refine lv_iload_n hx hb dX0_handsIn_20 rfl (lv_at hl 1 rfl) ?_
    refine lv_icmp_gt (tgt := 45) hx hb dX0_handsIn_21 (by decide) (fun b21 => ?_) (fun b21 => ?_)
    · refine lv_aload hx hb dX0_handsIn_45 (lv_at hl 4 rfl) ?_
      refine g_get (ci := 5) hx hb hts hin5 hown hK hP fq rfl 4 (by decide) hf46 rfl rfl dX0_handsIn_47 ?_
      refine lv_astoreQ (lv' := [(4, va_rf nx), (0, .ref a), (1, .int y), (2, .int u.1), (3, .int u.2)]) hx hb dX0_handsIn_50 hl (by decide) rfl (fun ls hl => ?_)
      refine lv_goto (tgt := 10) hx hb dX0_handsIn_52 (by decide) ?_
      have hst : hanF y (q :: L2) u = hanF y L2 u := by
        rw [hanF]; first | (simp [b21, Int32.not_le.mpr b21]; done) | (exfalso; simp_all; done)
      refine ih (L2, nx, u) ⟨ht, hI10.2.trans hst⟩ (by show L2.length < (q :: L2).length; simp) H locs ls hP hS ?_
      exact lv_sub hl [1, 2, 3, 4, 0] rfl
    · refine lv_aload hx hb dX0_handsIn_24 (lv_at hl 4 rfl) ?_
      refine g_get (ci := 5) hx hb hts hin5 hown hK hP fq rfl 1 (by decide) hf49 rfl rfl dX0_handsIn_26 ?_
      refine lv_iload_n hx hb dX0_handsIn_29 rfl (lv_at hl 2 rfl) ?_
      refine lv_icmp_le (tgt := 45) hx hb dX0_handsIn_30 (by decide) (fun b30 => ?_) (fun b30 => ?_)
      · refine lv_aload hx hb dX0_handsIn_45 (lv_at hl 4 rfl) ?_
        refine g_get (ci := 5) hx hb hts hin5 hown hK hP fq rfl 4 (by decide) hf46 rfl rfl dX0_handsIn_47 ?_
        refine lv_astoreQ (lv' := [(4, va_rf nx), (0, .ref a), (1, .int y), (2, .int u.1), (3, .int u.2)]) hx hb dX0_handsIn_50 hl (by decide) rfl (fun ls hl => ?_)
        refine lv_goto (tgt := 10) hx hb dX0_handsIn_52 (by decide) ?_
        have hst : hanF y (q :: L2) u = hanF y L2 u := by
          rw [hanF]; first | (simp [b21, Int32.not_lt.mp b21, b30, Int32.not_lt.mpr b30]; done) | (exfalso; simp_all; done)
        refine ih (L2, nx, u) ⟨ht, hI10.2.trans hst⟩ (by show L2.length < (q :: L2).length; simp) H locs ls hP hS ?_
        exact lv_sub hl [1, 2, 3, 4, 0] rfl
      · refine lv_aload hx hb dX0_handsIn_33 (lv_at hl 4 rfl) ?_
        refine g_get (ci := 5) hx hb hts hin5 hown hK hP fq rfl 1 (by decide) hf49 rfl rfl dX0_handsIn_35 ?_
        refine lv_istore_n (lv' := [(2, .int q.2.1), (0, .ref a), (1, .int y), (3, .int u.2), (4, .ref aq)]) hx hb dX0_handsIn_38 rfl hl (by decide) rfl (fun ls hl => ?_)
        refine lv_aload hx hb dX0_handsIn_39 (lv_at hl 4 rfl) ?_
        refine g_get (ci := 5) hx hb hts hin5 hown hK hP fq rfl 3 (by decide) hf52 rfl rfl dX0_handsIn_41 ?_
        refine lv_istore_n (lv' := [(3, .int q.2.2.2), (2, .int q.2.1), (0, .ref a), (1, .int y), (4, .ref aq)]) hx hb dX0_handsIn_44 rfl hl (by decide) rfl (fun ls hl => ?_)
        refine lv_aload hx hb dX0_handsIn_45 (lv_at hl 4 rfl) ?_
        refine g_get (ci := 5) hx hb hts hin5 hown hK hP fq rfl 4 (by decide) hf46 rfl rfl dX0_handsIn_47 ?_
        refine lv_astoreQ (lv' := [(4, va_rf nx), (3, .int q.2.2.2), (2, .int q.2.1), (0, .ref a), (1, .int y)]) hx hb dX0_handsIn_50 hl (by decide) rfl (fun ls hl => ?_)
        refine lv_goto (tgt := 10) hx hb dX0_handsIn_52 (by decide) ?_
        have hst : hanF y (q :: L2) u = hanF y L2 (q.2.1, q.2.2.2) := by
          rw [hanF]; first | (simp [b21, Int32.not_lt.mp b21, b30, Int32.not_le.mp b30]; done) | (exfalso; simp_all; done)
        refine ih (L2, nx, (q.2.1, q.2.2.2)) ⟨ht, hI10.2.trans hst⟩ (by show L2.length < (q :: L2).length; simp) H locs ls hP hS ?_
        exact lv_sub hl [3, 4, 2, 1, 0] rfl
set_option maxHeartbeats 1000000 in
set_option maxRecDepth 100000 in
theorem kX1_daysFor (l : Launch) (E : gT) (A : Nat → Prop) (n : Nat) (G : gH) (a b : Nat) (q : tlT) (nx : Option Nat) (ly lt lh lx lc : Int32) (fa : G a = some (.inr (1, [.int ly, .int lt, .int lh, .int lx, .int lc]))) (fb : G b = some (telC q nx)) : gM l yX1_daysFor wsX1_daysFor ({ frames := 0, cells := 0, slots := 0, locals := 0 } : Room) E A n G [.ref a, .ref b] (gQi E A (fun r' n' G' => (if q.2.2.1 < lx then 0 else q.2.2.1 / 10 * lt + q.2.2.2 * lh) = r' ∧ n = n' ∧ G = G')) 0 0 := by
  refine g_entry (by decide) rfl (Nat.le_of_ble_eq_true rfl) ?_
  intro p e s m below meth c0 hx hb hr hlk hml hown hnm hts hK H locs ls hP hS hl
  have hin1 : ∀ wq ∈ u_ws RX1 TX1 5, wq ∈ wsX1_daysFor := by decide +kernel
  have hin5 : ∀ wq ∈ u_ws RX5 TX5 5, wq ∈ wsX1_daysFor := by decide +kernel
  have hf15 := hts (.fieldLink RX1 15 "DikeHands$Law" "daysForTenAcres" "I") (by decide +kernel)
  have hf18 := hts (.fieldLink RX1 18 "DikeHands$Law" "daysForHand" "I") (by decide +kernel)
  have hf21 := hts (.fieldLink RX1 21 "DikeHands$Law" "exempt" "I") (by decide +kernel)
  have hf32 := hts (.fieldLink RX1 32 "DikeHands$Telling" "acres" "I") (by decide +kernel)
  have hf37 := hts (.fieldLink RX1 37 "DikeHands$Telling" "hands" "I") (by decide +kernel)
  have hl : lv_has ls 2 [(0, .ref a), (1, .ref b)] := hl
  refine lv_aload_n hx hb dX1_daysFor_0 rfl (lv_at hl 1 rfl) ?_
  refine g_get (ci := 5) hx hb hts hin5 hown hK hP fb rfl 2 (by decide) hf32 rfl rfl dX1_daysFor_1 ?_
  refine lv_aload_n hx hb dX1_daysFor_4 rfl (lv_at hl 0 rfl) ?_
  refine g_get (ci := 1) hx hb hts hin1 hown hK hP fa rfl 3 (by decide) hf21 rfl rfl dX1_daysFor_5 ?_
  refine lv_icmp_ge (tgt := 13) hx hb dX1_daysFor_8 (by decide) (fun b8 => ?_) (fun b8 => ?_)
  · refine lv_aload_n hx hb dX1_daysFor_13 rfl (lv_at hl 1 rfl) ?_
    refine g_get (ci := 5) hx hb hts hin5 hown hK hP fb rfl 2 (by decide) hf32 rfl rfl dX1_daysFor_14 ?_
    refine lv_bipush (v := 10) hx hb dX1_daysFor_17 (by decide) ?_
    refine lv_idiv hx hb dX1_daysFor_19 (by decide) ?_
    refine lv_aload_n hx hb dX1_daysFor_20 rfl (lv_at hl 0 rfl) ?_
    refine g_get (ci := 1) hx hb hts hin1 hown hK hP fa rfl 1 (by decide) hf15 rfl rfl dX1_daysFor_21 ?_
    refine lv_imul hx hb dX1_daysFor_24 ?_
    refine lv_aload_n hx hb dX1_daysFor_25 rfl (lv_at hl 1 rfl) ?_
    refine g_get (ci := 5) hx hb hts hin5 hown hK hP fb rfl 3 (by decide) hf37 rfl rfl dX1_daysFor_26 ?_
    refine lv_aload_n hx hb dX1_daysFor_29 rfl (lv_at hl 0 rfl) ?_
    refine g_get (ci := 1) hx hb hts hin1 hown hK hP fa rfl 2 (by decide) hf18 rfl rfl dX1_daysFor_30 ?_
    refine lv_imul hx hb dX1_daysFor_33 ?_
    refine lv_iadd hx hb dX1_daysFor_34 ?_
    refine g_reti hx hb hr hlk hP hS dX1_daysFor_35 ?_
    exact ⟨by first | (simp [b8, Int32.not_lt.mpr b8]; done) | (exfalso; simp_all; done), rfl, rfl⟩
  · refine lv_iconst (v := 0) hx hb dX1_daysFor_11 (by decide) ?_
    refine g_reti hx hb hr hlk hP hS dX1_daysFor_12 ?_
    exact ⟨by first | (simp [b8, Int32.not_le.mp b8]; done) | (exfalso; simp_all; done), rfl, rfl⟩
set_option maxHeartbeats 1000000 in
set_option maxRecDepth 100000 in
theorem kX2_isFull (l : Launch) (E : gT) (A : Nat → Prop) (n : Nat) (G : gH) (a a1 a2 : Nat) (kq : Int32) (fa : G a = some (.inr (2, [.ref a1, .ref a2, .int kq]))) : gM l yX2_isFull wsX2_isFull ({ frames := 0, cells := 0, slots := 0, locals := 0 } : Room) E A n G [.ref a] (gQi E A (fun r' n' G' => (gb (decide (40 ≤ kq))) = r' ∧ n = n' ∧ G = G')) 0 0 := by
  refine g_entry (by decide) rfl (Nat.le_of_ble_eq_true rfl) ?_
  intro p e s m below meth c0 hx hb hr hlk hml hown hnm hts hK H locs ls hP hS hl
  have hin2 : ∀ wq ∈ u_ws RX2 TX2 3, wq ∈ wsX2_isFull := by decide +kernel
  have hf24 := hts (.fieldLink RX2 24 "DikeHands$LawBook" "size" "I") (by decide +kernel)
  have hl : lv_has ls 1 [(0, .ref a)] := hl
  refine lv_aload_n hx hb dX2_isFull_0 rfl (lv_at hl 0 rfl) ?_
  refine g_get (ci := 2) hx hb hts hin2 hown hK hP fa rfl 2 (by decide) hf24 rfl rfl dX2_isFull_1 ?_
  refine lv_bipush (v := 40) hx hb dX2_isFull_4 (by decide) ?_
  refine lv_icmp_lt (tgt := 13) hx hb dX2_isFull_6 (by decide) (fun b6 => ?_) (fun b6 => ?_)
  · refine lv_iconst (v := 0) hx hb dX2_isFull_13 (by decide) ?_
    refine g_retz hx hb hr hlk hP hS dX2_isFull_14 rfl ?_
    exact ⟨by first | (simp [gb, b6, Int32.not_le.mpr b6]; done) | (exfalso; simp_all; done), rfl, rfl⟩
  · refine lv_iconst (v := 1) hx hb dX2_isFull_9 (by decide) ?_
    refine lv_goto (tgt := 14) hx hb dX2_isFull_10 (by decide) ?_
    refine g_retz hx hb hr hlk hP hS dX2_isFull_14 rfl ?_
    exact ⟨by first | (simp [gb, b6, Int32.not_lt.mp b6]; done) | (exfalso; simp_all; done), rfl, rfl⟩
set_option maxHeartbeats 1000000 in
set_option maxRecDepth 100000 in
theorem kX2_add (l : Launch) (E : gT) (A : Nat → Prop) (n : Nat) (G : gH) (a a1 a2 b : Nat) (kq : Nat) (f : Nat → Option Nat) (vs : List Value) (hk : kq < 40) (fa : G a = some (.inr (2, [.ref a1, .ref a2, .int (nI kq)]))) (fb : G a1 = some (.inl (E.2 3, 40, .inr (.inr (.inr (.inr f)))))) (fc : G b = some (.inr (1, vs))) : gM l yX2_add wsX2_add ({ frames := 1, cells := 0, slots := 0, locals := 20 } : Room) E A n G [.ref a, .ref b] (gQv E A (fun n' G' => n = n' ∧ (gup (gup G a1 (.inl (E.2 3, 40, .inr (.inr (.inr (.inr (va_up f kq (some b)))))))) a (.inr (2, [.ref a1, .ref a2, .int (nI (kq + 1))]))) = G')) 0 0 := by
  refine g_entry (by decide) rfl (Nat.le_of_ble_eq_true rfl) ?_
  intro p e s m below meth c0 hx hb hr hlk hml hown hnm hts hK H locs ls hP hS hl
  have hin2 : ∀ wq ∈ u_ws RX2 TX2 3, wq ∈ wsX2_add := by decide +kernel
  have hf11 := hts (.fieldLink RX2 11 "DikeHands$LawBook" "laws" "[LDikeHands$Law;") (by decide +kernel)
  have hf24 := hts (.fieldLink RX2 24 "DikeHands$LawBook" "size" "I") (by decide +kernel)
  have hl : lv_has ls 2 [(0, .ref a), (1, .ref b)] := hl
  refine lv_aload_n hx hb dX2_add_0 rfl (lv_at hl 0 rfl) ?_
  refine g_ci (g_runV (As := []) (rest := []) ⟨hx, hb, hml, hown, hts⟩ hK hP (kX2_isFull l E A n G a a1 a2 (nI kq) fa) (cwV 0 hts gX2_add_X2_isFull rfl rfl rfl (by decide +kernel) ⟨Nat.le_of_ble_eq_true rfl, Nat.le_of_ble_eq_true rfl⟩) fa rfl rfl hl.1 rfl (Nat.le_of_ble_eq_true rfl) dX2_add_1 ⟨Nat.le_of_ble_eq_true rfl, Nat.le_of_ble_eq_true rfl⟩) hS (fun r1 n' G' H locs hw hP hS => ?_)
  obtain ⟨rfl, rfl, rfl⟩ := hw
  refine g_ifne (tgt := 27) hx hb dX2_add_4 (by decide) (fun b4 => absurd (decide_eq_true_eq.mp b4) (nI_ge hk (by decide))) (fun _ => ?_)
  refine lv_aload_n hx hb dX2_add_7 rfl (lv_at hl 0 rfl) ?_
  refine g_get (ci := 2) hx hb hts hin2 hown hK hP fa rfl 0 (by decide) hf11 rfl rfl dX2_add_8 ?_
  refine lv_aload_n hx hb dX2_add_11 rfl (lv_at hl 0 rfl) ?_
  refine g_get (ci := 2) hx hb hts hin2 hown hK hP fa rfl 2 (by decide) hf24 rfl rfl dX2_add_12 ?_
  refine lv_aload_n hx hb dX2_add_15 rfl (lv_at hl 1 rfl) ?_
  refine g_aast (t0 := 3) (ci := 1) hx hb hK hP hS fb rfl fc rfl (vp_in_nI hk (by decide)) dX2_add_16 (fun H locs hP hS => ?_)
  have q26_0 : (gup G a1 (.inl (E.2 3, 40, .inr (.inr (.inr (.inr (va_up f (tn (nI kq)) (some b)))))))) a = some (.inr (2, [.ref a1, .ref a2, .int (nI kq)])) := (gup_n (ne_oa fa fb)).trans fa
  have q26_1 : (gup G a1 (.inl (E.2 3, 40, .inr (.inr (.inr (.inr (va_up f (tn (nI kq)) (some b)))))))) b = some (.inr (1, vs)) := (gup_n (ne_oa fc fb)).trans fc
  have q26_a : (gup G a1 (.inl (E.2 3, 40, .inr (.inr (.inr (.inr (va_up f (tn (nI kq)) (some b)))))))) a1 = some (.inl (E.2 3, 40, .inr (.inr (.inr (.inr (va_up f (tn (nI kq)) (some b))))))) := gup_s
  have hP : gP E A n (gup G a1 (.inl (E.2 3, 40, .inr (.inr (.inr (.inr (va_up f (tn (nI kq)) (some b)))))))) H := hP
  refine lv_aload_n hx hb dX2_add_17 rfl (lv_at hl 0 rfl) ?_
  refine lv_dup hx hb dX2_add_18 rfl ?_
  refine g_get (ci := 2) hx hb hts hin2 hown hK hP q26_0 rfl 2 (by decide) hf24 rfl rfl dX2_add_19 ?_
  refine lv_iconst (v := 1) hx hb dX2_add_22 (by decide) ?_
  refine lv_iadd hx hb dX2_add_23 ?_
  refine g_put (ci := 2) (ty := .int) (v := .int ((nI kq) + 1)) hx hb hts hin2 tyX2 tyX2_ok nmX2 hown hK hP hS q26_0 rfl 2 (by decide) hf24 rfl (Or.inl rfl) (by decide +kernel) rfl rfl (Nat.le_of_ble_eq_true rfl) dX2_add_24 (fun H locs hP hS => ?_)
  have q27_0 : (gup (gup G a1 (.inl (E.2 3, 40, .inr (.inr (.inr (.inr (va_up f (tn (nI kq)) (some b)))))))) a (.inr (2, [.ref a1, .ref a2, .int ((nI kq) + 1)]))) b = some (.inr (1, vs)) := (gup_n (ne_oo q26_1 q26_0 (by decide))).trans q26_1
  have q27_1 : (gup (gup G a1 (.inl (E.2 3, 40, .inr (.inr (.inr (.inr (va_up f (tn (nI kq)) (some b)))))))) a (.inr (2, [.ref a1, .ref a2, .int ((nI kq) + 1)]))) a1 = some (.inl (E.2 3, 40, .inr (.inr (.inr (.inr (va_up f (tn (nI kq)) (some b))))))) := (gup_n (ne_ao q26_a q26_0)).trans q26_a
  have q27_a : (gup (gup G a1 (.inl (E.2 3, 40, .inr (.inr (.inr (.inr (va_up f (tn (nI kq)) (some b)))))))) a (.inr (2, [.ref a1, .ref a2, .int ((nI kq) + 1)]))) a = some (.inr (2, [.ref a1, .ref a2, .int ((nI kq) + 1)])) := gup_s
  have hP : gP E A n (gup (gup G a1 (.inl (E.2 3, 40, .inr (.inr (.inr (.inr (va_up f (tn (nI kq)) (some b)))))))) a (.inr (2, [.ref a1, .ref a2, .int ((nI kq) + 1)]))) H := hP
  refine g_retv hx hb hr hlk hP hS dX2_add_27 ?_
  exact ⟨rfl, by rw [← nI_1, show tn (nI kq) = kq from tn_nI (by omega)]⟩
set_option maxHeartbeats 1000000 in
set_option maxRecDepth 100000 in
theorem kX2_ofYear (l : Launch) (E : gT) (A : Nat → Prop) (n : Nat) (G : gH) (a a1 a2 : Nat) (S : Nat → Nat → Int32) (la : Nat → Nat) (kn : Nat) (f : Nat → Option Nat) (y : Int32) (hkn : kn ≤ 40) (fa : G a = some (.inr (2, [.ref a1, .ref a2, .int (nI kn)]))) (fb : G a1 = some (.inl (E.2 3, 40, .inr (.inr (.inr (.inr f)))))) (fc : G a2 = some (.inr (1, [.int 0, .int 0, .int 0, .int 0, .int 0]))) (hla : ∀ i, i < kn → f i = some (la i) ∧ G (la i) = some (lawE S i)) (hyr : ∀ i, i < kn → 0 ≤ (S 15 i).toInt) : gM l yX2_ofYear wsX2_ofYear ({ frames := 0, cells := 0, slots := 0, locals := 0 } : Room) E A n G [.ref a, .int y] (gQq E A (fun r' n' G' => some (lbA S la a2 y kn) = r' ∧ n = n' ∧ G = G')) 0 0 := by
  refine g_entry (by decide) rfl (Nat.le_of_ble_eq_true rfl) ?_
  intro p e s m below meth c0 hx hb hr hlk hml hown hnm hts hK H locs ls hP hS hl
  have hin1 : ∀ wq ∈ u_ws RX1 TX1 5, wq ∈ wsX2_ofYear := by decide +kernel
  have hin2 : ∀ wq ∈ u_ws RX2 TX2 3, wq ∈ wsX2_ofYear := by decide +kernel
  have hf11 := hts (.fieldLink RX2 11 "DikeHands$LawBook" "laws" "[LDikeHands$Law;") (by decide +kernel)
  have hf20 := hts (.fieldLink RX2 20 "DikeHands$LawBook" "noLaw" "LDikeHands$Law;") (by decide +kernel)
  have hf24 := hts (.fieldLink RX2 24 "DikeHands$LawBook" "size" "I") (by decide +kernel)
  have hf32 := hts (.fieldLink RX2 32 "DikeHands$Law" "year" "I") (by decide +kernel)
  have hl : lv_has ls 4 [(0, .ref a), (1, .int y)] := hl
  refine lv_aload_n hx hb dX2_ofYear_0 rfl (lv_at hl 0 rfl) ?_
  refine g_get (ci := 2) hx hb hts hin2 hown hK hP fa rfl 1 (by decide) hf20 rfl rfl dX2_ofYear_1 ?_
  refine lv_astore_n (lv' := [(2, .ref a2), (0, .ref a), (1, .int y)]) hx hb dX2_ofYear_4 rfl hl (by decide) rfl (fun ls hl => ?_)
  refine lv_iconst (v := 0) hx hb dX2_ofYear_5 (by decide) ?_
  refine lv_istore_n (lv' := [(3, .int 0), (2, .ref a2), (0, .ref a), (1, .int y)]) hx hb dX2_ofYear_6 rfl hl (by decide) rfl (fun ls hl => ?_)
  refine g_loop (τ := Nat) (fun kq => kq ≤ kn) (fun kq => kn - kq) (fun kq => n) (fun kq => G) (fun kq => 0) (fun kq => 0) (fun kq => [(0, .ref a), (1, .int y), (2, .ref (lbA S la a2 y kq)), (3, .int (nI kq))]) ?_ 0 (Nat.zero_le _) H locs ls hP hS (lv_sub hl [2, 3, 1, 0] rfl)
  intro kq hI7 ih H locs ls hP hS hl
  try dsimp only at hI7
  have hl : lv_has ls 4 [(0, .ref a), (1, .int y), (2, .ref (lbA S la a2 y kq)), (3, .int (nI kq))] := hl
  have hP : gP E A n G H := hP
  refine lv_iload_n hx hb dX2_ofYear_7 rfl (lv_at hl 3 rfl) ?_
  refine lv_aload_n hx hb dX2_ofYear_8 rfl (lv_at hl 0 rfl) ?_
  refine g_get (ci := 2) hx hb hts hin2 hown hK hP fa rfl 2 (by decide) hf24 rfl rfl dX2_ofYear_9 ?_
  refine lv_icmp_ge (tgt := 57) hx hb dX2_ofYear_12 (by decide) (fun b12 => ?_) (fun b12 => ?_)
  · have hk3 := lp_ge (by rw [nI_toInt (by omega)]; omega) (by omega) b12
    rw [tn_nI (by omega)] at hk3
    have hke : kq = kn := by omega
    refine lv_aload_n hx hb dX2_ofYear_57 rfl (lv_at hl 2 rfl) ?_
    refine g_retq (some (lbA S la a2 y kq)) rfl hx hb hr hlk hP hS dX2_ofYear_58 ?_
    exact ⟨by rw [hke], rfl, rfl⟩
  · have hk3 := lp_lt (by rw [nI_toInt (by omega)]; omega) (by omega) b12
    rw [tn_nI (by omega)] at hk3
    have fl : G (la kq) = some (lawE S kq) := (hla kq hk3).2
    obtain ⟨z1, z2, z3, z4, fz⟩ : ∃ z1 z2 z3 z4 : Int32, G (lbA S la a2 y kq) = some (.inr (1, [.int (lbY S y kq), .int z1, .int z2, .int z3, .int z4])) := by
      unfold lbA lbY
      rcases lawN_in S y kq (by omega) with h1 | h1
      · rw [if_pos h1, if_pos h1]; exact ⟨_, _, _, _, fc⟩
      · have h2 : ¬ lawN S y kq = -1 := fun q => by rw [q] at h1; exact absurd h1.1 (by decide)
        have h3 := tn_of h1.1
        rw [if_neg h2, if_neg h2]; exact ⟨_, _, _, _, (hla _ (by omega)).2⟩
    refine lv_aload_n hx hb dX2_ofYear_15 rfl (lv_at hl 0 rfl) ?_
    refine g_get (ci := 2) hx hb hts hin2 hown hK hP fa rfl 0 (by decide) hf11 rfl rfl dX2_ofYear_16 ?_
    refine lv_iload_n hx hb dX2_ofYear_19 rfl (lv_at hl 3 rfl) ?_
    refine g_aald (t0 := 3) (v := .ref (la kq)) hx hb hK hP fb rfl (vp_in_nI (by omega) (by decide)) (show va_rf (f (tn (nI kq))) = _ by rw [tn_nI (by omega), (hla kq hk3).1]; rfl) dX2_ofYear_20 ?_
    refine g_get (ci := 1) hx hb hts hin1 hown hK hP fl rfl 0 (by decide) hf32 rfl rfl dX2_ofYear_21 ?_
    refine lv_iload_n hx hb dX2_ofYear_24 rfl (lv_at hl 1 rfl) ?_
    refine lv_icmp_gt (tgt := 51) hx hb dX2_ofYear_25 (by decide) (fun b25 => ?_) (fun b25 => ?_)
    · refine lv_iinc (v := (nI kq) + 1) (lv' := [(3, .int ((nI kq) + 1)), (0, .ref a), (1, .int y), (2, .ref (lbA S la a2 y kq))]) hx hb dX2_ofYear_51 hl (k := 3) rfl rfl (by decide) rfl (fun ls hl => ?_)
      refine lv_goto (tgt := 7) hx hb dX2_ofYear_54 (by decide) ?_
      have hy0 := hyr kq hk3
      have hN : lawN S y (kq + 1) = lawN S y kq := by
        rw [lawN, if_neg]
        exact fun q => absurd q.1 (Int32.not_le.mpr b25)
      have hA2 : lbA S la a2 y (kq + 1) = lbA S la a2 y kq := by rw [lbA, hN, lbA]
      refine ih (kq + 1) (by omega) (by omega) H locs ls hP hS ?_
      show lv_has ls 4 [(0, .ref a), (1, .int y), (2, .ref (lbA S la a2 y (kq + 1))), (3, .int (nI (kq + 1)))]
      rw [hA2, ← nI_1 kq]
      exact lv_sub hl [1, 2, 3, 0] rfl
    · refine lv_aload_n hx hb dX2_ofYear_28 rfl (lv_at hl 0 rfl) ?_
      refine g_get (ci := 2) hx hb hts hin2 hown hK hP fa rfl 0 (by decide) hf11 rfl rfl dX2_ofYear_29 ?_
      refine lv_iload_n hx hb dX2_ofYear_32 rfl (lv_at hl 3 rfl) ?_
      refine g_aald (t0 := 3) (v := .ref (la kq)) hx hb hK hP fb rfl (vp_in_nI (by omega) (by decide)) (show va_rf (f (tn (nI kq))) = _ by rw [tn_nI (by omega), (hla kq hk3).1]; rfl) dX2_ofYear_33 ?_
      refine g_get (ci := 1) hx hb hts hin1 hown hK hP fl rfl 0 (by decide) hf32 rfl rfl dX2_ofYear_34 ?_
      refine lv_aload_n hx hb dX2_ofYear_37 rfl (lv_at hl 2 rfl) ?_
      refine g_get (ci := 1) hx hb hts hin1 hown hK hP fz rfl 0 (by decide) hf32 rfl rfl dX2_ofYear_38 ?_
      refine lv_icmp_lt (tgt := 51) hx hb dX2_ofYear_41 (by decide) (fun b41 => ?_) (fun b41 => ?_)
      · refine lv_iinc (v := (nI kq) + 1) (lv' := [(3, .int ((nI kq) + 1)), (0, .ref a), (1, .int y), (2, .ref (lbA S la a2 y kq))]) hx hb dX2_ofYear_51 hl (k := 3) rfl rfl (by decide) rfl (fun ls hl => ?_)
        refine lv_goto (tgt := 7) hx hb dX2_ofYear_54 (by decide) ?_
        have hy0 := hyr kq hk3
        have hN : lawN S y (kq + 1) = lawN S y kq := by
          rw [lawN, if_neg]
          intro q
          rcases q.2 with h1 | h1
          · rw [lbY, if_pos h1] at b41
            have := Int32.lt_iff_toInt_lt.mp b41
            have e0 : (0 : Int32).toInt = 0 := rfl
            omega
          · by_cases h2 : lawN S y kq = -1
            · rw [lbY, if_pos h2] at b41
              have := Int32.lt_iff_toInt_lt.mp b41
              have e0 : (0 : Int32).toInt = 0 := rfl
              omega
            · rw [lbY, if_neg h2] at b41; exact absurd h1 (Int32.not_le.mpr b41)
        have hA2 : lbA S la a2 y (kq + 1) = lbA S la a2 y kq := by rw [lbA, hN, lbA]
        refine ih (kq + 1) (by omega) (by omega) H locs ls hP hS ?_
        show lv_has ls 4 [(0, .ref a), (1, .int y), (2, .ref (lbA S la a2 y (kq + 1))), (3, .int (nI (kq + 1)))]
        rw [hA2, ← nI_1 kq]
        exact lv_sub hl [1, 2, 3, 0] rfl
      · refine lv_aload_n hx hb dX2_ofYear_44 rfl (lv_at hl 0 rfl) ?_
        refine g_get (ci := 2) hx hb hts hin2 hown hK hP fa rfl 0 (by decide) hf11 rfl rfl dX2_ofYear_45 ?_
        refine lv_iload_n hx hb dX2_ofYear_48 rfl (lv_at hl 3 rfl) ?_
        refine g_aald (t0 := 3) (v := .ref (la kq)) hx hb hK hP fb rfl (vp_in_nI (by omega) (by decide)) (show va_rf (f (tn (nI kq))) = _ by rw [tn_nI (by omega), (hla kq hk3).1]; rfl) dX2_ofYear_49 ?_
        refine lv_astore_n (lv' := [(2, .ref (la kq)), (0, .ref a), (1, .int y), (3, .int (nI kq))]) hx hb dX2_ofYear_50 rfl hl (by decide) rfl (fun ls hl => ?_)
        refine lv_iinc (v := (nI kq) + 1) (lv' := [(3, .int ((nI kq) + 1)), (2, .ref (la kq)), (0, .ref a), (1, .int y)]) hx hb dX2_ofYear_51 hl (k := 3) rfl rfl (by decide) rfl (fun ls hl => ?_)
        refine lv_goto (tgt := 7) hx hb dX2_ofYear_54 (by decide) ?_
        have hy0 := hyr kq hk3
        have hN : lawN S y (kq + 1) = nI kq := by
          rw [lawN, if_pos]
          refine ⟨Int32.not_lt.mp b25, ?_⟩
          by_cases h1 : lawN S y kq = -1
          · exact Or.inl h1
          · right; have h2 := Int32.not_lt.mp b41; rw [lbY, if_neg h1] at h2; exact h2
        have hA2 : lbA S la a2 y (kq + 1) = la kq := by
          rw [lbA, hN, if_neg (fun q => by have := congrArg Int32.toInt q; rw [nI_toInt (by omega)] at this; exact absurd this (by have e1 : (-1 : Int32).toInt = -1 := rfl; omega)), tn_nI (by omega)]
        refine ih (kq + 1) (by omega) (by omega) H locs ls hP hS ?_
        show lv_has ls 4 [(0, .ref a), (1, .int y), (2, .ref (lbA S la a2 y (kq + 1))), (3, .int (nI (kq + 1)))]
        rw [hA2, ← nI_1 kq]
        exact lv_sub hl [2, 3, 1, 0] rfl
