/-! the reference's constructor: the object at o, k of its rows made -/
def GP (E : gT) (o : Nat) (fs : List Value) (k : Nat) : gH := fun a => if a = o then some (.inr (9, fs)) else if o < a ∧ a < o + (k + 1) then some (.inl (E.2 0, lenM (a - o - 1), .inl (fun _ => 0))) else none
theorem GP_o {E : gT} {o : Nat} {fs : List Value} {k : Nat} : GP E o fs k o = some (.inr (9, fs)) := by simp [GP]
theorem GP_push {E : gT} {o : Nat} {fs : List Value} (k ln : Nat) (hl : lenM k = ln) : gup (GP E o fs k) (o + (k + 1)) (.inl (E.2 0, ln, .inl (fun _ => 0))) = GP E o fs (k + 1) := by
  subst hl
  funext a
  by_cases h : a = o + (k + 1)
  · subst h
    have h3 : o + (k + 1) - o - 1 = k := by omega
    rw [gup_s]
    simp only [GP]
    rw [if_neg (by omega), if_pos (by omega), h3]
  · rw [gup_n h]
    simp only [GP]
    by_cases h1 : a = o
    · rw [if_pos h1, if_pos h1]
    · rw [if_neg h1, if_neg h1]
      by_cases h2 : o < a ∧ a < o + (k + 1)
      · rw [if_pos h2, if_pos (by omega)]
      · rw [if_neg h2, if_neg (by omega)]
theorem GP_put {E : gT} {o : Nat} {fs fs' : List Value} {k : Nat} : gup (GP E o fs k) o (.inr (9, fs')) = GP E o fs' k := by
  funext a
  by_cases h : a = o
  · subst h; rw [gup_s, GP_o]
  · rw [gup_n h]; simp only [GP, if_neg h]
theorem GP_GM {E : gT} {o : Nat} {c : Nat → Int32} : GP E o (objM o c) 26 = GM E o c (fun _ _ => 0) := rfl
section GPR
variable {p : Program} {l : Launch} {e : Env} {R : Room} {s : State} {m : MethodId} {args : Array Value} {below : List Frame} {meth : Method} {c0 : Code} {H : Heap} {locs : List Loc} {cells slots : Nat} {Q : State → Prop}
variable {cc : ByteArray} {Ts : List Cond} {pc : Nat} {ls : Array Slot} {rest : List Value} {E : gT} {A : Nat → Prop} {n o : Nat} {H0 : Heap} {fs : List Value}
theorem mi_new (hx : p.tables.exec = Jvm.exec) (hb : c0.code = cc) (harr : (Cond.arrayClass .int).before args s = true) (hK : gK E s) (k ln : Nat) {j j' : Nat} (hj : j = k + 1) (hj' : j' = k + 2) (hP : gP E A (o + j) (GP E o fs k) H) (hS : va_S A H0 H locs) (hA : ∀ q, o + 1 ≤ q → A q) (hl : lenM k = ln) {i : Int32} (hn : ¬ i < 0) (hN : i.toNatClampNeg = ln) (hby : ln * componentBytes (newarray.typeOf .int) ≤ 536870912) (hcells : cells + 1 ≤ R.cells) (hslots : slots + ln ≤ R.slots) (hdg : decode cc pc = .ok (.newarray .int, 2))
    (kk : ∀ (H1 : Heap), gP E A (o + j') (GP E o fs (k + 1)) H1 → va_S A H0 H1 locs → W p l e R s m args below meth c0 H1 locs (cells + 1) (slots + ln) Q (F0 m (pc + 2) ls (.ref (o + j) :: rest))) : W p l e R s m args below meth c0 H locs cells slots Q (F0 m pc ls (.int i :: rest)) := by
  subst hj; subst hj'
  refine g_newa (atype := .int) (t0 := 0) (cA := E.2 0) (a0 := (ln, .inl (fun _ => 0))) (N' := ln) hx hb harr rfl rfl hK hP hS (fun q h => hA q (by omega)) rfl hn hN hby hcells hslots hdg (fun H1 h1 h2 => kk H1 ?_ h2)
  rw [GP_push k ln hl] at h1
  exact h1
theorem mi_put (hx : p.tables.exec = Jvm.exec) (hb : c0.code = cc) {index : Nat} (hts : ∀ w ∈ Ts, w.before args s = true) (hin : ∀ w ∈ u_ws RX9 TX9 35, w ∈ Ts) (hown : s.vm.findClass RX9 = some m.cls) (hnm : meth.name = "<init>") (hK : gK E s) {k : Nat} (hP : gP E A n (GP E o fs k) H) (hS : va_S A H0 H locs) (kf : Nat) (hk : kf < 35) (hlink : (Cond.fieldLink RX9 index RX9 (TX9 kf).2.1 (TX9 kf).2.2.1).before args s = true) (hsame : (TX9 kf).1 = RX9) (hfin : (TX9 kf).2.2.2 = true) (hd : parseFieldDescriptor (TX9 kf).2.2.1 = some (.array .int)) {v : Nat} (fs' : List Value) (hfs : kf < fs.length) (hset : fs.set kf (.ref v) = fs') (hdg : decode cc pc = .ok (.putfield index, 3))
    (kk : ∀ (H1 : Heap) (locs1 : List Loc), gP E A n (GP E o fs' k) H1 → va_S A H0 H1 locs1 → W p l e R s m args below meth c0 H1 locs1 cells slots Q (F0 m (pc + 3) ls rest)) : W p l e R s m args below meth c0 H locs cells slots Q (F0 m pc ls (.ref v :: .ref o :: rest)) := by
  refine g_put hx hb hts hin tyX9 tyX9_ok nmX9 hown hK hP hS GP_o rfl kf hk hlink hsame (Or.inr ⟨hfin, hnm, hsame⟩) hd rfl rfl hfs hdg (fun H1 locs1 h1 h2 => kk H1 locs1 ?_ h2)
  rw [hset, GP_put] at h1
  exact h1
end GPR
def Z9 : Nat → Nat → Int32 := fun _ _ => 0
def S0 : Nat → Nat → Int32 := va_up (va_up Z9 1 (rivF (fun _ => 0) 0 30 1000)) 22 (rivF (fun _ => 0) 0 840 (-1))

set_option maxHeartbeats 2000000 in
set_option maxRecDepth 100000 in
theorem kX9_init (l : Launch) (E : gT) (A : Nat → Prop) (o : Nat) (hA : ∀ q, o + 1 ≤ q → A q) : gM l yX9_init wsX9_init ({ frames := 1, cells := 26, slots := 24329, locals := 20 } : Room) E A (o + 1) (GP E o [.int 0, .null, .null, .null, .null, .null, .null, .int 0, .null, .null, .null, .null, .int 0, .null, .null, .null, .null, .null, .int 0, .null, .null, .null, .null, .null, .null, .null, .null, .null, .null, .int 0, .int 0, .int 0, .int 0, .int 0, .null] 0) [.ref o] (gQv E A (fun n' G' => o + 27 = n' ∧ GM E o (fun _ => 0) S0 = G')) 26 24329 := by
  refine g_entry (by decide) rfl (Nat.le_of_ble_eq_true rfl) ?_
  intro p e s m below meth c0 hx hb hr hlk hml hown hnm hts hK H locs ls hP hS hl
  have hin9 : ∀ w ∈ u_ws RX9 TX9 35, w ∈ wsX9_init := by decide +kernel
  have hf9 := hts (.fieldLink RX9 9 "DikeHandsModel" "mile" "[I") (by decide +kernel)
  have hf13 := hts (.fieldLink RX9 13 "DikeHandsModel" "height" "[I") (by decide +kernel)
  have hf16 := hts (.fieldLink RX9 16 "DikeHandsModel" "soil" "[I") (by decide +kernel)
  have hf19 := hts (.fieldLink RX9 19 "DikeHandsModel" "loss" "[I") (by decide +kernel)
  have hf22 := hts (.fieldLink RX9 22 "DikeHandsModel" "broke" "[I") (by decide +kernel)
  have hf25 := hts (.fieldLink RX9 25 "DikeHandsModel" "worked" "[I") (by decide +kernel)
  have hf28 := hts (.fieldLink RX9 28 "DikeHandsModel" "village" "[I") (by decide +kernel)
  have hf31 := hts (.fieldLink RX9 31 "DikeHandsModel" "came" "[I") (by decide +kernel)
  have hf34 := hts (.fieldLink RX9 34 "DikeHandsModel" "firstAcres" "[I") (by decide +kernel)
  have hf37 := hts (.fieldLink RX9 37 "DikeHandsModel" "firstHands" "[I") (by decide +kernel)
  have hf40 := hts (.fieldLink RX9 40 "DikeHandsModel" "changeOf" "[I") (by decide +kernel)
  have hf43 := hts (.fieldLink RX9 43 "DikeHandsModel" "trueFrom" "[I") (by decide +kernel)
  have hf46 := hts (.fieldLink RX9 46 "DikeHandsModel" "toldAt" "[I") (by decide +kernel)
  have hf49 := hts (.fieldLink RX9 49 "DikeHandsModel" "acresTo" "[I") (by decide +kernel)
  have hf52 := hts (.fieldLink RX9 52 "DikeHandsModel" "handsTo" "[I") (by decide +kernel)
  have hf55 := hts (.fieldLink RX9 55 "DikeHandsModel" "lawYear" "[I") (by decide +kernel)
  have hf58 := hts (.fieldLink RX9 58 "DikeHandsModel" "lawWhat" "[I") (by decide +kernel)
  have hf61 := hts (.fieldLink RX9 61 "DikeHandsModel" "lawCoin" "[I") (by decide +kernel)
  have hf64 := hts (.fieldLink RX9 64 "DikeHandsModel" "own" "[I") (by decide +kernel)
  have hf67 := hts (.fieldLink RX9 67 "DikeHandsModel" "others" "[I") (by decide +kernel)
  have hf70 := hts (.fieldLink RX9 70 "DikeHandsModel" "bought" "[I") (by decide +kernel)
  have hf73 := hts (.fieldLink RX9 73 "DikeHandsModel" "forOthers" "[I") (by decide +kernel)
  have hf76 := hts (.fieldLink RX9 76 "DikeHandsModel" "substitute" "[I") (by decide +kernel)
  have hf79 := hts (.fieldLink RX9 79 "DikeHandsModel" "did" "[I") (by decide +kernel)
  have hf82 := hts (.fieldLink RX9 82 "DikeHandsModel" "level" "[I") (by decide +kernel)
  have hf85 := hts (.fieldLink RX9 85 "DikeHandsModel" "most" "[I") (by decide +kernel)
  have hl : lv_has ls 2 [(0, .ref o)] := hl
  refine lv_aload_n hx hb dX9_init_0 rfl (lv_at hl 0 rfl) ?_
  refine W.objInit hx hb hown (hts (.methodLink RX9 1 objectInit) (by decide +kernel)) (hts (.instanceMethod objectInit) (by decide +kernel)) (hts (.code objectInit ⟨#[0xb1]⟩ 1 none) (by decide +kernel)) rfl (by rw [hml]; exact hl.1) rfl dX9_init_1 (Nat.le_of_ble_eq_true rfl) (Nat.le_of_ble_eq_true rfl) ?_
  refine W.eq (g2 := F0 m 4 ls []) rfl ?_
  refine lv_aload_n hx hb dX9_init_4 rfl (lv_at hl 0 rfl) ?_
  refine lv_bipush (v := 8) hx hb dX9_init_5 (by decide) ?_
  refine mi_new hx hb (hts (.arrayClass .int) (by decide +kernel)) hK 0 8 rfl rfl hP hS hA rfl (by decide) (by decide) (by decide) (Nat.le_of_ble_eq_true rfl) (Nat.le_of_ble_eq_true rfl) dX9_init_7 (fun H hP hS => ?_)
  have hP : gP E A (o + 2) (GP E o [.int 0, .null, .null, .null, .null, .null, .null, .int 0, .null, .null, .null, .null, .int 0, .null, .null, .null, .null, .null, .int 0, .null, .null, .null, .null, .null, .null, .null, .null, .null, .null, .int 0, .int 0, .int 0, .int 0, .int 0, .null] 1) H := hP
  refine mi_put hx hb hts hin9 hown hnm hK hP hS 1 (by decide) hf9 rfl rfl (by decide +kernel) [.int 0, .ref (o + 1), .null, .null, .null, .null, .null, .int 0, .null, .null, .null, .null, .int 0, .null, .null, .null, .null, .null, .int 0, .null, .null, .null, .null, .null, .null, .null, .null, .null, .null, .int 0, .int 0, .int 0, .int 0, .int 0, .null] (Nat.le_of_ble_eq_true rfl) rfl dX9_init_9 (fun H locs hP hS => ?_)
  refine lv_aload_n hx hb dX9_init_12 rfl (lv_at hl 0 rfl) ?_
  refine lv_bipush (v := 30) hx hb dX9_init_13 (by decide) ?_
  refine mi_new hx hb (hts (.arrayClass .int) (by decide +kernel)) hK 1 30 rfl rfl hP hS hA rfl (by decide) (by decide) (by decide) (Nat.le_of_ble_eq_true rfl) (Nat.le_of_ble_eq_true rfl) dX9_init_15 (fun H hP hS => ?_)
  have hP : gP E A (o + 3) (GP E o [.int 0, .ref (o + 1), .null, .null, .null, .null, .null, .int 0, .null, .null, .null, .null, .int 0, .null, .null, .null, .null, .null, .int 0, .null, .null, .null, .null, .null, .null, .null, .null, .null, .null, .int 0, .int 0, .int 0, .int 0, .int 0, .null] 2) H := hP
  refine mi_put hx hb hts hin9 hown hnm hK hP hS 2 (by decide) hf13 rfl rfl (by decide +kernel) [.int 0, .ref (o + 1), .ref (o + 2), .null, .null, .null, .null, .int 0, .null, .null, .null, .null, .int 0, .null, .null, .null, .null, .null, .int 0, .null, .null, .null, .null, .null, .null, .null, .null, .null, .null, .int 0, .int 0, .int 0, .int 0, .int 0, .null] (Nat.le_of_ble_eq_true rfl) rfl dX9_init_17 (fun H locs hP hS => ?_)
  refine lv_aload_n hx hb dX9_init_20 rfl (lv_at hl 0 rfl) ?_
  refine lv_bipush (v := 30) hx hb dX9_init_21 (by decide) ?_
  refine mi_new hx hb (hts (.arrayClass .int) (by decide +kernel)) hK 2 30 rfl rfl hP hS hA rfl (by decide) (by decide) (by decide) (Nat.le_of_ble_eq_true rfl) (Nat.le_of_ble_eq_true rfl) dX9_init_23 (fun H hP hS => ?_)
  have hP : gP E A (o + 4) (GP E o [.int 0, .ref (o + 1), .ref (o + 2), .null, .null, .null, .null, .int 0, .null, .null, .null, .null, .int 0, .null, .null, .null, .null, .null, .int 0, .null, .null, .null, .null, .null, .null, .null, .null, .null, .null, .int 0, .int 0, .int 0, .int 0, .int 0, .null] 3) H := hP
  refine mi_put hx hb hts hin9 hown hnm hK hP hS 3 (by decide) hf16 rfl rfl (by decide +kernel) [.int 0, .ref (o + 1), .ref (o + 2), .ref (o + 3), .null, .null, .null, .int 0, .null, .null, .null, .null, .int 0, .null, .null, .null, .null, .null, .int 0, .null, .null, .null, .null, .null, .null, .null, .null, .null, .null, .int 0, .int 0, .int 0, .int 0, .int 0, .null] (Nat.le_of_ble_eq_true rfl) rfl dX9_init_25 (fun H locs hP hS => ?_)
  refine lv_aload_n hx hb dX9_init_28 rfl (lv_at hl 0 rfl) ?_
  refine lv_bipush (v := 30) hx hb dX9_init_29 (by decide) ?_
  refine mi_new hx hb (hts (.arrayClass .int) (by decide +kernel)) hK 3 30 rfl rfl hP hS hA rfl (by decide) (by decide) (by decide) (Nat.le_of_ble_eq_true rfl) (Nat.le_of_ble_eq_true rfl) dX9_init_31 (fun H hP hS => ?_)
  have hP : gP E A (o + 5) (GP E o [.int 0, .ref (o + 1), .ref (o + 2), .ref (o + 3), .null, .null, .null, .int 0, .null, .null, .null, .null, .int 0, .null, .null, .null, .null, .null, .int 0, .null, .null, .null, .null, .null, .null, .null, .null, .null, .null, .int 0, .int 0, .int 0, .int 0, .int 0, .null] 4) H := hP
  refine mi_put hx hb hts hin9 hown hnm hK hP hS 4 (by decide) hf19 rfl rfl (by decide +kernel) [.int 0, .ref (o + 1), .ref (o + 2), .ref (o + 3), .ref (o + 4), .null, .null, .int 0, .null, .null, .null, .null, .int 0, .null, .null, .null, .null, .null, .int 0, .null, .null, .null, .null, .null, .null, .null, .null, .null, .null, .int 0, .int 0, .int 0, .int 0, .int 0, .null] (Nat.le_of_ble_eq_true rfl) rfl dX9_init_33 (fun H locs hP hS => ?_)
  refine lv_aload_n hx hb dX9_init_36 rfl (lv_at hl 0 rfl) ?_
  refine lv_bipush (v := 30) hx hb dX9_init_37 (by decide) ?_
  refine mi_new hx hb (hts (.arrayClass .int) (by decide +kernel)) hK 4 30 rfl rfl hP hS hA rfl (by decide) (by decide) (by decide) (Nat.le_of_ble_eq_true rfl) (Nat.le_of_ble_eq_true rfl) dX9_init_39 (fun H hP hS => ?_)
  have hP : gP E A (o + 6) (GP E o [.int 0, .ref (o + 1), .ref (o + 2), .ref (o + 3), .ref (o + 4), .null, .null, .int 0, .null, .null, .null, .null, .int 0, .null, .null, .null, .null, .null, .int 0, .null, .null, .null, .null, .null, .null, .null, .null, .null, .null, .int 0, .int 0, .int 0, .int 0, .int 0, .null] 5) H := hP
  refine mi_put hx hb hts hin9 hown hnm hK hP hS 5 (by decide) hf22 rfl rfl (by decide +kernel) [.int 0, .ref (o + 1), .ref (o + 2), .ref (o + 3), .ref (o + 4), .ref (o + 5), .null, .int 0, .null, .null, .null, .null, .int 0, .null, .null, .null, .null, .null, .int 0, .null, .null, .null, .null, .null, .null, .null, .null, .null, .null, .int 0, .int 0, .int 0, .int 0, .int 0, .null] (Nat.le_of_ble_eq_true rfl) rfl dX9_init_41 (fun H locs hP hS => ?_)
  refine lv_aload_n hx hb dX9_init_44 rfl (lv_at hl 0 rfl) ?_
  refine lv_bipush (v := 30) hx hb dX9_init_45 (by decide) ?_
  refine mi_new hx hb (hts (.arrayClass .int) (by decide +kernel)) hK 5 30 rfl rfl hP hS hA rfl (by decide) (by decide) (by decide) (Nat.le_of_ble_eq_true rfl) (Nat.le_of_ble_eq_true rfl) dX9_init_47 (fun H hP hS => ?_)
  have hP : gP E A (o + 7) (GP E o [.int 0, .ref (o + 1), .ref (o + 2), .ref (o + 3), .ref (o + 4), .ref (o + 5), .null, .int 0, .null, .null, .null, .null, .int 0, .null, .null, .null, .null, .null, .int 0, .null, .null, .null, .null, .null, .null, .null, .null, .null, .null, .int 0, .int 0, .int 0, .int 0, .int 0, .null] 6) H := hP
  refine mi_put hx hb hts hin9 hown hnm hK hP hS 6 (by decide) hf25 rfl rfl (by decide +kernel) [.int 0, .ref (o + 1), .ref (o + 2), .ref (o + 3), .ref (o + 4), .ref (o + 5), .ref (o + 6), .int 0, .null, .null, .null, .null, .int 0, .null, .null, .null, .null, .null, .int 0, .null, .null, .null, .null, .null, .null, .null, .null, .null, .null, .int 0, .int 0, .int 0, .int 0, .int 0, .null] (Nat.le_of_ble_eq_true rfl) rfl dX9_init_49 (fun H locs hP hS => ?_)
  refine lv_aload_n hx hb dX9_init_52 rfl (lv_at hl 0 rfl) ?_
  refine lv_bipush (v := 40) hx hb dX9_init_53 (by decide) ?_
  refine mi_new hx hb (hts (.arrayClass .int) (by decide +kernel)) hK 6 40 rfl rfl hP hS hA rfl (by decide) (by decide) (by decide) (Nat.le_of_ble_eq_true rfl) (Nat.le_of_ble_eq_true rfl) dX9_init_55 (fun H hP hS => ?_)
  have hP : gP E A (o + 8) (GP E o [.int 0, .ref (o + 1), .ref (o + 2), .ref (o + 3), .ref (o + 4), .ref (o + 5), .ref (o + 6), .int 0, .null, .null, .null, .null, .int 0, .null, .null, .null, .null, .null, .int 0, .null, .null, .null, .null, .null, .null, .null, .null, .null, .null, .int 0, .int 0, .int 0, .int 0, .int 0, .null] 7) H := hP
  refine mi_put hx hb hts hin9 hown hnm hK hP hS 8 (by decide) hf28 rfl rfl (by decide +kernel) [.int 0, .ref (o + 1), .ref (o + 2), .ref (o + 3), .ref (o + 4), .ref (o + 5), .ref (o + 6), .int 0, .ref (o + 7), .null, .null, .null, .int 0, .null, .null, .null, .null, .null, .int 0, .null, .null, .null, .null, .null, .null, .null, .null, .null, .null, .int 0, .int 0, .int 0, .int 0, .int 0, .null] (Nat.le_of_ble_eq_true rfl) rfl dX9_init_57 (fun H locs hP hS => ?_)
  refine lv_aload_n hx hb dX9_init_60 rfl (lv_at hl 0 rfl) ?_
  refine lv_bipush (v := 40) hx hb dX9_init_61 (by decide) ?_
  refine mi_new hx hb (hts (.arrayClass .int) (by decide +kernel)) hK 7 40 rfl rfl hP hS hA rfl (by decide) (by decide) (by decide) (Nat.le_of_ble_eq_true rfl) (Nat.le_of_ble_eq_true rfl) dX9_init_63 (fun H hP hS => ?_)
  have hP : gP E A (o + 9) (GP E o [.int 0, .ref (o + 1), .ref (o + 2), .ref (o + 3), .ref (o + 4), .ref (o + 5), .ref (o + 6), .int 0, .ref (o + 7), .null, .null, .null, .int 0, .null, .null, .null, .null, .null, .int 0, .null, .null, .null, .null, .null, .null, .null, .null, .null, .null, .int 0, .int 0, .int 0, .int 0, .int 0, .null] 8) H := hP
  refine mi_put hx hb hts hin9 hown hnm hK hP hS 9 (by decide) hf31 rfl rfl (by decide +kernel) [.int 0, .ref (o + 1), .ref (o + 2), .ref (o + 3), .ref (o + 4), .ref (o + 5), .ref (o + 6), .int 0, .ref (o + 7), .ref (o + 8), .null, .null, .int 0, .null, .null, .null, .null, .null, .int 0, .null, .null, .null, .null, .null, .null, .null, .null, .null, .null, .int 0, .int 0, .int 0, .int 0, .int 0, .null] (Nat.le_of_ble_eq_true rfl) rfl dX9_init_65 (fun H locs hP hS => ?_)
  refine lv_aload_n hx hb dX9_init_68 rfl (lv_at hl 0 rfl) ?_
  refine lv_bipush (v := 40) hx hb dX9_init_69 (by decide) ?_
  refine mi_new hx hb (hts (.arrayClass .int) (by decide +kernel)) hK 8 40 rfl rfl hP hS hA rfl (by decide) (by decide) (by decide) (Nat.le_of_ble_eq_true rfl) (Nat.le_of_ble_eq_true rfl) dX9_init_71 (fun H hP hS => ?_)
  have hP : gP E A (o + 10) (GP E o [.int 0, .ref (o + 1), .ref (o + 2), .ref (o + 3), .ref (o + 4), .ref (o + 5), .ref (o + 6), .int 0, .ref (o + 7), .ref (o + 8), .null, .null, .int 0, .null, .null, .null, .null, .null, .int 0, .null, .null, .null, .null, .null, .null, .null, .null, .null, .null, .int 0, .int 0, .int 0, .int 0, .int 0, .null] 9) H := hP
  refine mi_put hx hb hts hin9 hown hnm hK hP hS 10 (by decide) hf34 rfl rfl (by decide +kernel) [.int 0, .ref (o + 1), .ref (o + 2), .ref (o + 3), .ref (o + 4), .ref (o + 5), .ref (o + 6), .int 0, .ref (o + 7), .ref (o + 8), .ref (o + 9), .null, .int 0, .null, .null, .null, .null, .null, .int 0, .null, .null, .null, .null, .null, .null, .null, .null, .null, .null, .int 0, .int 0, .int 0, .int 0, .int 0, .null] (Nat.le_of_ble_eq_true rfl) rfl dX9_init_73 (fun H locs hP hS => ?_)
  refine lv_aload_n hx hb dX9_init_76 rfl (lv_at hl 0 rfl) ?_
  refine lv_bipush (v := 40) hx hb dX9_init_77 (by decide) ?_
  refine mi_new hx hb (hts (.arrayClass .int) (by decide +kernel)) hK 9 40 rfl rfl hP hS hA rfl (by decide) (by decide) (by decide) (Nat.le_of_ble_eq_true rfl) (Nat.le_of_ble_eq_true rfl) dX9_init_79 (fun H hP hS => ?_)
  have hP : gP E A (o + 11) (GP E o [.int 0, .ref (o + 1), .ref (o + 2), .ref (o + 3), .ref (o + 4), .ref (o + 5), .ref (o + 6), .int 0, .ref (o + 7), .ref (o + 8), .ref (o + 9), .null, .int 0, .null, .null, .null, .null, .null, .int 0, .null, .null, .null, .null, .null, .null, .null, .null, .null, .null, .int 0, .int 0, .int 0, .int 0, .int 0, .null] 10) H := hP
  refine mi_put hx hb hts hin9 hown hnm hK hP hS 11 (by decide) hf37 rfl rfl (by decide +kernel) [.int 0, .ref (o + 1), .ref (o + 2), .ref (o + 3), .ref (o + 4), .ref (o + 5), .ref (o + 6), .int 0, .ref (o + 7), .ref (o + 8), .ref (o + 9), .ref (o + 10), .int 0, .null, .null, .null, .null, .null, .int 0, .null, .null, .null, .null, .null, .null, .null, .null, .null, .null, .int 0, .int 0, .int 0, .int 0, .int 0, .null] (Nat.le_of_ble_eq_true rfl) rfl dX9_init_81 (fun H locs hP hS => ?_)
  refine lv_aload_n hx hb dX9_init_84 rfl (lv_at hl 0 rfl) ?_
  refine lv_sipush (v := 200) hx hb dX9_init_85 (by decide) ?_
  refine mi_new hx hb (hts (.arrayClass .int) (by decide +kernel)) hK 10 200 rfl rfl hP hS hA rfl (by decide) (by decide) (by decide) (Nat.le_of_ble_eq_true rfl) (Nat.le_of_ble_eq_true rfl) dX9_init_88 (fun H hP hS => ?_)
  have hP : gP E A (o + 12) (GP E o [.int 0, .ref (o + 1), .ref (o + 2), .ref (o + 3), .ref (o + 4), .ref (o + 5), .ref (o + 6), .int 0, .ref (o + 7), .ref (o + 8), .ref (o + 9), .ref (o + 10), .int 0, .null, .null, .null, .null, .null, .int 0, .null, .null, .null, .null, .null, .null, .null, .null, .null, .null, .int 0, .int 0, .int 0, .int 0, .int 0, .null] 11) H := hP
  refine mi_put hx hb hts hin9 hown hnm hK hP hS 13 (by decide) hf40 rfl rfl (by decide +kernel) [.int 0, .ref (o + 1), .ref (o + 2), .ref (o + 3), .ref (o + 4), .ref (o + 5), .ref (o + 6), .int 0, .ref (o + 7), .ref (o + 8), .ref (o + 9), .ref (o + 10), .int 0, .ref (o + 11), .null, .null, .null, .null, .int 0, .null, .null, .null, .null, .null, .null, .null, .null, .null, .null, .int 0, .int 0, .int 0, .int 0, .int 0, .null] (Nat.le_of_ble_eq_true rfl) rfl dX9_init_90 (fun H locs hP hS => ?_)
  refine lv_aload_n hx hb dX9_init_93 rfl (lv_at hl 0 rfl) ?_
  refine lv_sipush (v := 200) hx hb dX9_init_94 (by decide) ?_
  refine mi_new hx hb (hts (.arrayClass .int) (by decide +kernel)) hK 11 200 rfl rfl hP hS hA rfl (by decide) (by decide) (by decide) (Nat.le_of_ble_eq_true rfl) (Nat.le_of_ble_eq_true rfl) dX9_init_97 (fun H hP hS => ?_)
  have hP : gP E A (o + 13) (GP E o [.int 0, .ref (o + 1), .ref (o + 2), .ref (o + 3), .ref (o + 4), .ref (o + 5), .ref (o + 6), .int 0, .ref (o + 7), .ref (o + 8), .ref (o + 9), .ref (o + 10), .int 0, .ref (o + 11), .null, .null, .null, .null, .int 0, .null, .null, .null, .null, .null, .null, .null, .null, .null, .null, .int 0, .int 0, .int 0, .int 0, .int 0, .null] 12) H := hP
  refine mi_put hx hb hts hin9 hown hnm hK hP hS 14 (by decide) hf43 rfl rfl (by decide +kernel) [.int 0, .ref (o + 1), .ref (o + 2), .ref (o + 3), .ref (o + 4), .ref (o + 5), .ref (o + 6), .int 0, .ref (o + 7), .ref (o + 8), .ref (o + 9), .ref (o + 10), .int 0, .ref (o + 11), .ref (o + 12), .null, .null, .null, .int 0, .null, .null, .null, .null, .null, .null, .null, .null, .null, .null, .int 0, .int 0, .int 0, .int 0, .int 0, .null] (Nat.le_of_ble_eq_true rfl) rfl dX9_init_99 (fun H locs hP hS => ?_)
  refine lv_aload_n hx hb dX9_init_102 rfl (lv_at hl 0 rfl) ?_
  refine lv_sipush (v := 200) hx hb dX9_init_103 (by decide) ?_
  refine mi_new hx hb (hts (.arrayClass .int) (by decide +kernel)) hK 12 200 rfl rfl hP hS hA rfl (by decide) (by decide) (by decide) (Nat.le_of_ble_eq_true rfl) (Nat.le_of_ble_eq_true rfl) dX9_init_106 (fun H hP hS => ?_)
  have hP : gP E A (o + 14) (GP E o [.int 0, .ref (o + 1), .ref (o + 2), .ref (o + 3), .ref (o + 4), .ref (o + 5), .ref (o + 6), .int 0, .ref (o + 7), .ref (o + 8), .ref (o + 9), .ref (o + 10), .int 0, .ref (o + 11), .ref (o + 12), .null, .null, .null, .int 0, .null, .null, .null, .null, .null, .null, .null, .null, .null, .null, .int 0, .int 0, .int 0, .int 0, .int 0, .null] 13) H := hP
  refine mi_put hx hb hts hin9 hown hnm hK hP hS 15 (by decide) hf46 rfl rfl (by decide +kernel) [.int 0, .ref (o + 1), .ref (o + 2), .ref (o + 3), .ref (o + 4), .ref (o + 5), .ref (o + 6), .int 0, .ref (o + 7), .ref (o + 8), .ref (o + 9), .ref (o + 10), .int 0, .ref (o + 11), .ref (o + 12), .ref (o + 13), .null, .null, .int 0, .null, .null, .null, .null, .null, .null, .null, .null, .null, .null, .int 0, .int 0, .int 0, .int 0, .int 0, .null] (Nat.le_of_ble_eq_true rfl) rfl dX9_init_108 (fun H locs hP hS => ?_)
  refine lv_aload_n hx hb dX9_init_111 rfl (lv_at hl 0 rfl) ?_
  refine lv_sipush (v := 200) hx hb dX9_init_112 (by decide) ?_
  refine mi_new hx hb (hts (.arrayClass .int) (by decide +kernel)) hK 13 200 rfl rfl hP hS hA rfl (by decide) (by decide) (by decide) (Nat.le_of_ble_eq_true rfl) (Nat.le_of_ble_eq_true rfl) dX9_init_115 (fun H hP hS => ?_)
  have hP : gP E A (o + 15) (GP E o [.int 0, .ref (o + 1), .ref (o + 2), .ref (o + 3), .ref (o + 4), .ref (o + 5), .ref (o + 6), .int 0, .ref (o + 7), .ref (o + 8), .ref (o + 9), .ref (o + 10), .int 0, .ref (o + 11), .ref (o + 12), .ref (o + 13), .null, .null, .int 0, .null, .null, .null, .null, .null, .null, .null, .null, .null, .null, .int 0, .int 0, .int 0, .int 0, .int 0, .null] 14) H := hP
  refine mi_put hx hb hts hin9 hown hnm hK hP hS 16 (by decide) hf49 rfl rfl (by decide +kernel) [.int 0, .ref (o + 1), .ref (o + 2), .ref (o + 3), .ref (o + 4), .ref (o + 5), .ref (o + 6), .int 0, .ref (o + 7), .ref (o + 8), .ref (o + 9), .ref (o + 10), .int 0, .ref (o + 11), .ref (o + 12), .ref (o + 13), .ref (o + 14), .null, .int 0, .null, .null, .null, .null, .null, .null, .null, .null, .null, .null, .int 0, .int 0, .int 0, .int 0, .int 0, .null] (Nat.le_of_ble_eq_true rfl) rfl dX9_init_117 (fun H locs hP hS => ?_)
  refine lv_aload_n hx hb dX9_init_120 rfl (lv_at hl 0 rfl) ?_
  refine lv_sipush (v := 200) hx hb dX9_init_121 (by decide) ?_
  refine mi_new hx hb (hts (.arrayClass .int) (by decide +kernel)) hK 14 200 rfl rfl hP hS hA rfl (by decide) (by decide) (by decide) (Nat.le_of_ble_eq_true rfl) (Nat.le_of_ble_eq_true rfl) dX9_init_124 (fun H hP hS => ?_)
  have hP : gP E A (o + 16) (GP E o [.int 0, .ref (o + 1), .ref (o + 2), .ref (o + 3), .ref (o + 4), .ref (o + 5), .ref (o + 6), .int 0, .ref (o + 7), .ref (o + 8), .ref (o + 9), .ref (o + 10), .int 0, .ref (o + 11), .ref (o + 12), .ref (o + 13), .ref (o + 14), .null, .int 0, .null, .null, .null, .null, .null, .null, .null, .null, .null, .null, .int 0, .int 0, .int 0, .int 0, .int 0, .null] 15) H := hP
  refine mi_put hx hb hts hin9 hown hnm hK hP hS 17 (by decide) hf52 rfl rfl (by decide +kernel) [.int 0, .ref (o + 1), .ref (o + 2), .ref (o + 3), .ref (o + 4), .ref (o + 5), .ref (o + 6), .int 0, .ref (o + 7), .ref (o + 8), .ref (o + 9), .ref (o + 10), .int 0, .ref (o + 11), .ref (o + 12), .ref (o + 13), .ref (o + 14), .ref (o + 15), .int 0, .null, .null, .null, .null, .null, .null, .null, .null, .null, .null, .int 0, .int 0, .int 0, .int 0, .int 0, .null] (Nat.le_of_ble_eq_true rfl) rfl dX9_init_126 (fun H locs hP hS => ?_)
  refine lv_aload_n hx hb dX9_init_129 rfl (lv_at hl 0 rfl) ?_
  refine lv_bipush (v := 40) hx hb dX9_init_130 (by decide) ?_
  refine mi_new hx hb (hts (.arrayClass .int) (by decide +kernel)) hK 15 40 rfl rfl hP hS hA rfl (by decide) (by decide) (by decide) (Nat.le_of_ble_eq_true rfl) (Nat.le_of_ble_eq_true rfl) dX9_init_132 (fun H hP hS => ?_)
  have hP : gP E A (o + 17) (GP E o [.int 0, .ref (o + 1), .ref (o + 2), .ref (o + 3), .ref (o + 4), .ref (o + 5), .ref (o + 6), .int 0, .ref (o + 7), .ref (o + 8), .ref (o + 9), .ref (o + 10), .int 0, .ref (o + 11), .ref (o + 12), .ref (o + 13), .ref (o + 14), .ref (o + 15), .int 0, .null, .null, .null, .null, .null, .null, .null, .null, .null, .null, .int 0, .int 0, .int 0, .int 0, .int 0, .null] 16) H := hP
  refine mi_put hx hb hts hin9 hown hnm hK hP hS 19 (by decide) hf55 rfl rfl (by decide +kernel) [.int 0, .ref (o + 1), .ref (o + 2), .ref (o + 3), .ref (o + 4), .ref (o + 5), .ref (o + 6), .int 0, .ref (o + 7), .ref (o + 8), .ref (o + 9), .ref (o + 10), .int 0, .ref (o + 11), .ref (o + 12), .ref (o + 13), .ref (o + 14), .ref (o + 15), .int 0, .ref (o + 16), .null, .null, .null, .null, .null, .null, .null, .null, .null, .int 0, .int 0, .int 0, .int 0, .int 0, .null] (Nat.le_of_ble_eq_true rfl) rfl dX9_init_134 (fun H locs hP hS => ?_)
  refine lv_aload_n hx hb dX9_init_137 rfl (lv_at hl 0 rfl) ?_
  refine lv_bipush (v := 40) hx hb dX9_init_138 (by decide) ?_
  refine mi_new hx hb (hts (.arrayClass .int) (by decide +kernel)) hK 16 40 rfl rfl hP hS hA rfl (by decide) (by decide) (by decide) (Nat.le_of_ble_eq_true rfl) (Nat.le_of_ble_eq_true rfl) dX9_init_140 (fun H hP hS => ?_)
  have hP : gP E A (o + 18) (GP E o [.int 0, .ref (o + 1), .ref (o + 2), .ref (o + 3), .ref (o + 4), .ref (o + 5), .ref (o + 6), .int 0, .ref (o + 7), .ref (o + 8), .ref (o + 9), .ref (o + 10), .int 0, .ref (o + 11), .ref (o + 12), .ref (o + 13), .ref (o + 14), .ref (o + 15), .int 0, .ref (o + 16), .null, .null, .null, .null, .null, .null, .null, .null, .null, .int 0, .int 0, .int 0, .int 0, .int 0, .null] 17) H := hP
  refine mi_put hx hb hts hin9 hown hnm hK hP hS 20 (by decide) hf58 rfl rfl (by decide +kernel) [.int 0, .ref (o + 1), .ref (o + 2), .ref (o + 3), .ref (o + 4), .ref (o + 5), .ref (o + 6), .int 0, .ref (o + 7), .ref (o + 8), .ref (o + 9), .ref (o + 10), .int 0, .ref (o + 11), .ref (o + 12), .ref (o + 13), .ref (o + 14), .ref (o + 15), .int 0, .ref (o + 16), .ref (o + 17), .null, .null, .null, .null, .null, .null, .null, .null, .int 0, .int 0, .int 0, .int 0, .int 0, .null] (Nat.le_of_ble_eq_true rfl) rfl dX9_init_142 (fun H locs hP hS => ?_)
  refine lv_aload_n hx hb dX9_init_145 rfl (lv_at hl 0 rfl) ?_
  refine lv_bipush (v := 40) hx hb dX9_init_146 (by decide) ?_
  refine mi_new hx hb (hts (.arrayClass .int) (by decide +kernel)) hK 17 40 rfl rfl hP hS hA rfl (by decide) (by decide) (by decide) (Nat.le_of_ble_eq_true rfl) (Nat.le_of_ble_eq_true rfl) dX9_init_148 (fun H hP hS => ?_)
  have hP : gP E A (o + 19) (GP E o [.int 0, .ref (o + 1), .ref (o + 2), .ref (o + 3), .ref (o + 4), .ref (o + 5), .ref (o + 6), .int 0, .ref (o + 7), .ref (o + 8), .ref (o + 9), .ref (o + 10), .int 0, .ref (o + 11), .ref (o + 12), .ref (o + 13), .ref (o + 14), .ref (o + 15), .int 0, .ref (o + 16), .ref (o + 17), .null, .null, .null, .null, .null, .null, .null, .null, .int 0, .int 0, .int 0, .int 0, .int 0, .null] 18) H := hP
  refine mi_put hx hb hts hin9 hown hnm hK hP hS 21 (by decide) hf61 rfl rfl (by decide +kernel) [.int 0, .ref (o + 1), .ref (o + 2), .ref (o + 3), .ref (o + 4), .ref (o + 5), .ref (o + 6), .int 0, .ref (o + 7), .ref (o + 8), .ref (o + 9), .ref (o + 10), .int 0, .ref (o + 11), .ref (o + 12), .ref (o + 13), .ref (o + 14), .ref (o + 15), .int 0, .ref (o + 16), .ref (o + 17), .ref (o + 18), .null, .null, .null, .null, .null, .null, .null, .int 0, .int 0, .int 0, .int 0, .int 0, .null] (Nat.le_of_ble_eq_true rfl) rfl dX9_init_150 (fun H locs hP hS => ?_)
  refine lv_aload_n hx hb dX9_init_153 rfl (lv_at hl 0 rfl) ?_
  refine lv_sipush (v := 840) hx hb dX9_init_154 (by decide) ?_
  refine mi_new hx hb (hts (.arrayClass .int) (by decide +kernel)) hK 18 840 rfl rfl hP hS hA rfl (by decide) (by decide) (by decide) (Nat.le_of_ble_eq_true rfl) (Nat.le_of_ble_eq_true rfl) dX9_init_157 (fun H hP hS => ?_)
  have hP : gP E A (o + 20) (GP E o [.int 0, .ref (o + 1), .ref (o + 2), .ref (o + 3), .ref (o + 4), .ref (o + 5), .ref (o + 6), .int 0, .ref (o + 7), .ref (o + 8), .ref (o + 9), .ref (o + 10), .int 0, .ref (o + 11), .ref (o + 12), .ref (o + 13), .ref (o + 14), .ref (o + 15), .int 0, .ref (o + 16), .ref (o + 17), .ref (o + 18), .null, .null, .null, .null, .null, .null, .null, .int 0, .int 0, .int 0, .int 0, .int 0, .null] 19) H := hP
  refine mi_put hx hb hts hin9 hown hnm hK hP hS 22 (by decide) hf64 rfl rfl (by decide +kernel) [.int 0, .ref (o + 1), .ref (o + 2), .ref (o + 3), .ref (o + 4), .ref (o + 5), .ref (o + 6), .int 0, .ref (o + 7), .ref (o + 8), .ref (o + 9), .ref (o + 10), .int 0, .ref (o + 11), .ref (o + 12), .ref (o + 13), .ref (o + 14), .ref (o + 15), .int 0, .ref (o + 16), .ref (o + 17), .ref (o + 18), .ref (o + 19), .null, .null, .null, .null, .null, .null, .int 0, .int 0, .int 0, .int 0, .int 0, .null] (Nat.le_of_ble_eq_true rfl) rfl dX9_init_159 (fun H locs hP hS => ?_)
  refine lv_aload_n hx hb dX9_init_162 rfl (lv_at hl 0 rfl) ?_
  refine lv_sipush (v := 840) hx hb dX9_init_163 (by decide) ?_
  refine mi_new hx hb (hts (.arrayClass .int) (by decide +kernel)) hK 19 840 rfl rfl hP hS hA rfl (by decide) (by decide) (by decide) (Nat.le_of_ble_eq_true rfl) (Nat.le_of_ble_eq_true rfl) dX9_init_166 (fun H hP hS => ?_)
  have hP : gP E A (o + 21) (GP E o [.int 0, .ref (o + 1), .ref (o + 2), .ref (o + 3), .ref (o + 4), .ref (o + 5), .ref (o + 6), .int 0, .ref (o + 7), .ref (o + 8), .ref (o + 9), .ref (o + 10), .int 0, .ref (o + 11), .ref (o + 12), .ref (o + 13), .ref (o + 14), .ref (o + 15), .int 0, .ref (o + 16), .ref (o + 17), .ref (o + 18), .ref (o + 19), .null, .null, .null, .null, .null, .null, .int 0, .int 0, .int 0, .int 0, .int 0, .null] 20) H := hP
  refine mi_put hx hb hts hin9 hown hnm hK hP hS 23 (by decide) hf67 rfl rfl (by decide +kernel) [.int 0, .ref (o + 1), .ref (o + 2), .ref (o + 3), .ref (o + 4), .ref (o + 5), .ref (o + 6), .int 0, .ref (o + 7), .ref (o + 8), .ref (o + 9), .ref (o + 10), .int 0, .ref (o + 11), .ref (o + 12), .ref (o + 13), .ref (o + 14), .ref (o + 15), .int 0, .ref (o + 16), .ref (o + 17), .ref (o + 18), .ref (o + 19), .ref (o + 20), .null, .null, .null, .null, .null, .int 0, .int 0, .int 0, .int 0, .int 0, .null] (Nat.le_of_ble_eq_true rfl) rfl dX9_init_168 (fun H locs hP hS => ?_)
  refine lv_aload_n hx hb dX9_init_171 rfl (lv_at hl 0 rfl) ?_
  refine lv_sipush (v := 840) hx hb dX9_init_172 (by decide) ?_
  refine mi_new hx hb (hts (.arrayClass .int) (by decide +kernel)) hK 20 840 rfl rfl hP hS hA rfl (by decide) (by decide) (by decide) (Nat.le_of_ble_eq_true rfl) (Nat.le_of_ble_eq_true rfl) dX9_init_175 (fun H hP hS => ?_)
  have hP : gP E A (o + 22) (GP E o [.int 0, .ref (o + 1), .ref (o + 2), .ref (o + 3), .ref (o + 4), .ref (o + 5), .ref (o + 6), .int 0, .ref (o + 7), .ref (o + 8), .ref (o + 9), .ref (o + 10), .int 0, .ref (o + 11), .ref (o + 12), .ref (o + 13), .ref (o + 14), .ref (o + 15), .int 0, .ref (o + 16), .ref (o + 17), .ref (o + 18), .ref (o + 19), .ref (o + 20), .null, .null, .null, .null, .null, .int 0, .int 0, .int 0, .int 0, .int 0, .null] 21) H := hP
  refine mi_put hx hb hts hin9 hown hnm hK hP hS 24 (by decide) hf70 rfl rfl (by decide +kernel) [.int 0, .ref (o + 1), .ref (o + 2), .ref (o + 3), .ref (o + 4), .ref (o + 5), .ref (o + 6), .int 0, .ref (o + 7), .ref (o + 8), .ref (o + 9), .ref (o + 10), .int 0, .ref (o + 11), .ref (o + 12), .ref (o + 13), .ref (o + 14), .ref (o + 15), .int 0, .ref (o + 16), .ref (o + 17), .ref (o + 18), .ref (o + 19), .ref (o + 20), .ref (o + 21), .null, .null, .null, .null, .int 0, .int 0, .int 0, .int 0, .int 0, .null] (Nat.le_of_ble_eq_true rfl) rfl dX9_init_177 (fun H locs hP hS => ?_)
  refine lv_aload_n hx hb dX9_init_180 rfl (lv_at hl 0 rfl) ?_
  refine lv_sipush (v := 840) hx hb dX9_init_181 (by decide) ?_
  refine mi_new hx hb (hts (.arrayClass .int) (by decide +kernel)) hK 21 840 rfl rfl hP hS hA rfl (by decide) (by decide) (by decide) (Nat.le_of_ble_eq_true rfl) (Nat.le_of_ble_eq_true rfl) dX9_init_184 (fun H hP hS => ?_)
  have hP : gP E A (o + 23) (GP E o [.int 0, .ref (o + 1), .ref (o + 2), .ref (o + 3), .ref (o + 4), .ref (o + 5), .ref (o + 6), .int 0, .ref (o + 7), .ref (o + 8), .ref (o + 9), .ref (o + 10), .int 0, .ref (o + 11), .ref (o + 12), .ref (o + 13), .ref (o + 14), .ref (o + 15), .int 0, .ref (o + 16), .ref (o + 17), .ref (o + 18), .ref (o + 19), .ref (o + 20), .ref (o + 21), .null, .null, .null, .null, .int 0, .int 0, .int 0, .int 0, .int 0, .null] 22) H := hP
  refine mi_put hx hb hts hin9 hown hnm hK hP hS 25 (by decide) hf73 rfl rfl (by decide +kernel) [.int 0, .ref (o + 1), .ref (o + 2), .ref (o + 3), .ref (o + 4), .ref (o + 5), .ref (o + 6), .int 0, .ref (o + 7), .ref (o + 8), .ref (o + 9), .ref (o + 10), .int 0, .ref (o + 11), .ref (o + 12), .ref (o + 13), .ref (o + 14), .ref (o + 15), .int 0, .ref (o + 16), .ref (o + 17), .ref (o + 18), .ref (o + 19), .ref (o + 20), .ref (o + 21), .ref (o + 22), .null, .null, .null, .int 0, .int 0, .int 0, .int 0, .int 0, .null] (Nat.le_of_ble_eq_true rfl) rfl dX9_init_186 (fun H locs hP hS => ?_)
  refine lv_aload_n hx hb dX9_init_189 rfl (lv_at hl 0 rfl) ?_
  refine lv_sipush (v := 840) hx hb dX9_init_190 (by decide) ?_
  refine mi_new hx hb (hts (.arrayClass .int) (by decide +kernel)) hK 22 840 rfl rfl hP hS hA rfl (by decide) (by decide) (by decide) (Nat.le_of_ble_eq_true rfl) (Nat.le_of_ble_eq_true rfl) dX9_init_193 (fun H hP hS => ?_)
  have hP : gP E A (o + 24) (GP E o [.int 0, .ref (o + 1), .ref (o + 2), .ref (o + 3), .ref (o + 4), .ref (o + 5), .ref (o + 6), .int 0, .ref (o + 7), .ref (o + 8), .ref (o + 9), .ref (o + 10), .int 0, .ref (o + 11), .ref (o + 12), .ref (o + 13), .ref (o + 14), .ref (o + 15), .int 0, .ref (o + 16), .ref (o + 17), .ref (o + 18), .ref (o + 19), .ref (o + 20), .ref (o + 21), .ref (o + 22), .null, .null, .null, .int 0, .int 0, .int 0, .int 0, .int 0, .null] 23) H := hP
  refine mi_put hx hb hts hin9 hown hnm hK hP hS 26 (by decide) hf76 rfl rfl (by decide +kernel) [.int 0, .ref (o + 1), .ref (o + 2), .ref (o + 3), .ref (o + 4), .ref (o + 5), .ref (o + 6), .int 0, .ref (o + 7), .ref (o + 8), .ref (o + 9), .ref (o + 10), .int 0, .ref (o + 11), .ref (o + 12), .ref (o + 13), .ref (o + 14), .ref (o + 15), .int 0, .ref (o + 16), .ref (o + 17), .ref (o + 18), .ref (o + 19), .ref (o + 20), .ref (o + 21), .ref (o + 22), .ref (o + 23), .null, .null, .int 0, .int 0, .int 0, .int 0, .int 0, .null] (Nat.le_of_ble_eq_true rfl) rfl dX9_init_195 (fun H locs hP hS => ?_)
  refine lv_aload_n hx hb dX9_init_198 rfl (lv_at hl 0 rfl) ?_
  refine lv_sipush (v := 8320) hx hb dX9_init_199 (by decide) ?_
  refine mi_new hx hb (hts (.arrayClass .int) (by decide +kernel)) hK 23 8320 rfl rfl hP hS hA rfl (by decide) (by decide) (by decide) (Nat.le_of_ble_eq_true rfl) (Nat.le_of_ble_eq_true rfl) dX9_init_202 (fun H hP hS => ?_)
  have hP : gP E A (o + 25) (GP E o [.int 0, .ref (o + 1), .ref (o + 2), .ref (o + 3), .ref (o + 4), .ref (o + 5), .ref (o + 6), .int 0, .ref (o + 7), .ref (o + 8), .ref (o + 9), .ref (o + 10), .int 0, .ref (o + 11), .ref (o + 12), .ref (o + 13), .ref (o + 14), .ref (o + 15), .int 0, .ref (o + 16), .ref (o + 17), .ref (o + 18), .ref (o + 19), .ref (o + 20), .ref (o + 21), .ref (o + 22), .ref (o + 23), .null, .null, .int 0, .int 0, .int 0, .int 0, .int 0, .null] 24) H := hP
  refine mi_put hx hb hts hin9 hown hnm hK hP hS 27 (by decide) hf79 rfl rfl (by decide +kernel) [.int 0, .ref (o + 1), .ref (o + 2), .ref (o + 3), .ref (o + 4), .ref (o + 5), .ref (o + 6), .int 0, .ref (o + 7), .ref (o + 8), .ref (o + 9), .ref (o + 10), .int 0, .ref (o + 11), .ref (o + 12), .ref (o + 13), .ref (o + 14), .ref (o + 15), .int 0, .ref (o + 16), .ref (o + 17), .ref (o + 18), .ref (o + 19), .ref (o + 20), .ref (o + 21), .ref (o + 22), .ref (o + 23), .ref (o + 24), .null, .int 0, .int 0, .int 0, .int 0, .int 0, .null] (Nat.le_of_ble_eq_true rfl) rfl dX9_init_204 (fun H locs hP hS => ?_)
  refine lv_aload_n hx hb dX9_init_207 rfl (lv_at hl 0 rfl) ?_
  refine lv_sipush (v := 1040) hx hb dX9_init_208 (by decide) ?_
  refine mi_new hx hb (hts (.arrayClass .int) (by decide +kernel)) hK 24 1040 rfl rfl hP hS hA rfl (by decide) (by decide) (by decide) (Nat.le_of_ble_eq_true rfl) (Nat.le_of_ble_eq_true rfl) dX9_init_211 (fun H hP hS => ?_)
  have hP : gP E A (o + 26) (GP E o [.int 0, .ref (o + 1), .ref (o + 2), .ref (o + 3), .ref (o + 4), .ref (o + 5), .ref (o + 6), .int 0, .ref (o + 7), .ref (o + 8), .ref (o + 9), .ref (o + 10), .int 0, .ref (o + 11), .ref (o + 12), .ref (o + 13), .ref (o + 14), .ref (o + 15), .int 0, .ref (o + 16), .ref (o + 17), .ref (o + 18), .ref (o + 19), .ref (o + 20), .ref (o + 21), .ref (o + 22), .ref (o + 23), .ref (o + 24), .null, .int 0, .int 0, .int 0, .int 0, .int 0, .null] 25) H := hP
  refine mi_put hx hb hts hin9 hown hnm hK hP hS 28 (by decide) hf82 rfl rfl (by decide +kernel) [.int 0, .ref (o + 1), .ref (o + 2), .ref (o + 3), .ref (o + 4), .ref (o + 5), .ref (o + 6), .int 0, .ref (o + 7), .ref (o + 8), .ref (o + 9), .ref (o + 10), .int 0, .ref (o + 11), .ref (o + 12), .ref (o + 13), .ref (o + 14), .ref (o + 15), .int 0, .ref (o + 16), .ref (o + 17), .ref (o + 18), .ref (o + 19), .ref (o + 20), .ref (o + 21), .ref (o + 22), .ref (o + 23), .ref (o + 24), .ref (o + 25), .int 0, .int 0, .int 0, .int 0, .int 0, .null] (Nat.le_of_ble_eq_true rfl) rfl dX9_init_213 (fun H locs hP hS => ?_)
  refine lv_aload_n hx hb dX9_init_216 rfl (lv_at hl 0 rfl) ?_
  refine lv_sipush (v := 9331) hx hb dX9_init_217 (by decide) ?_
  refine mi_new hx hb (hts (.arrayClass .int) (by decide +kernel)) hK 25 9331 rfl rfl hP hS hA rfl (by decide) (by decide) (by decide) (Nat.le_of_ble_eq_true rfl) (Nat.le_of_ble_eq_true rfl) dX9_init_220 (fun H hP hS => ?_)
  have hP : gP E A (o + 27) (GP E o [.int 0, .ref (o + 1), .ref (o + 2), .ref (o + 3), .ref (o + 4), .ref (o + 5), .ref (o + 6), .int 0, .ref (o + 7), .ref (o + 8), .ref (o + 9), .ref (o + 10), .int 0, .ref (o + 11), .ref (o + 12), .ref (o + 13), .ref (o + 14), .ref (o + 15), .int 0, .ref (o + 16), .ref (o + 17), .ref (o + 18), .ref (o + 19), .ref (o + 20), .ref (o + 21), .ref (o + 22), .ref (o + 23), .ref (o + 24), .ref (o + 25), .int 0, .int 0, .int 0, .int 0, .int 0, .null] 26) H := hP
  refine mi_put hx hb hts hin9 hown hnm hK hP hS 34 (by decide) hf85 rfl rfl (by decide +kernel) [.int 0, .ref (o + 1), .ref (o + 2), .ref (o + 3), .ref (o + 4), .ref (o + 5), .ref (o + 6), .int 0, .ref (o + 7), .ref (o + 8), .ref (o + 9), .ref (o + 10), .int 0, .ref (o + 11), .ref (o + 12), .ref (o + 13), .ref (o + 14), .ref (o + 15), .int 0, .ref (o + 16), .ref (o + 17), .ref (o + 18), .ref (o + 19), .ref (o + 20), .ref (o + 21), .ref (o + 22), .ref (o + 23), .ref (o + 24), .ref (o + 25), .int 0, .int 0, .int 0, .int 0, .int 0, .ref (o + 26)] (Nat.le_of_ble_eq_true rfl) rfl dX9_init_222 (fun H locs hP hS => ?_)
  have hP : gP E A (o + 27) (GM E o (fun _ => 0) (va_up Z9 1 (rivF (fun _ => 0) 0 0 1000))) H := by
    rw [rivF_0, show (fun _ => 0 : Nat → Int32) = Z9 1 from rfl, va_up_id]; exact hP
  refine lv_iconst (v := 0) hx hb dX9_init_225 (by decide) ?_
  refine lv_istore_n (lv' := [(1, .int 0), (0, .ref o)]) hx hb dX9_init_226 rfl hl (by decide) rfl (fun ls hl => ?_)
  refine g_loop (τ := Nat) (fun kq => kq ≤ 30) (fun kq => 30 - kq) (fun kq => (o + 27)) (fun kq => GM E o (fun _ => 0) (va_up Z9 1 (rivF (fun _ => 0) 0 kq 1000))) (fun kq => 26) (fun kq => 24329) (fun kq => [(0, .ref o), (1, .int (nI kq))]) ?_ 0 (Nat.zero_le _) H locs ls hP hS (lv_sub hl [1, 0] rfl)
  intro kq hI227 ih H locs ls hP hS hl
  try dsimp only at hI227
  have hl : lv_has ls 2 [(0, .ref o), (1, .int (nI kq))] := hl
  have hP : gP E A (o + 27) (GM E o (fun _ => 0) (va_up Z9 1 (rivF (fun _ => 0) 0 kq 1000))) H := hP
  refine lv_iload_n hx hb dX9_init_227 rfl (lv_at hl 1 rfl) ?_
  refine lv_bipush (v := 30) hx hb dX9_init_228 (by decide) ?_
  refine lv_icmp_ge (tgt := 248) hx hb dX9_init_230 (by decide) (fun b230 => ?_) (fun b230 => ?_)
  · have hk3 := lp_ge (x := 30) (by decide) (by omega) b230
    have hk5 : tn 30 = 30 := by decide
    have hke : kq = 30 := by omega
    refine lv_iconst (v := 0) hx hb dX9_init_248 (by decide) ?_
    subst hke
    have hP : gP E A (o + 27) (GM E o (fun _ => 0) (va_up (va_up Z9 1 (rivF (fun _ => 0) 0 30 1000)) 22 (rivF (fun _ => 0) 0 0 (-1)))) H := by
      rw [rivF_0, show va_up (va_up Z9 1 (rivF (fun _ => 0) 0 30 1000)) 22 (fun _ => 0) = va_up Z9 1 (rivF (fun _ => 0) 0 30 1000) from va_up_id (va_up Z9 1 (rivF (fun _ => 0) 0 30 1000)) 22]; exact hP
    have hl : lv_has ls 2 [(0, .ref o), (1, .int (nI 30))] := lv_sub hl [0, 1] rfl
    refine lv_istore_n (lv' := [(1, .int 0), (0, .ref o)]) hx hb dX9_init_249 rfl hl (by decide) rfl (fun ls hl => ?_)
    refine g_loop (τ := Nat) (fun kq => kq ≤ 840) (fun kq => 840 - kq) (fun kq => (o + 27)) (fun kq => GM E o (fun _ => 0) (va_up (va_up Z9 1 (rivF (fun _ => 0) 0 30 1000)) 22 (rivF (fun _ => 0) 0 kq (-1)))) (fun kq => 26) (fun kq => 24329) (fun kq => [(0, .ref o), (1, .int (nI kq))]) ?_ 0 (Nat.zero_le _) H locs ls hP hS (lv_sub hl [1, 0] rfl)
    intro kq hI250 ih2 H locs ls hP hS hl
    try dsimp only at hI250
    have hl : lv_has ls 2 [(0, .ref o), (1, .int (nI kq))] := hl
    have hP : gP E A (o + 27) (GM E o (fun _ => 0) (va_up (va_up Z9 1 (rivF (fun _ => 0) 0 30 1000)) 22 (rivF (fun _ => 0) 0 kq (-1)))) H := hP
    refine lv_iload_n hx hb dX9_init_250 rfl (lv_at hl 1 rfl) ?_
    refine lv_sipush (v := 840) hx hb dX9_init_251 (by decide) ?_
    refine lv_icmp_ge (tgt := 270) hx hb dX9_init_254 (by decide) (fun b254 => ?_) (fun b254 => ?_)
    · have hk3 := lp_ge (x := 840) (by decide) (by omega) b254
      have hk5 : tn 840 = 840 := by decide
      have hke2 : kq = 840 := by omega
      refine W.widen (k := 26) (n := 24329) (by omega) (by omega) ?_
      refine g_retv hx hb hr hlk hP hS dX9_init_270 ?_
      subst hke2
      exact ⟨rfl, rfl⟩
    · have hk3 := lp_lt (x := 840) (by decide) (by omega) b254
      have hk5 : tn 840 = 840 := by decide
      rw [hk5] at hk3
      refine lv_aload_n hx hb dX9_init_257 rfl (lv_at hl 0 rfl) ?_
      refine m_get (v := .ref (o + 23)) hx hb hts hin9 hown hK hP 26 (by decide) hf76 rfl rfl dX9_init_258 ?_
      refine lv_iload_n hx hb dX9_init_261 rfl (lv_at hl 1 rfl) ?_
      refine lv_iconst (v := (-1)) hx hb dX9_init_262 (by decide) ?_
      refine m_iast_n hx hb hK hP hS 22 840 rfl (by decide) rfl (by omega) dX9_init_263 (fun H locs hP hS => ?_)
      have hP : gP E A (o + 27) (GM E o (fun _ => 0) (va_up (va_up (va_up Z9 1 (rivF (fun _ => 0) 0 30 1000)) 22 (rivF (fun _ => 0) 0 kq (-1))) 22 (upd (rivF (fun _ => 0) 0 kq (-1)) kq (-1)))) H := hP
      refine lv_iinc (v := (nI kq) + 1) (lv' := [(1, .int ((nI kq) + 1)), (0, .ref o)]) hx hb dX9_init_264 hl (k := 1) rfl rfl (by decide) rfl (fun ls hl => ?_)
      refine lv_goto (tgt := 250) hx hb dX9_init_267 (by decide) ?_
      rw [rivF_s _ _ (Nat.zero_le _), bx_uu] at hP
      refine ih2 (kq + 1) (by omega) (by omega) H locs ls hP hS ?_
      show lv_has ls 2 [(0, .ref o), (1, .int (nI (kq + 1)))]
      rw [← nI_1]
      exact lv_sub hl [1, 0] rfl
  · have hk3 := lp_lt (x := 30) (by decide) (by omega) b230
    have hk5 : tn 30 = 30 := by decide
    rw [hk5] at hk3
    refine lv_aload_n hx hb dX9_init_233 rfl (lv_at hl 0 rfl) ?_
    refine m_get (v := .ref (o + 2)) hx hb hts hin9 hown hK hP 2 (by decide) hf13 rfl rfl dX9_init_234 ?_
    refine lv_iload_n hx hb dX9_init_237 rfl (lv_at hl 1 rfl) ?_
    refine lv_sipush (v := 1000) hx hb dX9_init_238 (by decide) ?_
    refine m_iast_n hx hb hK hP hS 1 30 rfl (by decide) rfl (by omega) dX9_init_241 (fun H locs hP hS => ?_)
    have hP : gP E A (o + 27) (GM E o (fun _ => 0) (va_up (va_up Z9 1 (rivF (fun _ => 0) 0 kq 1000)) 1 (upd (rivF (fun _ => 0) 0 kq 1000) kq 1000))) H := hP
    refine lv_iinc (v := (nI kq) + 1) (lv' := [(1, .int ((nI kq) + 1)), (0, .ref o)]) hx hb dX9_init_242 hl (k := 1) rfl rfl (by decide) rfl (fun ls hl => ?_)
    refine lv_goto (tgt := 227) hx hb dX9_init_245 (by decide) ?_
    rw [rivF_s _ _ (Nat.zero_le _), bx_uu] at hP
    refine ih (kq + 1) (by omega) (by omega) H locs ls hP hS ?_
    show lv_has ls 2 [(0, .ref o), (1, .int (nI (kq + 1)))]
    rw [← nI_1]
    exact lv_sub hl [1, 0] rfl
