theorem ne_oo {G : gH} {a b ci cj : Nat} {fs gs : List Value} (h1 : G a = some (.inr (ci, fs))) (h2 : G b = some (.inr (cj, gs))) (h : ci ≠ cj) : a ≠ b := by
  intro q; subst q; rw [h1] at h2; cases h2; exact h rfl
theorem ne_oa {G : gH} {a b : Nat} {x : Nat × List Value} {y : ClassId × vp_A} (h1 : G a = some (.inr x)) (h2 : G b = some (.inl y)) : a ≠ b := by
  intro q; subst q; rw [h1] at h2; cases h2
theorem ne_ao {G : gH} {a b : Nat} {x : Nat × List Value} {y : ClassId × vp_A} (h1 : G a = some (.inl y)) (h2 : G b = some (.inr x)) : a ≠ b := by
  intro q; subst q; rw [h1] at h2; cases h2
theorem ne_none {G : gH} {a b : Nat} {e : va_E} (h1 : G a = some e) (h2 : G b = none) : a ≠ b := by
  intro q; subst q; rw [h1] at h2; cases h2
theorem nar_q (C : String) (r : Option Nat) : narrow (.object C) (va_rf r) = va_rf r := by cases r <;> rfl
theorem fit_q (C : String) (r : Option Nat) : fits (.object C) (va_rf r) = true := by cases r <;> rfl
section QR
variable {p : Program} {l : Launch} {e : Env} {R : Room} {s : State} {m : MethodId} {args : Array Value} {below : List Frame} {meth : Method} {c : Code} {H : Heap} {locs : List Loc} {cells slots : Nat} {Q : State → Prop}
variable {cc : ByteArray} {pc : Nat} {ls : Array Slot} {rest : List Value}
theorem lv_aload_nQ (hexec : p.tables.exec = Jvm.exec) (hb : c.code = cc) {k : Fin 4} {i : Nat} {x : Option Nat} (hdg : decode cc pc = .ok (.aload_n k, 1)) (hi : (k : Nat) = i) (hl : ls[i]? = some (.val (va_rf x)))
    (kk : W p l e R s m args below meth c H locs cells slots Q (F0 m (pc + 1) ls (va_rf x :: rest))) : W p l e R s m args below meth c H locs cells slots Q (F0 m pc ls rest) := by
  cases x with
  | none => exact lv_aload_nN hexec hb hdg hi hl kk
  | some a => exact lv_aload_n hexec hb hdg hi hl kk
theorem lv_aloadQ (hexec : p.tables.exec = Jvm.exec) (hb : c.code = cc) {i : Nat} {x : Option Nat} (hdg : decode cc pc = .ok (.aload i, 2)) (hl : ls[i]? = some (.val (va_rf x)))
    (kk : W p l e R s m args below meth c H locs cells slots Q (F0 m (pc + 2) ls (va_rf x :: rest))) : W p l e R s m args below meth c H locs cells slots Q (F0 m pc ls rest) := by
  cases x with
  | none => exact lv_aloadN hexec hb hdg hl kk
  | some a => exact lv_aload hexec hb hdg hl kk
theorem catq (x : Option Nat) : (va_rf x).category = 1 := by cases x <;> rfl
theorem lv_astore_nQ (hexec : p.tables.exec = Jvm.exec) (hb : c.code = cc) {k : Fin 4} {i nL : Nat} {x : Option Nat} {lv lv' : List (Nat × Value)} (hdg : decode cc pc = .ok (.astore_n k, 1)) (hi : (k : Nat) = i) (h : lv_has ls nL lv) (hn : i < nL) (hl : (i, va_rf x) :: lv.filter (fun q => !(q.1 == i) && !(q.1 + 1 == i && q.2.category == 2)) = lv')
    (kk : ∀ ls' : Array Slot, lv_has ls' nL lv' → W p l e R s m args below meth c H locs cells slots Q (F0 m (pc + 1) ls' rest)) : W p l e R s m args below meth c H locs cells slots Q (F0 m pc ls (va_rf x :: rest)) := by
  cases x with
  | none => exact lv_astore_nN hexec hb hdg hi h hn hl kk
  | some a => exact lv_astore_n hexec hb hdg hi h hn hl kk
theorem lv_astoreQ (hexec : p.tables.exec = Jvm.exec) (hb : c.code = cc) {i nL : Nat} {x : Option Nat} {lv lv' : List (Nat × Value)} (hdg : decode cc pc = .ok (.astore i, 2)) (h : lv_has ls nL lv) (hn : i < nL) (hl : (i, va_rf x) :: lv.filter (fun q => !(q.1 == i) && !(q.1 + 1 == i && q.2.category == 2)) = lv')
    (kk : ∀ ls' : Array Slot, lv_has ls' nL lv' → W p l e R s m args below meth c H locs cells slots Q (F0 m (pc + 2) ls' rest)) : W p l e R s m args below meth c H locs cells slots Q (F0 m pc ls (va_rf x :: rest)) := by
  cases x with
  | none => exact lv_astoreN hexec hb hdg h hn hl kk
  | some a => exact lv_astore hexec hb hdg h hn hl kk
end QR
/-! pure: the class's own small functions -/
def groOf (so : Int32) : Int32 := if so = 0 then 30 else if so = 1 then 20 else 10
def divUp (a k : Int32) : Int32 := if k ≤ 0 then 0 else (a + k - 1) / k
def absOf (x : Int32) : Int32 := if 0 ≤ x then x else 0 - x
def minOf (x y : Int32) : Int32 := if y < x then y else x
def maxOf (x y : Int32) : Int32 := if x < y then y else x
