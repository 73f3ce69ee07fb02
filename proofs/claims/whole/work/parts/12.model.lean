abbrev tn (i : Int32) : Nat := i.toNatClampNeg
/-! the reference's cells: the object at o, its arrays behind it -/
def objM (o : Nat) (c : Nat → Int32) : List Value := [.int (c 0), .ref (o + 1), .ref (o + 2), .ref (o + 3), .ref (o + 4), .ref (o + 5), .ref (o + 6), .int (c 7), .ref (o + 7), .ref (o + 8), .ref (o + 9), .ref (o + 10), .int (c 12), .ref (o + 11), .ref (o + 12), .ref (o + 13), .ref (o + 14), .ref (o + 15), .int (c 18), .ref (o + 16), .ref (o + 17), .ref (o + 18), .ref (o + 19), .ref (o + 20), .ref (o + 21), .ref (o + 22), .ref (o + 23), .ref (o + 24), .ref (o + 25), .int (c 29), .int (c 30), .int (c 31), .int (c 32), .int (c 33), .ref (o + 26)]
def lenM (k : Nat) : Nat := [8, 30, 30, 30, 30, 30, 40, 40, 40, 40, 200, 200, 200, 200, 200, 40, 40, 40, 840, 840, 840, 840, 840, 8320, 1040, 9331].getD k 0
def GM (E : gT) (o : Nat) (c : Nat → Int32) (S : Nat → Nat → Int32) : gH := fun a => if a = o then some (.inr (9, objM o c)) else if o < a ∧ a < o + 27 then some (.inl (E.2 0, lenM (a - o - 1), .inl (S (a - o - 1)))) else none
theorem GM_o {E : gT} {o : Nat} {c : Nat → Int32} {S : Nat → Nat → Int32} : GM E o c S o = some (.inr (9, objM o c)) := by simp [GM]
theorem GM_a {E : gT} {o : Nat} {c : Nat → Int32} {S : Nat → Nat → Int32} {j : Nat} (k ln : Nat) (hj : j = k + 1) (hk : k < 26) (hl : lenM k = ln) : GM E o c S (o + j) = some (.inl (E.2 0, ln, .inl (S k))) := by
  subst hj; subst hl
  have h1 : ¬ (o + (k + 1) = o) := by omega
  have h2 : o < o + (k + 1) ∧ o + (k + 1) < o + 27 := by omega
  have h3 : o + (k + 1) - o - 1 = k := by omega
  simp only [GM, if_neg h1, if_pos h2, h3]
theorem GM_put {E : gT} {o : Nat} {c : Nat → Int32} {S : Nat → Nat → Int32} {j : Nat} {k ln : Nat} {f : Nat → Int32} (hj : j = k + 1) (hk : k < 26) (hl : lenM k = ln) : gup (GM E o c S) (o + j) (.inl (E.2 0, ln, .inl f)) = GM E o c (va_up S k f) := by
  subst hj; subst hl
  funext a
  by_cases h : a = o + (k + 1)
  · subst h
    rw [gup_s, GM_a k _ rfl hk rfl, va_up_self]
  · rw [gup_n h]
    simp only [GM]
    by_cases h1 : a = o
    · simp [h1]
    · simp only [if_neg h1]
      by_cases h2 : o < a ∧ a < o + 27
      · have h3 : a - o - 1 ≠ k := by omega
        simp only [if_pos h2, va_up_ne _ _ h3]
      · simp only [if_neg h2]
theorem GM_puto {E : gT} {o : Nat} {c c' : Nat → Int32} {S : Nat → Nat → Int32} : gup (GM E o c S) o (.inr (9, objM o c')) = GM E o c' S := by
  funext a
  by_cases h : a = o
  · subst h; rw [gup_s, GM_o]
  · rw [gup_n h]; simp only [GM, if_neg h]
section GMR
variable {p : Program} {l : Launch} {e : Env} {R : Room} {s : State} {m : MethodId} {args : Array Value} {below : List Frame} {meth : Method} {c0 : Code} {H : Heap} {locs : List Loc} {cells slots : Nat} {Q : State → Prop}
variable {cc : ByteArray} {nL : Nat} {Ts : List Cond} {pc : Nat} {ls : Array Slot} {rest : List Value} {E : gT} {A : Nat → Prop} {n o : Nat} {H0 : Heap} {c : Nat → Int32} {S : Nat → Nat → Int32}
theorem m_get (hx : p.tables.exec = Jvm.exec) (hb : c0.code = cc) {index : Nat} (hts : ∀ w ∈ Ts, w.before args s = true) (hin : ∀ w ∈ u_ws RX9 TX9 35, w ∈ Ts) (hown : s.vm.findClass RX9 = some m.cls) (hK : gK E s) (hP : gP E A n (GM E o c S) H) (k : Nat) (hk : k < 35) (hlink : (Cond.fieldLink RX9 index RX9 (TX9 k).2.1 (TX9 k).2.2.1).before args s = true) (hsame : (TX9 k).1 = RX9) {v : Value} (hv : (objM o c)[k]? = some v) (hdg : decode cc pc = .ok (.getfield index, 3))
    (kk : W p l e R s m args below meth c0 H locs cells slots Q (F0 m (pc + 3) ls (v :: rest))) : W p l e R s m args below meth c0 H locs cells slots Q (F0 m pc ls (.ref o :: rest)) :=
  g_get hx hb hts hin hown hK hP GM_o rfl k hk hlink hsame hv hdg kk
theorem m_put (hx : p.tables.exec = Jvm.exec) (hb : c0.code = cc) {index : Nat} (hts : ∀ w ∈ Ts, w.before args s = true) (hin : ∀ w ∈ u_ws RX9 TX9 35, w ∈ Ts) (hown : s.vm.findClass RX9 = some m.cls) (hK : gK E s) (hP : gP E A n (GM E o c S) H) (hS : va_S A H0 H locs) (k : Nat) (hk : k < 35) (hlink : (Cond.fieldLink RX9 index RX9 (TX9 k).2.1 (TX9 k).2.2.1).before args s = true) (hsame : (TX9 k).1 = RX9) (hfin : (TX9 k).2.2.2 = false) (hd : parseFieldDescriptor (TX9 k).2.2.1 = some .int) {v : Int32} (hset : (objM o c).set k (.int v) = objM o (va_up c k v)) (hdg : decode cc pc = .ok (.putfield index, 3))
    (kk : ∀ (H1 : Heap) (locs1 : List Loc), gP E A n (GM E o (va_up c k v) S) H1 → va_S A H0 H1 locs1 → W p l e R s m args below meth c0 H1 locs1 cells slots Q (F0 m (pc + 3) ls rest)) : W p l e R s m args below meth c0 H locs cells slots Q (F0 m pc ls (.int v :: .ref o :: rest)) := by
  refine g_put hx hb hts hin tyX9 tyX9_ok nmX9 hown hK hP hS GM_o rfl k hk hlink hsame (Or.inl hfin) hd rfl rfl (by simpa [objM] using hk) hdg (fun H1 locs1 h1 h2 => kk H1 locs1 ?_ h2)
  rw [hset, GM_puto] at h1
  exact h1
theorem m_iald (hx : p.tables.exec = Jvm.exec) (hb : c0.code = cc) (hK : gK E s) (hP : gP E A n (GM E o c S) H) {j : Nat} (k ln : Nat) (hj : j = k + 1) (hk : k < 26) (hl : lenM k = ln) {i : Int32} (hin : vp_in i ln) (hdg : decode cc pc = .ok (.iaload, 1))
    (kk : W p l e R s m args below meth c0 H locs cells slots Q (F0 m (pc + 1) ls (.int (S k (tn i)) :: rest))) : W p l e R s m args below meth c0 H locs cells slots Q (F0 m pc ls (.int i :: .ref (o + j) :: rest)) :=
  g_iald hx hb hK hP (GM_a k ln hj hk hl) hin hdg kk
theorem m_iast (hx : p.tables.exec = Jvm.exec) (hb : c0.code = cc) (hK : gK E s) (hP : gP E A n (GM E o c S) H) (hS : va_S A H0 H locs) {j : Nat} (k ln : Nat) (hj : j = k + 1) (hk : k < 26) (hl : lenM k = ln) {i x : Int32} (hin : vp_in i ln) (hdg : decode cc pc = .ok (.iastore, 1))
    (kk : ∀ (H1 : Heap) (locs1 : List Loc), gP E A n (GM E o c (va_up S k (upd (S k) (tn i) x))) H1 → va_S A H0 H1 locs1 → W p l e R s m args below meth c0 H1 locs1 cells slots Q (F0 m (pc + 1) ls rest)) : W p l e R s m args below meth c0 H locs cells slots Q (F0 m pc ls (.int x :: .int i :: .ref (o + j) :: rest)) := by
  refine g_iast hx hb hK hP hS (GM_a k ln hj hk hl) hin hdg (fun H1 locs1 h1 h2 => kk H1 locs1 ?_ h2)
  rw [GM_put hj hk hl] at h1
  exact h1
end GMR
/-! numbers -/
theorem fb_rng (x : Int32) : -2147483648 ≤ x.toInt ∧ x.toInt < 2147483648 := by
  have h1 := Int32.le_toInt x
  have h2 := Int32.toInt_lt x
  omega
theorem fb_bmod {z : Int} (h1 : -2147483648 ≤ z) (h2 : z < 2147483648) : z.bmod (2 ^ 32) = z := by
  rw [Int.bmod_eq_of_le (by omega) (by omega)]
theorem fb_addI {x y : Int32} (h1 : -2147483648 ≤ x.toInt + y.toInt) (h2 : x.toInt + y.toInt < 2147483648) : (x + y).toInt = x.toInt + y.toInt := by
  rw [Int32.toInt_add, fb_bmod h1 h2]
theorem fb_subI {x y : Int32} (h1 : -2147483648 ≤ x.toInt - y.toInt) (h2 : x.toInt - y.toInt < 2147483648) : (x - y).toInt = x.toInt - y.toInt := by
  rw [Int32.toInt_sub, fb_bmod h1 h2]
theorem fb_mulI {x y : Int32} (h1 : -2147483648 ≤ x.toInt * y.toInt) (h2 : x.toInt * y.toInt < 2147483648) : (x * y).toInt = x.toInt * y.toInt := by
  rw [Int32.toInt_mul, fb_bmod h1 h2]
theorem fb_negI {x : Int32} (h : x.toInt ≠ -2147483648) : (-x).toInt = -x.toInt := by
  have := fb_rng x
  rw [Int32.toInt_neg, fb_bmod (by omega) (by omega)]
theorem fb_ofI {z : Int} (h1 : -2147483648 ≤ z) (h2 : z < 2147483648) : (Int32.ofInt z).toInt = z := by
  rw [Int32.toInt_ofInt, fb_bmod h1 h2]
theorem fb_asI (x : Int32) : Int32.ofInt x.toInt = x := Int32.ofInt_toInt x
theorem fb_rngL (x : Int64) : -9223372036854775808 ≤ x.toInt ∧ x.toInt < 9223372036854775808 := by
  have h1 := Int64.le_toInt x
  have h2 := Int64.toInt_lt x
  omega
theorem fb_bmodL {z : Int} (h1 : -9223372036854775808 ≤ z) (h2 : z < 9223372036854775808) : z.bmod (2 ^ 64) = z := by
  rw [Int.bmod_eq_of_le (by omega) (by omega)]
theorem fb_addL {x y : Int64} (h1 : -9223372036854775808 ≤ x.toInt + y.toInt) (h2 : x.toInt + y.toInt < 9223372036854775808) : (x + y).toInt = x.toInt + y.toInt := by
  rw [Int64.toInt_add, fb_bmodL h1 h2]
theorem fb_subL {x y : Int64} (h1 : -9223372036854775808 ≤ x.toInt - y.toInt) (h2 : x.toInt - y.toInt < 9223372036854775808) : (x - y).toInt = x.toInt - y.toInt := by
  rw [Int64.toInt_sub, fb_bmodL h1 h2]
theorem fb_mulL {x y : Int64} (h1 : -9223372036854775808 ≤ x.toInt * y.toInt) (h2 : x.toInt * y.toInt < 9223372036854775808) : (x * y).toInt = x.toInt * y.toInt := by
  rw [Int64.toInt_mul, fb_bmodL h1 h2]
theorem divI {x y : Int32} (hx : 0 ≤ x.toInt) (hy : 0 < y.toInt) : (x / y).toInt = x.toInt / y.toInt := by
  have h1 := fb_rng x
  have h3 : x.toInt / y.toInt ≤ x.toInt := Int.ediv_le_self _ hx
  have h4 : 0 ≤ x.toInt / y.toInt := Int.ediv_nonneg hx (by omega)
  rw [Int32.toInt_div, Int.tdiv_eq_ediv_of_nonneg hx, fb_bmod (by omega) (by omega)]
def inB (v lo hi : Int32) : Bool := decide (lo ≤ v) && decide (v ≤ hi)
theorem inB_i {v lo hi : Int32} (h : inB v lo hi = true) : lo.toInt ≤ v.toInt ∧ v.toInt ≤ hi.toInt := by
  simp only [inB, Bool.and_eq_true, decide_eq_true_eq] at h
  exact ⟨Int32.le_iff_toInt_le.mp h.1, Int32.le_iff_toInt_le.mp h.2⟩
theorem inB_of {v lo hi : Int32} (h1 : lo.toInt ≤ v.toInt) (h2 : v.toInt ≤ hi.toInt) : inB v lo hi = true := by
  simp only [inB, Bool.and_eq_true, decide_eq_true_eq]
  exact ⟨Int32.le_iff_toInt_le.mpr h1, Int32.le_iff_toInt_le.mpr h2⟩
theorem inB_vp {v hi : Int32} {N : Nat} (h : inB v 0 hi = true) (hN : hi.toInt < N) : vp_in v N := by
  have := inB_i h
  have h0 : (0 : Int32).toInt = 0 := rfl
  exact vp_in_iff.mpr ⟨by omega, by omega⟩
theorem tn_of {v : Int32} (h : 0 ≤ v.toInt) : (tn v : Int) = v.toInt := by
  have := Int32.toNat_toInt v
  simp only [tn]
  omega
theorem nI_tn {v : Int32} (h : 0 ≤ v.toInt) : nI (tn v) = v := by
  apply Int32.toInt_inj.mp
  have h1 := tn_of h
  have h2 := fb_rng v
  rw [nI_toInt (by omega), h1]
/-- what the reference's own walks need of its numbers -/
def mI (c : Nat → Int32) (S : Nat → Nat → Int32) : Prop := (0 ≤ (c 0).toInt ∧ (c 0).toInt ≤ 1040) ∧ (0 ≤ (c 7).toInt ∧ (c 7).toInt ≤ 40) ∧ (0 ≤ (c 12).toInt ∧ (c 12).toInt ≤ 200) ∧ (0 ≤ (c 18).toInt ∧ (c 18).toInt ≤ 40) ∧ ∀ h, h < 40 → 0 ≤ (S 6 h).toInt ∧ (S 6 h).toInt ≤ 7
