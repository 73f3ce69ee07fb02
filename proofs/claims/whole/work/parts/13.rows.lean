section GMR2
variable {p : Program} {l : Launch} {e : Env} {R : Room} {s : State} {m : MethodId} {args : Array Value} {below : List Frame} {meth : Method} {c0 : Code} {H : Heap} {locs : List Loc} {cells slots : Nat} {Q : State → Prop}
variable {cc : ByteArray} {pc : Nat} {ls : Array Slot} {rest : List Value} {E : gT} {A : Nat → Prop} {n o : Nat} {H0 : Heap} {c : Nat → Int32} {S : Nat → Nat → Int32}
theorem tn_nI {i : Nat} (h : i < 2 ^ 31) : tn (nI i) = i := nI_clamp h
theorem lenM_lt : ∀ k, k < 26 → lenM k < 2 ^ 31 := by decide
theorem m_iald_n (hx : p.tables.exec = Jvm.exec) (hb : c0.code = cc) (hK : gK E s) (hP : gP E A n (GM E o c S) H) {j : Nat} (k ln : Nat) (hj : j = k + 1) (hk : k < 26) (hl : lenM k = ln) {i : Nat} (hin : i < ln) (hdg : decode cc pc = .ok (.iaload, 1))
    (kk : W p l e R s m args below meth c0 H locs cells slots Q (F0 m (pc + 1) ls (.int (S k i) :: rest))) : W p l e R s m args below meth c0 H locs cells slots Q (F0 m pc ls (.int (nI i) :: .ref (o + j) :: rest)) := by
  have h2 := lenM_lt k hk
  refine m_iald hx hb hK hP k ln hj hk hl (vp_in_nI hin (by omega)) hdg ?_
  rw [tn_nI (by omega)]
  exact kk
theorem m_iast_n (hx : p.tables.exec = Jvm.exec) (hb : c0.code = cc) (hK : gK E s) (hP : gP E A n (GM E o c S) H) (hS : va_S A H0 H locs) {j : Nat} (k ln : Nat) (hj : j = k + 1) (hk : k < 26) (hl : lenM k = ln) {i : Nat} {x : Int32} (hin : i < ln) (hdg : decode cc pc = .ok (.iastore, 1))
    (kk : ∀ (H1 : Heap) (locs1 : List Loc), gP E A n (GM E o c (va_up S k (upd (S k) i x))) H1 → va_S A H0 H1 locs1 → W p l e R s m args below meth c0 H1 locs1 cells slots Q (F0 m (pc + 1) ls rest)) : W p l e R s m args below meth c0 H locs cells slots Q (F0 m pc ls (.int x :: .int (nI i) :: .ref (o + j) :: rest)) := by
  have h2 := lenM_lt k hk
  refine m_iast hx hb hK hP hS k ln hj hk hl (vp_in_nI hin (by omega)) hdg (fun H1 locs1 h1 h3 => kk H1 locs1 ?_ h3)
  rw [tn_nI (by omega)] at h1
  exact h1
end GMR2
theorem lp_ge {x : Int32} {k : Nat} (h0 : 0 ≤ x.toInt) (hk : k < 2 ^ 31) (h : x ≤ nI k) : tn x ≤ k := by
  have h1 := Int32.le_iff_toInt_le.mp h
  rw [nI_toInt hk] at h1
  have := tn_of h0
  omega
theorem lp_lt {x : Int32} {k : Nat} (h0 : 0 ≤ x.toInt) (hk : k < 2 ^ 31) (h : ¬ x ≤ nI k) : k < tn x := by
  have h1 : ¬ x.toInt ≤ (nI k).toInt := fun q => h (Int32.le_iff_toInt_le.mpr q)
  rw [nI_toInt hk] at h1
  have := tn_of h0
  omega
theorem sw_out1 {x : Int32} (h0 : ¬ x = 0) (h1 : ¬ x = 1) : x.toInt < 0 ∨ 1 < x.toInt := by
  have a0 := lv_neT h0 (a := 0) rfl
  have a1 := lv_neT h1 (a := 1) rfl
  omega
theorem sw_out3 {x : Int32} (h0 : ¬ x = 0) (h1 : ¬ x = 1) (h2 : ¬ x = 2) (h3 : ¬ x = 3) : x.toInt < 0 ∨ 3 < x.toInt := by
  have a0 := lv_neT h0 (a := 0) rfl
  have a1 := lv_neT h1 (a := 1) rfl
  have a2 := lv_neT h2 (a := 2) rfl
  have a3 := lv_neT h3 (a := 3) rfl
  omega
theorem sw_out6 {x : Int32} (h0 : ¬ x = 0) (h1 : ¬ x = 1) (h2 : ¬ x = 2) (h3 : ¬ x = 3) (h4 : ¬ x = 4) (h5 : ¬ x = 5) (h6 : ¬ x = 6) : x.toInt < 0 ∨ 6 < x.toInt := by
  have a0 := lv_neT h0 (a := 0) rfl
  have a1 := lv_neT h1 (a := 1) rfl
  have a2 := lv_neT h2 (a := 2) rfl
  have a3 := lv_neT h3 (a := 3) rfl
  have a4 := lv_neT h4 (a := 4) rfl
  have a5 := lv_neT h5 (a := 5) rfl
  have a6 := lv_neT h6 (a := 6) rfl
  omega
theorem sw_out8 {x : Int32} (h0 : ¬ x = 0) (h1 : ¬ x = 1) (h2 : ¬ x = 2) (h3 : ¬ x = 3) (h4 : ¬ x = 4) (h5 : ¬ x = 5) (h6 : ¬ x = 6) (h7 : ¬ x = 7) (h8 : ¬ x = 8) : x.toInt < 0 ∨ 8 < x.toInt := by
  have a0 := lv_neT h0 (a := 0) rfl
  have a1 := lv_neT h1 (a := 1) rfl
  have a2 := lv_neT h2 (a := 2) rfl
  have a3 := lv_neT h3 (a := 3) rfl
  have a4 := lv_neT h4 (a := 4) rfl
  have a5 := lv_neT h5 (a := 5) rfl
  have a6 := lv_neT h6 (a := 6) rfl
  have a7 := lv_neT h7 (a := 7) rfl
  have a8 := lv_neT h8 (a := 8) rfl
  omega
