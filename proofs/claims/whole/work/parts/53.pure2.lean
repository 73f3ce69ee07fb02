def pJ (c : Nat → Int32) (S : Nat → Nat → Int32) : Prop := (∀ h, h < tn (c 7) → 0 ≤ (S 8 h).toInt ∧ (S 8 h).toInt ≤ 500) ∧ (∀ k, k < tn (c 12) → 0 ≤ (S 13 k).toInt ∧ (S 13 k).toInt ≤ 500) ∧ (∀ i, i < 840 → 0 ≤ (S 18 i).toInt ∧ 0 ≤ (S 19 i).toInt ∧ 0 ≤ (S 20 i).toInt ∧ (S 18 i).toInt + (S 19 i).toInt + (S 20 i).toInt ≤ 700)
theorem lis_rng {c : Nat → Int32} {S : Nat → Nat → Int32} (hp : pI c S) (hj : pJ c S) {h : Nat} (hh : h < tn (c 7)) (y : Int32) : ∀ k, k ≤ tn (c 12) → (0 ≤ (lisN S (nI h) y 0 k).toInt ∧ (lisN S (nI h) y 0 k).toInt ≤ 500) ∧ (0 ≤ (lisN S (nI h) y 1 k).toInt ∧ (lisN S (nI h) y 1 k).toInt ≤ 20)
  | 0, _ => by
    have h40 := le40 hp
    rw [lisN, if_pos rfl, lisN, if_neg (by decide), tn_nI (by omega)]
    exact ⟨hj.1 h hh, (hp.2.2.2.2.2.1 h hh).2⟩
  | k + 1, hk => by
    have ih := lis_rng hp hj hh y k (by omega)
    rw [lisN, lisN]
    by_cases q : S 10 k = nI h ∧ S 12 k < 52 * y
    · rw [if_pos q, if_pos q, if_pos rfl, if_neg (by decide)]
      exact ⟨hj.2.1 k (by omega), (hp.2.2.2.2.2.2.1 k (by omega)).2.2⟩
    · rw [if_neg q, if_neg q]; exact ih
theorem mul9 {a b : Int} {N : Int} (h0 : 0 ≤ a) (h1 : a ≤ N) (h2 : 0 ≤ b) (h3 : b ≤ 9) : 0 ≤ a * b ∧ a * b ≤ 9 * N := by
  rcases (show b = 0 ∨ b = 1 ∨ b = 2 ∨ b = 3 ∨ b = 4 ∨ b = 5 ∨ b = 6 ∨ b = 7 ∨ b = 8 ∨ b = 9 by omega) with z | z | z | z | z | z | z | z | z | z <;> subst z <;> omega
theorem owe_rng {c : Nat → Int32} {S : Nat → Nat → Int32} (hp : pI c S) (hj : pJ c S) {h : Nat} (hh : h < tn (c 7)) (y : Int32) : 0 ≤ (oweOf c S (nI h) y).toInt ∧ (oweOf c S (nI h) y).toInt ≤ 630 := by
  have e0 : (0 : Int32).toInt = 0 := rfl
  rw [oweOf]
  split
  · decide
  · rename_i hlaw
    split
    · decide
    · rw [oweL]
      split
      · decide
      · have hl := lis_rng hp hj hh y (tn (c 12)) (Nat.le_refl _)
        have hv := lawOf_vp hp.1 hlaw
        have h18 := hp.1.2.2.2.1
        have t18 := tn_of h18.1
        have hlt : tn (lawOf c S y) < tn (c 18) := by
          rcases lawN_in S y (tn (c 18)) (by omega) with h1 | h1
          · exact absurd h1 hlaw
          · have := tn_of h1.1; unfold lawOf; omega
        have hw := (hp.2.2.2.2.2.2.2 (tn (lawOf c S y)) hlt).2
        generalize S 16 (tn (lawOf c S y)) = wv at hw ⊢
        have d1 : (wv / 10000).toInt = wv.toInt / 10000 := divI hw.1 (by decide)
        have b1 : (wv / 1000).toInt = wv.toInt / 1000 := divI hw.1 (by decide)
        have b2 : (wv / 1000 / 10).toInt = wv.toInt / 1000 / 10 := by rw [divI (by omega) (by decide), b1]; rfl
        have e3 : (10 : Int32).toInt = 10 := rfl
        have b3 : (wv / 1000 / 10 * 10).toInt = wv.toInt / 1000 / 10 * 10 := by rw [fb_mulI] <;> rw [b2, e3] <;> omega
        have b4 : (rem32 (wv / 1000) 10).toInt = wv.toInt / 1000 - wv.toInt / 1000 / 10 * 10 := by rw [rem32, fb_subI] <;> rw [b1, b3] <;> omega
        have a1 : (lisOf c S (nI h) y 0 / 10).toInt = (lisOf c S (nI h) y 0).toInt / 10 := divI hl.1.1 (by decide)
        have hl1 : 0 ≤ (lisOf c S (nI h) y 0).toInt ∧ (lisOf c S (nI h) y 0).toInt ≤ 500 := hl.1
        have hl2 : 0 ≤ (lisOf c S (nI h) y 1).toInt ∧ (lisOf c S (nI h) y 1).toInt ≤ 20 := hl.2
        have m1 := mul9 (a := (lisOf c S (nI h) y 0 / 10).toInt) (b := (wv / 10000).toInt) (N := 50) (by omega) (by omega) (by omega) (by omega)
        have m2 := mul9 (a := (lisOf c S (nI h) y 1).toInt) (b := (rem32 (wv / 1000) 10).toInt) (N := 20) (by omega) (by omega) (by omega) (by omega)
        have c1 : (lisOf c S (nI h) y 0 / 10 * (wv / 10000)).toInt = (lisOf c S (nI h) y 0 / 10).toInt * (wv / 10000).toInt := by rw [fb_mulI] <;> omega
        have c2 : (lisOf c S (nI h) y 1 * rem32 (wv / 1000) 10).toInt = (lisOf c S (nI h) y 1).toInt * (rem32 (wv / 1000) 10).toInt := by rw [fb_mulI] <;> omega
        rw [fb_addI] <;> rw [c1, c2] <;> omega
theorem yet_rng {c : Nat → Int32} {S : Nat → Nat → Int32} (hp : pI c S) (hj : pJ c S) {h : Nat} (hh : h < tn (c 7)) {y : Int32} (hy : vp_in y 21) : (yetOf c S (nI h) y).toInt ≤ 630 ∧ (0 < (yetOf c S (nI h) y).toInt → (yetOf c S (nI h) y).toInt = (oweOf c S (nI h) y).toInt - (S 18 (21 * h + tn y)).toInt - (S 19 (21 * h + tn y)).toInt - (S 20 (21 * h + tn y)).toInt) := by
  have h40 := le40 hp
  have ho := owe_rng hp hj hh y
  have ht := tn_lt hy
  have hb := hj.2.2 (21 * h + tn y) (by omega)
  have e0 : (0 : Int32).toInt = 0 := rfl
  have a1 : (oweOf c S (nI h) y - S 18 (21 * h + tn y)).toInt = (oweOf c S (nI h) y).toInt - (S 18 (21 * h + tn y)).toInt := by rw [fb_subI] <;> omega
  have a2 : (oweOf c S (nI h) y - S 18 (21 * h + tn y) - S 19 (21 * h + tn y)).toInt = (oweOf c S (nI h) y).toInt - (S 18 (21 * h + tn y)).toInt - (S 19 (21 * h + tn y)).toInt := by rw [fb_subI] <;> omega
  have a3 : (oweOf c S (nI h) y - S 18 (21 * h + tn y) - S 19 (21 * h + tn y) - S 20 (21 * h + tn y)).toInt = (oweOf c S (nI h) y).toInt - (S 18 (21 * h + tn y)).toInt - (S 19 (21 * h + tn y)).toInt - (S 20 (21 * h + tn y)).toInt := by rw [fb_subI] <;> omega
  rw [yetOf, yet0, yk_tn (by omega) hy]
  split
  · exact ⟨by decide, fun q => absurd q (by decide)⟩
  · exact ⟨by omega, fun _ => a3⟩
theorem mH_rai {S : Nat → Nat → Int32} (hH : mH S) {a k : Int32} (ha : vp_in a 30) (h0 : 0 ≤ k.toInt) (h1 : k.toInt ≤ 1000) : mH (raiS S a k) := by
  intro i hi
  by_cases q : i = tn a
  · subst q
    have e : (raiS S a k) 1 (tn a) = raiH S a k := by simp [raiS, va_up, upd]
    rw [e, raiH]
    have h2 := hH (tn a) hi
    have h3 := perOf_rng S a
    have e3 : (3000 : Int32).toInt = 3000 := rfl
    have m1 : (k * perOf S a).toInt = k.toInt * (perOf S a).toInt := by
      rcases h3 with z | z | z <;> rw [fb_mulI] <;> rw [z] <;> omega
    have m2 : 0 ≤ k.toInt * (perOf S a).toInt ∧ k.toInt * (perOf S a).toInt ≤ 30000 := by rcases h3 with z | z | z <;> rw [z] <;> omega
    have m3 : (S 1 (tn a) + k * perOf S a).toInt = (S 1 (tn a)).toInt + k.toInt * (perOf S a).toInt := by rw [fb_addI] <;> rw [m1] <;> omega
    split
    · rename_i z; have := Int32.le_iff_toInt_le.mp z; omega
    · decide
  · have e : (raiS S a k) 1 i = S 1 i := by simp [raiS, va_up, upd, q]
    rw [e]; exact hH i hi
