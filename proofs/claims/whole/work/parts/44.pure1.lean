theorem fst_lis (S : Nat → Nat → Int32) {h : Nat} (y : Int32) (hh : h < 2 ^ 31) (hc : S 7 h < 52 * y) : ∀ k, ∃ q : tlT, fstT (52 * y) (telL S h k) = some q ∧ lisN S (nI h) y 0 k = q.2.2.1 ∧ ∀ w : Int32, ¬ w = 0 → lisN S (nI h) y w k = q.2.2.2
  | 0 => ⟨(S 7 h, S 7 h, S 8 h, S 9 h), by rw [telL, fstT, if_pos hc], by rw [lisN, if_pos rfl, tn_nI hh], fun w hw => by rw [lisN, if_neg hw, tn_nI hh]⟩
  | k + 1 => by
    obtain ⟨q, h1, h2, h3⟩ := fst_lis S y hh hc k
    by_cases hk : S 10 k = nI h
    · by_cases ht : S 12 k < 52 * y
      · refine ⟨(S 12 k, S 11 k, S 13 k, S 14 k), ?_, ?_, fun w hw => ?_⟩
        · rw [telL, if_pos hk, fstT, if_pos ht]
        · rw [lisN, if_pos ⟨hk, ht⟩, if_pos rfl]
        · rw [lisN, if_pos ⟨hk, ht⟩, if_neg hw]
      · refine ⟨q, ?_, ?_, fun w hw => ?_⟩
        · rw [telL, if_pos hk, fstT, if_neg ht]; exact h1
        · rw [lisN, if_neg (fun z => ht z.2)]; exact h2
        · rw [lisN, if_neg (fun z => ht z.2)]; exact h3 w hw
    · refine ⟨q, ?_, ?_, fun w hw => ?_⟩
      · rw [telL, if_neg hk]; exact h1
      · rw [lisN, if_neg (fun z => hk z.1)]; exact h2
      · rw [lisN, if_neg (fun z => hk z.1)]; exact h3 w hw
theorem fst_no (S : Nat → Nat → Int32) {h : Nat} (w : Int32) (hc : ¬ S 7 h < w) : ∀ k, (∀ j, j < k → S 10 j = nI h → (S 7 h).toInt ≤ (S 12 j).toInt) → fstT w (telL S h k) = none
  | 0, _ => by rw [telL, fstT, if_neg hc, fstT]
  | k + 1, hj => by
    have ih := fst_no S w hc k (fun j h1 h2 => hj j (by omega) h2)
    by_cases hk : S 10 k = nI h
    · have h2 := hj k (by omega) hk
      have h3 : ¬ (S 7 h).toInt < w.toInt := fun z => hc (Int32.lt_iff_toInt_lt.mpr z)
      have h4 : ¬ S 12 k < w := fun z => by have := Int32.lt_iff_toInt_lt.mp z; omega
      rw [telL, if_pos hk, fstT, if_neg h4]; exact ih
    · rw [telL, if_neg hk]; exact ih
theorem tru_ge (S : Nat → Nat → Int32) {h : Nat} (w : Int32) (hh : h < 2 ^ 31) : ∀ k, (S 7 h).toInt ≤ (truN S (nI h) w k).1.toInt
  | 0 => by rw [truN, tn_nI hh]; exact Int.le_refl _
  | k + 1 => by
    have ih := tru_ge S w hh k
    rw [truN]
    split
    · rename_i q
      have := Int32.le_iff_toInt_le.mp q.2.2
      show _ ≤ (S 11 k).toInt
      omega
    · exact ih
theorem han_lo (S : Nat → Nat → Int32) {h : Nat} (w : Int32) (hw : w < S 7 h) : ∀ k, (∀ j, j < k → S 10 j = nI h → (S 7 h).toInt ≤ (S 11 j).toInt) → ∀ u, hanF w (telL S h k) u = u
  | 0, _, u => by
    rw [telL, hanF, if_neg (fun z => absurd z.1 (Int32.not_le.mpr hw)), hanF]
  | k + 1, hj, u => by
    have ih := han_lo S w hw k (fun j h1 h2 => hj j (by omega) h2)
    by_cases hk : S 10 k = nI h
    · have h2 := hj k (by omega) hk
      have h3 := Int32.lt_iff_toInt_lt.mp hw
      have h4 : ¬ S 11 k ≤ w := fun z => by have := Int32.le_iff_toInt_le.mp z; omega
      rw [telL, if_pos hk, hanF, if_neg (fun z => h4 z.1)]; exact ih u
    · rw [telL, if_neg hk]; exact ih u
theorem han_hi (S : Nat → Nat → Int32) {h : Nat} (w : Int32) (hh : h < 2 ^ 31) (hw : ¬ w < S 7 h) : ∀ k u, hanF w (telL S h k) u = if u.1 < (truN S (nI h) w k).1 then truN S (nI h) w k else u
  | 0, u => by
    rw [telL, hanF, hanF, truN, tn_nI hh]
    by_cases q : u.1 < S 7 h
    · rw [if_pos ⟨Int32.not_lt.mp hw, q⟩, if_pos q]
    · rw [if_neg (fun z => q z.2), if_neg q]
  | k + 1, u => by
    have ih := han_hi S w hh hw k
    by_cases hk : S 10 k = nI h
    · rw [telL, if_pos hk, hanF, ih]
      by_cases h1 : S 11 k ≤ w
      · by_cases h2 : (truN S (nI h) w k).1 ≤ S 11 k
        · have e : truN S (nI h) w (k + 1) = (S 11 k, S 14 k) := by rw [truN, if_pos ⟨hk, h1, h2⟩]
          rw [e]
          by_cases h3 : u.1 < S 11 k
          · rw [if_pos (show S 11 k ≤ w ∧ u.1 < S 11 k from ⟨h1, h3⟩)]
            rw [if_neg (show ¬ (S 11 k, S 14 k).1 < _ from Int32.not_lt.mpr h2), if_pos h3]
          · rw [if_neg (show ¬ (S 11 k ≤ w ∧ u.1 < S 11 k) from fun z => h3 z.2), if_neg h3]
            rw [if_neg]
            intro z
            have z1 := Int32.lt_iff_toInt_lt.mp z
            have z2 := Int32.le_iff_toInt_le.mp h2
            exact h3 (Int32.lt_iff_toInt_lt.mpr (by omega))
        · have e : truN S (nI h) w (k + 1) = truN S (nI h) w k := by rw [truN, if_neg (fun z => h2 z.2.2)]
          have h2' := Int32.not_le.mp h2
          rw [e]
          by_cases h3 : u.1 < S 11 k
          · rw [if_pos (show S 11 k ≤ w ∧ u.1 < S 11 k from ⟨h1, h3⟩)]
            rw [if_pos (show (S 11 k, S 14 k).1 < _ from h2'), if_pos]
            have z1 := Int32.lt_iff_toInt_lt.mp h3
            have z2 := Int32.lt_iff_toInt_lt.mp h2'
            exact Int32.lt_iff_toInt_lt.mpr (by omega)
          · rw [if_neg (show ¬ (S 11 k ≤ w ∧ u.1 < S 11 k) from fun z => h3 z.2)]
      · have e : truN S (nI h) w (k + 1) = truN S (nI h) w k := by rw [truN, if_neg (fun z => h1 z.2.1)]
        rw [e, if_neg (show ¬ (S 11 k ≤ w ∧ u.1 < S 11 k) from fun z => h1 z.1)]
    · have e : truN S (nI h) w (k + 1) = truN S (nI h) w k := by rw [truN, if_neg (fun z => hk z.1)]
      rw [telL, if_neg hk, e, ih]
theorem han_tru {c : Nat → Int32} {S : Nat → Nat → Int32} (hp : pI c S) {h : Nat} (hh : h < tn (c 7)) (w : Int32) : (hanF w (telL S h (tn (c 12))) (-1, 0)).2 = truOf c S (nI h) w := by
  have h40 : tn (c 7) ≤ 40 := by have := hp.1.2.1; have := tn_of this.1; omega
  have hb : h < 2 ^ 31 := by omega
  have hc := (hp.2.2.2.2.2.1 h hh).1
  have hch := hp.2.2.2.2.2.2.1
  rw [truOf, tn_nI hb]
  by_cases q : w < S 7 h
  · rw [if_pos q, han_lo S w q _ (fun j hj he => by have := (hch j hj).2.1.2; rw [he, tn_nI hb] at this; exact this)]
  · rw [if_neg q, han_hi S w hb q]
    have h1 := tru_ge S w hb (tn (c 12))
    rw [if_pos]
    exact Int32.lt_iff_toInt_lt.mpr (by show (-1 : Int) < _; omega)
theorem rem_hand {w : Int32} (h0 : 0 ≤ w.toInt) (h1 : w.toInt ≤ 99999) : rem32 w 10000 / 1000 = rem32 (w / 1000) 10 := by
  have e1 : (10000 : Int32).toInt = 10000 := rfl
  have e2 : (1000 : Int32).toInt = 1000 := rfl
  have e3 : (10 : Int32).toInt = 10 := rfl
  have a1 : (w / 10000).toInt = w.toInt / 10000 := divI h0 (by decide)
  have a2 : (w / 10000 * 10000).toInt = w.toInt / 10000 * 10000 := by rw [fb_mulI] <;> rw [a1, e1] <;> omega
  have a3 : (rem32 w 10000).toInt = w.toInt - w.toInt / 10000 * 10000 := by rw [rem32, fb_subI] <;> rw [a2] <;> omega
  have b1 : (w / 1000).toInt = w.toInt / 1000 := divI h0 (by decide)
  have b2 : (w / 1000 / 10).toInt = w.toInt / 1000 / 10 := by rw [divI (by omega) (by decide), b1]; rfl
  have b3 : (w / 1000 / 10 * 10).toInt = w.toInt / 1000 / 10 * 10 := by rw [fb_mulI] <;> rw [b2, e3] <;> omega
  have b4 : (rem32 (w / 1000) 10).toInt = w.toInt / 1000 - w.toInt / 1000 / 10 * 10 := by rw [rem32, fb_subI] <;> rw [b1, b3] <;> omega
  apply Int32.toInt_inj.mp
  rw [divI (by rw [a3]; omega) (by decide), a3, b4, e2]
  omega
theorem vil_ge {c : Nat → Int32} {S : Nat → Nat → Int32} (hp : pI c S) (v w : Int32) : ∀ k, k ≤ tn (c 7) → 0 ≤ (vilN c S v w k).toInt ∧ (vilN c S v w k).toInt ≤ 20 * k
  | 0, _ => by rw [vilN]; decide
  | k + 1, hk => by
    have ih := vil_ge hp v w k (by omega)
    have h40 : tn (c 7) ≤ 40 := by have := hp.1.2.1; have := tn_of this.1; omega
    have hr : 0 ≤ (if S 6 k = v then truOf c S (nI k) w else 0).toInt ∧ (if S 6 k = v then truOf c S (nI k) w else 0).toInt ≤ 20 := by
      split
      · have h9 := (hp.2.2.2.2.2.1 k (by omega)).2
        rw [truOf]
        split
        · decide
        · have key : ∀ j, j ≤ tn (c 12) → 0 ≤ (truN S (nI k) w j).2.toInt ∧ (truN S (nI k) w j).2.toInt ≤ 20 := by
            intro j
            induction j with
            | zero => intro _; rw [truN, tn_nI (by omega)]; exact h9
            | succ j ihj =>
              intro hj
              rw [truN]
              split
              · exact (hp.2.2.2.2.2.2.1 j (by omega)).2.2
              · exact ihj (by omega)
          exact key _ (Nat.le_refl _)
      · decide
    rw [vilN, fb_addI] <;> omega
