theorem pA_hou {c : Nat → Int32} {S : Nat → Nat → Int32} (h : pAll c S) (v a b : Int32) : pAll (houC c v a b) (houS c S v a b) := by
  rw [houS, houC]
  split
  · rename_i q
    simp only [houB, Bool.and_eq_true] at q
    have h40 := le40 h.1
    obtain ⟨⟨h1, h2, h3, h4, h5, h6, h7, h8⟩, hj, hz⟩ := h
    have hv := inB_i q.1.1.1
    have ha := inB_i q.1.1.2
    have hb := inB_i q.1.2
    have hne : ¬ c 7 = 40 := by have := q.2; simpa using this
    have g7 := h1.2.1
    have e40 : (40 : Int32).toInt = 40 := rfl
    have h41 : (c 7).toInt ≠ 40 := fun z => hne (Int32.toInt_inj.mp (z.trans e40.symm))
    have e1 : (1 : Int32).toInt = 1 := rfl
    have a1 : (c 7 + 1).toInt = (c 7).toInt + 1 := by rw [fb_addI] <;> omega
    have t1 : tn (c 7 + 1) = tn (c 7) + 1 := tn_s g7.1 g7.2 (by decide)
    have tg := tn_of g7.1
    refine ⟨⟨⟨h1.1, ?_, h1.2.2.1, h1.2.2.2.1, fun i hi => ?_⟩, h2, h3, h4, h5, fun i hi => ?_, fun k hk => ?_, h8⟩, ⟨fun i hi => ?_, hj.2⟩, fun i hi1 hi2 => ?_⟩
    · show 0 ≤ (c 7 + 1).toInt ∧ (c 7 + 1).toInt ≤ 40
      omega
    · show 0 ≤ ((upd (S 6) (tn (c 7)) v) i).toInt ∧ ((upd (S 6) (tn (c 7)) v) i).toInt ≤ 7
      simp only [upd]
      split
      · exact hv
      · exact h1.2.2.2.2 i hi
    · have hi2 : i < tn (c 7) + 1 := by rw [← t1]; exact hi
      show (0 ≤ ((upd (S 7) (tn (c 7)) (c 0)) i).toInt ∧ ((upd (S 7) (tn (c 7)) (c 0)) i).toInt ≤ (c 0).toInt) ∧ (0 ≤ ((upd (S 9) (tn (c 7)) b) i).toInt ∧ ((upd (S 9) (tn (c 7)) b) i).toInt ≤ 20)
      simp only [upd]
      by_cases z : i = tn (c 7)
      · rw [if_pos z, if_pos z]; exact ⟨⟨h1.1.1, Int.le_refl _⟩, hb⟩
      · rw [if_neg z, if_neg z]; exact h6 i (by omega)
    · have g := h7 k hk
      have t10 := tn_of g.1.1
      have hne2 : tn (S 10 k) ≠ tn (c 7) := by omega
      show (0 ≤ (S 10 k).toInt ∧ (S 10 k).toInt < (c 7 + 1).toInt) ∧ (((upd (S 7) (tn (c 7)) (c 0)) (tn (S 10 k))).toInt ≤ (S 12 k).toInt ∧ ((upd (S 7) (tn (c 7)) (c 0)) (tn (S 10 k))).toInt ≤ (S 11 k).toInt) ∧ (0 ≤ (S 14 k).toInt ∧ (S 14 k).toInt ≤ 20)
      simp only [upd]
      rw [if_neg hne2]
      exact ⟨⟨g.1.1, by omega⟩, g.2⟩
    · have hi2 : i < tn (c 7) + 1 := by rw [← t1]; exact hi
      show 0 ≤ ((upd (S 8) (tn (c 7)) a) i).toInt ∧ ((upd (S 8) (tn (c 7)) a) i).toInt ≤ 500
      simp only [upd]
      by_cases z : i = tn (c 7)
      · rw [if_pos z]; exact ha
      · rw [if_neg z]; exact hj.1 i (by omega)
    · have hi3 : 21 * (tn (c 7) + 1) ≤ i := by rw [← t1]; exact hi1
      exact hz i (by omega) hi2
  · exact h
theorem pA_chg {c : Nat → Int32} {S : Nat → Nat → Int32} (h : pAll c S) (g w a b : Int32) : pAll (chgC c S g w a b) (chgS c S g w a b) := by
  rw [chgS, chgC]
  split
  · rename_i q
    simp only [chgB, Bool.and_eq_true] at q
    have h40 := le40 h.1
    obtain ⟨⟨h1, h2, h3, h4, h5, h6, h7, h8⟩, hj, hz⟩ := h
    have hg := hsB_lt h1 q.1.1.1.1
    have tg := tn_of hg.1
    have t7 := tn_of h1.2.1.1
    have hw := inB_i q.1.1.1.2
    have ha := inB_i q.1.1.2
    have hb := inB_i q.1.2
    have hne : ¬ c 12 = 200 := by have := q.2; simpa using this
    have g12 := h1.2.2.1
    have e200 : (200 : Int32).toInt = 200 := rfl
    have h41 : (c 12).toInt ≠ 200 := fun z => hne (Int32.toInt_inj.mp (z.trans e200.symm))
    have e1 : (1 : Int32).toInt = 1 := rfl
    have a1 : (c 12 + 1).toInt = (c 12).toInt + 1 := by rw [fb_addI] <;> omega
    have t1 : tn (c 12 + 1) = tn (c 12) + 1 := tn_s g12.1 g12.2 (by decide)
    have g6 := (h6 (tn g) (by omega)).1
    refine ⟨⟨⟨h1.1, h1.2.1, ?_, h1.2.2.2⟩, h2, h3, h4, h5, h6, fun k hk => ?_, h8⟩, ⟨hj.1, fun k hk => ?_, hj.2.2⟩, hz⟩
    · show 0 ≤ (c 12 + 1).toInt ∧ (c 12 + 1).toInt ≤ 200
      omega
    · have hk2 : k < tn (c 12) + 1 := by rw [← t1]; exact hk
      show (0 ≤ ((upd (S 10) (tn (c 12)) g) k).toInt ∧ ((upd (S 10) (tn (c 12)) g) k).toInt < (c 7).toInt) ∧ ((S 7 (tn ((upd (S 10) (tn (c 12)) g) k))).toInt ≤ ((upd (S 12) (tn (c 12)) (c 0)) k).toInt ∧ (S 7 (tn ((upd (S 10) (tn (c 12)) g) k))).toInt ≤ ((upd (S 11) (tn (c 12)) w) k).toInt) ∧ (0 ≤ ((upd (S 14) (tn (c 12)) b) k).toInt ∧ ((upd (S 14) (tn (c 12)) b) k).toInt ≤ 20)
      simp only [upd]
      by_cases z : k = tn (c 12)
      · simp only [if_pos z]; exact ⟨hg, ⟨g6.2, hw.1⟩, hb⟩
      · simp only [if_neg z]; exact h7 k (by omega)
    · have hk2 : k < tn (c 12) + 1 := by rw [← t1]; exact hk
      show 0 ≤ ((upd (S 13) (tn (c 12)) a) k).toInt ∧ ((upd (S 13) (tn (c 12)) a) k).toInt ≤ 500
      simp only [upd]
      by_cases z : k = tn (c 12)
      · rw [if_pos z]; exact ha
      · rw [if_neg z]; exact hj.2.1 k (by omega)
  · exact h
theorem mH_end {S : Nat → Nat → Int32} (hH : mH S) {k : Nat} (hk : k < 30) {lv : Int32} (h0 : 0 ≤ lv.toInt) : mH (endS S (nI k) lv) := by
  intro i hi
  rw [endS, tn_nI (by omega)]
  split
  · rename_i q
    rw [va_up_self]
    simp only [upd]
    split
    · rw [endH, tn_nI (by omega), if_pos q]
      have z1 := Int32.le_iff_toInt_le.mp q
      have h1 := hH k hk
      have z2 : (lv / 100).toInt = lv.toInt / 100 := divI h0 (by decide)
      have z3 : (S 1 k - lv / 100).toInt = (S 1 k).toInt - lv.toInt / 100 := by rw [fb_subI] <;> rw [z2] <;> omega
      split
      · omega
      · decide
    · exact hH i hi
  · rw [va_up_ne _ _ (by decide), va_up_self]
    simp only [upd]
    split
    · decide
    · exact hH i hi
theorem mH_endN {c : Nat → Int32} {S : Nat → Nat → Int32} (hH : mH S) (hl : 0 ≤ (S 24 (tn (c 0))).toInt) : ∀ k, k ≤ 30 → mH (endN (c, S) k).2
  | 0, _ => hH
  | k + 1, hk => by
    have ih := mH_endN hH hl k (by omega)
    rw [endN_s2]
    refine mH_end ih (by omega) ?_
    rw [endN_S _ 24 (by decide) (by decide), endN_c _ 0 (by decide)]
    exact hl
theorem pA_go {c : Nat → Int32} {S : Nat → Nat → Int32} (h : pAll c S) (w : Int32) : pAll (goU c S w).1 (goU c S w).2 := by
  rw [goU]
  split
  · have h40 := le40 h.1
    have t0 := tn_of h.1.1.1.1
    have key : ∀ k, k ≤ 1040 - tn (c 0) → pAll (wkN (c, S) k).1 (wkN (c, S) k).2 := by
      intro k
      induction k with
      | zero => intro _; exact h
      | succ k ih =>
        intro hk
        have ih := ih (by omega)
        have e1 := wkN_s1 (c, S) k
        have e2 := wkN_s2 (c, S) k
        have n0 := wkN_0 (c, S) k
        have n1 := wkN_0 (c, S) (k + 1)
        have a0 : ((wkN (c, S) k).1 0).toInt = (c 0).toInt + k := by
          rw [n0]; show (c 0 + nI k).toInt = _; rw [fb_addI] <;> rw [nI_toInt (by omega)] <;> (have := h.1.1.1; omega)
        have a1 : ((wkN (c, S) (k + 1)).1 0).toInt = (c 0).toInt + (k + 1 : Nat) := by
          rw [n1]; show (c 0 + nI (k + 1)).toInt = _; rw [fb_addI] <;> rw [nI_toInt (by omega)] <;> (have := h.1.1.1; omega)
        have cj : ∀ j, j ≠ 0 → j ≠ 30 → (wkN (c, S) (k + 1)).1 j = (wkN (c, S) k).1 j := fun j z1 z2 => by rw [e1, va_up_ne _ _ z1, endN_c _ j z2]
        have sj : ∀ j, j ≠ 1 → j ≠ 4 → (wkN (c, S) (k + 1)).2 j = (wkN (c, S) k).2 j := fun j z1 z2 => by rw [e2, endN_S _ j z1 z2]
        obtain ⟨⟨h1, h2, h3, h4, h5, h6, h7, h8⟩, hj, hz⟩ := ih
        have hm : mH (wkN (c, S) (k + 1)).2 := by
          rw [e2]
          refine mH_endN (c := (wkN (c, S) k).1) (S := (wkN (c, S) k).2) h2 (h5 _ ?_).1 30 (Nat.le_refl _)
          have := tn_of (v := (wkN (c, S) k).1 0) (by have := h.1.1.1; omega)
          omega
        have c7 := cj 7 (by decide) (by decide)
        have c12 := cj 12 (by decide) (by decide)
        have c18 := cj 18 (by decide) (by decide)
        refine ⟨⟨⟨?_, by rw [c7]; exact h1.2.1, by rw [c12]; exact h1.2.2.1, by rw [c18]; exact h1.2.2.2.1, by rw [sj 6 (by decide) (by decide)]; exact h1.2.2.2.2⟩, hm, by rw [sj 0 (by decide) (by decide)]; exact h3, by rw [sj 3 (by decide) (by decide)]; exact h4, by rw [sj 24 (by decide) (by decide)]; exact h5, ?_, ?_, ?_⟩, ?_, ?_⟩
        · rw [a1]; have := h.1.1.1; omega
        · rw [c7, sj 7 (by decide) (by decide), sj 9 (by decide) (by decide)]
          intro g hg
          have z := h6 g hg
          exact ⟨⟨z.1.1, by omega⟩, z.2⟩
        · rw [c7, c12, sj 7 (by decide) (by decide), sj 10 (by decide) (by decide), sj 11 (by decide) (by decide), sj 12 (by decide) (by decide), sj 14 (by decide) (by decide)]
          exact h7
        · rw [c18, sj 15 (by decide) (by decide), sj 16 (by decide) (by decide)]; exact h8
        · rw [pJ, c7, c12, sj 8 (by decide) (by decide), sj 13 (by decide) (by decide), sj 18 (by decide) (by decide), sj 19 (by decide) (by decide), sj 20 (by decide) (by decide)]; exact hj
        · rw [pZ, c7, sj 18 (by decide) (by decide), sj 19 (by decide) (by decide), sj 20 (by decide) (by decide), sj 21 (by decide) (by decide), sj 22 (by decide) (by decide)]; exact hz
    exact key _ (by omega)
  · exact h
