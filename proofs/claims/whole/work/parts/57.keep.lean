/-! the numbers' ranges are kept -/
def pAll (c : Nat → Int32) (S : Nat → Nat → Int32) : Prop := pI c S ∧ pJ c S ∧ pZ c S
theorem pA_vil {c : Nat → Int32} {S : Nat → Nat → Int32} (h : pAll c S) (a b : Int32) : pAll c (vilS S a b) := by
  rw [vilS]
  split
  · rename_i q
    simp only [vilB, Bool.and_eq_true] at q
    have hb := inB_i q.2
    obtain ⟨⟨h1, h2, h3, h4⟩, hj, hz⟩ := h
    refine ⟨⟨h1, h2, fun v hv => ?_, h4⟩, hj, hz⟩
    rw [va_up_self]
    simp only [upd]
    split
    · exact hb
    · exact h3 v hv
  · exact h
theorem pA_rod {c : Nat → Int32} {S : Nat → Nat → Int32} (h : pAll c S) (a b d : Int32) : pAll c (rodS S a b d) := by
  rw [rodS]
  split
  · rename_i q
    simp only [rodB, Bool.and_eq_true] at q
    have hb := inB_i q.2
    obtain ⟨⟨h1, h2, h3, h4, h5⟩, hj, hz⟩ := h
    refine ⟨⟨h1, h2, h3, fun v hv => ?_, h5⟩, hj, hz⟩
    rw [va_up_self]
    simp only [upd]
    split
    · exact hb
    · exact h4 v hv
  · exact h
theorem pA_riv {c : Nat → Int32} {S : Nat → Nat → Int32} (h : pAll c S) (a b k : Int32) : pAll c (rivS c S a b k) := by
  rw [rivS]
  split
  · rename_i q
    simp only [rivB, Bool.and_eq_true] at q
    have hb := inB_i q.2
    obtain ⟨⟨h1, h2, h3, h4, h5, h6⟩, hj, hz⟩ := h
    refine ⟨⟨h1, h2, h3, h4, fun v hv => ?_, h6⟩, hj, hz⟩
    rw [va_up_self]
    simp only [rivF]
    split
    · exact hb
    · exact h5 v hv
  · exact h
theorem pA_sav {c : Nat → Int32} {S : Nat → Nat → Int32} (h : pAll c S) (a b : Int32) : pAll c (savS S a b) := by
  rw [savS]
  split
  · exact h
  · exact h
theorem pA_hir {c : Nat → Int32} {S : Nat → Nat → Int32} (h : pAll c S) (a k : Int32) : pAll (hirC c S a k) (hirS c S a k) := by
  rw [hirS, hirC]
  split
  · rename_i q
    simp only [hirB, Bool.and_eq_true] at q
    have hb := inB_i q.1.1.2
    have e1 : (1 : Int32).toInt = 1 := rfl
    have e2 : (1000 : Int32).toInt = 1000 := rfl
    obtain ⟨⟨h1, h2, h3⟩, hj, hz⟩ := h
    exact ⟨⟨h1, mH_rai h2 (inB_vp q.1.1.1 (by decide)) (by omega) (by omega), h3⟩, hj, hz⟩
  · exact h
theorem pA_law {c : Nat → Int32} {S : Nat → Nat → Int32} (h : pAll c S) (y w k : Int32) : pAll (lawC c y w k) (lawS c S y w k) := by
  rw [lawS, lawC]
  split
  · rename_i q
    have q2 := q
    rw [lawB_eq h.1] at q2
    simp only [Bool.and_eq_true] at q2
    obtain ⟨⟨h1, h2, h3, h4, h5, h6, h7, h8⟩, hj, hz⟩ := h
    have hy := inB_i q2.1.1.1
    have hw := inB_i q2.1.1.2.1
    have h40 : ¬ (40 : Int32) ≤ c 18 := by have := q2.2; simpa using this
    have h41 : ¬ (40 : Int) ≤ (c 18).toInt := fun z => h40 (Int32.le_iff_toInt_le.mpr z)
    have g18 := h1.2.2.2.1
    have e1 : (1 : Int32).toInt = 1 := rfl
    have a1 : (c 18 + 1).toInt = (c 18).toInt + 1 := by rw [fb_addI] <;> omega
    have t1 : tn (c 18 + 1) = tn (c 18) + 1 := tn_s g18.1 g18.2 (by decide)
    refine ⟨⟨⟨h1.1, h1.2.1, h1.2.2.1, ?_, h1.2.2.2.2⟩, h2, h3, h4, h5, h6, h7, fun i hi => ?_⟩, hj, hz⟩
    · show 0 ≤ (c 18 + 1).toInt ∧ (c 18 + 1).toInt ≤ 40
      omega
    · have hi2 : i < tn (c 18) + 1 := by rw [← t1]; exact hi
      show 0 ≤ ((upd (S 15) (tn (c 18)) y) i).toInt ∧ 0 ≤ ((upd (S 16) (tn (c 18)) w) i).toInt ∧ ((upd (S 16) (tn (c 18)) w) i).toInt ≤ 99999
      simp only [upd]
      by_cases z : i = tn (c 18)
      · rw [if_pos z, if_pos z]; exact ⟨hy.1, hw⟩
      · rw [if_neg z, if_neg z]; exact h8 i (by omega)
  · exact h
