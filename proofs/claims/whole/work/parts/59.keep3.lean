theorem yk_lt {c : Nat → Int32} {S : Nat → Nat → Int32} (hp : pI c S) {j : Nat} (hj : j < tn (c 7)) : 21 * j + tn (c 0 / 52) < 21 * tn (c 7) ∧ 21 * j + tn (c 0 / 52) < 840 := by
  have h40 := le40 hp
  have := tn_lt (yn_vp hp.1)
  omega
theorem pJ3 {c : Nat → Int32} {S : Nat → Nat → Int32} (hp : pI c S) (hj : pJ c S) {f : Nat} (hf : f < tn (c 7)) {k : Int32} (hk : inB k 1 (yetOf c S (nI f) (c 0 / 52)) = true) : (0 < k.toInt ∧ k.toInt ≤ 630) ∧ (S 18 (21 * f + tn (c 0 / 52))).toInt + (S 19 (21 * f + tn (c 0 / 52))).toInt + (S 20 (21 * f + tn (c 0 / 52))).toInt + k.toInt ≤ 630 := by
  have h1 := inB_i hk
  have e1 : (1 : Int32).toInt = 1 := rfl
  have h2 := yet_rng hp hj hf (yn_vp hp.1)
  have h3 := owe_rng hp hj hf (c 0 / 52)
  have h4 := h2.2 (by omega)
  omega
theorem pA_buy {c : Nat → Int32} {S : Nat → Nat → Int32} (h : pAll c S) (g k : Int32) : pAll (buyC c S g k) (buyS c S g k) := by
  rw [buyS, buyC]
  split
  · rename_i q
    simp only [buyB, Bool.and_eq_true] at q
    obtain ⟨hp, hj, hz⟩ := h
    obtain ⟨f, hf, rfl⟩ := hs_ix hp.1 q.1.1
    have h40 := le40 hp
    have hk := pJ3 hp hj hf q.2
    have hb := yk_lt hp hf
    have hi : tn (21 * nI f + c 0 / 52) = 21 * f + tn (c 0 / 52) := yk_tn (by omega) (yn_vp hp.1)
    have hs := hj.2.2 _ hb.2
    have e : (S 20 (21 * f + tn (c 0 / 52)) + k).toInt = (S 20 (21 * f + tn (c 0 / 52))).toInt + k.toInt := by rw [fb_addI] <;> omega
    refine ⟨hp, ⟨hj.1, hj.2.1, fun i hi2 => ?_⟩, fun i h1 h2 => ?_⟩
    · rw [buyT, hi]
      show 0 ≤ (S 18 i).toInt ∧ 0 ≤ (S 19 i).toInt ∧ 0 ≤ ((upd (S 20) (21 * f + tn (c 0 / 52)) (S 20 (21 * f + tn (c 0 / 52)) + k)) i).toInt ∧ (S 18 i).toInt + (S 19 i).toInt + ((upd (S 20) (21 * f + tn (c 0 / 52)) (S 20 (21 * f + tn (c 0 / 52)) + k)) i).toInt ≤ 700
      simp only [upd]
      by_cases z : i = 21 * f + tn (c 0 / 52)
      · rw [if_pos z, e, z]; omega
      · rw [if_neg z]; exact hj.2.2 i hi2
    · have h1' : 21 * tn (c 7) ≤ i := h1
      rw [buyT, hi]
      have z : i ≠ 21 * f + tn (c 0 / 52) := by omega
      show S 18 i = 0 ∧ S 19 i = 0 ∧ (upd (S 20) (21 * f + tn (c 0 / 52)) (S 20 (21 * f + tn (c 0 / 52)) + k)) i = 0 ∧ S 21 i = 0 ∧ S 22 i = -1
      simp only [upd]
      rw [if_neg z]
      exact hz i h1' h2
  · exact h
theorem pA_wrk {c : Nat → Int32} {S : Nat → Nat → Int32} (h : pAll c S) (g a k d : Int32) : pAll (wrkC c S g a k d) (wrkS c S g a k d) := by
  rw [wrkS, wrkC]
  split
  · rename_i q
    simp only [wrkB, Bool.and_eq_true] at q
    obtain ⟨hp, hj, hz⟩ := h
    obtain ⟨⟨⟨⟨⟨q1, q2⟩, q3⟩, q4⟩, q5⟩, q6⟩ := q
    obtain ⟨f, hf, rfl⟩ := hs_ix hp.1 q2
    obtain ⟨gi, hgi, rfl⟩ := hs_ix hp.1 q1
    have h40 := le40 hp
    have hk := pJ3 hp hj hf q5
    have hb := yk_lt hp hf
    have hb2 := yk_lt hp hgi
    have hi : tn (21 * nI f + c 0 / 52) = 21 * f + tn (c 0 / 52) := yk_tn (by omega) (yn_vp hp.1)
    have hi2 : tn (21 * nI gi + c 0 / 52) = 21 * gi + tn (c 0 / 52) := yk_tn (by omega) (yn_vp hp.1)
    have hs := hj.2.2 _ hb.2
    have e18 : (S 18 (21 * f + tn (c 0 / 52)) + k).toInt = (S 18 (21 * f + tn (c 0 / 52))).toInt + k.toInt := by rw [fb_addI] <;> omega
    have e19 : (S 19 (21 * f + tn (c 0 / 52)) + k).toInt = (S 19 (21 * f + tn (c 0 / 52))).toInt + k.toInt := by rw [fb_addI] <;> omega
    have hv := inB_vp (N := 30) q3 (by decide)
    rw [wrk2, wrk1, hi, hi2]
    by_cases y : nI gi = nI f
    · rw [if_pos y]
      refine ⟨⟨hp.1, mH_rai (S := va_up (va_up S 18 _) 23 _) hp.2.1 hv (by omega) (by omega), hp.2.2⟩, ⟨hj.1, hj.2.1, fun i hi3 => ?_⟩, fun i h1 h2 => ?_⟩
      · show 0 ≤ ((upd (S 18) (21 * f + tn (c 0 / 52)) (S 18 (21 * f + tn (c 0 / 52)) + k)) i).toInt ∧ 0 ≤ (S 19 i).toInt ∧ 0 ≤ (S 20 i).toInt ∧ ((upd (S 18) (21 * f + tn (c 0 / 52)) (S 18 (21 * f + tn (c 0 / 52)) + k)) i).toInt + (S 19 i).toInt + (S 20 i).toInt ≤ 700
        simp only [upd]
        by_cases z : i = 21 * f + tn (c 0 / 52)
        · rw [if_pos z, e18, z]; omega
        · rw [if_neg z]; exact hj.2.2 i hi3
      · have h1' : 21 * tn (c 7) ≤ i := h1
        have z : i ≠ 21 * f + tn (c 0 / 52) := by omega
        show (upd (S 18) (21 * f + tn (c 0 / 52)) (S 18 (21 * f + tn (c 0 / 52)) + k)) i = 0 ∧ S 19 i = 0 ∧ S 20 i = 0 ∧ S 21 i = 0 ∧ S 22 i = -1
        simp only [upd]
        rw [if_neg z]
        exact hz i h1' h2
    · rw [if_neg y]
      refine ⟨⟨hp.1, mH_rai (S := va_up (va_up (va_up (va_up S 22 _) 19 _) 21 _) 23 _) hp.2.1 hv (by omega) (by omega), hp.2.2⟩, ⟨hj.1, hj.2.1, fun i hi3 => ?_⟩, fun i h1 h2 => ?_⟩
      · show 0 ≤ (S 18 i).toInt ∧ 0 ≤ ((upd (S 19) (21 * f + tn (c 0 / 52)) (S 19 (21 * f + tn (c 0 / 52)) + k)) i).toInt ∧ 0 ≤ (S 20 i).toInt ∧ (S 18 i).toInt + ((upd (S 19) (21 * f + tn (c 0 / 52)) (S 19 (21 * f + tn (c 0 / 52)) + k)) i).toInt + (S 20 i).toInt ≤ 700
        simp only [upd]
        by_cases z : i = 21 * f + tn (c 0 / 52)
        · rw [if_pos z, e19, z]; omega
        · rw [if_neg z]; exact hj.2.2 i hi3
      · have h1' : 21 * tn (c 7) ≤ i := h1
        have z : i ≠ 21 * f + tn (c 0 / 52) := by omega
        have z2 : i ≠ 21 * gi + tn (c 0 / 52) := by omega
        show S 18 i = 0 ∧ (upd (S 19) (21 * f + tn (c 0 / 52)) (S 19 (21 * f + tn (c 0 / 52)) + k)) i = 0 ∧ S 20 i = 0 ∧ (upd (S 21) (21 * gi + tn (c 0 / 52)) (S 21 (21 * gi + tn (c 0 / 52)) + k)) i = 0 ∧ (upd (S 22) (21 * f + tn (c 0 / 52)) (nI gi)) i = -1
        simp only [upd]
        rw [if_neg z, if_neg z2, if_neg z]
        exact hz i h1' h2
  · exact h
