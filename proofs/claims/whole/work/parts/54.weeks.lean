def dS (S : Nat → Nat → Int32) (v t : Nat) (k : Int32) : Nat → Nat → Int32 := va_up S 23 (upd (S 23) (1040 * v + t) (S 23 (1040 * v + t) + k))
theorem dS_at (S : Nat → Nat → Int32) (v t : Nat) (k : Int32) : dS S v t k 23 (1040 * v + t) = S 23 (1040 * v + t) + k := by simp [dS, va_up, upd]
theorem dS_ne (S : Nat → Nat → Int32) (v t : Nat) (k : Int32) {u w : Nat} (ht : t < 1040) (hw : w < 1040) (h : u ≠ v ∨ w ≠ t) : dS S v t k 23 (1040 * u + w) = S 23 (1040 * u + w) := by
  have : 1040 * u + w ≠ 1040 * v + t := by omega
  simp [dS, va_up, upd, this]
theorem wk_apart {G : gH} {S : Nat → Nat → Int32} {wa ww : Nat → Nat → Nat} {wn : Nat → Nat} {t : Nat} (hWk : sWk G S wa ww wn) (hW : pWk S wa ww wn t) {u v i j : Nat} (hu : u < 8) (hv : v < 8) (hi : i < wn u) (hj : j < wn v) (h : u ≠ v ∨ i ≠ j) : wa u i ≠ wa v j := by
  intro q
  have e := hW.2.2.2 u hu v hv i hi j hj q
  subst e
  have hij : i ≠ j := by rcases h with z | z; exact absurd rfl z; exact z
  have h1 := hWk u hu i hi
  have h2 := hWk u hu j hj
  rw [q, h2] at h1
  have h3 : nI (ww u j) = nI (ww u i) := by
    have := Option.some.inj h1
    simp only [Sum.inr.injEq, Prod.mk.injEq, List.cons.injEq, Value.int.injEq] at this
    exact this.2.1
  have b1 := (hW.2.1 u hu i hi).2
  have b2 := (hW.2.1 u hu j hj).2
  have h4 := (nI_eq (by omega) (by omega)).mp h3
  rcases Nat.lt_or_ge i j with z | z
  · have := hW.1 u hu i j z hj; omega
  · have := hW.1 u hu j i (by omega) hi; omega
/-- the last week is this one: its days grow -/
theorem wk_same {G : gH} {x : Nat} {S : Nat → Nat → Int32} {wa ww : Nat → Nat → Nat} {wn : Nat → Nat} {t v : Nat} {k : Int32} (hv : v < 8) (h0 : 0 < wn v) (hl : ww v (wn v - 1) = t) (hVi : sVi G x S wa wn) (hWk : sWk G S wa ww wn) (hW : pWk S wa ww wn t) {G' : gH} (hG : gup G (wa v (wn v - 1)) (.inr (7, [.int (nI t), .int (S 23 (1040 * v + t) + k), va_rf (wNx wa wn v (wn v - 1))])) = G') : sVi G' x (dS S v t k) wa wn ∧ sWk G' (dS S v t k) wa ww wn ∧ pWk (dS S v t k) wa ww wn t := by
  subst hG
  have ht : t < 1040 := by rw [← hl]; exact (hW.2.1 v hv _ (by omega)).2
  refine ⟨?_, ?_, ?_⟩
  · exact hVi.kp (kp_up (hWk v hv (wn v - 1) (by omega))) (kpn (by decide : (6 : Nat) ≠ 7))
  · intro u hu i hi
    have hr := hW.2.1 u hu i hi
    by_cases q : u = v ∧ i = wn v - 1
    · obtain ⟨rfl, rfl⟩ := q
      rw [gup_s, hl, dS_at]
    · have hne := wk_apart hWk hW hu hv hi (show wn v - 1 < wn v by omega) (by omega)
      rw [gup_n hne, hWk u hu i hi, dS_ne S v t k ht hr.2]
      by_cases z : u = v
      · right
        subst z
        have : i < wn u - 1 := by omega
        have := hW.1 u hu i (wn u - 1) this (by omega)
        omega
      · exact Or.inl z
  · refine ⟨hW.1, hW.2.1, fun u hu w hw h1 => ?_, hW.2.2.2⟩
    rw [dS_ne S v t k ht hw]
    · exact hW.2.2.1 u hu w hw h1
    · by_cases z : u = v
      · right; subst z; intro e; exact h1 (wn u - 1) (by omega) (by omega)
      · exact Or.inl z
def wa2 (wa : Nat → Nat → Nat) (wn : Nat → Nat) (v q : Nat) : Nat → Nat → Nat := fun u i => if u = v ∧ i = wn v then q else wa u i
theorem wa2_at (wa : Nat → Nat → Nat) (wn : Nat → Nat) (v q : Nat) : wa2 wa wn v q v (wn v) = q := by simp [wa2]
theorem wa2_ne (wa : Nat → Nat → Nat) (wn : Nat → Nat) (v q : Nat) {u i : Nat} (h : u ≠ v ∨ i ≠ wn v) : wa2 wa wn v q u i = wa u i := by
  simp only [wa2]; rw [if_neg (by omega)]
/-- a new week behind the last one -/
theorem wk_new {G G' : gH} {x : Nat} {S : Nat → Nat → Int32} {wa ww : Nat → Nat → Nat} {wn : Nat → Nat} {t v q : Nat} {k : Int32} (hv : v < 8) (ht : t < 1040) (hnw : wn v = 0 ∨ ww v (wn v - 1) < t) (hVi : sVi G x S wa wn) (hWk : sWk G S wa ww wn) (hW : pWk S wa ww wn t) (hq : G q = none)
    (g1 : G' (x + 10 + v) = some (.inr (6, [.int (S 0 v), va_rf (if wn v = 0 then some q else some (wa v 0)), .ref q])))
    (gl : 0 < wn v → G' (wa v (wn v - 1)) = some (.inr (7, [.int (nI (ww v (wn v - 1))), .int (S 23 (1040 * v + ww v (wn v - 1))), .ref q])))
    (g2 : G' q = some (.inr (7, [.int (nI t), .int (0 + k), .null])))
    (fr : ∀ (b : Nat) (e : va_E), b ≠ x + 10 + v → (0 < wn v → b ≠ wa v (wn v - 1)) → G b = some e → G' b = some e) :
    sVi G' x (dS S v t k) (wa2 wa wn v q) (va_up wn v (wn v + 1)) ∧ sWk G' (dS S v t k) (wa2 wa wn v q) (wa2 ww wn v t) (va_up wn v (wn v + 1)) ∧ pWk (dS S v t k) (wa2 wa wn v q) (wa2 ww wn v t) (va_up wn v (wn v + 1)) t := by
  have hall : ∀ i, i < wn v → ww v i < t := by
    intro i hi
    rcases hnw with z | z
    · omega
    · rcases Nat.lt_or_ge i (wn v - 1) with y | y
      · have := hW.1 v hv i (wn v - 1) y (by omega); omega
      · rw [show i = wn v - 1 by omega]; exact z
  have hz0 : S 23 (1040 * v + t) = 0 := hW.2.2.1 v hv t ht (fun i hi e => by have := hall i hi; omega)
  refine ⟨?_, ?_, ?_⟩
  · intro u hu
    by_cases z : u = v
    · subst z
      refine g1.trans ?_
      have e1 : wFs (wa2 wa wn u q) (va_up wn u (wn u + 1)) u = if wn u = 0 then some q else some (wa u 0) := by
        rw [wFs, va_up_self, if_neg (by omega)]
        by_cases y : wn u = 0
        · rw [if_pos y]; simp [wa2, y]
        · rw [if_neg y, wa2_ne _ _ _ _ (by omega)]
      have e2 : wLs (wa2 wa wn u q) (va_up wn u (wn u + 1)) u = some q := by
        rw [wLs, va_up_self, if_neg (by omega), Nat.add_sub_cancel, wa2_at]
      rw [e1, e2]; rfl
    · have h1 := hVi u hu
      refine (fr _ _ (by omega) (fun h0 => ne_oo h1 (hWk v hv (wn v - 1) (by omega)) (by decide)) h1).trans ?_
      have e1 : wFs (wa2 wa wn v q) (va_up wn v (wn v + 1)) u = wFs wa wn u := by
        rw [wFs, wFs, va_up_ne _ _ z, wa2_ne _ _ _ _ (Or.inl z)]
      have e2 : wLs (wa2 wa wn v q) (va_up wn v (wn v + 1)) u = wLs wa wn u := by
        rw [wLs, wLs, va_up_ne _ _ z, wa2_ne _ _ _ _ (Or.inl z)]
      rw [e1, e2]; rfl
  · intro u hu i hi
    by_cases z : u = v
    · subst z
      rw [va_up_self] at hi
      by_cases y : i = wn u
      · subst y
        rw [wa2_at, wa2_at, dS_at, hz0]
        refine g2.trans ?_
        rw [wNx, va_up_self, if_neg (by omega)]; rfl
      · have hi2 : i < wn u := by omega
        have hw := hall i hi2
        rw [wa2_ne _ _ _ _ (Or.inr y), wa2_ne _ _ _ _ (Or.inr y), dS_ne S u t k ht (by omega) (Or.inr (by omega))]
        by_cases y2 : i = wn u - 1
        · rw [y2]
          refine (gl (by omega)).trans ?_
          rw [wNx, va_up_self, if_pos (by omega), show wn u - 1 + 1 = wn u by omega, wa2_at]; rfl
        · have h1 := hWk u hu i hi2
          refine (fr _ _ (fun e => ?_) (fun h0 => wk_apart hWk hW hu hu hi2 (by omega) (Or.inr y2)) h1).trans ?_
          · have h2 := hVi u hu
            exact ne_oo h1 h2 (by decide) e
          · rw [wNx, wNx, va_up_self, if_pos (by omega), if_pos (by omega), wa2_ne _ _ _ _ (by omega)]
    · rw [va_up_ne _ _ z] at hi
      have hr := hW.2.1 u hu i hi
      have h1 := hWk u hu i hi
      rw [wa2_ne _ _ _ _ (Or.inl z), wa2_ne _ _ _ _ (Or.inl z), dS_ne S v t k ht hr.2 (Or.inl z)]
      refine (fr _ _ (fun e => ?_) (fun h0 => wk_apart hWk hW hu hv hi (by omega) (Or.inl z)) h1).trans ?_
      · exact ne_oo h1 (hVi v hv) (by decide) e
      · rw [wNx, wNx, va_up_ne _ _ z, wa2_ne _ _ _ _ (Or.inl z)]
  · refine ⟨fun u hu i j hij hj => ?_, fun u hu i hi => ?_, fun u hu w hw h1 => ?_, fun u hu u2 hu2 i hi j hj e => ?_⟩
    · by_cases z : u = v
      · subst z
        rw [va_up_self] at hj
        rw [wa2_ne _ _ _ _ (show u ≠ u ∨ i ≠ wn u by omega)]
        by_cases y : j = wn u
        · rw [y, wa2_at]; exact hall i (by omega)
        · rw [wa2_ne _ _ _ _ (Or.inr y)]; exact hW.1 u hu i j hij (by omega)
      · rw [va_up_ne _ _ z] at hj
        rw [wa2_ne _ _ _ _ (Or.inl z), wa2_ne _ _ _ _ (Or.inl z)]; exact hW.1 u hu i j hij hj
    · by_cases z : u = v
      · subst z
        rw [va_up_self] at hi
        by_cases y : i = wn u
        · rw [y, wa2_at]; omega
        · rw [wa2_ne _ _ _ _ (Or.inr y)]; exact hW.2.1 u hu i (by omega)
      · rw [va_up_ne _ _ z] at hi
        rw [wa2_ne _ _ _ _ (Or.inl z)]; exact hW.2.1 u hu i hi
    · by_cases z : u = v
      · subst z
        have hwt : w ≠ t := fun e => h1 (wn u) (by rw [va_up_self]; omega) (by rw [wa2_at]; exact e.symm)
        rw [dS_ne S u t k ht hw (Or.inr hwt)]
        exact hW.2.2.1 u hu w hw (fun i hi e => h1 i (by rw [va_up_self]; omega) (by rw [wa2_ne _ _ _ _ (by omega)]; exact e))
      · rw [dS_ne S v t k ht hw (Or.inl z)]
        exact hW.2.2.1 u hu w hw (fun i hi e => h1 i (by rw [va_up_ne _ _ z]; exact hi) (by rw [wa2_ne _ _ _ _ (Or.inl z)]; exact e))
    · have old : ∀ a b, a < 8 → b < va_up wn v (wn v + 1) a → (a = v ∧ b = wn v) ∨ (b < wn a ∧ wa2 wa wn v q a b = wa a b) := by
        intro a b ha hb
        by_cases z : a = v
        · subst z
          rw [va_up_self] at hb
          by_cases y : b = wn a
          · exact Or.inl ⟨rfl, y⟩
          · exact Or.inr ⟨by omega, wa2_ne _ _ _ _ (Or.inr y)⟩
        · rw [va_up_ne _ _ z] at hb
          exact Or.inr ⟨hb, wa2_ne _ _ _ _ (Or.inl z)⟩
      rcases old u i hu hi with ⟨z1, z2⟩ | ⟨z1, z2⟩ <;> rcases old u2 j hu2 hj with ⟨y1, y2⟩ | ⟨y1, y2⟩
      · rw [z1, y1]
      · exfalso
        rw [z1, z2, wa2_at, y2] at e
        have h1 := hWk u2 hu2 j y1
        rw [← e, hq] at h1; cases h1
      · exfalso
        rw [y1, y2, wa2_at, z2] at e
        have h1 := hWk u hu i z1
        rw [e, hq] at h1; cases h1
      · rw [z2, y2] at e
        exact hW.2.2.2 u hu u2 hu2 i z1 j y1 e
