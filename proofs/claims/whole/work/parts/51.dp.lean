theorem wb_tb (n : Nat) : (lN n).toBitVec = BitVec.ofNat 64 n := rfl
theorem wb_inj {a b : Int64} (h : a.toBitVec = b.toBitVec) : a = b := Int64.toBitVec_inj.mp h
theorem wb_tn {n : Nat} (h : n < 2 ^ 64) : (lN n).toBitVec.toNat = n := by rw [wb_tb, BitVec.toNat_ofNat, Nat.mod_eq_of_lt h]
theorem wb_c : ∀ k, k < 64 → ((nI k).toInt64 &&& 63) = lN k := by decide +kernel
theorem wb_sm : ∀ k, k < 64 → (BitVec.ofNat 64 k).smod 64 = BitVec.ofNat 64 k := by decide +kernel
theorem wb_mod (n : Nat) : lN n = lN (n % 2 ^ 64) := wb_inj (by rw [wb_tb, wb_tb]; apply BitVec.eq_of_toNat_eq; rw [BitVec.toNat_ofNat, BitVec.toNat_ofNat, Nat.mod_mod])
theorem wb_shl (n : Nat) {k : Nat} (hk : k < 64) : lN n <<< ((nI k).toInt64 &&& 63) = lN (n * 2 ^ k) := by
  rw [wb_c k hk]
  apply wb_inj
  rw [Int64.toBitVec_shiftLeft, wb_tb, wb_tb, wb_tb, wb_sm k hk]
  apply BitVec.eq_of_toNat_eq
  rw [BitVec.shiftLeft_eq', BitVec.toNat_shiftLeft, BitVec.toNat_ofNat, BitVec.toNat_ofNat, BitVec.toNat_ofNat, Nat.mod_eq_of_lt (show k < 2 ^ 64 by omega), Nat.shiftLeft_eq, Nat.mul_mod, Nat.mod_mod, ← Nat.mul_mod]
theorem pf_lI {a : Nat} (h : a < 2 ^ 63) : (lN a).toInt = (a : Int) := lg_ofNat_toInt h
theorem pf_shr {a d : Nat} {D : Int64} (hD : (D.toBitVec.smod 64).toNat = d) (h : a < 2 ^ 62) : lN a >>> D = lN (a / 2 ^ d) := by
  have hd : a / 2 ^ d ≤ a := Nat.div_le_self _ _
  apply Int64.toInt_inj.mp
  have e : (lN a >>> D).toInt = (lN a).toInt >>> d := by
    rw [← hD]
    exact BitVec.toInt_sshiftRight ..
  rw [e, Int.shiftRight_eq_div_pow, pf_lI (by omega), pf_lI (by omega)]
  rfl
theorem s_l : ∀ n, n < 32 → ((nI n &&& 31).toBitVec.smod 32).toNat = n := by decide +kernel
theorem fa_or (a b : Nat) : nI a ||| nI b = nI (a ||| b) := by
  apply Int32.toBitVec_inj.1
  show BitVec.ofNat 32 a ||| BitVec.ofNat 32 b = BitVec.ofNat 32 (a ||| b)
  apply BitVec.eq_of_getLsbD_eq
  intro i hi
  simp [hi]
theorem fa_or_sum {a k : Nat} (b : Nat) (h : a < 2 ^ k) : nI (2 ^ k * b) ||| nI a = nI (2 ^ k * b + a) := by rw [fa_or, Nat.two_pow_add_eq_or_of_lt h]
/-! the plan: the class's one number against the reference's two -/
def chN (S : Nat → Nat → Int32) (d : Int32) : Nat → Nat → Nat
  | 0, _ => 0
  | k + 1, w => if plM S d (k + 1) w = plM S d k w then chN S d k w else chN S d k (w - tn (needOf S (nI k) d)) + 2 ^ k
theorem chN_lt (S : Nat → Nat → Int32) (d : Int32) : ∀ k w, chN S d k w < 2 ^ k
  | 0, _ => by simp [chN]
  | k + 1, w => by
    have h1 := chN_lt S d k w
    have h2 := chN_lt S d k (w - tn (needOf S (nI k) d))
    rw [chN]
    have : 2 ^ (k + 1) = 2 ^ k + 2 ^ k := by rw [Nat.pow_succ]; omega
    split <;> omega
def pLs (S : Nat → Nat → Int32) : Prop := ∀ i, i < 30 → 0 ≤ (S 3 i).toInt ∧ (S 3 i).toInt ≤ 10000
theorem plM_rng {S : Nat → Nat → Int32} (hl : pLs S) (d : Int32) : ∀ k, k ≤ 30 → ∀ w, 0 ≤ (plM S d k w).toInt ∧ (plM S d k w).toInt ≤ 10000 * k
  | 0, _, w => by rw [plM]; decide
  | k + 1, hk, w => by
    have h1 := plM_rng hl d k (by omega) w
    have h2 := plM_rng hl d k (by omega) (w - tn (needOf S (nI k) d))
    have h3 := hl k (by omega)
    have h4 : (plM S d k (w - tn (needOf S (nI k) d)) + S 3 k).toInt = (plM S d k (w - tn (needOf S (nI k) d))).toInt + (S 3 k).toInt := by rw [fb_addI] <;> omega
    rw [plM]
    split
    · omega
    · split
      · omega
      · omega
/-- one step, in Int -/
theorem plM_step {S : Nat → Nat → Int32} (hl : pLs S) (hH : mH S) {d : Int32} (hd : inB d 0 3000 = true) {k w : Nat} (hk : k < 30) (hw : w ≤ 300) : (plM S d (k + 1) w).toInt = if tn (needOf S (nI k) d) = 0 ∨ w < tn (needOf S (nI k) d) then (plM S d k w).toInt else if (plM S d k (w - tn (needOf S (nI k) d))).toInt + (S 3 k).toInt ≤ (plM S d k w).toInt then (plM S d k w).toInt else (plM S d k (w - tn (needOf S (nI k) d))).toInt + (S 3 k).toInt := by
  have hn := needOf_rng hH hd hk
  have ht := tn_of hn.1
  have h1 := plM_rng hl d k (by omega) w
  have h2 := plM_rng hl d k (by omega) (w - tn (needOf S (nI k) d))
  have h3 := hl k hk
  have h4 : (plM S d k (w - tn (needOf S (nI k) d)) + S 3 k).toInt = (plM S d k (w - tn (needOf S (nI k) d))).toInt + (S 3 k).toInt := by rw [fb_addI] <;> omega
  have c1 : (needOf S (nI k) d = 0 ∨ nI w < needOf S (nI k) d) ↔ (tn (needOf S (nI k) d) = 0 ∨ w < tn (needOf S (nI k) d)) := by
    constructor
    · rintro (q | q)
      · left; rw [q]; rfl
      · right; have := Int32.lt_iff_toInt_lt.mp q; rw [nI_toInt (by omega)] at this; omega
    · rintro (q | q)
      · left; exact Int32.toInt_inj.mp (by show _ = (0 : Int); omega)
      · right; exact Int32.lt_iff_toInt_lt.mpr (by rw [nI_toInt (by omega)]; omega)
  rw [plM]
  by_cases q : tn (needOf S (nI k) d) = 0 ∨ w < tn (needOf S (nI k) d)
  · rw [if_pos (c1.mpr q), if_pos q]
  · rw [if_neg (fun z => q (c1.mp z)), if_neg q]
    by_cases q2 : (plM S d k (w - tn (needOf S (nI k) d))).toInt + (S 3 k).toInt ≤ (plM S d k w).toInt
    · rw [if_pos q2, if_pos (Int32.le_iff_toInt_le.mpr (by omega))]
    · rw [if_neg q2, if_neg (fun z => q2 (by have := Int32.le_iff_toInt_le.mp z; omega)), h4]
theorem plM_mono {S : Nat → Nat → Int32} (hl : pLs S) (hH : mH S) {d : Int32} (hd : inB d 0 3000 = true) : ∀ k, k ≤ 30 → ∀ w w', w ≤ w' → w' ≤ 300 → (plM S d k w).toInt ≤ (plM S d k w').toInt
  | 0, _, w, w', _, _ => by simp [plM]
  | k + 1, hk, w, w', h1, h2 => by
    have a1 := plM_mono hl hH hd k (by omega) w w' h1 h2
    have a2 := plM_mono hl hH hd k (by omega) (w - tn (needOf S (nI k) d)) (w' - tn (needOf S (nI k) d)) (by omega) (by omega)
    rw [plM_step hl hH hd (by omega) (by omega), plM_step hl hH hd (by omega) h2]
    by_cases q : tn (needOf S (nI k) d) = 0 ∨ w < tn (needOf S (nI k) d)
    · rw [if_pos q]
      by_cases q' : tn (needOf S (nI k) d) = 0 ∨ w' < tn (needOf S (nI k) d)
      · rw [if_pos q']; exact a1
      · rw [if_neg q']; split <;> omega
    · have q' : ¬ (tn (needOf S (nI k) d) = 0 ∨ w' < tn (needOf S (nI k) d)) := by omega
      rw [if_neg q, if_neg q']
      split <;> split <;> omega
theorem wo_int {S : Nat → Nat → Int32} (hl : pLs S) {i : Nat} (hi : i < 30) : (woR S i).toInt = (S 3 i).toInt * 1073741824 - ((2 ^ i : Nat) : Int) := by
  have h1 := hl i hi
  have h2 := tn_of h1.1
  have h3 : S 3 i = nI (tn (S 3 i)) := (nI_tn h1.1).symm
  have h4 : 2 ^ i ≤ 2 ^ 29 := Nat.pow_le_pow_right (by decide) (by omega)
  have h5 : (2 : Nat) ^ 29 = 536870912 := by decide
  have e1 : (S 3 i).toInt64 <<< ((30 : Int32).toInt64 &&& 63) = lN (tn (S 3 i) * 2 ^ 30) := by
    rw [h3, nI_l (by omega), show (30 : Int32) = nI 30 from rfl, wb_shl _ (by decide), ← h3]
  have e2 : (1 : Int64) <<< ((nI i).toInt64 &&& 63) = lN (1 * 2 ^ i) := by
    rw [show (1 : Int64) = lN 1 from rfl, wb_shl _ (by omega)]
  have e3 : (lN (tn (S 3 i) * 2 ^ 30)).toInt = (tn (S 3 i) * 2 ^ 30 : Nat) := pk_lT (by omega)
  have e4 : (lN (1 * 2 ^ i)).toInt = (1 * 2 ^ i : Nat) := pk_lT (by omega)
  rw [woR, e1, e2, fb_subL] <;> rw [e3, e4] <;> omega
theorem pl_of {S : Nat → Nat → Int32} {d : Int32} {k w : Nat} (h : (plM S d (k + 1) w).toInt = (plM S d k w).toInt) : plM S d (k + 1) w = plM S d k w := Int32.toInt_inj.mp h
/-- the class's number after k rods -/
theorem bw_eq {S : Nat → Nat → Int32} (hl : pLs S) (hH : mH S) {d : Int32} (hd : inB d 0 3000 = true) (f : Nat → Int64) {nn : Nat} (hn : nn ≤ 300) : ∀ k, k ≤ 30 → ∀ w, w ≤ nn → (bwN S d f nn k w).toInt = (plM S d k w).toInt * 1073741824 - (chN S d k w : Int)
  | 0, _, w, hw => by
    rw [bwN, zF, if_pos (by omega), plM, chN]; rfl
  | k + 1, hk, w, hw => by
    have ih := bw_eq hl hH hd f hn k (by omega)
    have hr := needOf_rng hH hd (show k < 30 by omega)
    have ht := tn_of hr.1
    have hst := plM_step hl hH hd (show k < 30 by omega) (show w ≤ 300 by omega)
    have hwo := wo_int hl (show k < 30 by omega)
    have hls := hl k (by omega)
    have h4 : 2 ^ k ≤ 2 ^ 29 := Nat.pow_le_pow_right (by decide) (by omega)
    have h5 : (2 : Nat) ^ 29 = 536870912 := by decide
    have h6 : 0 < 2 ^ k := Nat.pos_of_ne_zero (by simp)
    have same : plM S d (k + 1) w = plM S d k w → bwN S d f nn (k + 1) w = bwN S d f nn k w → (bwN S d f nn (k + 1) w).toInt = (plM S d (k + 1) w).toInt * 1073741824 - (chN S d (k + 1) w : Int) := by
      intro q1 q2
      rw [q2, ih w hw, chN, if_pos q1, q1]
    by_cases hc : S 1 k < d
    · by_cases h0 : tn (needOf S (nI k) d) < 1
      · refine same (pl_of (by rw [hst, if_pos (Or.inl (by omega))])) ?_
        rw [bwN, if_pos hc, offF, if_pos (Or.inl h0)]
      · by_cases h1 : woR S k ≤ 0
        · have z := Int64.le_iff_toInt_le.mp h1
          rw [hwo] at z
          have z0 : (0 : Int64).toInt = 0 := rfl
          have hz : (S 3 k).toInt = 0 := by omega
          refine same (pl_of ?_) ?_
          · rw [hst]
            have hm := plM_mono hl hH hd k (by omega) (w - tn (needOf S (nI k) d)) w (by omega) (by omega)
            split
            · rfl
            · rw [if_pos (by omega)]
          · rw [bwN, if_pos hc, offF, if_pos (Or.inr h1)]
        · by_cases h2 : tn (needOf S (nI k) d) ≤ w
          · have e1 : bwN S d f nn (k + 1) w = mxL (bwN S d f nn k w) (bwN S d f nn k (w - tn (needOf S (nI k) d)) + woR S k) := by
              rw [bwN, if_pos hc, offF, if_neg (by rintro (q | q); exact h0 q; exact h1 q), if_pos ⟨h2, hw⟩]
            have a1 := ih w hw
            have a2 := ih (w - tn (needOf S (nI k) d)) (by omega)
            have b1 := chN_lt S d k w
            have b2 := chN_lt S d k (w - tn (needOf S (nI k) d))
            have r1 := plM_rng hl d k (by omega) w
            have r2 := plM_rng hl d k (by omega) (w - tn (needOf S (nI k) d))
            have a3 : (bwN S d f nn k (w - tn (needOf S (nI k) d)) + woR S k).toInt = (bwN S d f nn k (w - tn (needOf S (nI k) d))).toInt + (woR S k).toInt := by rw [fb_addL] <;> omega
            rw [if_neg (by omega)] at hst
            rw [e1, mxL]
            by_cases q : (plM S d k (w - tn (needOf S (nI k) d))).toInt + (S 3 k).toInt ≤ (plM S d k w).toInt
            · rw [if_pos q] at hst
              rw [if_pos (Int64.lt_iff_toInt_lt.mpr (by omega)), chN, if_pos (pl_of hst), hst]
              exact a1
            · rw [if_neg q] at hst
              have hne : ¬ plM S d (k + 1) w = plM S d k w := fun z => by have := congrArg Int32.toInt z; omega
              rw [if_neg (fun z => by have := Int64.lt_iff_toInt_lt.mp z; omega), chN, if_neg hne, hst, a3, a2, hwo]
              omega
          · refine same (pl_of (by rw [hst, if_pos (Or.inr (by omega))])) ?_
            rw [bwN, if_pos hc, offF, if_neg (by rintro (q | q); exact h0 q; exact h1 q), if_neg (fun z => h2 z.1)]
    · have hnz : tn (needOf S (nI k) d) = 0 := by
        have e := need_eq hH hd (show k < 30 by omega)
        rw [if_neg hc] at e
        rw [← e]; rfl
      refine same (pl_of (by rw [hst, if_pos (Or.inl hnz)])) ?_
      rw [bwN, if_neg hc]
theorem los_eq {x : Int64} {p b : Nat} (hx : x.toInt = (p : Int) * 1073741824 - b) (hb : b < 1073741824) (hp : p ≤ 300000) : losL x = nI p := by
  have e0 : (1073741824 : Int64).toInt = 1073741824 := rfl
  have e1 : (1 : Int64).toInt = 1 := rfl
  have a1 : (x + 1073741824).toInt = (p : Int) * 1073741824 - b + 1073741824 := by rw [fb_addL] <;> omega
  have a2 : (x + 1073741824 - 1).toInt = (p : Int) * 1073741824 - b + 1073741824 - 1 := by rw [fb_subL] <;> omega
  have a3 : x + 1073741824 - 1 = lN (p * 1073741824 + (1073741823 - b)) := by
    apply Int64.toInt_inj.mp
    rw [a2, pk_lT (by omega)]
    omega
  have a4 : (p * 1073741824 + (1073741823 - b)) / 2 ^ 30 = p := by
    rw [show (2 : Nat) ^ 30 = 1073741824 by decide]
    omega
  rw [losL, a3, pf_shr (d := 30) (by decide) (by omega), lN_i, a4]
theorem hep_eq {x : Int64} {p b : Nat} (hx : x.toInt = (p : Int) * 1073741824 - b) (hb : b < 1073741824) (hp : p ≤ 300000) : hepL x = nI b := by
  have e1 : (nI p).toInt64 <<< ((30 : Int32).toInt64 &&& 63) = lN (p * 2 ^ 30) := by
    rw [nI_l (by omega), show (30 : Int32) = nI 30 from rfl, wb_shl _ (by decide)]
  have e2 : (lN (p * 2 ^ 30)).toInt = (p * 2 ^ 30 : Nat) := pk_lT (by omega)
  have a3 : lN (p * 2 ^ 30) - x = lN b := by
    apply Int64.toInt_inj.mp
    rw [fb_subL] <;> rw [e2, hx]
    · rw [pk_lT (by omega)]; omega
    · omega
    · omega
  rw [hepL, los_eq hx hb hp, e1, a3, lN_i]
theorem chO_eq (S : Nat → Nat → Int32) (d : Int32) : ∀ k, k ≤ 30 → ∀ w m, chO S d k w (nI (2 ^ k * m)) = nI (2 ^ k * m + chN S d k w)
  | 0, _, w, m => by rw [chO, chN]; rfl
  | k + 1, hk, w, m => by
    have e0 : 2 ^ (k + 1) * m = 2 ^ k * (2 * m) := by rw [Nat.pow_succ, Nat.mul_assoc]
    rw [chO, chN]
    by_cases q : plM S d (k + 1) w = plM S d k w
    · rw [if_pos q, if_pos q, e0, chO_eq S d k (by omega)]
    · rw [if_neg q, if_neg q]
      have e1 : (1 : Int32) <<< (nI k &&& 31) = nI (2 ^ k) := by
        have g1 : 2 ^ k ≤ 2 ^ 29 := Nat.pow_le_pow_right (by decide) (by omega)
        have g2 : (2 : Nat) ^ 29 = 536870912 := by decide
        have g3 : (2 : Nat) ^ 32 = 4294967296 := by decide
        have := pk_shlN (n := 1) (nI k &&& 31) k (s_l k (by omega)) (by omega)
        rw [Nat.one_mul] at this; exact this
      have e2 : nI (2 ^ (k + 1) * m) ||| nI (2 ^ k) = nI (2 ^ (k + 1) * m + 2 ^ k) := fa_or_sum m (Nat.pow_lt_pow_right (by decide) (by omega))
      have e3 : 2 ^ (k + 1) * m + 2 ^ k = 2 ^ k * (2 * m + 1) := by rw [e0, Nat.mul_add, Nat.mul_one]
      rw [e1, e2, e3, chO_eq S d k (by omega)]
      congr 1
      rw [← e3]; omega
theorem sav_eq {c : Nat → Int32} {S : Nat → Nat → Int32} (hp : pI c S) {d : Int32} (hd : inB d 0 3000 = true) (f : Nat → Int64) {nn : Nat} (hn : nn ≤ 300) : losL (bwN S d f nn 30 nn) = plM S d 30 nn ∧ hepL (bwN S d f nn 30 nn) = chO S d 30 nn 0 := by
  have hl : pLs S := hp.2.2.2.1
  have h1 := bw_eq hl hp.2.1 hd f hn 30 (Nat.le_refl _) nn (Nat.le_refl _)
  have h2 := plM_rng hl d 30 (Nat.le_refl _) nn
  have h3 := tn_of h2.1
  have h4 := chN_lt S d 30 nn
  rw [← h3] at h1
  have h5 : (2 : Nat) ^ 30 = 1073741824 := by decide
  refine ⟨?_, ?_⟩
  · rw [los_eq h1 (by omega) (by omega), nI_tn h2.1]
  · rw [hep_eq h1 (by omega) (by omega)]
    have := chO_eq S d 30 (Nat.le_refl _) nn 0
    rw [Nat.mul_zero, Nat.zero_add] at this
    exact this.symm
