abbrev gCS : Type := (Nat → Int32) × (Nat → Nat → Int32)
theorem lp_gt {x : Int32} {k : Nat} (h0 : 0 ≤ x.toInt) (hk : k < 2 ^ 31) (h : x < nI k) : tn x < k := by
  have h1 := Int32.lt_iff_toInt_lt.mp h
  rw [nI_toInt hk] at h1
  have := tn_of h0
  omega
theorem lp_ngt {x : Int32} {k : Nat} (h0 : 0 ≤ x.toInt) (hk : k < 2 ^ 31) (h : ¬ x < nI k) : k ≤ tn x := by
  have h1 : ¬ x.toInt < (nI k).toInt := fun q => h (Int32.lt_iff_toInt_lt.mpr q)
  rw [nI_toInt hk] at h1
  have := tn_of h0
  omega
theorem va_up_id {α : Type} (S : Nat → α) (k : Nat) : va_up S k (S k) = S := by
  funext j; by_cases h : j = k <;> simp [va_up, h]
def rivF (f : Nat → Int32) (lo hi : Nat) (k : Int32) : Nat → Int32 := fun w => if lo ≤ w ∧ w < hi then k else f w
theorem rivF_0 (f : Nat → Int32) (lo : Nat) (k : Int32) : rivF f lo lo k = f := by
  funext w; simp only [rivF]; rw [if_neg (by omega)]
theorem rivF_s (f : Nat → Int32) {lo i : Nat} (k : Int32) (h : lo ≤ i) : upd (rivF f lo i k) i k = rivF f lo (i + 1) k := by
  funext w
  simp only [upd, rivF]
  by_cases h1 : w = i
  · rw [if_pos h1, if_pos (by omega)]
  · rw [if_neg h1]
    by_cases h2 : lo ≤ w ∧ w < i
    · rw [if_pos h2, if_pos (by omega)]
    · rw [if_neg h2, if_neg (by omega)]
def rivB (c : Nat → Int32) (a b k : Int32) : Bool := inB a (c 0) 1039 && inB b a 1039 && inB k 0 3000
def rivS (c : Nat → Int32) (S : Nat → Nat → Int32) (a b k : Int32) : Nat → Nat → Int32 := if rivB c a b k then va_up S 24 (rivF (S 24) (tn a) (tn b + 1) k) else S
theorem inB_of3 {v lo : Int32} {c : Nat → Int32} (h0 : 0 ≤ lo.toInt) (h : inB v lo 1039 = true) : vp_in v 1040 := by
  have h1 := inB_i h
  have h2 : (1039 : Int32).toInt = 1039 := rfl
  exact vp_in_iff.mpr ⟨by omega, by omega⟩
def endN (u : gCS) : Nat → gCS
  | 0 => u
  | k + 1 => (endC (endN u k).1 (endN u k).2 (nI k) ((endN u k).2 24 (tn ((endN u k).1 0))), endS (endN u k).2 (nI k) ((endN u k).2 24 (tn ((endN u k).1 0))))
def wk1 (u : gCS) : gCS := (va_up (endN u 30).1 0 ((endN u 30).1 0 + 1), (endN u 30).2)
def wkN (u : gCS) : Nat → gCS
  | 0 => u
  | k + 1 => wk1 (wkN u k)
theorem endN_c (u : gCS) (j : Nat) (hj : j ≠ 30) : ∀ k, (endN u k).1 j = u.1 j
  | 0 => rfl
  | k + 1 => by
    have ih := endN_c u j hj k
    simp only [endN, endC]
    split
    · exact ih
    · rw [va_up_ne _ _ hj]; exact ih
theorem endN_S (u : gCS) (j : Nat) (h1 : j ≠ 1) (h4 : j ≠ 4) : ∀ k, (endN u k).2 j = u.2 j
  | 0 => rfl
  | k + 1 => by
    have ih := endN_S u j h1 h4 k
    simp only [endN, endS]
    split
    · rw [va_up_ne _ _ h1]; exact ih
    · rw [va_up_ne _ _ h4, va_up_ne _ _ h1]; exact ih
theorem wkN_0 (u : gCS) : ∀ k, (wkN u k).1 0 = u.1 0 + nI k
  | 0 => by rw [nI_0]; exact (Int32.add_zero _).symm
  | k + 1 => by
    have ih := wkN_0 u k
    have h0 := endN_c (wkN u k) 0 (by decide) 30
    simp only [wkN, wk1]
    rw [va_up_self, h0, ih, Int32.add_assoc, nI_1]
theorem wkN_s1 (u : gCS) (k : Nat) : (wkN u (k + 1)).1 = va_up (endN (wkN u k) 30).1 0 ((endN (wkN u k) 30).1 0 + 1) := by simp only [wkN, wk1]
theorem wkN_s2 (u : gCS) (k : Nat) : (wkN u (k + 1)).2 = (endN (wkN u k) 30).2 := by simp only [wkN, wk1]
theorem endN_s1 (u : gCS) (k : Nat) : (endN u (k + 1)).1 = endC (endN u k).1 (endN u k).2 (nI k) ((endN u k).2 24 (tn ((endN u k).1 0))) := rfl
theorem endN_s2 (u : gCS) (k : Nat) : (endN u (k + 1)).2 = endS (endN u k).2 (nI k) ((endN u k).2 24 (tn ((endN u k).1 0))) := rfl
def goB (k : Int32) : Bool := inB k 0 104
def goU (c : Nat → Int32) (S : Nat → Nat → Int32) (k : Int32) : gCS := if goB k then wkN (c, S) (min (tn k) (1040 - tn (c 0))) else (c, S)
def goR (c : Nat → Int32) (S : Nat → Nat → Int32) (k : Int32) : Int32 := if goB k then (goU c S k).1 0 else -1
def papF (c : Nat → Int32) (S : Nat → Nat → Int32) (v : Int32) : Nat → Nat → Int32
  | 0, _ => -1
  | f + 1, w => if S 23 (tn (1040 * v + nI w)) ≤ 6 * vilOf c S v (nI w) then papF c S v f (w + 1) else nI w
def papOf (c : Nat → Int32) (S : Nat → Nat → Int32) (v : Int32) : Int32 := if inB v 0 7 then papF c S v (min 1040 (tn (c 0) + 1)) 0 else -1
theorem did_vp {v : Int32} {w : Nat} (hv : inB v 0 7 = true) (hw : w < 1040) : vp_in (1040 * v + nI w) 8320 := by
  have h1 := inB_i hv
  have e1 : (1040 : Int32).toInt = 1040 := rfl
  have e2 : (0 : Int32).toInt = 0 := rfl
  have e3 : (7 : Int32).toInt = 7 := rfl
  have e4 : (nI w).toInt = w := nI_toInt (by omega)
  have h6 : (1040 * v).toInt = 1040 * v.toInt := by rw [fb_mulI] <;> rw [e1] <;> omega
  exact vp_in_iff.mpr ⟨by rw [fb_addI] <;> omega, by rw [fb_addI] <;> omega⟩
def arrN (c : Nat → Int32) (S : Nat → Nat → Int32) (a b d : Int32) : Nat → Int32
  | 0 => 0
  | v + 1 => if calOf S a (nI v) + hrsOf (S 0 v) (3 * b) 3 ≤ d then arrN c S a b d v + vilOf c S (nI v) (c 0) else arrN c S a b d v
def arrOf (c : Nat → Int32) (S : Nat → Nat → Int32) (a b d : Int32) : Int32 := if inB a 0 7 && inB b 0 29 && inB d 0 100 then arrN c S a b d 8 else -1
def plM (S : Nat → Nat → Int32) (d : Int32) : Nat → Nat → Int32
  | 0, _ => 0
  | k + 1, w => if needOf S (nI k) d = 0 ∨ nI w < needOf S (nI k) d then plM S d k w else if plM S d k (w - tn (needOf S (nI k) d)) + S 3 k ≤ plM S d k w then plM S d k w else plM S d k (w - tn (needOf S (nI k) d)) + S 3 k
def plF (S : Nat → Nat → Int32) (d : Int32) (t : Nat) : Nat → Int32 := fun i => if i < t then plM S d (i / 301) (i % 301) else S 25 i
theorem plF_0 (S : Nat → Nat → Int32) (d : Int32) : plF S d 0 = S 25 := by
  funext i; simp [plF]
theorem plF_in (S : Nat → Nat → Int32) (d : Int32) {t k w : Nat} (h : 301 * k + w < t) (hw : w < 301) : plF S d t (301 * k + w) = plM S d k w := by
  simp only [plF]
  rw [if_pos h, show (301 * k + w) / 301 = k by omega, show (301 * k + w) % 301 = w by omega]
theorem plF_s (S : Nat → Nat → Int32) (d : Int32) {k w : Nat} (hw : w < 301) : upd (plF S d (301 * k + w)) (301 * k + w) (plM S d k w) = plF S d (301 * k + w + 1) := by
  funext i
  simp only [upd]
  by_cases h1 : i = 301 * k + w
  · rw [if_pos h1, h1, plF_in S d (by omega) hw]
  · rw [if_neg h1]
    simp only [plF]
    by_cases h2 : i < 301 * k + w
    · rw [if_pos h2, if_pos (by omega)]
    · rw [if_neg h2, if_neg (by omega)]
def chO (S : Nat → Nat → Int32) (d : Int32) : Nat → Nat → Int32 → Int32
  | 0, _, z => z
  | k + 1, w, z => if plM S d (k + 1) w = plM S d k w then chO S d k w z else chO S d k (w - tn (needOf S (nI k) d)) (z ||| ((1 : Int32) <<< (nI k &&& 31)))
def savB (a b : Int32) : Bool := inB a 0 300 && inB b 0 3000
def savS (S : Nat → Nat → Int32) (a b : Int32) : Nat → Nat → Int32 := if savB a b then va_up S 25 (plF S b 9331) else S
def savR (S : Nat → Nat → Int32) (a b : Int32) : Int32 := if savB a b then plM S b 30 (tn a) else -1
def choR (S : Nat → Nat → Int32) (a b : Int32) : Int32 := if savB a b then chO S b 30 (tn a) 0 else -1

set_option maxHeartbeats 1000000 in
set_option maxRecDepth 100000 in
theorem kX9_river (l : Launch) (E : gT) (A : Nat → Prop) (n : Nat) (o : Nat) (c : Nat → Int32) (S : Nat → Nat → Int32) (a b k : Int32) (hI : mI c S) : gM l yX9_river wsX9_river ({ frames := 1, cells := 0, slots := 0, locals := 22 } : Room) E A n (GM E o c S) [.ref o, .int a, .int b, .int k] (gQi E A (fun r' n' G' => gb (rivB c a b k) = r' ∧ n = n' ∧ (GM E o c (rivS c S a b k)) = G')) 0 0 := by
  refine g_entry (by decide) rfl (Nat.le_of_ble_eq_true rfl) ?_
  intro p e s m below meth c0 hx hb hr hlk hml hown hnm hts hK H locs ls hP hS hl
  have hin9 : ∀ w ∈ u_ws RX9 TX9 35, w ∈ wsX9_river := by decide +kernel
  have hf82 := hts (.fieldLink RX9 82 "DikeHandsModel" "level" "[I") (by decide +kernel)
  have hf96 := hts (.fieldLink RX9 96 "DikeHandsModel" "now" "I") (by decide +kernel)
  have hl : lv_has ls 5 [(0, .ref o), (1, .int a), (2, .int b), (3, .int k)] := hl
  have j0 := hI.1
  have j7 := hI.2.1
  have j12 := hI.2.2.1
  have j18 := hI.2.2.2.1
  have t0_ := tn_of j0.1
  have t7_ := tn_of j7.1
  have t12_ := tn_of j12.1
  have t18_ := tn_of j18.1
  refine lv_iload_n hx hb dX9_river_0 rfl (lv_at hl 1 rfl) ?_
  refine lv_aload_n hx hb dX9_river_1 rfl (lv_at hl 0 rfl) ?_
  refine m_get (v := .int (c 0)) hx hb hts hin9 hown hK hP 0 (by decide) hf96 rfl rfl dX9_river_2 ?_
  refine lv_sipush (v := 1039) hx hb dX9_river_5 (by decide) ?_
  refine g_ci (g_runS (As := [.int a, .int (c 0), .int 1039]) (rest := []) ⟨hx, hb, hml, hown, hts⟩ hK hP (kX9_in l E A n (GM E o c S) a (c 0) 1039) (va_cwS 3 hts gX9_river_X9_in rfl rfl rfl (by decide +kernel) ⟨Nat.le_of_ble_eq_true rfl, Nat.le_of_ble_eq_true rfl⟩) rfl hl.1 rfl (Nat.le_of_ble_eq_true rfl) dX9_river_8 ⟨Nat.le_of_ble_eq_true rfl, Nat.le_of_ble_eq_true rfl⟩) hS (fun r8 n' G' H locs hw hP hS => ?_)
  obtain ⟨rfl, rfl, rfl⟩ := hw
  refine g_ifeq (tgt := 36) hx hb dX9_river_11 (by decide) (fun b11 => ?_) (fun b11 => ?_)
  · refine lv_iconst (v := 0) hx hb dX9_river_36 (by decide) ?_
    refine g_retz hx hb hr hlk hP hS dX9_river_37 rfl ?_
    exact ⟨by first | (simp [rivB, gb, b11]; done) | (exfalso; simp_all; done), rfl, by first | (simp [rivB, rivS, b11]; done) | (exfalso; simp_all; done)⟩
  · refine lv_iload_n hx hb dX9_river_14 rfl (lv_at hl 2 rfl) ?_
    refine lv_iload_n hx hb dX9_river_15 rfl (lv_at hl 1 rfl) ?_
    refine lv_sipush (v := 1039) hx hb dX9_river_16 (by decide) ?_
    refine g_ci (g_runS (As := [.int b, .int a, .int 1039]) (rest := []) ⟨hx, hb, hml, hown, hts⟩ hK hP (kX9_in l E A n (GM E o c S) b a 1039) (va_cwS 3 hts gX9_river_X9_in rfl rfl rfl (by decide +kernel) ⟨Nat.le_of_ble_eq_true rfl, Nat.le_of_ble_eq_true rfl⟩) rfl hl.1 rfl (Nat.le_of_ble_eq_true rfl) dX9_river_19 ⟨Nat.le_of_ble_eq_true rfl, Nat.le_of_ble_eq_true rfl⟩) hS (fun r19 n' G' H locs hw hP hS => ?_)
    obtain ⟨rfl, rfl, rfl⟩ := hw
    refine g_ifeq (tgt := 36) hx hb dX9_river_22 (by decide) (fun b22 => ?_) (fun b22 => ?_)
    · refine lv_iconst (v := 0) hx hb dX9_river_36 (by decide) ?_
      refine g_retz hx hb hr hlk hP hS dX9_river_37 rfl ?_
      exact ⟨by first | (simp [rivB, gb, b11, b22]; done) | (exfalso; simp_all; done), rfl, by first | (simp [rivB, rivS, b11, b22]; done) | (exfalso; simp_all; done)⟩
    · refine lv_iload_n hx hb dX9_river_25 rfl (lv_at hl 3 rfl) ?_
      refine lv_iconst (v := 0) hx hb dX9_river_26 (by decide) ?_
      refine lv_sipush (v := 3000) hx hb dX9_river_27 (by decide) ?_
      refine g_ci (g_runS (As := [.int k, .int 0, .int 3000]) (rest := []) ⟨hx, hb, hml, hown, hts⟩ hK hP (kX9_in l E A n (GM E o c S) k 0 3000) (va_cwS 3 hts gX9_river_X9_in rfl rfl rfl (by decide +kernel) ⟨Nat.le_of_ble_eq_true rfl, Nat.le_of_ble_eq_true rfl⟩) rfl hl.1 rfl (Nat.le_of_ble_eq_true rfl) dX9_river_30 ⟨Nat.le_of_ble_eq_true rfl, Nat.le_of_ble_eq_true rfl⟩) hS (fun r30 n' G' H locs hw hP hS => ?_)
      obtain ⟨rfl, rfl, rfl⟩ := hw
      refine g_ifne (tgt := 38) hx hb dX9_river_33 (by decide) (fun b33 => ?_) (fun b33 => ?_)
      · obtain ⟨ai, hai, rfl⟩ := vp_in_of (inB_of3 (c := c) hI.1.1 b11) (by decide)
        have hb2 : vp_in b 1040 := inB_of3 (c := c) (by rw [nI_toInt (by omega)]; omega) b22
        obtain ⟨bi, hbi, rfl⟩ := vp_in_of hb2 (by decide)
        have hab : ai ≤ bi := by
          have h1 := inB_i b22
          rw [nI_toInt (by omega), nI_toInt (by omega)] at h1
          omega
        have hP : gP E A n (GM E o c (va_up S 24 (rivF (S 24) ai ai k))) H := by rw [rivF_0, va_up_id]; exact hP
        refine lv_iload_n hx hb dX9_river_38 rfl (lv_at hl 1 rfl) ?_
        refine lv_istore (lv' := [(4, .int (nI ai)), (0, .ref o), (1, .int (nI ai)), (2, .int (nI bi)), (3, .int k)]) hx hb dX9_river_39 hl (by decide) rfl (fun ls hl => ?_)
        refine g_loop (τ := Nat) (fun i => ai ≤ i ∧ i ≤ bi + 1) (fun i => bi + 1 - i) (fun i => n) (fun i => GM E o c (va_up S 24 (rivF (S 24) ai i k))) (fun i => 0) (fun i => 0) (fun i => [(0, .ref o), (1, .int (nI ai)), (2, .int (nI bi)), (3, .int k), (4, .int (nI i))]) ?_ ai (⟨Nat.le_refl _, by omega⟩) H locs ls hP hS (lv_sub hl [1, 2, 3, 4, 0] rfl)
        intro i hI41 ih H locs ls hP hS hl
        try dsimp only at hI41
        have hl : lv_has ls 5 [(0, .ref o), (1, .int (nI ai)), (2, .int (nI bi)), (3, .int k), (4, .int (nI i))] := hl
        have hP : gP E A n (GM E o c (va_up S 24 (rivF (S 24) ai i k))) H := hP
        refine lv_iload hx hb dX9_river_41 (lv_at hl 4 rfl) ?_
        refine lv_iload_n hx hb dX9_river_43 rfl (lv_at hl 2 rfl) ?_
        refine lv_icmp_gt (tgt := 61) hx hb dX9_river_44 (by decide) (fun b44 => ?_) (fun b44 => ?_)
        · have hk3 := lp_gt (by rw [nI_toInt (by omega)]; omega) (by omega) b44
          rw [tn_nI (by omega)] at hk3
          have hke : i = bi + 1 := by omega
          subst hke
          refine lv_iconst (v := 1) hx hb dX9_river_61 (by decide) ?_
          refine g_retz hx hb hr hlk hP hS dX9_river_62 rfl ?_
          exact ⟨by first | (simp [rivB, gb, b11, b22, b33]; done) | (exfalso; simp_all; done), rfl, by rw [rivS, if_pos (by first | (simp [rivB, b11, b22, b33]; done) | (exfalso; simp_all; done)), tn_nI (by omega), tn_nI (by omega)]⟩
        · have hk3 := lp_ngt (by rw [nI_toInt (by omega)]; omega) (by omega) b44
          rw [tn_nI (by omega)] at hk3
          refine lv_aload_n hx hb dX9_river_47 rfl (lv_at hl 0 rfl) ?_
          refine m_get (v := .ref (o + 25)) hx hb hts hin9 hown hK hP 28 (by decide) hf82 rfl rfl dX9_river_48 ?_
          refine lv_iload hx hb dX9_river_51 (lv_at hl 4 rfl) ?_
          refine lv_iload_n hx hb dX9_river_53 rfl (lv_at hl 3 rfl) ?_
          refine m_iast_n hx hb hK hP hS 24 1040 rfl (by decide) rfl (by omega) dX9_river_54 (fun H locs hP hS => ?_)
          have hP : gP E A n (GM E o c (va_up (va_up S 24 (rivF (S 24) ai i k)) 24 (upd (rivF (S 24) ai i k) i k))) H := hP
          refine lv_iinc (v := (nI i) + 1) (lv' := [(4, .int ((nI i) + 1)), (0, .ref o), (1, .int (nI ai)), (2, .int (nI bi)), (3, .int k)]) hx hb dX9_river_55 hl (k := 4) rfl rfl (by decide) rfl (fun ls hl => ?_)
          refine lv_goto (tgt := 41) hx hb dX9_river_58 (by decide) ?_
          rw [rivF_s _ _ (by omega), bx_uu] at hP
          refine ih (i + 1) (by omega) (by omega) H locs ls hP hS ?_
          show lv_has ls 5 [(0, .ref o), (1, .int (nI ai)), (2, .int (nI bi)), (3, .int k), (4, .int (nI (i + 1)))]
          rw [← nI_1]
          exact lv_sub hl [1, 2, 3, 4, 0] rfl
      · refine lv_iconst (v := 0) hx hb dX9_river_36 (by decide) ?_
        refine g_retz hx hb hr hlk hP hS dX9_river_37 rfl ?_
        exact ⟨by first | (simp [rivB, gb, b11, b22, b33]; done) | (exfalso; simp_all; done), rfl, by first | (simp [rivB, rivS, b11, b22, b33]; done) | (exfalso; simp_all; done)⟩
set_option maxHeartbeats 1000000 in
set_option maxRecDepth 100000 in
theorem kX9_go (l : Launch) (E : gT) (A : Nat → Prop) (n : Nat) (o : Nat) (c : Nat → Int32) (S : Nat → Nat → Int32) (w : Int32) (hI : mI c S) : gM l yX9_go wsX9_go ({ frames := 1, cells := 0, slots := 0, locals := 22 } : Room) E A n (GM E o c S) [.ref o, .int w] (gQi E A (fun r' n' G' => goR c S w = r' ∧ n = n' ∧ (GM E o ((goU c S w).1) ((goU c S w).2)) = G')) 0 0 := by
  refine g_entry (by decide) rfl (Nat.le_of_ble_eq_true rfl) ?_
  intro p e s m below meth c0 hx hb hr hlk hml hown hnm hts hK H locs ls hP hS hl
  have hin9 : ∀ w ∈ u_ws RX9 TX9 35, w ∈ wsX9_go := by decide +kernel
  have hf82 := hts (.fieldLink RX9 82 "DikeHandsModel" "level" "[I") (by decide +kernel)
  have hf96 := hts (.fieldLink RX9 96 "DikeHandsModel" "now" "I") (by decide +kernel)
  have hl : lv_has ls 4 [(0, .ref o), (1, .int w)] := hl
  have j0 := hI.1
  have j7 := hI.2.1
  have j12 := hI.2.2.1
  have j18 := hI.2.2.2.1
  have t0_ := tn_of j0.1
  have t7_ := tn_of j7.1
  have t12_ := tn_of j12.1
  have t18_ := tn_of j18.1
  refine lv_iload_n hx hb dX9_go_0 rfl (lv_at hl 1 rfl) ?_
  refine lv_iconst (v := 0) hx hb dX9_go_1 (by decide) ?_
  refine lv_bipush (v := 104) hx hb dX9_go_2 (by decide) ?_
  refine g_ci (g_runS (As := [.int w, .int 0, .int 104]) (rest := []) ⟨hx, hb, hml, hown, hts⟩ hK hP (kX9_in l E A n (GM E o c S) w 0 104) (va_cwS 3 hts gX9_go_X9_in rfl rfl rfl (by decide +kernel) ⟨Nat.le_of_ble_eq_true rfl, Nat.le_of_ble_eq_true rfl⟩) rfl hl.1 rfl (Nat.le_of_ble_eq_true rfl) dX9_go_4 ⟨Nat.le_of_ble_eq_true rfl, Nat.le_of_ble_eq_true rfl⟩) hS (fun r4 n' G' H locs hw hP hS => ?_)
  obtain ⟨rfl, rfl, rfl⟩ := hw
  refine g_ifne (tgt := 12) hx hb dX9_go_7 (by decide) (fun b7 => ?_) (fun b7 => ?_)
  · have hw := inB_i b7
    have hw0 : 0 ≤ w.toInt := hw.1
    have hw1 : w.toInt ≤ 104 := hw.2
    have htw := tn_of hw0
    refine lv_iconst (v := 0) hx hb dX9_go_12 (by decide) ?_
    refine lv_istore_n (lv' := [(2, .int 0), (0, .ref o), (1, .int w)]) hx hb dX9_go_13 rfl hl (by decide) rfl (fun ls hl => ?_)
    refine g_loop (τ := Nat) (fun k => k ≤ tn w ∧ k ≤ 1040 - tn (c 0)) (fun k => tn w - k) (fun k => n) (fun k => GM E o (wkN (c, S) k).1 (wkN (c, S) k).2) (fun k => 0) (fun k => 0) (fun k => [(0, .ref o), (1, .int w), (2, .int (nI k))]) ?_ 0 (⟨Nat.zero_le _, Nat.zero_le _⟩) H locs ls hP hS (lv_sub hl [1, 2, 0] rfl)
    intro k hI14 ih H locs ls hP hS hl
    try dsimp only at hI14
    have hl : lv_has ls 4 [(0, .ref o), (1, .int w), (2, .int (nI k))] := hl
    have hP : gP E A n (GM E o (wkN (c, S) k).1 (wkN (c, S) k).2) H := hP
    have hnow : ((wkN (c, S) k).1 0).toInt = (c 0).toInt + k := by
      rw [wkN_0]
      show (c 0 + nI k).toInt = _
      rw [fb_addI] <;> rw [nI_toInt (by omega)] <;> omega
    refine lv_iload_n hx hb dX9_go_14 rfl (lv_at hl 2 rfl) ?_
    refine lv_iload_n hx hb dX9_go_15 rfl (lv_at hl 1 rfl) ?_
    refine lv_icmp_ge (tgt := 73) hx hb dX9_go_16 (by decide) (fun b16 => ?_) (fun b16 => ?_)
    · have hk3 := lp_ge hw0 (by omega) b16
      have hke : k = min (tn w) (1040 - tn (c 0)) := by omega
      refine lv_aload_n hx hb dX9_go_73 rfl (lv_at hl 0 rfl) ?_
      refine m_get (v := .int (((wkN (c, S) k).1) 0)) hx hb hts hin9 hown hK hP 0 (by decide) hf96 rfl rfl dX9_go_74 ?_
      refine g_reti hx hb hr hlk hP hS dX9_go_77 ?_
      have hb7 : goB w = true := b7
      exact ⟨by rw [goR, if_pos hb7, goU, if_pos hb7, ← hke], rfl, by rw [goU, if_pos hb7, ← hke]⟩
    · have hk3 := lp_lt hw0 (by omega) b16
      refine lv_aload_n hx hb dX9_go_19 rfl (lv_at hl 0 rfl) ?_
      refine m_get (v := .int (((wkN (c, S) k).1) 0)) hx hb hts hin9 hown hK hP 0 (by decide) hf96 rfl rfl dX9_go_20 ?_
      refine lv_sipush (v := 1040) hx hb dX9_go_23 (by decide) ?_
      refine lv_icmp_ge (tgt := 73) hx hb dX9_go_26 (by decide) (fun b26 => ?_) (fun b26 => ?_)
      · have hz : (1040 : Int) ≤ ((wkN (c, S) k).1 0).toInt := Int32.le_iff_toInt_le.mp b26
        rw [hnow] at hz
        have hke : k = min (tn w) (1040 - tn (c 0)) := by omega
        refine lv_aload_n hx hb dX9_go_73 rfl (lv_at hl 0 rfl) ?_
        refine m_get (v := .int (((wkN (c, S) k).1) 0)) hx hb hts hin9 hown hK hP 0 (by decide) hf96 rfl rfl dX9_go_74 ?_
        refine g_reti hx hb hr hlk hP hS dX9_go_77 ?_
        have hb7 : goB w = true := b7
        exact ⟨by rw [goR, if_pos hb7, goU, if_pos hb7, ← hke], rfl, by rw [goU, if_pos hb7, ← hke]⟩
      · have hz : ¬ (1040 : Int) ≤ ((wkN (c, S) k).1 0).toInt := fun q => b26 (Int32.le_iff_toInt_le.mpr q)
        rw [hnow] at hz
        have hvn : vp_in ((wkN (c, S) k).1 0) 1040 := vp_in_iff.mpr ⟨by omega, by omega⟩
        refine lv_iconst (v := 0) hx hb dX9_go_29 (by decide) ?_
        refine lv_istore_n (lv' := [(3, .int 0), (0, .ref o), (1, .int w), (2, .int (nI k))]) hx hb dX9_go_30 rfl hl (by decide) rfl (fun ls hl => ?_)
        refine g_loop (τ := Nat) (fun i => i ≤ 30) (fun i => 30 - i) (fun i => n) (fun i => GM E o (endN (wkN (c, S) k) i).1 (endN (wkN (c, S) k) i).2) (fun i => 0) (fun i => 0) (fun i => [(0, .ref o), (1, .int w), (2, .int (nI k)), (3, .int (nI i))]) ?_ 0 (Nat.zero_le _) H locs ls hP hS (lv_sub hl [1, 2, 3, 0] rfl)
        intro i hI31 ih2 H locs ls hP hS hl
        try dsimp only at hI31
        have hl : lv_has ls 4 [(0, .ref o), (1, .int w), (2, .int (nI k)), (3, .int (nI i))] := hl
        have hP : gP E A n (GM E o (endN (wkN (c, S) k) i).1 (endN (wkN (c, S) k) i).2) H := hP
        refine lv_iload_n hx hb dX9_go_31 rfl (lv_at hl 3 rfl) ?_
        refine lv_bipush (v := 30) hx hb dX9_go_32 (by decide) ?_
        refine lv_icmp_ge (tgt := 57) hx hb dX9_go_34 (by decide) (fun b34 => ?_) (fun b34 => ?_)
        · have hk4 := lp_ge (x := 30) (by decide) (by omega) b34
          have hk5 : tn 30 = 30 := by decide
          have hi30 : i = 30 := by omega
          subst hi30
          refine lv_aload_n hx hb dX9_go_57 rfl (lv_at hl 0 rfl) ?_
          refine lv_dup hx hb dX9_go_58 rfl ?_
          refine m_get (v := .int (((endN (wkN (c, S) k) 30).1) 0)) hx hb hts hin9 hown hK hP 0 (by decide) hf96 rfl rfl dX9_go_59 ?_
          refine lv_iconst (v := 1) hx hb dX9_go_62 (by decide) ?_
          refine lv_iadd hx hb dX9_go_63 ?_
          refine m_put hx hb hts hin9 hown hK hP hS 0 (by decide) hf96 rfl rfl (by decide +kernel) rfl dX9_go_64 (fun H locs hP hS => ?_)
          have hP : gP E A n (GM E o (va_up ((endN (wkN (c, S) k) 30).1) 0 ((((endN (wkN (c, S) k) 30).1) 0) + 1)) ((endN (wkN (c, S) k) 30).2)) H := hP
          refine lv_iinc (v := (nI k) + 1) (lv' := [(2, .int ((nI k) + 1)), (0, .ref o), (1, .int w), (3, .int (nI 30))]) hx hb dX9_go_67 hl (k := 2) rfl rfl (by decide) rfl (fun ls hl => ?_)
          refine lv_goto (tgt := 14) hx hb dX9_go_70 (by decide) ?_
          have hP : gP E A n (GM E o (wkN (c, S) (k + 1)).1 (wkN (c, S) (k + 1)).2) H := by rw [wkN_s1, wkN_s2]; exact hP
          refine ih (k + 1) (by omega) (by omega) H locs ls hP hS ?_
          show lv_has ls 4 [(0, .ref o), (1, .int w), (2, .int (nI (k + 1)))]
          rw [← nI_1]
          exact lv_sub hl [1, 2, 0] rfl
        · have hk4 := lp_lt (x := 30) (by decide) (by omega) b34
          have hk5 : tn 30 = 30 := by decide
          have hvn2 : vp_in ((endN (wkN (c, S) k) i).1 0) 1040 := by rw [endN_c _ 0 (by decide)]; exact hvn
          refine lv_aload_n hx hb dX9_go_37 rfl (lv_at hl 0 rfl) ?_
          refine lv_iload_n hx hb dX9_go_38 rfl (lv_at hl 3 rfl) ?_
          refine lv_aload_n hx hb dX9_go_39 rfl (lv_at hl 0 rfl) ?_
          refine m_get (v := .ref (o + 25)) hx hb hts hin9 hown hK hP 28 (by decide) hf82 rfl rfl dX9_go_40 ?_
          refine lv_aload_n hx hb dX9_go_43 rfl (lv_at hl 0 rfl) ?_
          refine m_get (v := .int (((endN (wkN (c, S) k) i).1) 0)) hx hb hts hin9 hown hK hP 0 (by decide) hf96 rfl rfl dX9_go_44 ?_
          refine m_iald hx hb hK hP 24 1040 rfl (by decide) rfl hvn2 dX9_go_47 ?_
          refine g_cv (g_runV (As := [.int (nI i), .int (((endN (wkN (c, S) k) i).2) 24 (tn (((endN (wkN (c, S) k) i).1) 0)))]) (rest := []) ⟨hx, hb, hml, hown, hts⟩ hK hP (kX9_ends l E A n o ((endN (wkN (c, S) k) i).1) ((endN (wkN (c, S) k) i).2) (nI i) (((endN (wkN (c, S) k) i).2) 24 (tn (((endN (wkN (c, S) k) i).1) 0))) (vp_in_nI (by omega) (by decide))) (cwV 2 hts gX9_go_X9_ends rfl rfl rfl (by decide +kernel) ⟨Nat.le_of_ble_eq_true rfl, Nat.le_of_ble_eq_true rfl⟩) GM_o rfl rfl hl.1 rfl (Nat.le_of_ble_eq_true rfl) dX9_go_48 ⟨Nat.le_of_ble_eq_true rfl, Nat.le_of_ble_eq_true rfl⟩) hS (fun n' G' H locs hw hP hS => ?_)
          obtain ⟨rfl, rfl⟩ := hw
          refine lv_iinc (v := (nI i) + 1) (lv' := [(3, .int ((nI i) + 1)), (0, .ref o), (1, .int w), (2, .int (nI k))]) hx hb dX9_go_51 hl (k := 3) rfl rfl (by decide) rfl (fun ls hl => ?_)
          refine lv_goto (tgt := 31) hx hb dX9_go_54 (by decide) ?_
          have hP : gP E A n (GM E o (endN (wkN (c, S) k) (i + 1)).1 (endN (wkN (c, S) k) (i + 1)).2) H := by rw [endN_s1, endN_s2]; exact hP
          refine ih2 (i + 1) (by omega) (by omega) H locs ls hP hS ?_
          show lv_has ls 4 [(0, .ref o), (1, .int w), (2, .int (nI k)), (3, .int (nI (i + 1)))]
          rw [← nI_1]
          exact lv_sub hl [1, 2, 3, 0] rfl
  · refine lv_iconst (v := (-1)) hx hb dX9_go_10 (by decide) ?_
    refine g_reti hx hb hr hlk hP hS dX9_go_11 ?_
    exact ⟨by rw [goR, if_neg (by rw [goB, b7]; decide)], rfl, by rw [goU, if_neg (by rw [goB, b7]; decide)]⟩
set_option maxHeartbeats 1000000 in
set_option maxRecDepth 100000 in
theorem kX9_paperWeek (l : Launch) (E : gT) (A : Nat → Prop) (n : Nat) (o : Nat) (c : Nat → Int32) (S : Nat → Nat → Int32) (v : Int32) (hI : mI c S) : gM l yX9_paperWeek wsX9_paperWeek ({ frames := 2, cells := 0, slots := 0, locals := 49 } : Room) E A n (GM E o c S) [.ref o, .int v] (gQi E A (fun r' n' G' => papOf c S v = r' ∧ n = n' ∧ (GM E o c S) = G')) 0 0 := by
  refine g_entry (by decide) rfl (Nat.le_of_ble_eq_true rfl) ?_
  intro p e s m below meth c0 hx hb hr hlk hml hown hnm hts hK H locs ls hP hS hl
  have hin9 : ∀ w ∈ u_ws RX9 TX9 35, w ∈ wsX9_paperWeek := by decide +kernel
  have hf79 := hts (.fieldLink RX9 79 "DikeHandsModel" "did" "[I") (by decide +kernel)
  have hf96 := hts (.fieldLink RX9 96 "DikeHandsModel" "now" "I") (by decide +kernel)
  have hl : lv_has ls 3 [(0, .ref o), (1, .int v)] := hl
  have j0 := hI.1
  have j7 := hI.2.1
  have j12 := hI.2.2.1
  have j18 := hI.2.2.2.1
  have t0_ := tn_of j0.1
  have t7_ := tn_of j7.1
  have t12_ := tn_of j12.1
  have t18_ := tn_of j18.1
  refine lv_iload_n hx hb dX9_paperWeek_0 rfl (lv_at hl 1 rfl) ?_
  refine g_ci (g_runS (As := [.int v]) (rest := []) ⟨hx, hb, hml, hown, hts⟩ hK hP (kX9_isVillage l E A n (GM E o c S) v) (va_cwS 1 hts gX9_paperWeek_X9_isVillage rfl rfl rfl (by decide +kernel) ⟨Nat.le_of_ble_eq_true rfl, Nat.le_of_ble_eq_true rfl⟩) rfl hl.1 rfl (Nat.le_of_ble_eq_true rfl) dX9_paperWeek_1 ⟨Nat.le_of_ble_eq_true rfl, Nat.le_of_ble_eq_true rfl⟩) hS (fun r1 n' G' H locs hw hP hS => ?_)
  obtain ⟨rfl, rfl, rfl⟩ := hw
  refine g_ifne (tgt := 9) hx hb dX9_paperWeek_4 (by decide) (fun b4 => ?_) (fun b4 => ?_)
  · refine lv_iconst (v := 0) hx hb dX9_paperWeek_9 (by decide) ?_
    refine lv_istore_n (lv' := [(2, .int 0), (0, .ref o), (1, .int v)]) hx hb dX9_paperWeek_10 rfl hl (by decide) rfl (fun ls hl => ?_)
    refine g_loop (τ := Nat) (fun w => w ≤ min 1040 (tn (c 0) + 1) ∧ papF c S v (min 1040 (tn (c 0) + 1)) 0 = papF c S v (min 1040 (tn (c 0) + 1) - w) w) (fun w => min 1040 (tn (c 0) + 1) - w) (fun w => n) (fun w => (GM E o c S)) (fun w => 0) (fun w => 0) (fun w => [(0, .ref o), (1, .int v), (2, .int (nI w))]) ?_ 0 (⟨Nat.zero_le _, rfl⟩) H locs ls hP hS (lv_sub hl [1, 2, 0] rfl)
    intro w hI11 ih H locs ls hP hS hl
    try dsimp only at hI11
    have hl : lv_has ls 3 [(0, .ref o), (1, .int v), (2, .int (nI w))] := hl
    have hP : gP E A n (GM E o c S) H := hP
    refine lv_iload_n hx hb dX9_paperWeek_11 rfl (lv_at hl 2 rfl) ?_
    refine lv_sipush (v := 1040) hx hb dX9_paperWeek_12 (by decide) ?_
    refine lv_icmp_ge (tgt := 58) hx hb dX9_paperWeek_15 (by decide) (fun b15 => ?_) (fun b15 => ?_)
    · have hk3 := lp_ge (x := 1040) (by decide) (by omega) b15
      have hk5 : tn 1040 = 1040 := by decide
      refine lv_iconst (v := (-1)) hx hb dX9_paperWeek_58 (by decide) ?_
      refine g_reti hx hb hr hlk hP hS dX9_paperWeek_59 ?_
      refine ⟨?_, rfl, rfl⟩
      rw [papOf, if_pos b4, hI11.2, show min 1040 (tn (c 0) + 1) - w = 0 by omega, papF]
    · have hk3 := lp_lt (x := 1040) (by decide) (by omega) b15
      have hk5 : tn 1040 = 1040 := by decide
      refine lv_iload_n hx hb dX9_paperWeek_18 rfl (lv_at hl 2 rfl) ?_
      refine lv_aload_n hx hb dX9_paperWeek_19 rfl (lv_at hl 0 rfl) ?_
      refine m_get (v := .int (c 0)) hx hb hts hin9 hown hK hP 0 (by decide) hf96 rfl rfl dX9_paperWeek_20 ?_
      refine lv_icmp_gt (tgt := 58) hx hb dX9_paperWeek_23 (by decide) (fun b23 => ?_) (fun b23 => ?_)
      · have hk4 := lp_gt j0.1 (by omega) b23
        refine lv_iconst (v := (-1)) hx hb dX9_paperWeek_58 (by decide) ?_
        refine g_reti hx hb hr hlk hP hS dX9_paperWeek_59 ?_
        refine ⟨?_, rfl, rfl⟩
        rw [papOf, if_pos b4, hI11.2, show min 1040 (tn (c 0) + 1) - w = 0 by omega, papF]
      · have hk4 := lp_ngt j0.1 (by omega) b23
        refine lv_aload_n hx hb dX9_paperWeek_26 rfl (lv_at hl 0 rfl) ?_
        refine m_get (v := .ref (o + 24)) hx hb hts hin9 hown hK hP 27 (by decide) hf79 rfl rfl dX9_paperWeek_27 ?_
        refine lv_sipush (v := 1040) hx hb dX9_paperWeek_30 (by decide) ?_
        refine lv_iload_n hx hb dX9_paperWeek_33 rfl (lv_at hl 1 rfl) ?_
        refine lv_imul hx hb dX9_paperWeek_34 ?_
        refine lv_iload_n hx hb dX9_paperWeek_35 rfl (lv_at hl 2 rfl) ?_
        refine lv_iadd hx hb dX9_paperWeek_36 ?_
        refine m_iald hx hb hK hP 23 8320 rfl (by decide) rfl (did_vp b4 (by omega)) dX9_paperWeek_37 ?_
        refine lv_bipush (v := 6) hx hb dX9_paperWeek_38 (by decide) ?_
        refine lv_aload_n hx hb dX9_paperWeek_40 rfl (lv_at hl 0 rfl) ?_
        refine lv_iload_n hx hb dX9_paperWeek_41 rfl (lv_at hl 1 rfl) ?_
        refine lv_iload_n hx hb dX9_paperWeek_42 rfl (lv_at hl 2 rfl) ?_
        refine g_ci (g_runV (As := [.int v, .int (nI w)]) (rest := [.int 6, .int (S 23 (tn ((1040 * v) + (nI w))))]) ⟨hx, hb, hml, hown, hts⟩ hK hP (kX9_villageHands l E A n o c S v (nI w) hI) (cwV 2 hts gX9_paperWeek_X9_villageHands rfl rfl rfl (by decide +kernel) ⟨Nat.le_of_ble_eq_true rfl, Nat.le_of_ble_eq_true rfl⟩) GM_o rfl rfl hl.1 rfl (Nat.le_of_ble_eq_true rfl) dX9_paperWeek_43 ⟨Nat.le_of_ble_eq_true rfl, Nat.le_of_ble_eq_true rfl⟩) hS (fun r43 n' G' H locs hw hP hS => ?_)
        obtain ⟨rfl, rfl, rfl⟩ := hw
        refine lv_imul hx hb dX9_paperWeek_46 ?_
        refine lv_icmp_le (tgt := 52) hx hb dX9_paperWeek_47 (by decide) (fun b47 => ?_) (fun b47 => ?_)
        · refine lv_iinc (v := (nI w) + 1) (lv' := [(2, .int ((nI w) + 1)), (0, .ref o), (1, .int v)]) hx hb dX9_paperWeek_52 hl (k := 2) rfl rfl (by decide) rfl (fun ls hl => ?_)
          refine lv_goto (tgt := 11) hx hb dX9_paperWeek_55 (by decide) ?_
          have hstep : papF c S v (min 1040 (tn (c 0) + 1) - w) w = papF c S v (min 1040 (tn (c 0) + 1) - (w + 1)) (w + 1) := by
            rw [show min 1040 (tn (c 0) + 1) - w = (min 1040 (tn (c 0) + 1) - (w + 1)) + 1 by omega, papF, if_pos b47]
          refine ih (w + 1) (⟨by omega, hI11.2.trans hstep⟩) (by omega) H locs ls hP hS ?_
          show lv_has ls 3 [(0, .ref o), (1, .int v), (2, .int (nI (w + 1)))]
          rw [← nI_1]
          exact lv_sub hl [1, 2, 0] rfl
        · refine lv_iload_n hx hb dX9_paperWeek_50 rfl (lv_at hl 2 rfl) ?_
          refine g_reti hx hb hr hlk hP hS dX9_paperWeek_51 ?_
          refine ⟨?_, rfl, rfl⟩
          rw [papOf, if_pos b4, hI11.2, show min 1040 (tn (c 0) + 1) - w = (min 1040 (tn (c 0) + 1) - (w + 1)) + 1 by omega, papF, if_neg b47]
  · refine lv_iconst (v := (-1)) hx hb dX9_paperWeek_7 (by decide) ?_
    refine g_reti hx hb hr hlk hP hS dX9_paperWeek_8 ?_
    exact ⟨by rw [papOf, if_neg (by rw [b4]; decide)], rfl, rfl⟩
set_option maxHeartbeats 1000000 in
set_option maxRecDepth 100000 in
theorem kX9_paper (l : Launch) (E : gT) (A : Nat → Prop) (n : Nat) (o : Nat) (c : Nat → Int32) (S : Nat → Nat → Int32) (v : Int32) (hI : mI c S) : gM l yX9_paper wsX9_paper ({ frames := 3, cells := 0, slots := 0, locals := 71 } : Room) E A n (GM E o c S) [.ref o, .int v] (gQi E A (fun r' n' G' => gb (!decide (papOf c S v = -1)) = r' ∧ n = n' ∧ (GM E o c S) = G')) 0 0 := by
  refine g_entry (by decide) rfl (Nat.le_of_ble_eq_true rfl) ?_
  intro p e s m below meth c0 hx hb hr hlk hml hown hnm hts hK H locs ls hP hS hl
  have hl : lv_has ls 2 [(0, .ref o), (1, .int v)] := hl
  refine lv_aload_n hx hb dX9_paper_0 rfl (lv_at hl 0 rfl) ?_
  refine lv_iload_n hx hb dX9_paper_1 rfl (lv_at hl 1 rfl) ?_
  refine g_ci (g_runV (As := [.int v]) (rest := []) ⟨hx, hb, hml, hown, hts⟩ hK hP (kX9_paperWeek l E A n o c S v hI) (cwV 1 hts gX9_paper_X9_paperWeek rfl rfl rfl (by decide +kernel) ⟨Nat.le_of_ble_eq_true rfl, Nat.le_of_ble_eq_true rfl⟩) GM_o rfl rfl hl.1 rfl (Nat.le_of_ble_eq_true rfl) dX9_paper_2 ⟨Nat.le_of_ble_eq_true rfl, Nat.le_of_ble_eq_true rfl⟩) hS (fun r2 n' G' H locs hw hP hS => ?_)
  obtain ⟨rfl, rfl, rfl⟩ := hw
  refine lv_iconst (v := (-1)) hx hb dX9_paper_5 (by decide) ?_
  refine lv_icmp_eq (tgt := 13) hx hb dX9_paper_6 (by decide) (fun b6 => ?_) (fun b6 => ?_)
  · refine lv_iconst (v := 0) hx hb dX9_paper_13 (by decide) ?_
    refine g_retz hx hb hr hlk hP hS dX9_paper_14 rfl ?_
    exact ⟨by first | (simp [gb, b6]; done) | (exfalso; simp_all; done), rfl, rfl⟩
  · refine lv_iconst (v := 1) hx hb dX9_paper_9 (by decide) ?_
    refine lv_goto (tgt := 14) hx hb dX9_paper_10 (by decide) ?_
    refine g_retz hx hb hr hlk hP hS dX9_paper_14 rfl ?_
    exact ⟨by first | (simp [gb, b6]; done) | (exfalso; simp_all; done), rfl, rfl⟩
set_option maxHeartbeats 1000000 in
set_option maxRecDepth 100000 in
theorem kX9_arrived (l : Launch) (E : gT) (A : Nat → Prop) (n : Nat) (o : Nat) (c : Nat → Int32) (S : Nat → Nat → Int32) (a b d : Int32) (hI : mI c S) : gM l yX9_arrived wsX9_arrived ({ frames := 3, cells := 0, slots := 0, locals := 64 } : Room) E A n (GM E o c S) [.ref o, .int a, .int b, .int d] (gQi E A (fun r' n' G' => arrOf c S a b d = r' ∧ n = n' ∧ (GM E o c S) = G')) 0 0 := by
  refine g_entry (by decide) rfl (Nat.le_of_ble_eq_true rfl) ?_
  intro p e s m below meth c0 hx hb hr hlk hml hown hnm hts hK H locs ls hP hS hl
  have hin9 : ∀ w ∈ u_ws RX9 TX9 35, w ∈ wsX9_arrived := by decide +kernel
  have hf9 := hts (.fieldLink RX9 9 "DikeHandsModel" "mile" "[I") (by decide +kernel)
  have hf96 := hts (.fieldLink RX9 96 "DikeHandsModel" "now" "I") (by decide +kernel)
  have hl : lv_has ls 6 [(0, .ref o), (1, .int a), (2, .int b), (3, .int d)] := hl
  have j0 := hI.1
  have j7 := hI.2.1
  have j12 := hI.2.2.1
  have j18 := hI.2.2.2.1
  have t0_ := tn_of j0.1
  have t7_ := tn_of j7.1
  have t12_ := tn_of j12.1
  have t18_ := tn_of j18.1
  refine lv_iload_n hx hb dX9_arrived_0 rfl (lv_at hl 1 rfl) ?_
  refine g_ci (g_runS (As := [.int a]) (rest := []) ⟨hx, hb, hml, hown, hts⟩ hK hP (kX9_isVillage l E A n (GM E o c S) a) (va_cwS 1 hts gX9_arrived_X9_isVillage rfl rfl rfl (by decide +kernel) ⟨Nat.le_of_ble_eq_true rfl, Nat.le_of_ble_eq_true rfl⟩) rfl hl.1 rfl (Nat.le_of_ble_eq_true rfl) dX9_arrived_1 ⟨Nat.le_of_ble_eq_true rfl, Nat.le_of_ble_eq_true rfl⟩) hS (fun r1 n' G' H locs hw hP hS => ?_)
  obtain ⟨rfl, rfl, rfl⟩ := hw
  refine g_ifeq (tgt := 24) hx hb dX9_arrived_4 (by decide) (fun b4 => ?_) (fun b4 => ?_)
  · refine lv_iconst (v := (-1)) hx hb dX9_arrived_24 (by decide) ?_
    refine g_reti hx hb hr hlk hP hS dX9_arrived_25 ?_
    exact ⟨by first | (simp [arrOf, b4]; done) | (exfalso; simp_all; done), rfl, rfl⟩
  · refine lv_iload_n hx hb dX9_arrived_7 rfl (lv_at hl 2 rfl) ?_
    refine g_ci (g_runS (As := [.int b]) (rest := []) ⟨hx, hb, hml, hown, hts⟩ hK hP (kX9_isRod l E A n (GM E o c S) b) (va_cwS 1 hts gX9_arrived_X9_isRod rfl rfl rfl (by decide +kernel) ⟨Nat.le_of_ble_eq_true rfl, Nat.le_of_ble_eq_true rfl⟩) rfl hl.1 rfl (Nat.le_of_ble_eq_true rfl) dX9_arrived_8 ⟨Nat.le_of_ble_eq_true rfl, Nat.le_of_ble_eq_true rfl⟩) hS (fun r8 n' G' H locs hw hP hS => ?_)
    obtain ⟨rfl, rfl, rfl⟩ := hw
    refine g_ifeq (tgt := 24) hx hb dX9_arrived_11 (by decide) (fun b11 => ?_) (fun b11 => ?_)
    · refine lv_iconst (v := (-1)) hx hb dX9_arrived_24 (by decide) ?_
      refine g_reti hx hb hr hlk hP hS dX9_arrived_25 ?_
      exact ⟨by first | (simp [arrOf, b4, b11]; done) | (exfalso; simp_all; done), rfl, rfl⟩
    · refine lv_iload_n hx hb dX9_arrived_14 rfl (lv_at hl 3 rfl) ?_
      refine lv_iconst (v := 0) hx hb dX9_arrived_15 (by decide) ?_
      refine lv_bipush (v := 100) hx hb dX9_arrived_16 (by decide) ?_
      refine g_ci (g_runS (As := [.int d, .int 0, .int 100]) (rest := []) ⟨hx, hb, hml, hown, hts⟩ hK hP (kX9_in l E A n (GM E o c S) d 0 100) (va_cwS 3 hts gX9_arrived_X9_in rfl rfl rfl (by decide +kernel) ⟨Nat.le_of_ble_eq_true rfl, Nat.le_of_ble_eq_true rfl⟩) rfl hl.1 rfl (Nat.le_of_ble_eq_true rfl) dX9_arrived_18 ⟨Nat.le_of_ble_eq_true rfl, Nat.le_of_ble_eq_true rfl⟩) hS (fun r18 n' G' H locs hw hP hS => ?_)
      obtain ⟨rfl, rfl, rfl⟩ := hw
      refine g_ifne (tgt := 26) hx hb dX9_arrived_21 (by decide) (fun b21 => ?_) (fun b21 => ?_)
      · refine lv_iconst (v := 0) hx hb dX9_arrived_26 (by decide) ?_
        refine lv_istore (lv' := [(4, .int 0), (0, .ref o), (1, .int a), (2, .int b), (3, .int d)]) hx hb dX9_arrived_27 hl (by decide) rfl (fun ls hl => ?_)
        refine lv_iconst (v := 0) hx hb dX9_arrived_29 (by decide) ?_
        refine lv_istore (lv' := [(5, .int 0), (4, .int 0), (0, .ref o), (1, .int a), (2, .int b), (3, .int d)]) hx hb dX9_arrived_30 hl (by decide) rfl (fun ls hl => ?_)
        refine g_loop (τ := Nat) (fun v => v ≤ 8) (fun v => 8 - v) (fun v => n) (fun v => (GM E o c S)) (fun v => 0) (fun v => 0) (fun v => [(0, .ref o), (1, .int a), (2, .int b), (3, .int d), (4, .int (arrN c S a b d v)), (5, .int (nI v))]) ?_ 0 (Nat.zero_le _) H locs ls hP hS (lv_sub hl [2, 3, 4, 5, 1, 0] rfl)
        intro v hI32 ih H locs ls hP hS hl
        try dsimp only at hI32
        have hl : lv_has ls 6 [(0, .ref o), (1, .int a), (2, .int b), (3, .int d), (4, .int (arrN c S a b d v)), (5, .int (nI v))] := hl
        have hP : gP E A n (GM E o c S) H := hP
        refine lv_iload hx hb dX9_arrived_32 (lv_at hl 5 rfl) ?_
        refine lv_bipush (v := 8) hx hb dX9_arrived_34 (by decide) ?_
        refine lv_icmp_ge (tgt := 86) hx hb dX9_arrived_36 (by decide) (fun b36 => ?_) (fun b36 => ?_)
        · have hk3 := lp_ge (x := 8) (by decide) (by omega) b36
          have hk5 : tn 8 = 8 := by decide
          have hke : v = 8 := by omega
          subst hke
          refine lv_iload hx hb dX9_arrived_86 (lv_at hl 4 rfl) ?_
          refine g_reti hx hb hr hlk hP hS dX9_arrived_88 ?_
          exact ⟨by first | (simp [arrOf, b4, b11, b21]; done) | (exfalso; simp_all; done), rfl, rfl⟩
        · have hk3 := lp_lt (x := 8) (by decide) (by omega) b36
          have hk5 : tn 8 = 8 := by decide
          refine lv_aload_n hx hb dX9_arrived_39 rfl (lv_at hl 0 rfl) ?_
          refine lv_iload_n hx hb dX9_arrived_40 rfl (lv_at hl 1 rfl) ?_
          refine lv_iload hx hb dX9_arrived_41 (lv_at hl 5 rfl) ?_
          refine g_ci (g_runV (As := [.int a, .int (nI v)]) (rest := []) ⟨hx, hb, hml, hown, hts⟩ hK hP (kX9_called l E A n o c S a (nI v) ) (cwV 2 hts gX9_arrived_X9_called rfl rfl rfl (by decide +kernel) ⟨Nat.le_of_ble_eq_true rfl, Nat.le_of_ble_eq_true rfl⟩) GM_o rfl rfl hl.1 rfl (Nat.le_of_ble_eq_true rfl) dX9_arrived_43 ⟨Nat.le_of_ble_eq_true rfl, Nat.le_of_ble_eq_true rfl⟩) hS (fun r43 n' G' H locs hw hP hS => ?_)
          obtain ⟨rfl, rfl, rfl⟩ := hw
          refine lv_aload_n hx hb dX9_arrived_46 rfl (lv_at hl 0 rfl) ?_
          refine m_get (v := .ref (o + 1)) hx hb hts hin9 hown hK hP 1 (by decide) hf9 rfl rfl dX9_arrived_47 ?_
          refine lv_iload hx hb dX9_arrived_50 (lv_at hl 5 rfl) ?_
          refine m_iald_n hx hb hK hP 0 8 rfl (by decide) rfl (by omega) dX9_arrived_52 ?_
          refine lv_iconst (v := 3) hx hb dX9_arrived_53 (by decide) ?_
          refine lv_iload_n hx hb dX9_arrived_54 rfl (lv_at hl 2 rfl) ?_
          refine lv_imul hx hb dX9_arrived_55 ?_
          refine lv_iconst (v := 3) hx hb dX9_arrived_56 (by decide) ?_
          refine g_ci (g_runS (As := [.int (S 0 v), .int (3 * b), .int 3]) (rest := [.int (calOf S a (nI v))]) ⟨hx, hb, hml, hown, hts⟩ hK hP (kX9_hours l E A n (GM E o c S) (S 0 v) (3 * b) 3 (by decide)) (va_cwS 3 hts gX9_arrived_X9_hours rfl rfl rfl (by decide +kernel) ⟨Nat.le_of_ble_eq_true rfl, Nat.le_of_ble_eq_true rfl⟩) rfl hl.1 rfl (Nat.le_of_ble_eq_true rfl) dX9_arrived_57 ⟨Nat.le_of_ble_eq_true rfl, Nat.le_of_ble_eq_true rfl⟩) hS (fun r57 n' G' H locs hw hP hS => ?_)
          obtain ⟨rfl, rfl, rfl⟩ := hw
          refine lv_iadd hx hb dX9_arrived_60 ?_
          refine lv_iload_n hx hb dX9_arrived_61 rfl (lv_at hl 3 rfl) ?_
          refine lv_icmp_gt (tgt := 80) hx hb dX9_arrived_62 (by decide) (fun b62 => ?_) (fun b62 => ?_)
          · refine lv_iinc (v := (nI v) + 1) (lv' := [(5, .int ((nI v) + 1)), (0, .ref o), (1, .int a), (2, .int b), (3, .int d), (4, .int (arrN c S a b d v))]) hx hb dX9_arrived_80 hl (k := 5) rfl rfl (by decide) rfl (fun ls hl => ?_)
            refine lv_goto (tgt := 32) hx hb dX9_arrived_83 (by decide) ?_
            refine ih (v + 1) (by omega) (by omega) H locs ls hP hS ?_
            show lv_has ls 6 [(0, .ref o), (1, .int a), (2, .int b), (3, .int d), (4, .int (arrN c S a b d (v + 1))), (5, .int (nI (v + 1)))]
            rw [show arrN c S a b d (v + 1) = arrN c S a b d v from by first | (simp [arrN, b4, b11, b21, b36, Int32.not_le.mp b36, b62, Int32.not_le.mpr b62]; done) | (exfalso; simp_all; done), ← nI_1]
            exact lv_sub hl [1, 2, 3, 4, 5, 0] rfl
          · refine lv_iload hx hb dX9_arrived_65 (lv_at hl 4 rfl) ?_
            refine lv_aload_n hx hb dX9_arrived_67 rfl (lv_at hl 0 rfl) ?_
            refine lv_iload hx hb dX9_arrived_68 (lv_at hl 5 rfl) ?_
            refine lv_aload_n hx hb dX9_arrived_70 rfl (lv_at hl 0 rfl) ?_
            refine m_get (v := .int (c 0)) hx hb hts hin9 hown hK hP 0 (by decide) hf96 rfl rfl dX9_arrived_71 ?_
            refine g_ci (g_runV (As := [.int (nI v), .int (c 0)]) (rest := [.int (arrN c S a b d v)]) ⟨hx, hb, hml, hown, hts⟩ hK hP (kX9_villageHands l E A n o c S (nI v) (c 0) hI) (cwV 2 hts gX9_arrived_X9_villageHands rfl rfl rfl (by decide +kernel) ⟨Nat.le_of_ble_eq_true rfl, Nat.le_of_ble_eq_true rfl⟩) GM_o rfl rfl hl.1 rfl (Nat.le_of_ble_eq_true rfl) dX9_arrived_74 ⟨Nat.le_of_ble_eq_true rfl, Nat.le_of_ble_eq_true rfl⟩) hS (fun r74 n' G' H locs hw hP hS => ?_)
            obtain ⟨rfl, rfl, rfl⟩ := hw
            refine lv_iadd hx hb dX9_arrived_77 ?_
            refine lv_istore (lv' := [(4, .int ((arrN c S a b d v) + (vilOf c S (nI v) (c 0)))), (0, .ref o), (1, .int a), (2, .int b), (3, .int d), (5, .int (nI v))]) hx hb dX9_arrived_78 hl (by decide) rfl (fun ls hl => ?_)
            refine lv_iinc (v := (nI v) + 1) (lv' := [(5, .int ((nI v) + 1)), (4, .int ((arrN c S a b d v) + (vilOf c S (nI v) (c 0)))), (0, .ref o), (1, .int a), (2, .int b), (3, .int d)]) hx hb dX9_arrived_80 hl (k := 5) rfl rfl (by decide) rfl (fun ls hl => ?_)
            refine lv_goto (tgt := 32) hx hb dX9_arrived_83 (by decide) ?_
            refine ih (v + 1) (by omega) (by omega) H locs ls hP hS ?_
            show lv_has ls 6 [(0, .ref o), (1, .int a), (2, .int b), (3, .int d), (4, .int (arrN c S a b d (v + 1))), (5, .int (nI (v + 1)))]
            rw [show arrN c S a b d (v + 1) = (arrN c S a b d v) + (vilOf c S (nI v) (c 0)) from by first | (simp [arrN, b4, b11, b21, b36, Int32.not_le.mp b36, b62, Int32.not_lt.mp b62]; done) | (exfalso; simp_all; done), ← nI_1]
            exact lv_sub hl [2, 3, 4, 5, 1, 0] rfl
      · refine lv_iconst (v := (-1)) hx hb dX9_arrived_24 (by decide) ?_
        refine g_reti hx hb hr hlk hP hS dX9_arrived_25 ?_
        exact ⟨by first | (simp [arrOf, b4, b11, b21]; done) | (exfalso; simp_all; done), rfl, rfl⟩
