set_option maxHeartbeats 4000000 in
set_option maxRecDepth 100000 in
theorem lw_known {s : State} {b : Nat} (hts : ∀ w ∈ lw_tbl, w.before #[Value.ref b] s = true) : ∃ E : gT, gK E s := by
  obtain ⟨c0, j0, k0⟩ := u_known (C := RX0) (T := TX0) (N := 8) (n := 8) hts inX0 (hts (.instantiable RX0 8) (by decide +kernel))
  obtain ⟨c1, j1, k1⟩ := u_known (C := RX1) (T := TX1) (N := 5) (n := 5) hts inX1 (hts (.instantiable RX1 5) (by decide +kernel))
  obtain ⟨c2, j2, k2⟩ := u_known (C := RX2) (T := TX2) (N := 3) (n := 3) hts inX2 (hts (.instantiable RX2 3) (by decide +kernel))
  obtain ⟨c3, j3, k3⟩ := u_known (C := RX3) (T := TX3) (N := 1) (n := 1) hts inX3 (hts (.instantiable RX3 1) (by decide +kernel))
  obtain ⟨c4, j4, k4⟩ := u_known (C := RX4) (T := TX4) (N := 5) (n := 5) hts inX4 (hts (.instantiable RX4 5) (by decide +kernel))
  obtain ⟨c5, j5, k5⟩ := u_known (C := RX5) (T := TX5) (N := 5) (n := 5) hts inX5 (hts (.instantiable RX5 5) (by decide +kernel))
  obtain ⟨c6, j6, k6⟩ := u_known (C := RX6) (T := TX6) (N := 3) (n := 3) hts inX6 (hts (.instantiable RX6 3) (by decide +kernel))
  obtain ⟨c7, j7, k7⟩ := u_known (C := RX7) (T := TX7) (N := 3) (n := 3) hts inX7 (hts (.instantiable RX7 3) (by decide +kernel))
  obtain ⟨c8, j8, k8⟩ := u_known (C := RX8) (T := TX8) (N := 14) (n := 14) hts inX8 (hts (.instantiable RX8 14) (by decide +kernel))
  obtain ⟨c9, j9, k9⟩ := u_known (C := RX9) (T := TX9) (N := 35) (n := 35) hts inX9 (hts (.instantiable RX9 35) (by decide +kernel))
  obtain ⟨a0, kA0, comp0, f0, g0, h0⟩ := Cond.arrayClass_spec (hts (.arrayClass .int) (by decide +kernel))
  obtain ⟨a1, kA1, comp1, f1, g1, h1⟩ := Cond.arrayClass_spec (hts (.arrayClass .long) (by decide +kernel))
  have w2 : (Cond.arrayOver (.object RX0)).before #[Value.ref b] s = true := hts (.arrayOver (.object RX0)) (by decide +kernel)
  obtain ⟨comp2, a2, kA2, f2, -, g2, h2, m2⟩ := Cond.arrayOver_spec w2
  have w3 : (Cond.arrayOver (.object RX1)).before #[Value.ref b] s = true := hts (.arrayOver (.object RX1)) (by decide +kernel)
  obtain ⟨comp3, a3, kA3, f3, -, g3, h3, m3⟩ := Cond.arrayOver_spec w3
  have w4 : (Cond.arrayOver (.object RX4)).before #[Value.ref b] s = true := hts (.arrayOver (.object RX4)) (by decide +kernel)
  obtain ⟨comp4, a4, kA4, f4, -, g4, h4, m4⟩ := Cond.arrayOver_spec w4
  have w5 : (Cond.arrayOver (.object RX6)).before #[Value.ref b] s = true := hts (.arrayOver (.object RX6)) (by decide +kernel)
  obtain ⟨comp5, a5, kA5, f5, -, g5, h5, m5⟩ := Cond.arrayOver_spec w5
  refine ⟨((fun k => match k with | 0 => c0 | 1 => c1 | 2 => c2 | 3 => c3 | 4 => c4 | 5 => c5 | 6 => c6 | 7 => c7 | 8 => c8 | _ => c9, fun k => match k with | 0 => j0 | 1 => j1 | 2 => j2 | 3 => j3 | 4 => j4 | 5 => j5 | 6 => j6 | 7 => j7 | 8 => j8 | _ => j9), fun k => match k with | 0 => a0 | 1 => a1 | 2 => a2 | 3 => a3 | 4 => a4 | _ => a5), ⟨?_, ?_⟩, ?_⟩
  · intro k q hq
    match k, hq with
    | 0, hq => cases hq; exact k0
    | 1, hq => cases hq; exact k1
    | 2, hq => cases hq; exact k2
    | 3, hq => cases hq; exact k3
    | 4, hq => cases hq; exact k4
    | 5, hq => cases hq; exact k5
    | 6, hq => cases hq; exact k6
    | 7, hq => cases hq; exact k7
    | 8, hq => cases hq; exact k8
    | 9, hq => cases hq; exact k9
    | k + 10, hq => simp [cls] at hq
  · intro k q hq
    match k, hq with
    | 0, hq => cases hq; exact ⟨fun n z => ⟨(fun k h => by cases h), kA0, g0, comp0, h0⟩, f0⟩
    | 1, hq => cases hq; exact ⟨fun n z => ⟨(fun k h => by cases h), kA1, g1, comp1, h1⟩, f1⟩
    | 2, hq => cases hq; exact ⟨fun n z => ⟨(fun k h => by cases h), kA2, g2, comp2, h2⟩, kA2, comp2, g2, h2, f2, m2⟩
    | 3, hq => cases hq; exact ⟨fun n z => ⟨(fun k h => by cases h), kA3, g3, comp3, h3⟩, kA3, comp3, g3, h3, f3, m3⟩
    | 4, hq => cases hq; exact ⟨fun n z => ⟨(fun k h => by cases h), kA4, g4, comp4, h4⟩, kA4, comp4, g4, h4, f4, m4⟩
    | 5, hq => cases hq; exact ⟨fun n z => ⟨(fun k h => by cases h), kA5, g5, comp5, h5⟩, kA5, comp5, g5, h5, f5, m5⟩
    | k + 6, hq => simp at hq
  · exact ⟨va_Nw.of rfl (hts (.methodLinkNest RX8 29 yX2_init RX8) (by decide +kernel)), va_Nw.of rfl (hts (.methodLinkNest RX8 36 yX3_init RX8) (by decide +kernel)), va_Nw.of rfl (hts (.methodLinkNest RX8 70 yX6_init RX8) (by decide +kernel)), va_Nw.of rfl (hts (.methodLinkNest RX8 71 yX4_init RX8) (by decide +kernel)), va_Nw.of rfl (hts (.methodLinkNest RX1 28 yX8_isWithin RX8) (by decide +kernel)), va_Nw.of rfl (hts (.methodLinkNest RX4 35 yX8_dividedUp RX8) (by decide +kernel)), va_Nw.of rfl (hts (.methodLinkNest RX3 15 yX8_isWithin RX8) (by decide +kernel)), va_AO.of w5, va_AO.of w4, va_AO.of w2, va_AO.of w3⟩
theorem GM_in {E : gT} {o q : Nat} {c : Nat → Int32} {S : Nat → Nat → Int32} {e : va_E} (h : GM E o c S q = some e) : aM o q := by
  simp only [GM] at h
  by_cases h1 : q = o
  · exact ⟨by omega, by omega⟩
  · rw [if_neg h1] at h
    by_cases h2 : o < q ∧ q < o + 27
    · exact ⟨by omega, by omega⟩
    · rw [if_neg h2] at h; cases h
theorem pA_0 : pAll (fun _ => 0) S0 := by
  have e7 : tn ((fun _ => 0 : Nat → Int32) 7) = 0 := by decide
  have e12 : tn ((fun _ => 0 : Nat → Int32) 12) = 0 := by decide
  have e18 : tn ((fun _ => 0 : Nat → Int32) 18) = 0 := by decide
  have z0 : (0 : Int32).toInt = 0 := rfl
  refine ⟨⟨⟨by decide, by decide, by decide, by decide, fun h _ => ?_⟩, fun i hi => ?_, fun v _ => ?_, fun v _ => ?_, fun v _ => ?_, fun h hh => ?_, fun k hk => ?_, fun i hi => ?_⟩, ⟨fun h hh => ?_, fun k hk => ?_, fun i _ => ?_⟩, fun i h1 h2 => ?_⟩
  · show 0 ≤ (0 : Int32).toInt ∧ (0 : Int32).toInt ≤ 7; decide
  · rw [s0_1 hi]; decide
  · show 0 ≤ (0 : Int32).toInt ∧ (0 : Int32).toInt ≤ 99; decide
  · show 0 ≤ (0 : Int32).toInt ∧ (0 : Int32).toInt ≤ 10000; decide
  · show 0 ≤ (0 : Int32).toInt ∧ (0 : Int32).toInt ≤ 3000; decide
  · rw [e7] at hh; exact absurd hh (Nat.not_lt_zero _)
  · rw [e12] at hk; exact absurd hk (Nat.not_lt_zero _)
  · rw [e18] at hi; exact absurd hi (Nat.not_lt_zero _)
  · rw [e7] at hh; exact absurd hh (Nat.not_lt_zero _)
  · rw [e12] at hk; exact absurd hk (Nat.not_lt_zero _)
  · show 0 ≤ (0 : Int32).toInt ∧ 0 ≤ (0 : Int32).toInt ∧ 0 ≤ (0 : Int32).toInt ∧ (0 : Int32).toInt + (0 : Int32).toInt + (0 : Int32).toInt ≤ 700; decide
  · refine ⟨rfl, rfl, rfl, rfl, ?_⟩
    show (if 0 ≤ i ∧ i < 840 then (-1 : Int32) else 0) = -1
    rw [if_pos ⟨Nat.zero_le _, h2⟩]
set_option maxHeartbeats 4000000 in
set_option maxRecDepth 100000 in
theorem whole_start {p : Program} {e : Env} {s : State} {m : MethodId} {below : List Frame} {meth : Method} {c : Code} (l : Launch) {b L : Nat} {xs : Nat → Int32} (hL : L ≤ 2560) (C0 : lw_At p s m meth c b L xs) : W p l e room_1 s m #[Value.ref b] below meth c s.heap [] 0 0 (lw_Z below #[Value.ref b] s) (entryFrame m ([Value.ref b] : List Value).toArray 4) := by
  obtain ⟨hx, hb, hr, hml, hown, hts, hX, hbl, hlocks, hgv⟩ := id C0
  have hown : s.vm.findClass RL = some m.cls := hown
  have hb : c.code = cL_law := hb
  have htsL : ∀ w ∈ wsL_law, w.before #[Value.ref b] s = true := fun w h => hts w (wsL_law_in w h)
  obtain ⟨E, hK⟩ := lw_known hts
  have hin8 : ∀ w ∈ u_ws RX8 TX8 14, w ∈ wsL_law := inlX8
  have hin9 : ∀ w ∈ u_ws RX9 TX9 35, w ∈ wsL_law := inlX9
  have hA : ∀ q, s.heap.size ≤ q → aZ s.heap.size q := fun _ h => h
  have hS : va_S (aZ s.heap.size) s.heap s.heap [] := va_S.rf
  have hP : gP E (aZ s.heap.size) s.heap.size (fun _ => none) s.heap := ⟨rfl, fun a e h => by cases h⟩
  have hl := lv_entry ([.ref b]) (n := 4) (Nat.le_of_ble_eq_true rfl)
  rw [lg_entry_eq]
  generalize (lg_sl ([.ref b]) ++ List.replicate (4 - (lg_sl ([.ref b])).length) Slot.unset).toArray = ls at hl ⊢
  have hl : lv_has ls 4 [(0, .ref b)] := hl
  obtain ⟨xq, hxq⟩ : ∃ q, q = s.heap.size := ⟨_, rfl⟩
  refine g_new (ci := 8) (fs := [.null, .null, .null, .null, .null, .null, .int 0, .int 0, .int 0, .int 0, .int 0, .int 0, .int 0, .int 0]) hx hb htsL hin8 tyX8 tyX8_ok hown (hts (.classLink RL 7 RX8) (by decide +kernel)) (hts (.instantiable RX8 14) (by decide +kernel)) (hts (.initialized RX8) (by decide +kernel)) hK hP hS hA rfl (by decide) (Nat.le_of_ble_eq_true rfl) (Nat.le_of_ble_eq_true rfl) dL_law_0 (fun H hP hS => ?_)
  refine lv_dup hx hb dL_law_3 rfl ?_
  have q0 : gup (fun _ => none) s.heap.size (.inr (8, [.null, .null, .null, .null, .null, .null, .int 0, .int 0, .int 0, .int 0, .int 0, .int 0, .int 0, .int 0])) s.heap.size = some (.inr (8, [.null, .null, .null, .null, .null, .null, .int 0, .int 0, .int 0, .int 0, .int 0, .int 0, .int 0, .int 0])) := gup_s
  refine g_cv (g_runI (As := []) (rest := [.ref s.heap.size]) ⟨hx, hb, hml, hown, htsL⟩ hK hP (kX8_init l E (aZ s.heap.size) _ s.heap.size q0 (fun q h => by show s.heap.size ≤ q; omega)) (cwI 0 htsL gL_law_X8_init rfl rfl rfl (hts (.initialized RX8) (by decide +kernel)) (hts (.methodLink RL 9 yX8_init) (by decide +kernel)) (hts (.instanceMethod yX8_init) (by decide +kernel)) rfl (by decide +kernel) ⟨Nat.le_of_ble_eq_true rfl, Nat.le_of_ble_eq_true rfl⟩) rfl hl.1 rfl (Nat.le_of_ble_eq_true rfl) dL_law_4 ⟨Nat.le_of_ble_eq_true rfl, Nat.le_of_ble_eq_true rfl⟩) hS (fun n' G' H locs hw hP hS => ?_)
  obtain ⟨hn1, Y, hs⟩ := hw
  refine lv_astore_n (lv' := [(1, .ref s.heap.size), (0, .ref b)]) hx hb dL_law_7 rfl hl (by decide) rfl (fun ls hl => ?_)
  have hA2 : ∀ q, n' ≤ q → aZ s.heap.size q := fun q h => by show s.heap.size ≤ q; omega
  have hno := hP.none (Nat.le_refl _)
  refine g_new (ci := 9) (fs := [.int 0, .null, .null, .null, .null, .null, .null, .int 0, .null, .null, .null, .null, .int 0, .null, .null, .null, .null, .null, .int 0, .null, .null, .null, .null, .null, .null, .null, .null, .null, .null, .int 0, .int 0, .int 0, .int 0, .int 0, .null]) hx hb htsL hin9 tyX9 tyX9_ok hown (hts (.classLink RL 10 RX9) (by decide +kernel)) (hts (.instantiable RX9 35) (by decide +kernel)) (hts (.initialized RX9) (by decide +kernel)) hK hP hS hA2 rfl (by decide) (Nat.le_of_ble_eq_true rfl) (Nat.le_of_ble_eq_true rfl) dL_law_8 (fun H hP hS => ?_)
  refine lv_dup hx hb dL_law_11 rfl ?_
  have hPx : gP E (aX s.heap.size n') (n' + 1) G' H := by
    refine ⟨hP.1, fun q eq hq => ?_⟩
    have hne : q ≠ n' := ne_none hq hno
    have h1 := hP.2 q eq ((gup_n hne).trans hq)
    have h2 := hP.lt ((gup_n (e := .inr (9, [.int 0, .null, .null, .null, .null, .null, .null, .int 0, .null, .null, .null, .null, .int 0, .null, .null, .null, .null, .null, .int 0, .null, .null, .null, .null, .null, .null, .null, .null, .null, .null, .int 0, .int 0, .int 0, .int 0, .int 0, .null])) hne).trans hq)
    exact ⟨⟨h1.1, by omega⟩, h1.2⟩
  have hPm : gP E (aZ n') (n' + 1) (GP E n' [.int 0, .null, .null, .null, .null, .null, .null, .int 0, .null, .null, .null, .null, .int 0, .null, .null, .null, .null, .null, .int 0, .null, .null, .null, .null, .null, .null, .null, .null, .null, .null, .int 0, .int 0, .int 0, .int 0, .int 0, .null] 0) H := by
    refine ⟨hP.1, fun q eq hq => ?_⟩
    simp only [GP] at hq
    by_cases h1 : q = n'
    · subst h1
      rw [if_pos rfl] at hq
      exact ⟨Nat.le_refl _, (hP.2 _ _ (gup_s.trans hq)).2⟩
    · rw [if_neg h1, if_neg (by omega)] at hq; cases hq
  refine va_callv (g_runI (As := []) (rest := [.ref n']) ⟨hx, hb, hml, hown, htsL⟩ hK hPm (kX9_init l E (aZ n') n' (fun q h => by show n' ≤ q; omega)) (cwI 0 htsL gL_law_X9_init rfl rfl rfl (hts (.initialized RX9) (by decide +kernel)) (hts (.methodLink RL 12 yX9_init) (by decide +kernel)) (hts (.instanceMethod yX9_init) (by decide +kernel)) rfl (by decide +kernel) ⟨Nat.le_of_ble_eq_true rfl, Nat.le_of_ble_eq_true rfl⟩) rfl hl.1 rfl (Nat.le_of_ble_eq_true rfl) dL_law_12 ⟨Nat.le_of_ble_eq_true rfl, Nat.le_of_ble_eq_true rfl⟩) hS (fun q _ h => by have : n' ≤ q := h; show s.heap.size ≤ q; omega) (fun q h => by have : n' ≤ q := h; show s.heap.size ≤ q; omega) (fun u t H1 locs ht _ hw hB _ hk hS => ?_)
  have hB : gP E (aZ n') u.1 u.2 H1 := by rw [← ht]; exact hB
  obtain ⟨hn2, hG2⟩ := hw
  rw [← hG2, ← hn2] at hB
  have hPm : gP E (aM n') (n' + 27) (GM E n' (fun _ => 0) S0) H1 := ⟨hB.1, fun q eq hq => ⟨GM_in hq, (hB.2 q eq hq).2⟩⟩
  have hPx : gP E (aX s.heap.size n') (n' + 27) G' H1 := hPx.keep hB.1 (fun q eq hq => hk q ((hPx.2 q eq hq).2.lt) (fun y => by
    have y2 : n' ≤ q := y
    have y3 := (hPx.2 q eq hq).1
    have y4 := hPx.lt hq
    have y5 : q ≠ n' := ne_none hq hno
    omega))
  refine lv_astore_n (lv' := [(2, .ref n'), (1, .ref s.heap.size), (0, .ref b)]) hx hb dL_law_15 rfl hl (by decide) rfl (fun ls hl => ?_)
  refine lv_iconst (v := 0) hx hb dL_law_16 (by decide) ?_
  refine lv_istore_n (lv' := [(3, .int 0), (2, .ref n'), (1, .ref s.heap.size), (0, .ref b)]) hx hb dL_law_17 rfl hl (by decide) rfl (fun ls hl => ?_)
  refine W.widen (k := 75) (n := 26020) (Nat.le_of_ble_eq_true rfl) (Nat.le_of_ble_eq_true rfl) ?_
  exact lw_loop C0 htsL hL hK (L + 1) 0 75 26020 (Nat.zero_le _) (by omega) (by omega) (by omega) H1 locs ls ⟨n' + 27, G', fun _ => 0, S0, Y, hPx, hPm, ⟨by omega, Nat.le_refl _⟩, pA_0, hs⟩ hS (lv_sub hl [3, 2, 1, 0] rfl)
