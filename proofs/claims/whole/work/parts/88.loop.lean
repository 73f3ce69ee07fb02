theorem sw_out20 {x : Int32} (h0 : ¬ x = 0) (h1 : ¬ x = 1) (h2 : ¬ x = 2) (h3 : ¬ x = 3) (h4 : ¬ x = 4) (h5 : ¬ x = 5) (h6 : ¬ x = 6) (h7 : ¬ x = 7) (h8 : ¬ x = 8) (h9 : ¬ x = 9) (h10 : ¬ x = 10) (h11 : ¬ x = 11) (h12 : ¬ x = 12) (h13 : ¬ x = 13) (h14 : ¬ x = 14) (h15 : ¬ x = 15) (h16 : ¬ x = 16) (h17 : ¬ x = 17) (h18 : ¬ x = 18) (h19 : ¬ x = 19) (h20 : ¬ x = 20) : x.toInt < 0 ∨ 20 < x.toInt := by
  have a0 := lv_neT h0 (a := 0) rfl
  have a1 := lv_neT h1 (a := 1) rfl
  have a2 := lv_neT h2 (a := 2) rfl
  have a3 := lv_neT h3 (a := 3) rfl
  have a4 := lv_neT h4 (a := 4) rfl
  have a5 := lv_neT h5 (a := 5) rfl
  have a6 := lv_neT h6 (a := 6) rfl
  have a7 := lv_neT h7 (a := 7) rfl
  have a8 := lv_neT h8 (a := 8) rfl
  have a9 := lv_neT h9 (a := 9) rfl
  have a10 := lv_neT h10 (a := 10) rfl
  have a11 := lv_neT h11 (a := 11) rfl
  have a12 := lv_neT h12 (a := 12) rfl
  have a13 := lv_neT h13 (a := 13) rfl
  have a14 := lv_neT h14 (a := 14) rfl
  have a15 := lv_neT h15 (a := 15) rfl
  have a16 := lv_neT h16 (a := 16) rfl
  have a17 := lv_neT h17 (a := 17) rfl
  have a18 := lv_neT h18 (a := 18) rfl
  have a19 := lv_neT h19 (a := 19) rfl
  have a20 := lv_neT h20 (a := 20) rfl
  omega
set_option maxHeartbeats 4000000 in
set_option maxRecDepth 100000 in
theorem lw_loop {p : Program} {l : Launch} {e : Env} {s : State} {m : MethodId} {below : List Frame} {meth : Method} {c0 : Code} {b L : Nat} {xs : Nat → Int32} {E : gT} {x o : Nat} (C0 : lw_At p s m meth c0 b L xs) (htsL : ∀ w ∈ wsL_law, w.before #[Value.ref b] s = true) (hL : L ≤ 2560) (hK : gK E s) : ∀ (d i cells slots : Nat), i ≤ L → L < i + d → cells + 7 * d ≤ 600000 → slots + 118 * d ≤ 7302250 → lwW p l e s m below meth c0 b E x o i cells slots (lw_Z below #[Value.ref b] s) 18 := by
  intro d
  induction d with
  | zero => intro i cells slots h1 h2; omega
  | succ d ih =>
    intro i cells slots hi1 hi2 hc hsl
    obtain ⟨hx, hb, hr, hml, hown, -, hX, hbl, hlocks, hgv⟩ := id C0
    have hb : c0.code = cL_law := hb
    intro H locs ls hI hS hl
    have hl : lv_has ls 4 [(0, .ref b), (1, .ref x), (2, .ref o), (3, .int (nI i))] := hl
    refine lv_iload_n hx hb dL_law_18 rfl (lv_at hl 3 rfl) ?_
    refine lv_aload_n hx hb dL_law_19 rfl (lv_at hl 0 rfl) ?_
    refine va_slen hx hb hX hbl (Nat.not_le.mpr hbl) hS dL_law_20 ?_
    refine lv_iconst (v := 5) hx hb dL_law_21 (by decide) ?_
    refine lv_isub hx hb dL_law_22 ?_
    have e5 : (5 : Int32).toInt = 5 := rfl
    have eL : (Int32.ofNat L).toInt = (L : Int) := nI_toInt (n := L) (by omega)
    have eI : (nI i).toInt = (i : Int) := nI_toInt (by omega)
    have eS : (Int32.ofNat L - 5).toInt = (L : Int) - 5 := by rw [fb_subI] <;> rw [eL, e5] <;> omega
    refine lv_icmp_gt (tgt := 911) hx hb dL_law_23 (by decide) (fun b23 => ?_) (fun b23 => ?_)
    · refine lv_iconst (v := 1) hx hb dL_law_911 (by decide) ?_
      refine va_forget (fun q hq => hS.2.2 q hq) ?_
      refine W.widen (k := 600000) (n := 7302250) (by omega) (by omega) ?_
      exact lw_ret hx hb hr hlocks dL_law_912
    · have hi5 : i + 5 ≤ L := by
        have q1 : ¬ (Int32.ofNat L - 5).toInt < (nI i).toInt := fun q => b23 (Int32.lt_iff_toInt_lt.mpr q)
        rw [eS, eI] at q1
        omega
      have kk : lwW p l e s m below meth c0 b E x o i (cells + 7) (slots + 118) (lw_Z below #[Value.ref b] s) 905 := by
        intro H locs ls hI hS hl
        have hl : lv_has ls 4 [(0, .ref b), (1, .ref x), (2, .ref o), (3, .int (nI i))] := hl
        refine lv_iinc (v := nI (i + 5)) (lv' := [(3, .int (nI (i + 5))), (0, .ref b), (1, .ref x), (2, .ref o)]) hx hb dL_law_905 hl (k := 3) rfl (nI_add i 5) (by decide) rfl (fun ls hl => ?_)
        refine lv_goto (tgt := 18) hx hb dL_law_908 (by decide) ?_
        exact ih (i + 5) (cells + 7) (slots + 118) hi5 (by omega) (by omega) (by omega) H locs ls hI hS (lv_sub hl [1, 2, 3, 0] rfl)
      refine lv_aload_n hx hb dL_law_26 rfl (lv_at hl 0 rfl) ?_
      refine lv_iload_n hx hb dL_law_27 rfl (lv_at hl 3 rfl) ?_
      refine va_sld hx hb hX hbl (Nat.not_le.mpr hbl) hS (vp_in_nI (n := i) (N := L) (by omega) (by omega)) dL_law_28 ?_
      refine lv_bipush (v := 31) hx hb dL_law_29 (by decide) ?_
      refine lv_iand hx hb dL_law_31 ?_
      generalize xs (nI i).toNatClampNeg &&& 31 = vv
      by_cases s0 : vv = 0
      · refine lv_tableIn (tgt := 132) hx hb dL_law_32 (by rw [s0]; decide) (by rw [s0]; decide) (by rw [s0]; rfl) (by decide) ?_
        exact lwo_village C0 htsL hL hK hi5 (by omega) (by omega) kk H locs ls hI hS hl
      by_cases s1 : vv = 1
      · refine lv_tableIn (tgt := 165) hx hb dL_law_32 (by rw [s1]; decide) (by rw [s1]; decide) (by rw [s1]; rfl) (by decide) ?_
        exact lwo_rod C0 htsL hL hK hi5 (by omega) (by omega) kk H locs ls hI hS hl
      by_cases s2 : vv = 2
      · refine lv_tableIn (tgt := 208) hx hb dL_law_32 (by rw [s2]; decide) (by rw [s2]; decide) (by rw [s2]; rfl) (by decide) ?_
        exact lwo_law C0 htsL hL hK hi5 (by omega) (by omega) kk H locs ls hI hS hl
      by_cases s3 : vv = 3
      · refine lv_tableIn (tgt := 251) hx hb dL_law_32 (by rw [s3]; decide) (by rw [s3]; decide) (by rw [s3]; rfl) (by decide) ?_
        exact lwo_house C0 htsL hL hK hi5 (by omega) (by omega) kk H locs ls hI hS hl
      by_cases s4 : vv = 4
      · refine lv_tableIn (tgt := 294) hx hb dL_law_32 (by rw [s4]; decide) (by rw [s4]; decide) (by rw [s4]; rfl) (by decide) ?_
        exact lwo_change C0 htsL hL hK hi5 (by omega) (by omega) kk H locs ls hI hS hl
      by_cases s5 : vv = 5
      · refine lv_tableIn (tgt := 347) hx hb dL_law_32 (by rw [s5]; decide) (by rw [s5]; decide) (by rw [s5]; rfl) (by decide) ?_
        exact lwo_listed C0 htsL hL hK hi5 (by omega) (by omega) kk H locs ls hI hS hl
      by_cases s6 : vv = 6
      · refine lv_tableIn (tgt := 390) hx hb dL_law_32 (by rw [s6]; decide) (by rw [s6]; decide) (by rw [s6]; rfl) (by decide) ?_
        exact lwo_owed C0 htsL hL hK hi5 (by omega) (by omega) kk H locs ls hI hS hl
      by_cases s7 : vv = 7
      · refine lv_tableIn (tgt := 423) hx hb dL_law_32 (by rw [s7]; decide) (by rw [s7]; decide) (by rw [s7]; rfl) (by decide) ?_
        exact lwo_work C0 htsL hL hK hi5 (by omega) (by omega) kk H locs ls hI hS hl
      by_cases s8 : vv = 8
      · refine lv_tableIn (tgt := 476) hx hb dL_law_32 (by rw [s8]; decide) (by rw [s8]; decide) (by rw [s8]; rfl) (by decide) ?_
        exact lwo_buy C0 htsL hL hK hi5 (by omega) (by omega) kk H locs ls hI hS hl
      by_cases s9 : vv = 9
      · refine lv_tableIn (tgt := 509) hx hb dL_law_32 (by rw [s9]; decide) (by rw [s9]; decide) (by rw [s9]; rfl) (by decide) ?_
        exact lwo_hire C0 htsL hL hK hi5 (by omega) (by omega) kk H locs ls hI hS hl
      by_cases s10 : vv = 10
      · refine lv_tableIn (tgt := 542) hx hb dL_law_32 (by rw [s10]; decide) (by rw [s10]; decide) (by rw [s10]; rfl) (by decide) ?_
        exact lwo_river C0 htsL hL hK hi5 (by omega) (by omega) kk H locs ls hI hS hl
      by_cases s11 : vv = 11
      · refine lv_tableIn (tgt := 585) hx hb dL_law_32 (by rw [s11]; decide) (by rw [s11]; decide) (by rw [s11]; rfl) (by decide) ?_
        exact lwo_go C0 htsL hL hK hi5 (by omega) (by omega) kk H locs ls hI hS hl
      by_cases s12 : vv = 12
      · refine lv_tableIn (tgt := 608) hx hb dL_law_32 (by rw [s12]; decide) (by rw [s12]; decide) (by rw [s12]; rfl) (by decide) ?_
        exact lwo_told C0 htsL hL hK hi5 (by omega) (by omega) kk H locs ls hI hS hl
      by_cases s13 : vv = 13
      · refine lv_tableIn (tgt := 651) hx hb dL_law_32 (by rw [s13]; decide) (by rw [s13]; decide) (by rw [s13]; rfl) (by decide) ?_
        exact lwo_paper C0 htsL hL hK hi5 (by omega) (by omega) kk H locs ls hI hS hl
      by_cases s14 : vv = 14
      · refine lv_tableIn (tgt := 674) hx hb dL_law_32 (by rw [s14]; decide) (by rw [s14]; decide) (by rw [s14]; rfl) (by decide) ?_
        exact lwo_paperWeek C0 htsL hL hK hi5 (by omega) (by omega) kk H locs ls hI hS hl
      by_cases s15 : vv = 15
      · refine lv_tableIn (tgt := 697) hx hb dL_law_32 (by rw [s15]; decide) (by rw [s15]; decide) (by rw [s15]; rfl) (by decide) ?_
        exact lwo_bank C0 htsL hL hK hi5 (by omega) (by omega) kk H locs ls hI hS hl
      by_cases s16 : vv = 16
      · refine lv_tableIn (tgt := 740) hx hb dL_law_32 (by rw [s16]; decide) (by rw [s16]; decide) (by rw [s16]; rfl) (by decide) ?_
        exact lwo_saved C0 htsL hL hK hi5 (by omega) (by omega) kk H locs ls hI hS hl
      by_cases s17 : vv = 17
      · refine lv_tableIn (tgt := 773) hx hb dL_law_32 (by rw [s17]; decide) (by rw [s17]; decide) (by rw [s17]; rfl) (by decide) ?_
        exact lwo_chosen C0 htsL hL hK hi5 (by omega) (by omega) kk H locs ls hI hS hl
      by_cases s18 : vv = 18
      · refine lv_tableIn (tgt := 806) hx hb dL_law_32 (by rw [s18]; decide) (by rw [s18]; decide) (by rw [s18]; rfl) (by decide) ?_
        exact lwo_called C0 htsL hL hK hi5 (by omega) (by omega) kk H locs ls hI hS hl
      by_cases s19 : vv = 19
      · refine lv_tableIn (tgt := 839) hx hb dL_law_32 (by rw [s19]; decide) (by rw [s19]; decide) (by rw [s19]; rfl) (by decide) ?_
        exact lwo_arrived C0 htsL hL hK hi5 (by omega) (by omega) kk H locs ls hI hS hl
      by_cases s20 : vv = 20
      · refine lv_tableIn (tgt := 882) hx hb dL_law_32 (by rw [s20]; decide) (by rw [s20]; decide) (by rw [s20]; rfl) (by decide) ?_
        exact lwo_count C0 htsL hL hK hi5 (by omega) (by omega) kk H locs ls hI hS hl
      refine lv_tableOut (tgt := 905) hx hb dL_law_32 (sw_out20 s0 s1 s2 s3 s4 s5 s6 s7 s8 s9 s10 s11 s12 s13 s14 s15 s16 s17 s18 s19 s20) (by decide) ?_
      exact lw_up (by omega) (by omega) kk H locs ls hI hS hl
