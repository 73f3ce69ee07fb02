set_option maxHeartbeats 1000000 in
set_option maxRecDepth 100000 in
theorem lwo_village {p : Program} {l : Launch} {e : Env} {s : State} {m : MethodId} {below : List Frame} {meth : Method} {c0 : Code} {b L : Nat} {xs : Nat → Int32} {E : gT} {x o i cells slots : Nat} {Q : State → Prop} (C0 : lw_At p s m meth c0 b L xs) (htsL : ∀ w ∈ wsL_law, w.before #[Value.ref b] s = true) (hL : L ≤ 2560) (hK : gK E s) (hi : i + 5 ≤ L) (hc : cells + 7 ≤ 600000) (hsl : slots + 118 ≤ 7302250) (kk : lwW p l e s m below meth c0 b E x o i (cells + 7) (slots + 118) Q 905) : lwW p l e s m below meth c0 b E x o i cells slots Q 132 := by
  obtain ⟨hx, hb, hr, hml, hown, -, hX, hbl, hlocks, hgv⟩ := id C0
  have hown : s.vm.findClass RL = some m.cls := hown
  have hb : c0.code = cL_law := hb
  intro H locs ls hI hS hl
  obtain ⟨n, G, c, S, ⟨ha, la, lt, wa, ww, wn⟩, hP, hPm, ⟨hzo, hon⟩, hp, hs⟩ := hI
  obtain ⟨hA1, hV, hR, hH1, hB, hL1, hPl, hEv, hRo, hVi, hWk, hW, hHo, hHa, hHp⟩ := id hs
  try dsimp only at hH1 hL1 hVi hWk hW hHo hHa hHp
  have hA : ∀ q, n ≤ q → aX s.heap.size o q := fun q h => ⟨by omega, by omega⟩
  have hl : lv_has ls 4 [(0, .ref b), (1, .ref x), (2, .ref o), (3, .int (nI i))] := hl
  refine lv_aload_n hx hb dL_law_132 rfl (lv_at hl 1 rfl) ?_
  refine lv_aload_n hx hb dL_law_133 rfl (lv_at hl 0 rfl) ?_
  refine lv_iload_n hx hb dL_law_134 rfl (lv_at hl 3 rfl) ?_
  refine lv_iconst (v := 1) hx hb dL_law_135 (by decide) ?_
  refine lv_iadd hx hb dL_law_136 ?_
  refine lw_sld (j := 1) hx hb hX hbl hS rfl (by omega) hL dL_law_137 ?_
  refine lv_aload_n hx hb dL_law_138 rfl (lv_at hl 0 rfl) ?_
  refine lv_iload_n hx hb dL_law_139 rfl (lv_at hl 3 rfl) ?_
  refine lv_iconst (v := 2) hx hb dL_law_140 (by decide) ?_
  refine lv_iadd hx hb dL_law_141 ?_
  refine lw_sld (j := 2) hx hb hX hbl hS rfl (by omega) hL dL_law_142 ?_
  refine lw_cx (g_runV (As := [.int (xs (i + 1)), .int (xs (i + 2))]) (rest := []) ⟨hx, hb, hml, hown, htsL⟩ hK hP (kX8_village l E (aX s.heap.size o) n G x c S (ha, la, lt, wa, ww, wn) (xs (i + 1)) (xs (i + 2)) hs hp.1) (cwV 2 htsL gL_law_X8_village rfl rfl rfl (by decide +kernel) ⟨Nat.le_of_ble_eq_true rfl, Nat.le_of_ble_eq_true rfl⟩) hs.1 rfl rfl hl.1 rfl (Nat.le_of_ble_eq_true rfl) dL_law_143 ⟨by show cells + 0 ≤ 600000; omega, by show slots + 0 ≤ 7302250; omega⟩) hS hPm (fun r1 n1 G1 H locs hw hP hPm hS => ?_)
  obtain ⟨hw, hle, Y9, hs9⟩ := hw
  refine lv_aload_n hx hb dL_law_146 rfl (lv_at hl 2 rfl) ?_
  refine lv_aload_n hx hb dL_law_147 rfl (lv_at hl 0 rfl) ?_
  refine lv_iload_n hx hb dL_law_148 rfl (lv_at hl 3 rfl) ?_
  refine lv_iconst (v := 1) hx hb dL_law_149 (by decide) ?_
  refine lv_iadd hx hb dL_law_150 ?_
  refine lw_sld (j := 1) hx hb hX hbl hS rfl (by omega) hL dL_law_151 ?_
  refine lv_aload_n hx hb dL_law_152 rfl (lv_at hl 0 rfl) ?_
  refine lv_iload_n hx hb dL_law_153 rfl (lv_at hl 3 rfl) ?_
  refine lv_iconst (v := 2) hx hb dL_law_154 (by decide) ?_
  refine lv_iadd hx hb dL_law_155 ?_
  refine lw_sld (j := 2) hx hb hX hbl hS rfl (by omega) hL dL_law_156 ?_
  refine lw_cm hzo (g_runV (As := [.int (xs (i + 1)), .int (xs (i + 2))]) (rest := [.int r1]) ⟨hx, hb, hml, hown, htsL⟩ hK hPm (kX9_village l E (aM o) n1 o c S (xs (i + 1)) (xs (i + 2))) (cwV 2 htsL gL_law_X9_village rfl rfl rfl (by decide +kernel) ⟨Nat.le_of_ble_eq_true rfl, Nat.le_of_ble_eq_true rfl⟩) GM_o rfl rfl hl.1 rfl (Nat.le_of_ble_eq_true rfl) dL_law_157 ⟨by show cells + 0 + 0 ≤ 600000; omega, by show slots + 0 + 0 ≤ 7302250; omega⟩) hS hP (fun r2 n2 G2 H locs hw2 hPm hP hS => ?_)
  obtain ⟨hw2, hn2, hG2⟩ := hw2
  subst hn2
  subst hG2
  refine lv_icmp_eq (tgt := 905) hx hb dL_law_160 (by decide) (fun _ => ?_) (fun hne => absurd (hw.symm.trans hw2) hne)
  refine W.widen (k := cells + 7) (n := slots + 118) (by omega) (by omega) ?_
  exact kk H locs ls ⟨n1, G1, c, (vilS S (xs (i + 1)) (xs (i + 2))), Y9, hP, hPm, ⟨hzo, by omega⟩, pA_vil hp (xs (i + 1)) (xs (i + 2)), hs9⟩ hS hl
set_option maxHeartbeats 1000000 in
set_option maxRecDepth 100000 in
theorem lwo_rod {p : Program} {l : Launch} {e : Env} {s : State} {m : MethodId} {below : List Frame} {meth : Method} {c0 : Code} {b L : Nat} {xs : Nat → Int32} {E : gT} {x o i cells slots : Nat} {Q : State → Prop} (C0 : lw_At p s m meth c0 b L xs) (htsL : ∀ w ∈ wsL_law, w.before #[Value.ref b] s = true) (hL : L ≤ 2560) (hK : gK E s) (hi : i + 5 ≤ L) (hc : cells + 7 ≤ 600000) (hsl : slots + 118 ≤ 7302250) (kk : lwW p l e s m below meth c0 b E x o i (cells + 7) (slots + 118) Q 905) : lwW p l e s m below meth c0 b E x o i cells slots Q 165 := by
  obtain ⟨hx, hb, hr, hml, hown, -, hX, hbl, hlocks, hgv⟩ := id C0
  have hown : s.vm.findClass RL = some m.cls := hown
  have hb : c0.code = cL_law := hb
  intro H locs ls hI hS hl
  obtain ⟨n, G, c, S, ⟨ha, la, lt, wa, ww, wn⟩, hP, hPm, ⟨hzo, hon⟩, hp, hs⟩ := hI
  obtain ⟨hA1, hV, hR, hH1, hB, hL1, hPl, hEv, hRo, hVi, hWk, hW, hHo, hHa, hHp⟩ := id hs
  try dsimp only at hH1 hL1 hVi hWk hW hHo hHa hHp
  have hA : ∀ q, n ≤ q → aX s.heap.size o q := fun q h => ⟨by omega, by omega⟩
  have hl : lv_has ls 4 [(0, .ref b), (1, .ref x), (2, .ref o), (3, .int (nI i))] := hl
  refine lv_aload_n hx hb dL_law_165 rfl (lv_at hl 1 rfl) ?_
  refine lv_aload_n hx hb dL_law_166 rfl (lv_at hl 0 rfl) ?_
  refine lv_iload_n hx hb dL_law_167 rfl (lv_at hl 3 rfl) ?_
  refine lv_iconst (v := 1) hx hb dL_law_168 (by decide) ?_
  refine lv_iadd hx hb dL_law_169 ?_
  refine lw_sld (j := 1) hx hb hX hbl hS rfl (by omega) hL dL_law_170 ?_
  refine lv_aload_n hx hb dL_law_171 rfl (lv_at hl 0 rfl) ?_
  refine lv_iload_n hx hb dL_law_172 rfl (lv_at hl 3 rfl) ?_
  refine lv_iconst (v := 2) hx hb dL_law_173 (by decide) ?_
  refine lv_iadd hx hb dL_law_174 ?_
  refine lw_sld (j := 2) hx hb hX hbl hS rfl (by omega) hL dL_law_175 ?_
  refine lv_aload_n hx hb dL_law_176 rfl (lv_at hl 0 rfl) ?_
  refine lv_iload_n hx hb dL_law_177 rfl (lv_at hl 3 rfl) ?_
  refine lv_iconst (v := 3) hx hb dL_law_178 (by decide) ?_
  refine lv_iadd hx hb dL_law_179 ?_
  refine lw_sld (j := 3) hx hb hX hbl hS rfl (by omega) hL dL_law_180 ?_
  refine lw_cx (g_runV (As := [.int (xs (i + 1)), .int (xs (i + 2)), .int (xs (i + 3))]) (rest := []) ⟨hx, hb, hml, hown, htsL⟩ hK hP (kX8_rod l E (aX s.heap.size o) n G x c S (ha, la, lt, wa, ww, wn) (xs (i + 1)) (xs (i + 2)) (xs (i + 3)) hs hp.1) (cwV 3 htsL gL_law_X8_rod rfl rfl rfl (by decide +kernel) ⟨Nat.le_of_ble_eq_true rfl, Nat.le_of_ble_eq_true rfl⟩) hs.1 rfl rfl hl.1 rfl (Nat.le_of_ble_eq_true rfl) dL_law_181 ⟨by show cells + 0 ≤ 600000; omega, by show slots + 0 ≤ 7302250; omega⟩) hS hPm (fun r1 n1 G1 H locs hw hP hPm hS => ?_)
  obtain ⟨hw, hle, Y9, hs9⟩ := hw
  refine lv_aload_n hx hb dL_law_184 rfl (lv_at hl 2 rfl) ?_
  refine lv_aload_n hx hb dL_law_185 rfl (lv_at hl 0 rfl) ?_
  refine lv_iload_n hx hb dL_law_186 rfl (lv_at hl 3 rfl) ?_
  refine lv_iconst (v := 1) hx hb dL_law_187 (by decide) ?_
  refine lv_iadd hx hb dL_law_188 ?_
  refine lw_sld (j := 1) hx hb hX hbl hS rfl (by omega) hL dL_law_189 ?_
  refine lv_aload_n hx hb dL_law_190 rfl (lv_at hl 0 rfl) ?_
  refine lv_iload_n hx hb dL_law_191 rfl (lv_at hl 3 rfl) ?_
  refine lv_iconst (v := 2) hx hb dL_law_192 (by decide) ?_
  refine lv_iadd hx hb dL_law_193 ?_
  refine lw_sld (j := 2) hx hb hX hbl hS rfl (by omega) hL dL_law_194 ?_
  refine lv_aload_n hx hb dL_law_195 rfl (lv_at hl 0 rfl) ?_
  refine lv_iload_n hx hb dL_law_196 rfl (lv_at hl 3 rfl) ?_
  refine lv_iconst (v := 3) hx hb dL_law_197 (by decide) ?_
  refine lv_iadd hx hb dL_law_198 ?_
  refine lw_sld (j := 3) hx hb hX hbl hS rfl (by omega) hL dL_law_199 ?_
  refine lw_cm hzo (g_runV (As := [.int (xs (i + 1)), .int (xs (i + 2)), .int (xs (i + 3))]) (rest := [.int r1]) ⟨hx, hb, hml, hown, htsL⟩ hK hPm (kX9_rod l E (aM o) n1 o c S (xs (i + 1)) (xs (i + 2)) (xs (i + 3))) (cwV 3 htsL gL_law_X9_rod rfl rfl rfl (by decide +kernel) ⟨Nat.le_of_ble_eq_true rfl, Nat.le_of_ble_eq_true rfl⟩) GM_o rfl rfl hl.1 rfl (Nat.le_of_ble_eq_true rfl) dL_law_200 ⟨by show cells + 0 + 0 ≤ 600000; omega, by show slots + 0 + 0 ≤ 7302250; omega⟩) hS hP (fun r2 n2 G2 H locs hw2 hPm hP hS => ?_)
  obtain ⟨hw2, hn2, hG2⟩ := hw2
  subst hn2
  subst hG2
  refine lv_icmp_eq (tgt := 905) hx hb dL_law_203 (by decide) (fun _ => ?_) (fun hne => absurd (hw.symm.trans hw2) hne)
  refine W.widen (k := cells + 7) (n := slots + 118) (by omega) (by omega) ?_
  exact kk H locs ls ⟨n1, G1, c, (rodS S (xs (i + 1)) (xs (i + 2)) (xs (i + 3))), Y9, hP, hPm, ⟨hzo, by omega⟩, pA_rod hp (xs (i + 1)) (xs (i + 2)) (xs (i + 3)), hs9⟩ hS hl
set_option maxHeartbeats 1000000 in
set_option maxRecDepth 100000 in
theorem lwo_law {p : Program} {l : Launch} {e : Env} {s : State} {m : MethodId} {below : List Frame} {meth : Method} {c0 : Code} {b L : Nat} {xs : Nat → Int32} {E : gT} {x o i cells slots : Nat} {Q : State → Prop} (C0 : lw_At p s m meth c0 b L xs) (htsL : ∀ w ∈ wsL_law, w.before #[Value.ref b] s = true) (hL : L ≤ 2560) (hK : gK E s) (hi : i + 5 ≤ L) (hc : cells + 7 ≤ 600000) (hsl : slots + 118 ≤ 7302250) (kk : lwW p l e s m below meth c0 b E x o i (cells + 7) (slots + 118) Q 905) : lwW p l e s m below meth c0 b E x o i cells slots Q 208 := by
  obtain ⟨hx, hb, hr, hml, hown, -, hX, hbl, hlocks, hgv⟩ := id C0
  have hown : s.vm.findClass RL = some m.cls := hown
  have hb : c0.code = cL_law := hb
  intro H locs ls hI hS hl
  obtain ⟨n, G, c, S, ⟨ha, la, lt, wa, ww, wn⟩, hP, hPm, ⟨hzo, hon⟩, hp, hs⟩ := hI
  obtain ⟨hA1, hV, hR, hH1, hB, hL1, hPl, hEv, hRo, hVi, hWk, hW, hHo, hHa, hHp⟩ := id hs
  try dsimp only at hH1 hL1 hVi hWk hW hHo hHa hHp
  have hA : ∀ q, n ≤ q → aX s.heap.size o q := fun q h => ⟨by omega, by omega⟩
  have hl : lv_has ls 4 [(0, .ref b), (1, .ref x), (2, .ref o), (3, .int (nI i))] := hl
  refine lv_aload_n hx hb dL_law_208 rfl (lv_at hl 1 rfl) ?_
  refine lv_aload_n hx hb dL_law_209 rfl (lv_at hl 0 rfl) ?_
  refine lv_iload_n hx hb dL_law_210 rfl (lv_at hl 3 rfl) ?_
  refine lv_iconst (v := 1) hx hb dL_law_211 (by decide) ?_
  refine lv_iadd hx hb dL_law_212 ?_
  refine lw_sld (j := 1) hx hb hX hbl hS rfl (by omega) hL dL_law_213 ?_
  refine lv_aload_n hx hb dL_law_214 rfl (lv_at hl 0 rfl) ?_
  refine lv_iload_n hx hb dL_law_215 rfl (lv_at hl 3 rfl) ?_
  refine lv_iconst (v := 2) hx hb dL_law_216 (by decide) ?_
  refine lv_iadd hx hb dL_law_217 ?_
  refine lw_sld (j := 2) hx hb hX hbl hS rfl (by omega) hL dL_law_218 ?_
  refine lv_aload_n hx hb dL_law_219 rfl (lv_at hl 0 rfl) ?_
  refine lv_iload_n hx hb dL_law_220 rfl (lv_at hl 3 rfl) ?_
  refine lv_iconst (v := 3) hx hb dL_law_221 (by decide) ?_
  refine lv_iadd hx hb dL_law_222 ?_
  refine lw_sld (j := 3) hx hb hX hbl hS rfl (by omega) hL dL_law_223 ?_
  refine lw_cx (g_runV (As := [.int (xs (i + 1)), .int (xs (i + 2)), .int (xs (i + 3))]) (rest := []) ⟨hx, hb, hml, hown, htsL⟩ hK hP (kX8_law l E (aX s.heap.size o) n G x c S (ha, la, lt, wa, ww, wn) (xs (i + 1)) (xs (i + 2)) (xs (i + 3)) hs hp.1 hA) (cwV 3 htsL gL_law_X8_law rfl rfl rfl (by decide +kernel) ⟨Nat.le_of_ble_eq_true rfl, Nat.le_of_ble_eq_true rfl⟩) hs.1 rfl rfl hl.1 rfl (Nat.le_of_ble_eq_true rfl) dL_law_224 ⟨by show cells + 1 ≤ 600000; omega, by show slots + 5 ≤ 7302250; omega⟩) hS hPm (fun r1 n1 G1 H locs hw hP hPm hS => ?_)
  obtain ⟨hw, hle, Y9, hs9⟩ := hw
  refine lv_aload_n hx hb dL_law_227 rfl (lv_at hl 2 rfl) ?_
  refine lv_aload_n hx hb dL_law_228 rfl (lv_at hl 0 rfl) ?_
  refine lv_iload_n hx hb dL_law_229 rfl (lv_at hl 3 rfl) ?_
  refine lv_iconst (v := 1) hx hb dL_law_230 (by decide) ?_
  refine lv_iadd hx hb dL_law_231 ?_
  refine lw_sld (j := 1) hx hb hX hbl hS rfl (by omega) hL dL_law_232 ?_
  refine lv_aload_n hx hb dL_law_233 rfl (lv_at hl 0 rfl) ?_
  refine lv_iload_n hx hb dL_law_234 rfl (lv_at hl 3 rfl) ?_
  refine lv_iconst (v := 2) hx hb dL_law_235 (by decide) ?_
  refine lv_iadd hx hb dL_law_236 ?_
  refine lw_sld (j := 2) hx hb hX hbl hS rfl (by omega) hL dL_law_237 ?_
  refine lv_aload_n hx hb dL_law_238 rfl (lv_at hl 0 rfl) ?_
  refine lv_iload_n hx hb dL_law_239 rfl (lv_at hl 3 rfl) ?_
  refine lv_iconst (v := 3) hx hb dL_law_240 (by decide) ?_
  refine lv_iadd hx hb dL_law_241 ?_
  refine lw_sld (j := 3) hx hb hX hbl hS rfl (by omega) hL dL_law_242 ?_
  refine lw_cm hzo (g_runV (As := [.int (xs (i + 1)), .int (xs (i + 2)), .int (xs (i + 3))]) (rest := [.int r1]) ⟨hx, hb, hml, hown, htsL⟩ hK hPm (kX9_law l E (aM o) n1 o c S (xs (i + 1)) (xs (i + 2)) (xs (i + 3)) hp.1.1) (cwV 3 htsL gL_law_X9_law rfl rfl rfl (by decide +kernel) ⟨Nat.le_of_ble_eq_true rfl, Nat.le_of_ble_eq_true rfl⟩) GM_o rfl rfl hl.1 rfl (Nat.le_of_ble_eq_true rfl) dL_law_243 ⟨by show cells + 1 + 0 ≤ 600000; omega, by show slots + 5 + 0 ≤ 7302250; omega⟩) hS hP (fun r2 n2 G2 H locs hw2 hPm hP hS => ?_)
  obtain ⟨hw2, hn2, hG2⟩ := hw2
  subst hn2
  subst hG2
  refine lv_icmp_eq (tgt := 905) hx hb dL_law_246 (by decide) (fun _ => ?_) (fun hne => absurd (hw.symm.trans hw2) hne)
  refine W.widen (k := cells + 7) (n := slots + 118) (by omega) (by omega) ?_
  exact kk H locs ls ⟨n1, G1, (lawC c (xs (i + 1)) (xs (i + 2)) (xs (i + 3))), (lawS c S (xs (i + 1)) (xs (i + 2)) (xs (i + 3))), Y9, hP, hPm, ⟨hzo, by omega⟩, pA_law hp (xs (i + 1)) (xs (i + 2)) (xs (i + 3)), hs9⟩ hS hl
set_option maxHeartbeats 1000000 in
set_option maxRecDepth 100000 in
theorem lwo_house {p : Program} {l : Launch} {e : Env} {s : State} {m : MethodId} {below : List Frame} {meth : Method} {c0 : Code} {b L : Nat} {xs : Nat → Int32} {E : gT} {x o i cells slots : Nat} {Q : State → Prop} (C0 : lw_At p s m meth c0 b L xs) (htsL : ∀ w ∈ wsL_law, w.before #[Value.ref b] s = true) (hL : L ≤ 2560) (hK : gK E s) (hi : i + 5 ≤ L) (hc : cells + 7 ≤ 600000) (hsl : slots + 118 ≤ 7302250) (kk : lwW p l e s m below meth c0 b E x o i (cells + 7) (slots + 118) Q 905) : lwW p l e s m below meth c0 b E x o i cells slots Q 251 := by
  obtain ⟨hx, hb, hr, hml, hown, -, hX, hbl, hlocks, hgv⟩ := id C0
  have hown : s.vm.findClass RL = some m.cls := hown
  have hb : c0.code = cL_law := hb
  intro H locs ls hI hS hl
  obtain ⟨n, G, c, S, ⟨ha, la, lt, wa, ww, wn⟩, hP, hPm, ⟨hzo, hon⟩, hp, hs⟩ := hI
  obtain ⟨hA1, hV, hR, hH1, hB, hL1, hPl, hEv, hRo, hVi, hWk, hW, hHo, hHa, hHp⟩ := id hs
  try dsimp only at hH1 hL1 hVi hWk hW hHo hHa hHp
  have hA : ∀ q, n ≤ q → aX s.heap.size o q := fun q h => ⟨by omega, by omega⟩
  have hl : lv_has ls 4 [(0, .ref b), (1, .ref x), (2, .ref o), (3, .int (nI i))] := hl
  refine lv_aload_n hx hb dL_law_251 rfl (lv_at hl 1 rfl) ?_
  refine lv_aload_n hx hb dL_law_252 rfl (lv_at hl 0 rfl) ?_
  refine lv_iload_n hx hb dL_law_253 rfl (lv_at hl 3 rfl) ?_
  refine lv_iconst (v := 1) hx hb dL_law_254 (by decide) ?_
  refine lv_iadd hx hb dL_law_255 ?_
  refine lw_sld (j := 1) hx hb hX hbl hS rfl (by omega) hL dL_law_256 ?_
  refine lv_aload_n hx hb dL_law_257 rfl (lv_at hl 0 rfl) ?_
  refine lv_iload_n hx hb dL_law_258 rfl (lv_at hl 3 rfl) ?_
  refine lv_iconst (v := 2) hx hb dL_law_259 (by decide) ?_
  refine lv_iadd hx hb dL_law_260 ?_
  refine lw_sld (j := 2) hx hb hX hbl hS rfl (by omega) hL dL_law_261 ?_
  refine lv_aload_n hx hb dL_law_262 rfl (lv_at hl 0 rfl) ?_
  refine lv_iload_n hx hb dL_law_263 rfl (lv_at hl 3 rfl) ?_
  refine lv_iconst (v := 3) hx hb dL_law_264 (by decide) ?_
  refine lv_iadd hx hb dL_law_265 ?_
  refine lw_sld (j := 3) hx hb hX hbl hS rfl (by omega) hL dL_law_266 ?_
  refine lw_cx (g_runV (As := [.int (xs (i + 1)), .int (xs (i + 2)), .int (xs (i + 3))]) (rest := []) ⟨hx, hb, hml, hown, htsL⟩ hK hP (kX8_house l E (aX s.heap.size o) n G x c S (ha, la, lt, wa, ww, wn) (xs (i + 1)) (xs (i + 2)) (xs (i + 3)) hs hp.1 hA hp.2.2) (cwV 3 htsL gL_law_X8_house rfl rfl rfl (by decide +kernel) ⟨Nat.le_of_ble_eq_true rfl, Nat.le_of_ble_eq_true rfl⟩) hs.1 rfl rfl hl.1 rfl (Nat.le_of_ble_eq_true rfl) dL_law_267 ⟨by show cells + 7 ≤ 600000; omega, by show slots + 118 ≤ 7302250; omega⟩) hS hPm (fun r1 n1 G1 H locs hw hP hPm hS => ?_)
  obtain ⟨hw, hle, Y9, hs9⟩ := hw
  refine lv_aload_n hx hb dL_law_270 rfl (lv_at hl 2 rfl) ?_
  refine lv_aload_n hx hb dL_law_271 rfl (lv_at hl 0 rfl) ?_
  refine lv_iload_n hx hb dL_law_272 rfl (lv_at hl 3 rfl) ?_
  refine lv_iconst (v := 1) hx hb dL_law_273 (by decide) ?_
  refine lv_iadd hx hb dL_law_274 ?_
  refine lw_sld (j := 1) hx hb hX hbl hS rfl (by omega) hL dL_law_275 ?_
  refine lv_aload_n hx hb dL_law_276 rfl (lv_at hl 0 rfl) ?_
  refine lv_iload_n hx hb dL_law_277 rfl (lv_at hl 3 rfl) ?_
  refine lv_iconst (v := 2) hx hb dL_law_278 (by decide) ?_
  refine lv_iadd hx hb dL_law_279 ?_
  refine lw_sld (j := 2) hx hb hX hbl hS rfl (by omega) hL dL_law_280 ?_
  refine lv_aload_n hx hb dL_law_281 rfl (lv_at hl 0 rfl) ?_
  refine lv_iload_n hx hb dL_law_282 rfl (lv_at hl 3 rfl) ?_
  refine lv_iconst (v := 3) hx hb dL_law_283 (by decide) ?_
  refine lv_iadd hx hb dL_law_284 ?_
  refine lw_sld (j := 3) hx hb hX hbl hS rfl (by omega) hL dL_law_285 ?_
  refine lw_cm hzo (g_runV (As := [.int (xs (i + 1)), .int (xs (i + 2)), .int (xs (i + 3))]) (rest := [.int r1]) ⟨hx, hb, hml, hown, htsL⟩ hK hPm (kX9_house l E (aM o) n1 o c S (xs (i + 1)) (xs (i + 2)) (xs (i + 3)) hp.1.1) (cwV 3 htsL gL_law_X9_house rfl rfl rfl (by decide +kernel) ⟨Nat.le_of_ble_eq_true rfl, Nat.le_of_ble_eq_true rfl⟩) GM_o rfl rfl hl.1 rfl (Nat.le_of_ble_eq_true rfl) dL_law_286 ⟨by show cells + 7 + 0 ≤ 600000; omega, by show slots + 118 + 0 ≤ 7302250; omega⟩) hS hP (fun r2 n2 G2 H locs hw2 hPm hP hS => ?_)
  obtain ⟨hw2, hn2, hG2⟩ := hw2
  subst hn2
  subst hG2
  refine lv_icmp_eq (tgt := 905) hx hb dL_law_289 (by decide) (fun _ => ?_) (fun hne => absurd (hw.symm.trans hw2) hne)
  refine W.widen (k := cells + 7) (n := slots + 118) (by omega) (by omega) ?_
  exact kk H locs ls ⟨n1, G1, (houC c (xs (i + 1)) (xs (i + 2)) (xs (i + 3))), (houS c S (xs (i + 1)) (xs (i + 2)) (xs (i + 3))), Y9, hP, hPm, ⟨hzo, by omega⟩, pA_hou hp (xs (i + 1)) (xs (i + 2)) (xs (i + 3)), hs9⟩ hS hl
set_option maxHeartbeats 1000000 in
set_option maxRecDepth 100000 in
theorem lwo_change {p : Program} {l : Launch} {e : Env} {s : State} {m : MethodId} {below : List Frame} {meth : Method} {c0 : Code} {b L : Nat} {xs : Nat → Int32} {E : gT} {x o i cells slots : Nat} {Q : State → Prop} (C0 : lw_At p s m meth c0 b L xs) (htsL : ∀ w ∈ wsL_law, w.before #[Value.ref b] s = true) (hL : L ≤ 2560) (hK : gK E s) (hi : i + 5 ≤ L) (hc : cells + 7 ≤ 600000) (hsl : slots + 118 ≤ 7302250) (kk : lwW p l e s m below meth c0 b E x o i (cells + 7) (slots + 118) Q 905) : lwW p l e s m below meth c0 b E x o i cells slots Q 294 := by
  obtain ⟨hx, hb, hr, hml, hown, -, hX, hbl, hlocks, hgv⟩ := id C0
  have hown : s.vm.findClass RL = some m.cls := hown
  have hb : c0.code = cL_law := hb
  intro H locs ls hI hS hl
  obtain ⟨n, G, c, S, ⟨ha, la, lt, wa, ww, wn⟩, hP, hPm, ⟨hzo, hon⟩, hp, hs⟩ := hI
  obtain ⟨hA1, hV, hR, hH1, hB, hL1, hPl, hEv, hRo, hVi, hWk, hW, hHo, hHa, hHp⟩ := id hs
  try dsimp only at hH1 hL1 hVi hWk hW hHo hHa hHp
  have hA : ∀ q, n ≤ q → aX s.heap.size o q := fun q h => ⟨by omega, by omega⟩
  have hl : lv_has ls 4 [(0, .ref b), (1, .ref x), (2, .ref o), (3, .int (nI i))] := hl
  refine lv_aload_n hx hb dL_law_294 rfl (lv_at hl 1 rfl) ?_
  refine lv_aload_n hx hb dL_law_295 rfl (lv_at hl 0 rfl) ?_
  refine lv_iload_n hx hb dL_law_296 rfl (lv_at hl 3 rfl) ?_
  refine lv_iconst (v := 1) hx hb dL_law_297 (by decide) ?_
  refine lv_iadd hx hb dL_law_298 ?_
  refine lw_sld (j := 1) hx hb hX hbl hS rfl (by omega) hL dL_law_299 ?_
  refine lv_aload_n hx hb dL_law_300 rfl (lv_at hl 0 rfl) ?_
  refine lv_iload_n hx hb dL_law_301 rfl (lv_at hl 3 rfl) ?_
  refine lv_iconst (v := 2) hx hb dL_law_302 (by decide) ?_
  refine lv_iadd hx hb dL_law_303 ?_
  refine lw_sld (j := 2) hx hb hX hbl hS rfl (by omega) hL dL_law_304 ?_
  refine lv_aload_n hx hb dL_law_305 rfl (lv_at hl 0 rfl) ?_
  refine lv_iload_n hx hb dL_law_306 rfl (lv_at hl 3 rfl) ?_
  refine lv_iconst (v := 3) hx hb dL_law_307 (by decide) ?_
  refine lv_iadd hx hb dL_law_308 ?_
  refine lw_sld (j := 3) hx hb hX hbl hS rfl (by omega) hL dL_law_309 ?_
  refine lv_aload_n hx hb dL_law_310 rfl (lv_at hl 0 rfl) ?_
  refine lv_iload_n hx hb dL_law_311 rfl (lv_at hl 3 rfl) ?_
  refine lv_iconst (v := 4) hx hb dL_law_312 (by decide) ?_
  refine lv_iadd hx hb dL_law_313 ?_
  refine lw_sld (j := 4) hx hb hX hbl hS rfl (by omega) hL dL_law_314 ?_
  refine lw_cx (g_runV (As := [.int (xs (i + 1)), .int (xs (i + 2)), .int (xs (i + 3)), .int (xs (i + 4))]) (rest := []) ⟨hx, hb, hml, hown, htsL⟩ hK hP (kX8_change l E (aX s.heap.size o) n G x c S (ha, la, lt, wa, ww, wn) (xs (i + 1)) (xs (i + 2)) (xs (i + 3)) (xs (i + 4)) hs hp.1 hA) (cwV 4 htsL gL_law_X8_change rfl rfl rfl (by decide +kernel) ⟨Nat.le_of_ble_eq_true rfl, Nat.le_of_ble_eq_true rfl⟩) hs.1 rfl rfl hl.1 rfl (Nat.le_of_ble_eq_true rfl) dL_law_315 ⟨by show cells + 1 ≤ 600000; omega, by show slots + 5 ≤ 7302250; omega⟩) hS hPm (fun r1 n1 G1 H locs hw hP hPm hS => ?_)
  obtain ⟨hw, hle, Y9, hs9⟩ := hw
  refine lv_aload_n hx hb dL_law_318 rfl (lv_at hl 2 rfl) ?_
  refine lv_aload_n hx hb dL_law_319 rfl (lv_at hl 0 rfl) ?_
  refine lv_iload_n hx hb dL_law_320 rfl (lv_at hl 3 rfl) ?_
  refine lv_iconst (v := 1) hx hb dL_law_321 (by decide) ?_
  refine lv_iadd hx hb dL_law_322 ?_
  refine lw_sld (j := 1) hx hb hX hbl hS rfl (by omega) hL dL_law_323 ?_
  refine lv_aload_n hx hb dL_law_324 rfl (lv_at hl 0 rfl) ?_
  refine lv_iload_n hx hb dL_law_325 rfl (lv_at hl 3 rfl) ?_
  refine lv_iconst (v := 2) hx hb dL_law_326 (by decide) ?_
  refine lv_iadd hx hb dL_law_327 ?_
  refine lw_sld (j := 2) hx hb hX hbl hS rfl (by omega) hL dL_law_328 ?_
  refine lv_aload_n hx hb dL_law_329 rfl (lv_at hl 0 rfl) ?_
  refine lv_iload_n hx hb dL_law_330 rfl (lv_at hl 3 rfl) ?_
  refine lv_iconst (v := 3) hx hb dL_law_331 (by decide) ?_
  refine lv_iadd hx hb dL_law_332 ?_
  refine lw_sld (j := 3) hx hb hX hbl hS rfl (by omega) hL dL_law_333 ?_
  refine lv_aload_n hx hb dL_law_334 rfl (lv_at hl 0 rfl) ?_
  refine lv_iload_n hx hb dL_law_335 rfl (lv_at hl 3 rfl) ?_
  refine lv_iconst (v := 4) hx hb dL_law_336 (by decide) ?_
  refine lv_iadd hx hb dL_law_337 ?_
  refine lw_sld (j := 4) hx hb hX hbl hS rfl (by omega) hL dL_law_338 ?_
  refine lw_cm hzo (g_runV (As := [.int (xs (i + 1)), .int (xs (i + 2)), .int (xs (i + 3)), .int (xs (i + 4))]) (rest := [.int r1]) ⟨hx, hb, hml, hown, htsL⟩ hK hPm (kX9_change l E (aM o) n1 o c S (xs (i + 1)) (xs (i + 2)) (xs (i + 3)) (xs (i + 4)) hp.1.1) (cwV 4 htsL gL_law_X9_change rfl rfl rfl (by decide +kernel) ⟨Nat.le_of_ble_eq_true rfl, Nat.le_of_ble_eq_true rfl⟩) GM_o rfl rfl hl.1 rfl (Nat.le_of_ble_eq_true rfl) dL_law_339 ⟨by show cells + 1 + 0 ≤ 600000; omega, by show slots + 5 + 0 ≤ 7302250; omega⟩) hS hP (fun r2 n2 G2 H locs hw2 hPm hP hS => ?_)
  obtain ⟨hw2, hn2, hG2⟩ := hw2
  subst hn2
  subst hG2
  refine lv_icmp_eq (tgt := 905) hx hb dL_law_342 (by decide) (fun _ => ?_) (fun hne => absurd (hw.symm.trans hw2) hne)
  refine W.widen (k := cells + 7) (n := slots + 118) (by omega) (by omega) ?_
  exact kk H locs ls ⟨n1, G1, (chgC c S (xs (i + 1)) (xs (i + 2)) (xs (i + 3)) (xs (i + 4))), (chgS c S (xs (i + 1)) (xs (i + 2)) (xs (i + 3)) (xs (i + 4))), Y9, hP, hPm, ⟨hzo, by omega⟩, pA_chg hp (xs (i + 1)) (xs (i + 2)) (xs (i + 3)) (xs (i + 4)), hs9⟩ hS hl
set_option maxHeartbeats 1000000 in
set_option maxRecDepth 100000 in
theorem lwo_listed {p : Program} {l : Launch} {e : Env} {s : State} {m : MethodId} {below : List Frame} {meth : Method} {c0 : Code} {b L : Nat} {xs : Nat → Int32} {E : gT} {x o i cells slots : Nat} {Q : State → Prop} (C0 : lw_At p s m meth c0 b L xs) (htsL : ∀ w ∈ wsL_law, w.before #[Value.ref b] s = true) (hL : L ≤ 2560) (hK : gK E s) (hi : i + 5 ≤ L) (hc : cells + 7 ≤ 600000) (hsl : slots + 118 ≤ 7302250) (kk : lwW p l e s m below meth c0 b E x o i (cells + 7) (slots + 118) Q 905) : lwW p l e s m below meth c0 b E x o i cells slots Q 347 := by
  obtain ⟨hx, hb, hr, hml, hown, -, hX, hbl, hlocks, hgv⟩ := id C0
  have hown : s.vm.findClass RL = some m.cls := hown
  have hb : c0.code = cL_law := hb
  intro H locs ls hI hS hl
  obtain ⟨n, G, c, S, ⟨ha, la, lt, wa, ww, wn⟩, hP, hPm, ⟨hzo, hon⟩, hp, hs⟩ := hI
  obtain ⟨hA1, hV, hR, hH1, hB, hL1, hPl, hEv, hRo, hVi, hWk, hW, hHo, hHa, hHp⟩ := id hs
  try dsimp only at hH1 hL1 hVi hWk hW hHo hHa hHp
  have hA : ∀ q, n ≤ q → aX s.heap.size o q := fun q h => ⟨by omega, by omega⟩
  have hl : lv_has ls 4 [(0, .ref b), (1, .ref x), (2, .ref o), (3, .int (nI i))] := hl
  refine lv_aload_n hx hb dL_law_347 rfl (lv_at hl 1 rfl) ?_
  refine lv_aload_n hx hb dL_law_348 rfl (lv_at hl 0 rfl) ?_
  refine lv_iload_n hx hb dL_law_349 rfl (lv_at hl 3 rfl) ?_
  refine lv_iconst (v := 1) hx hb dL_law_350 (by decide) ?_
  refine lv_iadd hx hb dL_law_351 ?_
  refine lw_sld (j := 1) hx hb hX hbl hS rfl (by omega) hL dL_law_352 ?_
  refine lv_aload_n hx hb dL_law_353 rfl (lv_at hl 0 rfl) ?_
  refine lv_iload_n hx hb dL_law_354 rfl (lv_at hl 3 rfl) ?_
  refine lv_iconst (v := 2) hx hb dL_law_355 (by decide) ?_
  refine lv_iadd hx hb dL_law_356 ?_
  refine lw_sld (j := 2) hx hb hX hbl hS rfl (by omega) hL dL_law_357 ?_
  refine lv_aload_n hx hb dL_law_358 rfl (lv_at hl 0 rfl) ?_
  refine lv_iload_n hx hb dL_law_359 rfl (lv_at hl 3 rfl) ?_
  refine lv_iconst (v := 3) hx hb dL_law_360 (by decide) ?_
  refine lv_iadd hx hb dL_law_361 ?_
  refine lw_sld (j := 3) hx hb hX hbl hS rfl (by omega) hL dL_law_362 ?_
  refine lw_cx (g_runV (As := [.int (xs (i + 1)), .int (xs (i + 2)), .int (xs (i + 3))]) (rest := []) ⟨hx, hb, hml, hown, htsL⟩ hK hP (kX8_listed l E (aX s.heap.size o) n G x c S (xs (i + 1)) (xs (i + 2)) (xs (i + 3)) hA1 ha hH1 lt hHo hp.1) (cwV 3 htsL gL_law_X8_listed rfl rfl rfl (by decide +kernel) ⟨Nat.le_of_ble_eq_true rfl, Nat.le_of_ble_eq_true rfl⟩) hs.1 rfl rfl hl.1 rfl (Nat.le_of_ble_eq_true rfl) dL_law_363 ⟨by show cells + 0 ≤ 600000; omega, by show slots + 0 ≤ 7302250; omega⟩) hS hPm (fun r1 n1 G1 H locs hw hP hPm hS => ?_)
  obtain ⟨hw, hn9, hG9⟩ := hw
  subst hn9
  subst hG9
  have hle := Nat.le_refl n
  refine lv_aload_n hx hb dL_law_366 rfl (lv_at hl 2 rfl) ?_
  refine lv_aload_n hx hb dL_law_367 rfl (lv_at hl 0 rfl) ?_
  refine lv_iload_n hx hb dL_law_368 rfl (lv_at hl 3 rfl) ?_
  refine lv_iconst (v := 1) hx hb dL_law_369 (by decide) ?_
  refine lv_iadd hx hb dL_law_370 ?_
  refine lw_sld (j := 1) hx hb hX hbl hS rfl (by omega) hL dL_law_371 ?_
  refine lv_aload_n hx hb dL_law_372 rfl (lv_at hl 0 rfl) ?_
  refine lv_iload_n hx hb dL_law_373 rfl (lv_at hl 3 rfl) ?_
  refine lv_iconst (v := 2) hx hb dL_law_374 (by decide) ?_
  refine lv_iadd hx hb dL_law_375 ?_
  refine lw_sld (j := 2) hx hb hX hbl hS rfl (by omega) hL dL_law_376 ?_
  refine lv_aload_n hx hb dL_law_377 rfl (lv_at hl 0 rfl) ?_
  refine lv_iload_n hx hb dL_law_378 rfl (lv_at hl 3 rfl) ?_
  refine lv_iconst (v := 3) hx hb dL_law_379 (by decide) ?_
  refine lv_iadd hx hb dL_law_380 ?_
  refine lw_sld (j := 3) hx hb hX hbl hS rfl (by omega) hL dL_law_381 ?_
  refine lw_cm hzo (g_runV (As := [.int (xs (i + 1)), .int (xs (i + 2)), .int (xs (i + 3))]) (rest := [.int r1]) ⟨hx, hb, hml, hown, htsL⟩ hK hPm (kX9_listed l E (aM o) n o c S (xs (i + 1)) (xs (i + 2)) (xs (i + 3)) hp.1.1) (cwV 3 htsL gL_law_X9_listed rfl rfl rfl (by decide +kernel) ⟨Nat.le_of_ble_eq_true rfl, Nat.le_of_ble_eq_true rfl⟩) GM_o rfl rfl hl.1 rfl (Nat.le_of_ble_eq_true rfl) dL_law_382 ⟨by show cells + 0 + 0 ≤ 600000; omega, by show slots + 0 + 0 ≤ 7302250; omega⟩) hS hP (fun r2 n2 G2 H locs hw2 hPm hP hS => ?_)
  obtain ⟨hw2, hn2, hG2⟩ := hw2
  subst hn2
  subst hG2
  refine lv_icmp_eq (tgt := 905) hx hb dL_law_385 (by decide) (fun _ => ?_) (fun hne => absurd (hw.symm.trans hw2) hne)
  refine W.widen (k := cells + 7) (n := slots + 118) (by omega) (by omega) ?_
  exact kk H locs ls ⟨n, G, c, S, (ha, la, lt, wa, ww, wn), hP, hPm, ⟨hzo, hon⟩, hp, hs⟩ hS hl
set_option maxHeartbeats 1000000 in
set_option maxRecDepth 100000 in
theorem lwo_owed {p : Program} {l : Launch} {e : Env} {s : State} {m : MethodId} {below : List Frame} {meth : Method} {c0 : Code} {b L : Nat} {xs : Nat → Int32} {E : gT} {x o i cells slots : Nat} {Q : State → Prop} (C0 : lw_At p s m meth c0 b L xs) (htsL : ∀ w ∈ wsL_law, w.before #[Value.ref b] s = true) (hL : L ≤ 2560) (hK : gK E s) (hi : i + 5 ≤ L) (hc : cells + 7 ≤ 600000) (hsl : slots + 118 ≤ 7302250) (kk : lwW p l e s m below meth c0 b E x o i (cells + 7) (slots + 118) Q 905) : lwW p l e s m below meth c0 b E x o i cells slots Q 390 := by
  obtain ⟨hx, hb, hr, hml, hown, -, hX, hbl, hlocks, hgv⟩ := id C0
  have hown : s.vm.findClass RL = some m.cls := hown
  have hb : c0.code = cL_law := hb
  intro H locs ls hI hS hl
  obtain ⟨n, G, c, S, ⟨ha, la, lt, wa, ww, wn⟩, hP, hPm, ⟨hzo, hon⟩, hp, hs⟩ := hI
  obtain ⟨hA1, hV, hR, hH1, hB, hL1, hPl, hEv, hRo, hVi, hWk, hW, hHo, hHa, hHp⟩ := id hs
  try dsimp only at hH1 hL1 hVi hWk hW hHo hHa hHp
  have hA : ∀ q, n ≤ q → aX s.heap.size o q := fun q h => ⟨by omega, by omega⟩
  have hl : lv_has ls 4 [(0, .ref b), (1, .ref x), (2, .ref o), (3, .int (nI i))] := hl
  refine lv_aload_n hx hb dL_law_390 rfl (lv_at hl 1 rfl) ?_
  refine lv_aload_n hx hb dL_law_391 rfl (lv_at hl 0 rfl) ?_
  refine lv_iload_n hx hb dL_law_392 rfl (lv_at hl 3 rfl) ?_
  refine lv_iconst (v := 1) hx hb dL_law_393 (by decide) ?_
  refine lv_iadd hx hb dL_law_394 ?_
  refine lw_sld (j := 1) hx hb hX hbl hS rfl (by omega) hL dL_law_395 ?_
  refine lv_aload_n hx hb dL_law_396 rfl (lv_at hl 0 rfl) ?_
  refine lv_iload_n hx hb dL_law_397 rfl (lv_at hl 3 rfl) ?_
  refine lv_iconst (v := 2) hx hb dL_law_398 (by decide) ?_
  refine lv_iadd hx hb dL_law_399 ?_
  refine lw_sld (j := 2) hx hb hX hbl hS rfl (by omega) hL dL_law_400 ?_
  refine lw_cx (g_runV (As := [.int (xs (i + 1)), .int (xs (i + 2))]) (rest := []) ⟨hx, hb, hml, hown, htsL⟩ hK hP (kX8_owed l E (aX s.heap.size o) n G x c S (xs (i + 1)) (xs (i + 2)) hA1 ha hH1 hB la hL1 lt hHo hp.1) (cwV 2 htsL gL_law_X8_owed rfl rfl rfl (by decide +kernel) ⟨Nat.le_of_ble_eq_true rfl, Nat.le_of_ble_eq_true rfl⟩) hs.1 rfl rfl hl.1 rfl (Nat.le_of_ble_eq_true rfl) dL_law_401 ⟨by show cells + 0 ≤ 600000; omega, by show slots + 0 ≤ 7302250; omega⟩) hS hPm (fun r1 n1 G1 H locs hw hP hPm hS => ?_)
  obtain ⟨hw, hn9, hG9⟩ := hw
  subst hn9
  subst hG9
  have hle := Nat.le_refl n
  refine lv_aload_n hx hb dL_law_404 rfl (lv_at hl 2 rfl) ?_
  refine lv_aload_n hx hb dL_law_405 rfl (lv_at hl 0 rfl) ?_
  refine lv_iload_n hx hb dL_law_406 rfl (lv_at hl 3 rfl) ?_
  refine lv_iconst (v := 1) hx hb dL_law_407 (by decide) ?_
  refine lv_iadd hx hb dL_law_408 ?_
  refine lw_sld (j := 1) hx hb hX hbl hS rfl (by omega) hL dL_law_409 ?_
  refine lv_aload_n hx hb dL_law_410 rfl (lv_at hl 0 rfl) ?_
  refine lv_iload_n hx hb dL_law_411 rfl (lv_at hl 3 rfl) ?_
  refine lv_iconst (v := 2) hx hb dL_law_412 (by decide) ?_
  refine lv_iadd hx hb dL_law_413 ?_
  refine lw_sld (j := 2) hx hb hX hbl hS rfl (by omega) hL dL_law_414 ?_
  refine lw_cm hzo (g_runV (As := [.int (xs (i + 1)), .int (xs (i + 2))]) (rest := [.int r1]) ⟨hx, hb, hml, hown, htsL⟩ hK hPm (kX9_owed l E (aM o) n o c S (xs (i + 1)) (xs (i + 2)) hp.1.1) (cwV 2 htsL gL_law_X9_owed rfl rfl rfl (by decide +kernel) ⟨Nat.le_of_ble_eq_true rfl, Nat.le_of_ble_eq_true rfl⟩) GM_o rfl rfl hl.1 rfl (Nat.le_of_ble_eq_true rfl) dL_law_415 ⟨by show cells + 0 + 0 ≤ 600000; omega, by show slots + 0 + 0 ≤ 7302250; omega⟩) hS hP (fun r2 n2 G2 H locs hw2 hPm hP hS => ?_)
  obtain ⟨hw2, hn2, hG2⟩ := hw2
  subst hn2
  subst hG2
  refine lv_icmp_eq (tgt := 905) hx hb dL_law_418 (by decide) (fun _ => ?_) (fun hne => absurd (hw.symm.trans hw2) hne)
  refine W.widen (k := cells + 7) (n := slots + 118) (by omega) (by omega) ?_
  exact kk H locs ls ⟨n, G, c, S, (ha, la, lt, wa, ww, wn), hP, hPm, ⟨hzo, hon⟩, hp, hs⟩ hS hl
