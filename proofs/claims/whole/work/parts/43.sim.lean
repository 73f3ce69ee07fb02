/-! what the class's cells are, by the reference's numbers -/
def telL (S : Nat → Nat → Int32) (h : Nat) : Nat → List tlT
  | 0 => [(S 7 h, S 7 h, S 8 h, S 9 h)]
  | k + 1 => if S 10 k = nI h then (S 12 k, S 11 k, S 13 k, S 14 k) :: telL S h k else telL S h k
def objX (x : Nat) (c : Nat → Int32) : List Value := [.ref (x + 1), .ref (x + 2), .ref (x + 3), .ref (x + 4), .ref (x + 7), .ref (x + 9), .int (c 0), .int (c 7), .int (c 12), .int (c 29), .int (c 30), .int (c 31), .int (c 32), .int (c 33)]
def rfA (E : gT) (t N : Nat) (f : Nat → Option Nat) : va_E := .inl (E.2 t, N, .inr (.inr (.inr (.inr f))))
def inA (E : gT) (N : Nat) (f : Nat → Int32) : va_E := .inl (E.2 0, N, .inl f)
def sA (G : gH) (x : Nat) (c : Nat → Int32) : Prop := G x = some (.inr (8, objX x c))
def sV (E : gT) (G : gH) (x : Nat) : Prop := ∃ f, G (x + 1) = some (rfA E 5 8 f) ∧ ∀ v, v < 8 → f v = some (x + 10 + v)
def sR (E : gT) (G : gH) (x : Nat) : Prop := ∃ f, G (x + 2) = some (rfA E 4 30 f) ∧ ∀ v, v < 30 → f v = some (x + 18 + v)
def sH (E : gT) (G : gH) (x : Nat) (ha : Nat → Nat) (k : Nat) : Prop := ∃ f, G (x + 3) = some (rfA E 2 40 f) ∧ ∀ h, h < k → f h = some (ha h)
def sB (G : gH) (x : Nat) (k : Int32) : Prop := G (x + 4) = some (.inr (2, [.ref (x + 5), .ref (x + 6), .int k])) ∧ G (x + 6) = some (.inr (1, [.int 0, .int 0, .int 0, .int 0, .int 0]))
def sL (E : gT) (G : gH) (x : Nat) (S : Nat → Nat → Int32) (la : Nat → Nat) (k : Nat) : Prop := ∃ f, G (x + 5) = some (rfA E 3 40 f) ∧ ∀ i, i < k → f i = some (la i) ∧ G (la i) = some (lawE S i)
def sP (E : gT) (G : gH) (x : Nat) : Prop := G (x + 7) = some (.inr (3, [.ref (x + 8)])) ∧ ∃ f, G (x + 8) = some (.inl (E.2 1, 301, .inr (.inl f)))
def sE (E : gT) (G : gH) (x : Nat) (g : Nat → Int32) : Prop := ∃ f, G (x + 9) = some (inA E 1040 f) ∧ ∀ w, w < 1040 → f w = g w
def sRo (G : gH) (x : Nat) (S : Nat → Nat → Int32) : Prop := ∀ i, i < 30 → G (x + 18 + i) = some (rodE S i)
def wFs (wa : Nat → Nat → Nat) (wn : Nat → Nat) (v : Nat) : Option Nat := if wn v = 0 then none else some (wa v 0)
def wLs (wa : Nat → Nat → Nat) (wn : Nat → Nat) (v : Nat) : Option Nat := if wn v = 0 then none else some (wa v (wn v - 1))
def wNx (wa : Nat → Nat → Nat) (wn : Nat → Nat) (v i : Nat) : Option Nat := if i + 1 < wn v then some (wa v (i + 1)) else none
def sVi (G : gH) (x : Nat) (S : Nat → Nat → Int32) (wa : Nat → Nat → Nat) (wn : Nat → Nat) : Prop := ∀ v, v < 8 → G (x + 10 + v) = some (.inr (6, [.int (S 0 v), va_rf (wFs wa wn v), va_rf (wLs wa wn v)]))
def sWk (G : gH) (S : Nat → Nat → Int32) (wa ww : Nat → Nat → Nat) (wn : Nat → Nat) : Prop := ∀ v, v < 8 → ∀ i, i < wn v → G (wa v i) = some (.inr (7, [.int (nI (ww v i)), .int (S 23 (1040 * v + ww v i)), va_rf (wNx wa wn v i)]))
def pWk (S : Nat → Nat → Int32) (wa ww : Nat → Nat → Nat) (wn : Nat → Nat) (t : Nat) : Prop := (∀ v, v < 8 → ∀ i j, i < j → j < wn v → ww v i < ww v j) ∧ (∀ v, v < 8 → ∀ i, i < wn v → ww v i ≤ t ∧ ww v i < 1040) ∧ (∀ v, v < 8 → ∀ w, w < 1040 → (∀ i, i < wn v → ww v i ≠ w) → S 23 (1040 * v + w) = 0) ∧ (∀ v, v < 8 → ∀ u, u < 8 → ∀ i, i < wn v → ∀ j, j < wn u → wa v i = wa u j → v = u)
def houE (S : Nat → Nat → Int32) (ha : Nat → Nat) (lt : Nat → Option Nat) (h : Nat) : va_E := .inr (0, [.int (S 6 h), .int (S 7 h), .ref (ha h + 1), .ref (ha h + 2), .ref (ha h + 3), .ref (ha h + 4), .ref (ha h + 5), va_rf (lt h)])
def sHo (G : gH) (S : Nat → Nat → Int32) (ha : Nat → Nat) (lt : Nat → Option Nat) (k nc : Nat) : Prop := ∀ h, h < k → G (ha h) = some (houE S ha lt h) ∧ tel G (lt h) (telL S h nc)
def sHa (E : gT) (G : gH) (S : Nat → Nat → Int32) (ha : Nat → Nat) (k : Nat) : Prop := ∀ h, h < k → ∀ j, j < 5 → ∃ f, G (ha h + (1 + j)) = some (inA E 21 f) ∧ ∀ y, y < 21 → f y = S (18 + j) (21 * h + y)
def pHa (x : Nat) (ha : Nat → Nat) (k : Nat) : Prop := (∀ h, h < k → x + 48 ≤ ha h) ∧ ∀ h g, h < g → g < k → ha h + 5 < ha g
/-- kinds of cells, and what a change of some kinds leaves -/
def kd (e : va_E) : Nat := match e with
  | .inr o => o.1
  | .inl (_, _, .inl _) => 20
  | .inl (_, _, .inr (.inl _)) => 21
  | .inl (_, _, .inr (.inr _)) => 22
def Kp (ks : List Nat) (G G' : gH) : Prop := ∀ (b : Nat) (e : va_E), kd e ∉ ks → G b = some e → G' b = some e
theorem kp_up {G : gH} {a : Nat} {e0 e1 : va_E} (h : G a = some e0) : Kp [kd e0] G (gup G a e1) := fun b e hk hb => by
  have hne : b ≠ a := fun q => by subst q; rw [h] at hb; cases hb; exact hk List.mem_cons_self
  exact (gup_n hne).trans hb
theorem kp_new {G : gH} {a : Nat} {e1 : va_E} (h : G a = none) : Kp [] G (gup G a e1) := fun b e _ hb => (gup_n (ne_none hb h)).trans hb
theorem kp_rf {G : gH} : Kp [] G G := fun _ _ _ h => h
theorem kp_tr {ks ks' : List Nat} {G G1 G2 : gH} (h1 : Kp ks G G1) (h2 : Kp ks' G1 G2) : Kp (ks ++ ks') G G2 := fun b e hk hb => h2 b e (fun q => hk (List.mem_append_right _ q)) (h1 b e (fun q => hk (List.mem_append_left _ q)) hb)
theorem tel.kp {ks : List Nat} {G G' : gH} (h : Kp ks G G') (hk : 5 ∉ ks) : ∀ (L : List tlT) (r : Option Nat), tel G r L → tel G' r L
  | [], r, q => q
  | q :: L, r, ⟨a, nx, h1, h2, h3⟩ => ⟨a, nx, h1, h a _ hk h2, tel.kp h hk L nx h3⟩
theorem sA.kp {ks : List Nat} {G G' : gH} {x : Nat} {c : Nat → Int32} (h : Kp ks G G') (hk : 8 ∉ ks) (q : sA G x c) : sA G' x c := h _ _ hk q
theorem sV.kp {ks : List Nat} {E : gT} {G G' : gH} {x : Nat} (h : Kp ks G G') (hk : 22 ∉ ks) (q : sV E G x) : sV E G' x := by obtain ⟨f, h1, h2⟩ := q; exact ⟨f, h _ _ hk h1, h2⟩
theorem sR.kp {ks : List Nat} {E : gT} {G G' : gH} {x : Nat} (h : Kp ks G G') (hk : 22 ∉ ks) (q : sR E G x) : sR E G' x := by obtain ⟨f, h1, h2⟩ := q; exact ⟨f, h _ _ hk h1, h2⟩
theorem sH.kp {ks : List Nat} {E : gT} {G G' : gH} {x : Nat} {ha : Nat → Nat} {k : Nat} (h : Kp ks G G') (hk : 22 ∉ ks) (q : sH E G x ha k) : sH E G' x ha k := by obtain ⟨f, h1, h2⟩ := q; exact ⟨f, h _ _ hk h1, h2⟩
theorem sB.kp {ks : List Nat} {G G' : gH} {x : Nat} {k : Int32} (h : Kp ks G G') (hk : 2 ∉ ks) (hk2 : 1 ∉ ks) (q : sB G x k) : sB G' x k := ⟨h _ _ hk q.1, h _ _ hk2 q.2⟩
theorem sL.kp {ks : List Nat} {E : gT} {G G' : gH} {x : Nat} {S : Nat → Nat → Int32} {la : Nat → Nat} {k : Nat} (h : Kp ks G G') (hk : 22 ∉ ks) (hk2 : 1 ∉ ks) (q : sL E G x S la k) : sL E G' x S la k := by obtain ⟨f, h1, h2⟩ := q; exact ⟨f, h _ _ hk h1, fun i hi => ⟨(h2 i hi).1, h _ _ hk2 (h2 i hi).2⟩⟩
theorem sP.kp {ks : List Nat} {E : gT} {G G' : gH} {x : Nat} (h : Kp ks G G') (hk : 21 ∉ ks) (hk2 : 3 ∉ ks) (q : sP E G x) : sP E G' x := by obtain ⟨h1, f, h2⟩ := q; exact ⟨h _ _ hk2 h1, f, h _ _ hk h2⟩
theorem sE.kp {ks : List Nat} {E : gT} {G G' : gH} {x : Nat} {g : Nat → Int32} (h : Kp ks G G') (hk : 20 ∉ ks) (q : sE E G x g) : sE E G' x g := by obtain ⟨f, h1, h2⟩ := q; exact ⟨f, h _ _ hk h1, h2⟩
theorem sRo.kp {ks : List Nat} {G G' : gH} {x : Nat} {S : Nat → Nat → Int32} (h : Kp ks G G') (hk : 4 ∉ ks) (q : sRo G x S) : sRo G' x S := fun i hi => h _ _ hk (q i hi)
theorem sVi.kp {ks : List Nat} {G G' : gH} {x : Nat} {S : Nat → Nat → Int32} {wa : Nat → Nat → Nat} {wn : Nat → Nat} (h : Kp ks G G') (hk : 6 ∉ ks) (q : sVi G x S wa wn) : sVi G' x S wa wn := fun i hi => h _ _ hk (q i hi)
theorem sWk.kp {ks : List Nat} {G G' : gH} {S : Nat → Nat → Int32} {wa ww : Nat → Nat → Nat} {wn : Nat → Nat} (h : Kp ks G G') (hk : 7 ∉ ks) (q : sWk G S wa ww wn) : sWk G' S wa ww wn := fun v hv i hi => h _ _ hk (q v hv i hi)
theorem sHo.kp {ks : List Nat} {G G' : gH} {S : Nat → Nat → Int32} {ha : Nat → Nat} {lt : Nat → Option Nat} {k nc : Nat} (h : Kp ks G G') (hk : 0 ∉ ks) (hk2 : 5 ∉ ks) (q : sHo G S ha lt k nc) : sHo G' S ha lt k nc := fun i hi => ⟨h _ _ hk (q i hi).1, tel.kp h hk2 _ _ (q i hi).2⟩
theorem sHa.kp {ks : List Nat} {E : gT} {G G' : gH} {S : Nat → Nat → Int32} {ha : Nat → Nat} {k : Nat} (h : Kp ks G G') (hk : 20 ∉ ks) (q : sHa E G S ha k) : sHa E G' S ha k := fun i hi j hj => by obtain ⟨f, h1, h2⟩ := q i hi j hj; exact ⟨f, h _ _ hk h1, h2⟩
abbrev gL : Type := (Nat → Nat) × (Nat → Nat) × (Nat → Option Nat) × (Nat → Nat → Nat) × (Nat → Nat → Nat) × (Nat → Nat)
/-- numbers that the class's walks need -/
def pI (c : Nat → Int32) (S : Nat → Nat → Int32) : Prop := mI c S ∧ mH S ∧ (∀ v, v < 8 → 0 ≤ (S 0 v).toInt ∧ (S 0 v).toInt ≤ 99) ∧ (∀ i, i < 30 → 0 ≤ (S 3 i).toInt ∧ (S 3 i).toInt ≤ 10000) ∧ (∀ w, w < 1040 → 0 ≤ (S 24 w).toInt ∧ (S 24 w).toInt ≤ 3000) ∧ (∀ h, h < tn (c 7) → (0 ≤ (S 7 h).toInt ∧ (S 7 h).toInt ≤ (c 0).toInt) ∧ (0 ≤ (S 9 h).toInt ∧ (S 9 h).toInt ≤ 20)) ∧ (∀ k, k < tn (c 12) → (0 ≤ (S 10 k).toInt ∧ (S 10 k).toInt < (c 7).toInt) ∧ ((S 7 (tn (S 10 k))).toInt ≤ (S 12 k).toInt ∧ (S 7 (tn (S 10 k))).toInt ≤ (S 11 k).toInt) ∧ (0 ≤ (S 14 k).toInt ∧ (S 14 k).toInt ≤ 20)) ∧ (∀ i, i < tn (c 18) → 0 ≤ (S 15 i).toInt ∧ (0 ≤ (S 16 i).toInt ∧ (S 16 i).toInt ≤ 99999))
def Sim (E : gT) (G : gH) (x : Nat) (c : Nat → Int32) (S : Nat → Nat → Int32) (Y : gL) : Prop := sA G x c ∧ sV E G x ∧ sR E G x ∧ sH E G x Y.1 (tn (c 7)) ∧ sB G x (c 18) ∧ sL E G x S Y.2.1 (tn (c 18)) ∧ sP E G x ∧ sE E G x (S 24) ∧ sRo G x S ∧ sVi G x S Y.2.2.2.1 Y.2.2.2.2.2 ∧ sWk G S Y.2.2.2.1 Y.2.2.2.2.1 Y.2.2.2.2.2 ∧ pWk S Y.2.2.2.1 Y.2.2.2.2.1 Y.2.2.2.2.2 (tn (c 0)) ∧ sHo G S Y.1 Y.2.2.1 (tn (c 7)) (tn (c 12)) ∧ sHa E G S Y.1 (tn (c 7)) ∧ pHa x Y.1 (tn (c 7))
