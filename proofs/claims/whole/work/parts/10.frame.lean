/-! the world as a map from addresses to cells -/
abbrev cls : List vw_C := [(RX0, TX0, 8), (RX1, TX1, 5), (RX2, TX2, 3), (RX3, TX3, 1), (RX4, TX4, 5), (RX5, TX5, 5), (RX6, TX6, 3), (RX7, TX7, 3), (RX8, TX8, 14), (RX9, TX9, 35)]
abbrev gT : Type := va_G × (Nat → ClassId)
abbrev gty (E : gT) : List (ClassId × FieldType) := [(E.2 0, .int), (E.2 1, .long), (E.2 2, .object RX0), (E.2 3, .object RX1), (E.2 4, .object RX4), (E.2 5, .object RX6)]
abbrev gH : Type := Nat → Option va_E
def gup (G : gH) (a : Nat) (e : va_E) : gH := fun b => if b = a then some e else G b
theorem gup_s {G : gH} {a : Nat} {e : va_E} : gup G a e a = some e := by simp [gup]
theorem gup_n {G : gH} {a b : Nat} {e : va_E} (h : b ≠ a) : gup G a e b = G b := by simp [gup, h]
theorem gup_gup {G : gH} {a : Nat} {e e' : va_E} : gup (gup G a e) a e' = gup G a e' := by
  funext b
  by_cases h : b = a <;> simp [gup, h]
def gP (E : gT) (A : Nat → Prop) (n : Nat) (G : gH) (H : Heap) : Prop := H.size = n ∧ ∀ (a : Nat) (e : va_E), G a = some e → A a ∧ va_at E.1 cls (a, e) H
def gN (U : State) : Prop := va_Nw (.methodLinkNest RX8 29 yX2_init RX8) U ∧ va_Nw (.methodLinkNest RX8 36 yX3_init RX8) U ∧ va_Nw (.methodLinkNest RX8 70 yX6_init RX8) U ∧ va_Nw (.methodLinkNest RX8 71 yX4_init RX8) U ∧ va_Nw (.methodLinkNest RX1 28 yX8_isWithin RX8) U ∧ va_Nw (.methodLinkNest RX4 35 yX8_dividedUp RX8) U ∧ va_Nw (.methodLinkNest RX3 15 yX8_isWithin RX8) U ∧ va_AO RX6 U ∧ va_AO RX4 U ∧ va_AO RX0 U ∧ va_AO RX1 U
def gK (E : gT) (U : State) : Prop := va_K E.1 cls (gty E) U ∧ gN U
theorem gK.warm {E : gT} {s U : State} (h : gK E s) (hW : s.WarmedH U.vm) : gK E U := by
  obtain ⟨h1, a, b, c, d, e, f, g, i, j, k, l⟩ := h
  exact ⟨va_K.moved hW.alike h1, a.warmM hW, b.warmM hW, c.warmM hW, d.warmM hW, e.warmM hW, f.warmM hW, g.warmM hW, i.moved hW.alike, j.moved hW.alike, k.moved hW.alike, l.moved hW.alike⟩
theorem gK.call {E : gT} {U : State} {g : JFrame} {mk : MethodId} {a : Array Value} (h : gK E U) : gK E (U.calling g mk a) := by
  obtain ⟨h1, a1, b, c, d, e, f, g1, i, j, k, l⟩ := h
  exact ⟨va_K.moved (u := U) (Vm.Alike.refl U.vm) h1, a1.same rfl rfl, b.same rfl rfl, c.same rfl rfl, d.same rfl rfl, e.same rfl rfl, f.same rfl rfl, g1.same rfl rfl, i.moved (Vm.Alike.refl U.vm), j.moved (Vm.Alike.refl U.vm), k.moved (Vm.Alike.refl U.vm), l.moved (Vm.Alike.refl U.vm)⟩
def gB (E : gT) (A : Nat → Prop) (n : Nat) (G : gH) (U : State) : Prop := gP E A n G U.heap ∧ gK E U
theorem gB.blind {E : gT} {A : Nat → Prop} {n : Nat} {G : gH} {av : List Value} : FrameBlind (va_Pc av (gB E A n G)) := fun a U g mk q => ⟨q.1, q.2.1, q.2.2.call⟩
theorem gP.one {E : gT} {A : Nat → Prop} {n : Nat} {G : gH} {H : Heap} (h : gP E A n G H) {a : Nat} {e : va_E} (he : G a = some e) : va_P E.1 cls [(a, e)] H := by
  intro k q hk
  match k, hk with
  | 0, hk => cases hk; exact (h.2 a e he).2
theorem gP.lt {E : gT} {A : Nat → Prop} {n : Nat} {G : gH} {H : Heap} (h : gP E A n G H) {a : Nat} {e : va_E} (he : G a = some e) : a < n := by
  rw [← h.1]; exact (h.2 a e he).2.lt
theorem gP.none {E : gT} {A : Nat → Prop} {n : Nat} {G : gH} {H : Heap} (h : gP E A n G H) {a : Nat} (ha : n ≤ a) : G a = none := by
  cases hg : G a with
  | none => rfl
  | some e => have := h.lt hg; omega
theorem gP.set {E : gT} {A : Nat → Prop} {n : Nat} {G : gH} {H H1 : Heap} (h : gP E A n G H) {a : Nat} {e0 e : va_E} (he : G a = some e0) (hs : H1.size = H.size) (h1 : va_at E.1 cls (a, e) H1) (oq : ∀ q : Nat, q ≠ a → H1[q]? = H[q]?) : gP E A n (gup G a e) H1 := by
  refine ⟨hs.trans h.1, fun b eb hb => ?_⟩
  by_cases hab : b = a
  · subst hab
    rw [gup_s] at hb
    cases hb
    exact ⟨(h.2 b e0 he).1, h1⟩
  · rw [gup_n hab] at hb
    exact ⟨(h.2 b eb hb).1, (h.2 b eb hb).2.kept (oq b hab)⟩
theorem gP.push {E : gT} {A : Nat → Prop} {n : Nat} {G : gH} {H H1 : Heap} (h : gP E A n G H) {e : va_E} (hA : ∀ q, n ≤ q → A q) (hs : H1.size = n + 1) (h1 : va_at E.1 cls (n, e) H1) (oq : ∀ q : Nat, q < n → H1[q]? = H[q]?) : gP E A (n + 1) (gup G n e) H1 := by
  refine ⟨hs, fun b eb hb => ?_⟩
  by_cases hab : b = n
  · subst hab
    rw [gup_s] at hb
    cases hb
    exact ⟨hA _ (Nat.le_refl _), h1⟩
  · rw [gup_n hab] at hb
    exact ⟨(h.2 b eb hb).1, (h.2 b eb hb).2.kept (oq b (h.lt hb))⟩
/-- behind something that left these cells alone -/
theorem gP.keep {E : gT} {A : Nat → Prop} {n n' : Nat} {G : gH} {H H1 : Heap} (h : gP E A n G H) (hs : H1.size = n') (oq : ∀ (a : Nat) (e : va_E), G a = some e → H1[a]? = H[a]?) : gP E A n' G H1 :=
  ⟨hs, fun b eb hb => ⟨(h.2 b eb hb).1, (h.2 b eb hb).2.kept (oq b eb hb)⟩⟩
theorem gS.new {A : Nat → Prop} {H0 H H1 : Heap} {locs : List Loc} (h : va_S A H0 H locs) (hs : H.size ≤ H1.size) (oq : ∀ q : Nat, q < H.size → H1[q]? = H[q]?) : va_S A H0 H1 locs :=
  ⟨Nat.le_trans h.1 hs, fun q h1 h2 => (oq q (Nat.lt_of_lt_of_le h1 h.1)).trans (h.2.1 q h1 h2), h.2.2⟩
section GR
variable {p : Program} {l : Launch} {e : Env} {R : Room} {s : State} {m : MethodId} {args : Array Value} {below : List Frame} {meth : Method} {c : Code} {H : Heap} {locs : List Loc} {cells slots : Nat} {Q : State → Prop}
variable {cc : ByteArray} {nL : Nat} {Ts : List Cond} {own : String} {pc : Nat} {ls : Array Slot} {rest : List Value} {E : gT} {A : Nat → Prop} {n : Nat} {G : gH} {a : Nat} {H0 : Heap}
theorem g_get (hx : p.tables.exec = Jvm.exec) (hb : c.code = cc) {ref C : String} {T : u_T} {N ci index : Nat} (hts : ∀ w ∈ Ts, w.before args s = true) (hin : ∀ w ∈ u_ws C T N, w ∈ Ts) (hown : s.vm.findClass own = some m.cls) (hK : gK E s) (hP : gP E A n G H) {fs : List Value} (he : G a = some (.inr (ci, fs))) (hc : cls[ci]? = some (C, T, N)) (k : Nat) (hk : k < N) (hlink : (Cond.fieldLink own index ref (T k).2.1 (T k).2.2.1).before args s = true) (hsame : (T k).1 = ref) {v : Value} (hv : fs[k]? = some v) (hdg : decode cc pc = .ok (.getfield index, 3))
    (kk : W p l e R s m args below meth c H locs cells slots Q (F0 m (pc + 3) ls (v :: rest))) : W p l e R s m args below meth c H locs cells slots Q (F0 m pc ls (.ref a :: rest)) :=
  va_get hx hb hts hin hown hK.1 (hP.one he) 0 rfl hc k hk hlink (fun x h => hsame ▸ h) hv hdg kk
theorem g_put (hx : p.tables.exec = Jvm.exec) (hb : c.code = cc) {ref C : String} {T : u_T} {N ci index : Nat} (hts : ∀ w ∈ Ts, w.before args s = true) (hin : ∀ w ∈ u_ws C T N, w ∈ Ts) (ty0 : Nat → FieldType) (hty : ∀ k, k < N → parseFieldDescriptor (T k).2.2.1 = some (ty0 k)) (hnm : ∀ a, a < N → ∀ b, b < N → a ≠ b → (T a).2.1 ≠ (T b).2.1) (hown : s.vm.findClass own = some m.cls) (hK : gK E s) (hP : gP E A n G H) (hS : va_S A H0 H locs) {fs : List Value} (he : G a = some (.inr (ci, fs))) (hc : cls[ci]? = some (C, T, N)) (k : Nat) (hk : k < N) (hlink : (Cond.fieldLink own index ref (T k).2.1 (T k).2.2.1).before args s = true) (hsame : (T k).1 = ref) (hfin : (T k).2.2.2 = false ∨ ((T k).2.2.2 = true ∧ meth.name = "<init>" ∧ (T k).1 = own)) {ty : FieldType} {v : Value} (hd : parseFieldDescriptor (T k).2.2.1 = some ty) (hn : narrow ty v = v) (hfit : fits ty v = true) (hl : k < fs.length)
    (hdg : decode cc pc = .ok (.putfield index, 3)) (kk : ∀ (H1 : Heap) (locs1 : List Loc), gP E A n (gup G a (.inr (ci, fs.set k v))) H1 → va_S A H0 H1 locs1 → W p l e R s m args below meth c H1 locs1 cells slots Q (F0 m (pc + 3) ls rest)) : W p l e R s m args below meth c H locs cells slots Q (F0 m pc ls (v :: .ref a :: rest)) := by
  have hap := va_apart (own := own) hts hin ty0 hty hnm hK.1 hc
  have hAa := (hP.2 a _ he).1
  obtain ⟨r, h1, cell, q1, q2, q3, q4⟩ := (hP.2 a _ he).2
  have hr : r = (C, T, N) := Option.some.inj (h1.symm.trans hc)
  subst hr
  obtain ⟨hSl, hfc, kC, hkC, hkind⟩ := hK.1.1 ci _ hc
  obtain ⟨cf, kf, fi, f, hi, hsl⟩ := hSl k hk
  have hi' : s.fieldFound? ref (T k).2.1 (T k).2.2.1 = some (cf, kf, fi, f) := hsame ▸ hi
  have hst := (u_facts hfc hkC (u_lays hts hin hk) hi).1
  have fin : ∀ H' : Heap, H'[a]? = some (cell.setSlot f.slot v) → H'.size = H.size → (∀ q : Nat, q ≠ a → H'[q]? = H[q]?) → W p l e R s m args below meth c H' (locs ++ [⟨a, f.slot⟩]) cells slots Q (F0 m (pc + 3) ls rest) := by
    intro H' e1 e2 e3
    rw [hsl] at e1
    exact kk H' _ (hP.set he e2 ⟨_, hc, t_OB.to (V := updV (vp_V fs) k v) ⟨_, e1, q2, q3, t_set q4 hap hk v⟩ (fun j _ => vp_updV_set hl v j)⟩ e3) (hS.put e2 e3 hAa)
  have hslot : f.slot < cell.slots.size := by rw [hsl]; exact k2_hasslot (q4 k hk)
  have hlay := hts _ (hin _ (u_in_lay hk))
  unfold u_lay at hlay
  rcases hfin with hf | ⟨hf, hin2, hdecl⟩
  · rw [if_neg (by rw [hf]; decide)] at hlay
    exact W.putK hx hb (f := f) ⟨hown, hlink, ⟨_, _, _, hi'⟩, hst⟩ (by rw [q2]; exact u_store hfc hkC hkind hlay hi hd hn hfit) q1 q3 hslot rfl rfl hdg fin
  · rw [if_pos hf] at hlay
    have hcf : m.cls = cf := by
      obtain ⟨_, _, c', _, _, _, -, -, hf', -, -, -, hown2, -⟩ := Cond.laysFinal_spec hlay
      have e1 : c' = cf := by have := hi.symm.trans hf'; simp at this; exact this.1.symm
      rw [hdecl] at hown2
      rw [← e1]; exact Option.some.inj (hown.symm.trans hown2)
    exact W.putFinK hx hb hown hlink hi' hst hcf hin2 (by rw [q2]; exact u_fits hfc hkC hkind (Or.inr hlay) hi hd hn hfit) q1 q3 hslot rfl rfl hdg fin
theorem g_iald (hx : p.tables.exec = Jvm.exec) (hb : c.code = cc) (hK : gK E s) (hP : gP E A n G H) {k : Nat} {f : Nat → Int32} (he : G a = some (.inl (E.2 0, k, .inl f))) {i : Int32} (hin : vp_in i k) (hdg : decode cc pc = .ok (.iaload, 1))
    (kk : W p l e R s m args below meth c H locs cells slots Q (F0 m (pc + 1) ls (.int (f i.toNatClampNeg) :: rest))) : W p l e R s m args below meth c H locs cells slots Q (F0 m pc ls (.int i :: .ref a :: rest)) :=
  va_iald hx hb hK.1 (hP.one he) 0 0 rfl rfl hin hdg kk
theorem g_lald (hx : p.tables.exec = Jvm.exec) (hb : c.code = cc) (hK : gK E s) (hP : gP E A n G H) {k : Nat} {f : Nat → Int64} (he : G a = some (.inl (E.2 1, k, .inr (.inl f)))) {i : Int32} (hin : vp_in i k) (hdg : decode cc pc = .ok (.laload, 1))
    (kk : W p l e R s m args below meth c H locs cells slots Q (F0 m (pc + 1) ls (.long (f i.toNatClampNeg) :: rest))) : W p l e R s m args below meth c H locs cells slots Q (F0 m pc ls (.int i :: .ref a :: rest)) :=
  va_lald hx hb hK.1 (hP.one he) 0 1 rfl rfl hin hdg kk
theorem g_aald (hx : p.tables.exec = Jvm.exec) (hb : c.code = cc) (hK : gK E s) (hP : gP E A n G H) {k t0 : Nat} {C : String} {cA : ClassId} {f : Nat → Option Nat} (he : G a = some (.inl (cA, k, .inr (.inr (.inr (.inr f)))))) (ht : (gty E)[t0]? = some (cA, .object C)) {i : Int32} {v : Value} (hin : vp_in i k) (hv : va_rf (f i.toNatClampNeg) = v) (hdg : decode cc pc = .ok (.aaload, 1))
    (kk : W p l e R s m args below meth c H locs cells slots Q (F0 m (pc + 1) ls (v :: rest))) : W p l e R s m args below meth c H locs cells slots Q (F0 m pc ls (.int i :: .ref a :: rest)) := by
  subst hv
  exact va_aldq hx hb hK.1 (hP.one he) 0 t0 rfl ht hin hdg kk
theorem g_alen (hx : p.tables.exec = Jvm.exec) (hb : c.code = cc) (hK : gK E s) (hP : gP E A n G H) {t0 : Nat} {ty : FieldType} {cA : ClassId} {x : vp_A} (he : G a = some (.inl (cA, x))) (ht : (gty E)[t0]? = some (cA, ty)) {v : Int32} (hv : Int32.ofNat x.1 = v) (hdg : decode cc pc = .ok (.arraylength, 1))
    (kk : W p l e R s m args below meth c H locs cells slots Q (F0 m (pc + 1) ls (.int v :: rest))) : W p l e R s m args below meth c H locs cells slots Q (F0 m pc ls (.ref a :: rest)) :=
  va_alen hx hb hK.1 (hP.one he) 0 t0 rfl ht hv hdg kk
theorem g_iast (hx : p.tables.exec = Jvm.exec) (hb : c.code = cc) (hK : gK E s) (hP : gP E A n G H) (hS : va_S A H0 H locs) {k : Nat} {f : Nat → Int32} (he : G a = some (.inl (E.2 0, k, .inl f))) {i x : Int32} (hin : vp_in i k) (hdg : decode cc pc = .ok (.iastore, 1))
    (kk : ∀ (H1 : Heap) (locs1 : List Loc), gP E A n (gup G a (.inl (E.2 0, k, .inl (upd f i.toNatClampNeg x)))) H1 → va_S A H0 H1 locs1 → W p l e R s m args below meth c H1 locs1 cells slots Q (F0 m (pc + 1) ls rest)) : W p l e R s m args below meth c H locs cells slots Q (F0 m pc ls (.int x :: .int i :: .ref a :: rest)) := by
  refine W.iast hx hb ((hP.2 a _ he).2 : H[a]? = some (vp_cell _ _)) ((hK.1.2 0 _ rfl).1 k (fun j => .int (f j))) (fun q => by cases q) (by show ¬ (i < 0 ∨ (arrV _ _ _).slots.size ≤ _); rw [arrV_size]; exact hin) rfl rfl hdg fun H1 e1 z oq => ?_
  refine kk H1 _ (hP.set he z ?_ oq) (hS.put z oq (hP.2 a _ he).1)
  show H1[a]? = some (vp_cell _ _)
  rw [e1, vp_cell_i, vp_cell_i, arrV_store]
  congr 2
  funext q
  by_cases hq : q = i.toNatClampNeg <;> simp [updV, upd, hq]
theorem g_last (hx : p.tables.exec = Jvm.exec) (hb : c.code = cc) (hK : gK E s) (hP : gP E A n G H) (hS : va_S A H0 H locs) {k : Nat} {f : Nat → Int64} (he : G a = some (.inl (E.2 1, k, .inr (.inl f)))) {i : Int32} {x : Int64} (hin : vp_in i k) (hdg : decode cc pc = .ok (.lastore, 1))
    (kk : ∀ (H1 : Heap) (locs1 : List Loc), gP E A n (gup G a (.inl (E.2 1, k, .inr (.inl (vp_updL f i.toNatClampNeg x))))) H1 → va_S A H0 H1 locs1 → W p l e R s m args below meth c H1 locs1 cells slots Q (F0 m (pc + 1) ls rest)) : W p l e R s m args below meth c H locs cells slots Q (F0 m pc ls (.long x :: .int i :: .ref a :: rest)) := by
  refine W.last hx hb ((hP.2 a _ he).2 : H[a]? = some (vp_cell _ _)) ((hK.1.2 1 _ rfl).1 k (fun j => .long (f j))) (fun q => by cases q) (by show ¬ (i < 0 ∨ (arrV _ _ _).slots.size ≤ _); rw [arrV_size]; exact hin) rfl rfl hdg fun H1 e1 z oq => ?_
  refine kk H1 _ (hP.set he z ?_ oq) (hS.put z oq (hP.2 a _ he).1)
  show H1[a]? = some (vp_cell _ _)
  rw [e1, vp_cell_l, vp_cell_l, arrV_store]
  congr 2
  funext q
  by_cases hq : q = i.toNatClampNeg <;> simp [updV, vp_updL, hq]
theorem g_aast (hx : p.tables.exec = Jvm.exec) (hb : c.code = cc) (hK : gK E s) (hP : gP E A n G H) (hS : va_S A H0 H locs) {k t0 ci v : Nat} {r : vw_C} {cA : ClassId} {f : Nat → Option Nat} {vs : List Value} (he : G a = some (.inl (cA, k, .inr (.inr (.inr (.inr f)))))) (ht : (gty E)[t0]? = some (cA, .object r.1)) (hv : G v = some (.inr (ci, vs))) (hc : cls[ci]? = some r) {i : Int32} (hin : vp_in i k) (hdg : decode cc pc = .ok (.aastore, 1))
    (kk : ∀ (H1 : Heap) (locs1 : List Loc), gP E A n (gup G a (.inl (cA, k, .inr (.inr (.inr (.inr (va_up f i.toNatClampNeg (some v)))))))) H1 → va_S A H0 H1 locs1 → W p l e R s m args below meth c H1 locs1 cells slots Q (F0 m (pc + 1) ls rest)) : W p l e R s m args below meth c H locs cells slots Q (F0 m pc ls (.ref v :: .int i :: .ref a :: rest)) := by
  have hlt : i.toNatClampNeg < k := Nat.not_le.mp fun q => hin (Or.inr q)
  have h0 : ¬ i < 0 := fun q => hin (Or.inl q)
  obtain ⟨r', hr', cellV, g1, g2, g3, -⟩ := (hP.2 v _ hv).2
  have hcls := (hK.1.1 ci r hc).2
  obtain ⟨kA, comp, k1, k2, k3, -⟩ := (hK.1.2 t0 _ ht).2
  have hcomp : comp = E.1.1 ci := Option.some.inj (k3.symm.trans hcls.1)
  subst hcomp
  obtain ⟨kC, hkC, -⟩ := hcls.2
  refine W.aast hx hb ((hP.2 a _ he).2 : H[a]? = some (vp_cell _ _)) (fun q h => by cases h) (fun h => by cases h) k1 k2 rfl hkC ⟨h0, by show _ < (arrV _ _ _).slots.size; rw [arrV_size]; exact hlt⟩ g1 (fun q h => by rw [g3] at h; cases h) (by rw [g2]; exact hkC) (by rw [g2]; exact va_assign hcls) rfl rfl hdg fun H1 e1 z oq => ?_
  refine kk H1 _ (hP.set he z ?_ oq) (hS.put z oq (hP.2 a _ he).1)
  show H1[a]? = some (vp_cell _ _)
  rw [e1, vp_cell_q, vp_cell_q, arrV_store]
  congr 2
  funext q
  by_cases hq : q = i.toNatClampNeg <;> simp [updV, va_up, hq, va_rf]
theorem g_new (hx : p.tables.exec = Jvm.exec) (hb : c.code = cc) {C : String} {T : u_T} {N ci index : Nat} (hts : ∀ w ∈ Ts, w.before args s = true) (hin : ∀ w ∈ u_ws C T N, w ∈ Ts) (ty : Nat → FieldType) (hty : ∀ k, k < N → parseFieldDescriptor (T k).2.2.1 = some (ty k)) (hown : s.vm.findClass own = some m.cls) (hcl : (Cond.classLink own index C).before args s = true) (hinst : (Cond.instantiable C N).before args s = true) (hini : (Cond.initialized C).before args s = true)
    (hK : gK E s) (hP : gP E A n G H) (hS : va_S A H0 H locs) (hA : ∀ q, n ≤ q → A q) (hc : cls[ci]? = some (C, T, N)) {fs : List Value} (hfs : ∀ j, j < N → defaultValue (ty j) = vp_V fs j) (hcells : cells + 1 ≤ R.cells) (hslots : slots + N ≤ R.slots) (hdg : decode cc pc = .ok (.new index, 3))
    (kk : ∀ (H1 : Heap), gP E A (n + 1) (gup G n (.inr (ci, fs))) H1 → va_S A H0 H1 locs → W p l e R s m args below meth c H1 locs (cells + 1) (slots + N) Q (F0 m (pc + 3) ls (.ref n :: rest))) : W p l e R s m args below meth c H locs cells slots Q (F0 m pc ls rest) := by
  have hKn := hK.1.1 ci _ hc
  refine W.newcK hx hb hown hcl hinst hini rfl hdg hcells hslots hKn.2.1 hP.1 fun H1 kC hkC e1 z1 o1 => ?_
  exact kk H1 (hP.push hA z1 ⟨_, hc, (u_born ty hts hin hKn hkC e1 hty).to hfs⟩ o1) (gS.new hS (by rw [hP.1, z1]; omega) (fun q hq => o1 q (by rw [← hP.1]; exact hq)))
theorem g_newa (hx : p.tables.exec = Jvm.exec) (hb : c.code = cc) {atype : ArrayType} (harr : (Cond.arrayClass (newarray.typeOf atype)).before args s = true) {t0 : Nat} {cA : ClassId} (ht : (gty E)[t0]? = some (cA, newarray.typeOf atype)) (hns : va_RA s cA (newarray.typeOf atype) = (s.vm.findClass ("[" ++ (newarray.typeOf atype).toString) = some cA)) (hK : gK E s) (hP : gP E A n G H) (hS : va_S A H0 H locs) (hA : ∀ q, n ≤ q → A q)
    {i : Int32} {N' : Nat} {a0 : vp_A} (ha : vp_cell cA a0 = arrV cA N' (fun _ => defaultValue (newarray.typeOf atype))) (hn : ¬ i < 0) (hN : i.toNatClampNeg = N') (hbytes : N' * componentBytes (newarray.typeOf atype) ≤ 536870912) (hcells : cells + 1 ≤ R.cells) (hslots : slots + N' ≤ R.slots) (hdg : decode cc pc = .ok (.newarray atype, 2))
    (kk : ∀ (H1 : Heap), gP E A (n + 1) (gup G n (.inl (cA, a0))) H1 → va_S A H0 H1 locs → W p l e R s m args below meth c H1 locs (cells + 1) (slots + N') Q (F0 m (pc + 2) ls (.ref n :: rest))) : W p l e R s m args below meth c H locs cells slots Q (F0 m pc ls (.int i :: rest)) := by
  refine va_newaK hx hb harr rfl hdg rfl hn hN hbytes hcells hslots hP.1 fun H1 cA' e1 z1 o1 hAr hNm => ?_
  have h2 := (hK.1.2 t0 _ ht).2
  rw [hns] at h2
  have : cA' = cA := Option.some.inj (hNm.symm.trans h2)
  subst this
  refine kk H1 (hP.push hA z1 ?_ o1) (gS.new hS (by rw [hP.1, z1]; omega) (fun q hq => o1 q (by rw [← hP.1]; exact hq)))
  show H1[n]? = some (vp_cell _ _)
  rw [ha]
  exact e1
theorem g_newq (hx : p.tables.exec = Jvm.exec) (hb : c.code = cc) {C : String} {index : Nat} (hown : s.vm.findClass own = some m.cls) (hclink : (Cond.classLink own index C).before args s = true) (hover : va_AO C s) {t0 : Nat} {cA : ClassId} (ht : (gty E)[t0]? = some (cA, .object C)) (hK : gK E s) (hP : gP E A n G H) (hS : va_S A H0 H locs) (hA : ∀ q, n ≤ q → A q)
    {i : Int32} {N' : Nat} (hn : ¬ i < 0) (hN : i.toNatClampNeg = N') (hbytes : N' * 4 ≤ 536870912) (hcells : cells + 1 ≤ R.cells) (hslots : slots + N' ≤ R.slots) (hdg : decode cc pc = .ok (.anewarray index, 3))
    (kk : ∀ (H1 : Heap), gP E A (n + 1) (gup G n (.inl (cA, N', .inr (.inr (.inr (.inr (fun _ => none))))))) H1 → va_S A H0 H1 locs → W p l e R s m args below meth c H1 locs (cells + 1) (slots + N') Q (F0 m (pc + 3) ls (.ref n :: rest))) : W p l e R s m args below meth c H locs cells slots Q (F0 m pc ls (.int i :: rest)) := by
  subst hN
  refine W.anew hx hb hown hclink (va_AO.use hover) rfl hdg rfl hn hbytes hcells hslots fun cA' kA comp f1 f2 f3 f4 => ?_
  obtain ⟨kA2, comp2, -, -, -, h4⟩ := (hK.1.2 t0 _ ht).2
  have : cA' = cA := Option.some.inj (f1.symm.trans h4)
  subst this
  have hn' := hP.1
  generalize hH1 : H.push ({ cls := cA', slots := Array.replicate i.toNatClampNeg .null, vm := .none } : Cell) = H1
  have z1 : H1.size = n + 1 := by rw [← hH1, Array.size_push, hn']
  have e1 : H1[n]? = some (arrV cA' i.toNatClampNeg (fun _ => .null)) := by rw [← hH1, ← hn', Array.getElem?_push_size, ← arrV_new]
  have o1 : ∀ q : Nat, q < n → H1[q]? = H[q]? := fun q hq => by rw [← hH1, Array.getElem?_push, if_neg (by omega)]
  have hst : W p l e R s m args below meth c H1 locs (cells + 1) (slots + i.toNatClampNeg) Q (F0 m (pc + 3) ls (.ref n :: rest)) := by
    refine kk H1 (hP.push hA z1 ?_ o1) (gS.new hS (by rw [hn', z1]; omega) (fun q hq => o1 q (by rw [← hn']; exact hq)))
    show H1[n]? = some (vp_cell _ _)
    rw [vp_cell_q]
    exact e1
  rw [← hn'] at hst
  exact hst
end GR
