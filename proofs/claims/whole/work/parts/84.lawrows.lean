/-! the law's own rows: two worlds side by side -/
def aX (z o : Nat) : Nat → Prop := fun q => z ≤ q ∧ ¬ (o ≤ q ∧ q < o + 27)
def aM (o : Nat) : Nat → Prop := fun q => o ≤ q ∧ q < o + 27
def aZ (z : Nat) : Nat → Prop := fun q => z ≤ q
section LWR
variable {p : Program} {l : Launch} {e : Env} {R : Room} {s : State} {m : MethodId} {args : Array Value} {below : List Frame} {meth : Method} {c0 : Code} {H H0 : Heap} {locs : List Loc} {cells slots mc ms : Nat} {Q : State → Prop}
variable {cc : ByteArray} {pc : Nat} {ls : Array Slot} {rest st0 : List Value} {E : gT} {n z o : Nat} {a : Array Value}
theorem lw_cx {post : Int32 → Nat → gH → Prop} {Gm : gH} (hr : va_Run p l e R s m args below meth c0 H locs cells slots mc ms (F0 m pc ls st0) rest (gQi E (aX z o) post a) (aX z o)) (hS : va_S (aZ z) H0 H locs) (hPm : gP E (aM o) n Gm H)
    (kk : ∀ (r : Int32) (n' : Nat) (G' : gH) (H1 : Heap) (locs1 : List Loc), post r n' G' → gP E (aX z o) n' G' H1 → gP E (aM o) n' Gm H1 → va_S (aZ z) H0 H1 locs1 → W p l e R s m args below meth c0 H1 locs1 (cells + mc) (slots + ms) Q (F0 m (pc + 3) ls (.int r :: rest))) : W p l e R s m args below meth c0 H locs cells slots Q (F0 m pc ls st0) := by
  refine va_calli hr hS (fun q _ h => h.1) (fun q h => h.1) (fun r u t H1 locs1 ht _ hp hb _ hk hS1 => ?_)
  have hb : gP E (aX z o) u.1 u.2 H1 := by rw [← ht]; exact hb
  exact kk r u.1 u.2 H1 locs1 hp hb (hPm.keep hb.1 (fun q eq hq => hk q ((hPm.2 q eq hq).2.lt) (fun y => y.2 (hPm.2 q eq hq).1))) hS1
theorem lw_cm {post : Int32 → Nat → gH → Prop} {Gx : gH} (hzo : z ≤ o) (hr : va_Run p l e R s m args below meth c0 H locs cells slots mc ms (F0 m pc ls st0) rest (gQi E (aM o) post a) (aM o)) (hS : va_S (aZ z) H0 H locs) (hPx : gP E (aX z o) n Gx H)
    (kk : ∀ (r : Int32) (n' : Nat) (G' : gH) (H1 : Heap) (locs1 : List Loc), post r n' G' → gP E (aM o) n' G' H1 → gP E (aX z o) n' Gx H1 → va_S (aZ z) H0 H1 locs1 → W p l e R s m args below meth c0 H1 locs1 (cells + mc) (slots + ms) Q (F0 m (pc + 3) ls (.int r :: rest))) : W p l e R s m args below meth c0 H locs cells slots Q (F0 m pc ls st0) := by
  refine va_calli hr hS (fun q _ h => Nat.le_trans hzo h.1) (fun q h => Nat.le_trans hzo h.1) (fun r u t H1 locs1 ht _ hp hb _ hk hS1 => ?_)
  have hb : gP E (aM o) u.1 u.2 H1 := by rw [← ht]; exact hb
  exact kk r u.1 u.2 H1 locs1 hp hb (hPx.keep hb.1 (fun q eq hq => hk q ((hPx.2 q eq hq).2.lt) (fun y => (hPx.2 q eq hq).1.2 y))) hS1
theorem lw_sld {b L i j : Nat} {xs : Nat → Int32} {jv : Int32} (hx : p.tables.exec = Jvm.exec) (hb : c0.code = cc) (hX : va_X b L xs s s.heap) (hbl : b < s.heap.size) (hS : va_S (aZ s.heap.size) s.heap H locs) (hj : nI j = jv) (h : i + j < L) (hL : L ≤ 2560) (hdg : decode cc pc = .ok (.iaload, 1))
    (kk : W p l e R s m args below meth c0 H locs cells slots Q (F0 m (pc + 1) ls (.int (xs (i + j)) :: rest))) : W p l e R s m args below meth c0 H locs cells slots Q (F0 m pc ls (.int (nI i + jv) :: .ref b :: rest)) := by
  subst hj
  rw [nI_add]
  refine va_sld hx hb hX hbl (Nat.not_le.mpr hbl) hS (vp_in_nI h (by omega)) hdg ?_
  rw [nI_clamp (by omega)]
  exact kk
end LWR
def lwI (E : gT) (z x o : Nat) (H : Heap) : Prop := ∃ (n : Nat) (G : gH) (c : Nat → Int32) (S : Nat → Nat → Int32) (Y : gL), gP E (aX z o) n G H ∧ gP E (aM o) n (GM E o c S) H ∧ (z ≤ o ∧ o + 27 ≤ n) ∧ pAll c S ∧ Sim E G x c S Y
def lwV (b x o i : Nat) : List (Nat × Value) := [(0, .ref b), (1, .ref x), (2, .ref o), (3, .int (nI i))]
def lwW (p : Program) (l : Launch) (e : Env) (s : State) (m : MethodId) (below : List Frame) (meth : Method) (c0 : Code) (b : Nat) (E : gT) (x o i cells slots : Nat) (Q : State → Prop) (pc : Nat) : Prop := ∀ (H : Heap) (locs : List Loc) (ls : Array Slot), lwI E s.heap.size x o H → va_S (aZ s.heap.size) s.heap H locs → lv_has ls 4 (lwV b x o i) → W p l e room_1 s m #[Value.ref b] below meth c0 H locs cells slots Q (F0 m pc ls [])
theorem lw_up {p : Program} {l : Launch} {e : Env} {s : State} {m : MethodId} {below : List Frame} {meth : Method} {c0 : Code} {b : Nat} {E : gT} {x o i cells slots cells' slots' : Nat} {Q : State → Prop} {pc : Nat} (h1 : cells ≤ cells') (h2 : slots ≤ slots') (h : lwW p l e s m below meth c0 b E x o i cells' slots' Q pc) : lwW p l e s m below meth c0 b E x o i cells slots Q pc := fun H locs ls hI hS hl => W.widen h1 h2 (h H locs ls hI hS hl)
