/-! further rows: references in rows, a row's length, WAVE, Math's own -/
section R21
variable {G : GG} {p : Program} {l : Launch} {e : Env} {R : Room} {s : State} {m : MethodId} {args : Array Value} {below : List Frame} {meth : Method} {c : Code} {H : Heap} {locs : List Loc} {cells slots : Nat} {Q : State → Prop}
variable {cc : ByteArray} {pc : Nat} {ls : Array Slot} {rest : List Value} {nL n idx : Nat} {own : String} {q : Nat → Nat} {E : Nat → va_E}
theorem r_alenI (C : CX G p s m args c cc nL own n q) (hW : WB G n q E s H locs) {o z : Nat} {f : Nat → Int32} (ho : o < n) (he : E o = .inl (G.2.1.1, z, .inl f)) {v : Int32} (hv : Int32.ofNat z = v) (hdg : decode cc pc = .ok (.arraylength, 1))
    (kk : W p l e R s m args below meth c H locs cells slots Q (F0 m (pc + 1) ls (.int v :: rest))) : W p l e R s m args below meth c H locs cells slots Q (F0 m pc ls (.ref (q o) :: rest)) := by
  obtain ⟨hx, hb, -, -, -, hE, -, -⟩ := C
  exact va_alen hx hb hE.1 hW.1 o 0 (x := (z, .inl f)) (by rw [wl_at ho, he]) (ty := .int) rfl hv hdg kk
theorem r_alenL (C : CX G p s m args c cc nL own n q) (hW : WB G n q E s H locs) {o z : Nat} {f : Nat → Int64} (ho : o < n) (he : E o = .inl (G.2.1.2.1, z, .inr (.inl f))) {v : Int32} (hv : Int32.ofNat z = v) (hdg : decode cc pc = .ok (.arraylength, 1))
    (kk : W p l e R s m args below meth c H locs cells slots Q (F0 m (pc + 1) ls (.int v :: rest))) : W p l e R s m args below meth c H locs cells slots Q (F0 m pc ls (.ref (q o) :: rest)) := by
  obtain ⟨hx, hb, -, -, -, hE, -, -⟩ := C
  exact va_alen hx hb hE.1 hW.1 o 1 (x := (z, .inr (.inl f))) (by rw [wl_at ho, he]) (ty := .long) rfl hv hdg kk
theorem r_qald (C : CX G p s m args c cc nL own n q) (hW : WB G n q E s H locs) {o z : Nat} {f : Nat → Option Nat} (ho : o < n) (he : E o = .inl (G.2.1.2.2.2, z, .inr (.inr (.inr (.inr f))))) {i : Int32} {k : Nat} (hi : i.toInt = (k : Int)) (hk : k < z) {v : Option Nat} (hv : f k = v) (hdg : decode cc pc = .ok (.aaload, 1))
    (kk : W p l e R s m args below meth c H locs cells slots Q (F0 m (pc + 1) ls (va_rf v :: rest))) : W p l e R s m args below meth c H locs cells slots Q (F0 m pc ls (.int i :: .ref (q o) :: rest)) := by
  obtain ⟨hx, hb, -, -, -, hE, -, -⟩ := C
  have e : i.toNatClampNeg = k := by show i.toInt.toNat = k; rw [hi]; rfl
  refine va_aldq hx hb hE.1 hW.1 o 3 (f := f) (n := z) (by rw [wl_at ho, he]) (C := RX1) rfl (vp_in_iff.mpr (by omega)) hdg ?_
  rw [e, hv]
  exact kk
theorem r_qast (C : CX G p s m args c cc nL own n q) (hW : WB G n q E s H locs) {o z d : Nat} {f : Nat → Option Nat} {fs : List Value} (ho : o < n) (he : E o = .inl (G.2.1.2.2.2, z, .inr (.inr (.inr (.inr f))))) (hd : d < n) (hde : E d = .inr (1, fs)) {i : Int32} {k : Nat} (hi : i.toInt = (k : Int)) (hk : k < z) (hdg : decode cc pc = .ok (.aastore, 1)) {E' : Nat → va_E} (hE' : ∀ j, j < n → va_up E o (.inl (G.2.1.2.2.2, z, .inr (.inr (.inr (.inr (va_up f k (some (q d)))))))) j = E' j)
    (kk : ∀ (H1 : Heap) (locs1 : List Loc), WB G n q E' s H1 locs1 → W p l e R s m args below meth c H1 locs1 cells slots Q (F0 m (pc + 1) ls rest)) : W p l e R s m args below meth c H locs cells slots Q (F0 m pc ls (.ref (q d) :: .int i :: .ref (q o) :: rest)) := by
  obtain ⟨hx, hb, -, -, -, hE, hj, -⟩ := C
  have e : i.toNatClampNeg = k := by show i.toInt.toNat = k; rw [hi]; rfl
  refine va_astq hx hb hE.1 hW.1 (wl_D hj _) hW.2 o 3 d 1 (r := (RX1, TX1, 8)) (f := f) (n := z) (vs := fs) (by rw [wl_at ho, he]) rfl (by rw [wl_at hd, hde]) rfl (vp_in_iff.mpr (by omega)) hdg (fun H1 locs1 hP _ hS => kk H1 locs1 (WB.to ⟨?_, hS⟩ hE'))
  rw [← wl_set ho, ← e]
  exact hP
theorem r_wave (C : CX G p s m args c cc nL RX6 n q) (hW : WB G n q E s H locs) (hdg : decode cc pc = .ok (.getstatic 54, 3))
    (kk : W p l e R s m args below meth c H locs cells slots Q (F0 m (pc + 3) ls (.ref G.2.2 :: rest))) : W p l e R s m args below meth c H locs cells slots Q (F0 m pc ls rest) :=
  va_gets C.1 C.2.1 C.2.2.2.2.2.2.2.1 hW.2 C.2.2.2.1 (C.2.2.2.2.1 _ bF_X6_54) (fun _ h => h) hdg kk
theorem r_wald (C : CX G p s m args c cc nL own n q) (hW : WB G n q E s H locs) {i : Int32} {k : Nat} (hi : i.toInt = (k : Int)) (hk : k < 16) (hdg : decode cc pc = .ok (.iaload, 1))
    (kk : W p l e R s m args below meth c H locs cells slots Q (F0 m (pc + 1) ls (.int (wv k) :: rest))) : W p l e R s m args below meth c H locs cells slots Q (F0 m pc ls (.int i :: .ref G.2.2 :: rest)) := by
  have e : i.toNatClampNeg = k := by show i.toInt.toNat = k; rw [hi]; rfl
  exact va_ti C.1 C.2.1 C.2.2.2.2.2.2.2.2 hW.2 (vp_in_iff.mpr (by omega)) (by rw [e]) hdg kk
theorem r_max (C : CX G p s m args c cc nL own n q) (hl : ls.size = nL) (hm : Cond.methodLink own idx Lib.Math.max.name ∈ BIG) (hf : 1 ≤ R.frames) (hlo : (rest.map fun v => v.category).sum + 13 ≤ R.locals) (hc : cells ≤ R.cells ∧ slots ≤ R.slots) {x y : Int32} (hdg : decode cc pc = .ok (.invokestatic idx, 3))
    (kk : W p l e R s m args below meth c H locs cells slots Q (F0 m (pc + 3) ls (.int (if x < y then y else x) :: rest))) : W p l e R s m args below meth c H locs cells slots Q (F0 m pc ls (.int y :: .int x :: rest)) :=
  va_mmax C.1 C.2.1 (C.2.2.1.trans hl.symm) C.2.2.2.1 (C.2.2.2.2.1 _ hm) (C.2.2.2.2.1 _ bS_mmax) (C.2.2.2.2.1 _ bN_J9) (C.2.2.2.2.1 _ bC_mmax) hf hlo hc.1 hc.2 hdg kk
theorem r_min (C : CX G p s m args c cc nL own n q) (hl : ls.size = nL) (hm : Cond.methodLink own idx Lib.Math.min.name ∈ BIG) (hf : 1 ≤ R.frames) (hlo : (rest.map fun v => v.category).sum + 13 ≤ R.locals) (hc : cells ≤ R.cells ∧ slots ≤ R.slots) {x y : Int32} (hdg : decode cc pc = .ok (.invokestatic idx, 3))
    (kk : W p l e R s m args below meth c H locs cells slots Q (F0 m (pc + 3) ls (.int (if y < x then y else x) :: rest))) : W p l e R s m args below meth c H locs cells slots Q (F0 m pc ls (.int y :: .int x :: rest)) :=
  va_mmin C.1 C.2.1 (C.2.2.1.trans hl.symm) C.2.2.2.1 (C.2.2.2.2.1 _ hm) (C.2.2.2.2.1 _ bS_mmin) (C.2.2.2.2.1 _ bN_J9) (C.2.2.2.2.1 _ bC_mmin) hf hlo hc.1 hc.2 hdg kk
theorem r_abs (C : CX G p s m args c cc nL own n q) (hl : ls.size = nL) (hm : Cond.methodLink own idx Lib.Math.abs.name ∈ BIG) (hf : 1 ≤ R.frames) (hlo : (rest.map fun v => v.category).sum + 13 ≤ R.locals) (hc : cells ≤ R.cells ∧ slots ≤ R.slots) {x : Int32} (hdg : decode cc pc = .ok (.invokestatic idx, 3))
    (kk : W p l e R s m args below meth c H locs cells slots Q (F0 m (pc + 3) ls (.int (if 0 ≤ x then x else 0 - x) :: rest))) : W p l e R s m args below meth c H locs cells slots Q (F0 m pc ls (.int x :: rest)) :=
  va_mabs C.1 C.2.1 (C.2.2.1.trans hl.symm) C.2.2.2.1 (C.2.2.2.2.1 _ hm) (C.2.2.2.2.1 _ bS_mabs) (C.2.2.2.2.1 _ bN_J9) (C.2.2.2.2.1 _ bC_mabs) hf hlo hc.1 hc.2 hdg kk
end R21
