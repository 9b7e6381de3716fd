/-! A world as a row of n cells: cell k at the address q k holds E k. What is fixed in a method (CX), what moves (WB), a contract's start (PW) and its world's end (BW). -/
def wl (n : Nat) (q : Nat → Nat) (E : Nat → va_E) : va_W := (List.range n).map (fun k => (q k, E k))
theorem wl_len (n : Nat) (q : Nat → Nat) (E : Nat → va_E) : (wl n q E).length = n := by simp [wl]
theorem wl_at {n : Nat} {q : Nat → Nat} {E : Nat → va_E} {k : Nat} (h : k < n) : (wl n q E)[k]? = some (q k, E k) := by simp [wl, h]
theorem wl_of {n : Nat} {q : Nat → Nat} {E : Nat → va_E} {k : Nat} {x : Nat × va_E} (h : (wl n q E)[k]? = some x) : k < n ∧ x = (q k, E k) := by
  have hk : k < n := by
    have := (List.getElem?_eq_some_iff.mp h).1
    rwa [wl_len] at this
  rw [wl_at hk] at h
  exact ⟨hk, (Option.some.inj h).symm⟩
theorem wl_set {n : Nat} {q : Nat → Nat} {E : Nat → va_E} {k : Nat} (h : k < n) (v : va_E) : (wl n q E).set k (q k, v) = wl n q (va_up E k v) := by
  apply List.ext_getElem?
  intro j
  by_cases hj : j < n
  · rw [wl_at hj]
    by_cases e : j = k
    · subst e
      rw [List.getElem?_set_self (by rw [wl_len]; exact hj)]
      simp [va_up]
    · rw [List.getElem?_set_ne (Ne.symm e), wl_at hj]
      simp [va_up, e]
  · rw [List.getElem?_eq_none (by rw [List.length_set, wl_len]; omega), List.getElem?_eq_none (by rw [wl_len]; omega)]
theorem wl_congr {n : Nat} {q : Nat → Nat} {E E' : Nat → va_E} (h : ∀ k, k < n → E k = E' k) : wl n q E = wl n q E' := by
  apply List.ext_getElem?
  intro j
  by_cases hj : j < n
  · rw [wl_at hj, wl_at hj, h j hj]
  · rw [List.getElem?_eq_none (by rw [wl_len]; omega), List.getElem?_eq_none (by rw [wl_len]; omega)]
def inj (n : Nat) (q : Nat → Nat) : Prop := ∀ i j, i < n → j < n → q i = q j → i = j
/-- what a method of this world may change: its cells, and new ones -/
def FA (n : Nat) (q : Nat → Nat) (sz : Nat) : Nat → Prop := fun a => (∃ k, k < n ∧ q k = a) ∨ sz ≤ a
theorem wl_D {n : Nat} {q : Nat → Nat} {E : Nat → va_E} (h : inj n q) (sz : Nat) : va_D (FA n q sz) (wl n q E) := by
  refine ⟨fun i j x y hi hj e => ?_, fun k x hk => ?_⟩
  · obtain ⟨h1, rfl⟩ := wl_of hi
    obtain ⟨h2, rfl⟩ := wl_of hj
    exact h i j h1 h2 e
  · obtain ⟨h1, rfl⟩ := wl_of hk
    exact Or.inl ⟨k, h1, rfl⟩
/-- the launch's own: the classes' slots, the array classes (int, long, boolean, Dish), WAVE's address -/
abbrev GG : Type := va_G × (ClassId × ClassId × ClassId × ClassId) × Nat
def gT (G : GG) : List (ClassId × FieldType) := [(G.2.1.1, .int), (G.2.1.2.1, .long), (G.2.1.2.2.1, .boolean), (G.2.1.2.2.2, .object RX1)]
def gE (G : GG) (U : State) : Prop := va_K G.1 vwCl (gT G) U ∧ va_Nw (.methodLinkNest RX3 33 yX7_isWithin RX7) U
def wvL : List Int32 := [1000, 924, 707, 383, 0, -383, -707, -924, -1000, -924, -707, -383, 0, 383, 707, 924]
def wv (k : Nat) : Int32 := wvL.getD k 0
def gZ (G : GG) (A : Nat → Prop) (U : State) (H : Heap) : Prop := va_Z RX6 "WAVE" "[I" (.ref G.2.2) A U H ∧ va_T .int G.2.2 16 (fun j => .int (wv j)) A U H
theorem gE.moved {G : GG} {u U : State} (h : gE G u) (hW : u.WarmedH U.vm) : gE G U := ⟨va_K.moved hW.alike h.1, va_Nw.warmM hW h.2⟩
theorem gE.calling {G : GG} {U : State} {g : JFrame} {mk : MethodId} {a : Array Value} (h : gE G U) : gE G (U.calling g mk a) :=
  ⟨va_K.moved (u := U) (U := U.calling g mk a) (Vm.Alike.refl U.vm) h.1, va_Nw.same (u := U) (U := U.calling g mk a) rfl rfl h.2⟩
theorem gZ.moved {G : GG} {A : Nat → Prop} {u U : State} {H : Heap} (hvm : u.vm.Alike U.vm) (h : gZ G A u H) : gZ G A U H := ⟨va_Z.moved hvm h.1, va_T.moved hvm h.2⟩
theorem gZ.kept {G : GG} {A : Nat → Prop} {U : State} {H H1 : Heap} (h : gZ G A U H) (hq : ∀ a : Nat, a < H.size → ¬ A a → H1[a]? = H[a]?) : gZ G A U H1 := ⟨va_Z.kept h.1 hq, va_T.kept h.2 hq⟩
theorem gZ.narrow {G : GG} {A B : Nat → Prop} {U : State} {H : Heap} (h : gZ G A U H) (hAB : ∀ q, B q → A q) : gZ G B U H := ⟨va_Z.narrow h.1 hAB, va_T.narrow h.2 hAB⟩
def PW (G : GG) (n : Nat) (q : Nat → Nat) (sz : Nat) (E : Nat → va_E) (U : State) : Prop := U.heap.size = sz ∧ gE G U ∧ inj n q ∧ gZ G (FA n q sz) U U.heap ∧ va_P G.1 vwCl (wl n q E) U.heap
def BW (G : GG) (n : Nat) (q : Nat → Nat) (E : Nat → va_E) (t : State) : Prop := va_P G.1 vwCl (wl n q E) t.heap
abbrev WSb (y : MethodName) (cc : ByteArray) (nL : Nat) (ret : Option FieldType) : List Cond := Cond.code y cc nL ret :: BIG
theorem wsb_good {y : MethodName} {cc : ByteArray} {nL : Nat} {ret : Option FieldType} (h : Cond.code y cc nL ret ∈ BIG) : GoodIn BIG (WSb y cc nL ret) := fun w hw => (List.mem_cons.mp hw).elim (fun e => by rw [e]; exact big_good _ h) (fun h => big_good w h)
def CX (G : GG) (p : Program) (s : State) (m : MethodId) (args : Array Value) (c : Code) (cc : ByteArray) (nL : Nat) (own : String) (n : Nat) (q : Nat → Nat) : Prop :=
  p.tables.exec = Jvm.exec ∧ c.code = cc ∧ c.maxLocals = nL ∧ s.vm.findClass own = some m.cls ∧ (∀ w ∈ BIG, w.before args s = true) ∧ gE G s ∧ inj n q ∧ gZ G (FA n q s.heap.size) s s.heap
def WB (G : GG) (n : Nat) (q : Nat → Nat) (E : Nat → va_E) (s : State) (H : Heap) (locs : List Loc) : Prop := va_P G.1 vwCl (wl n q E) H ∧ va_S (FA n q s.heap.size) s.heap H locs
theorem WB.to {G : GG} {n : Nat} {q : Nat → Nat} {E E' : Nat → va_E} {s : State} {H : Heap} {locs : List Loc} (h : WB G n q E s H locs) (hE : ∀ k, k < n → E k = E' k) : WB G n q E' s H locs := by
  refine ⟨?_, h.2⟩
  rw [← wl_congr hE]
  exact h.1
section BASE
variable {G : GG} {p : Program} {l : Launch} {e : Env} {R : Room} {s : State} {m : MethodId} {args : Array Value} {below : List Frame} {meth : Method} {c : Code} {H : Heap} {locs : List Loc} {cells slots : Nat} {Q : State → Prop}
variable {cc : ByteArray} {pc : Nat} {ls : Array Slot} {rest : List Value} {nL n : Nat} {own : String} {q : Nat → Nat} {E : Nat → va_E}
theorem r_get (C : CX G p s m args c cc nL own n q) (hW : WB G n q E s H locs) {o k idx ci N : Nat} {fs : List Value} {Cn : String} {T : u_T} {v : Value} (ho : o < n) (he : E o = .inr (ci, fs)) (hc : vwCl[ci]? = some (Cn, T, N)) (hk : k < N)
    (hlink : Cond.fieldLink own idx Cn (T k).2.1 (T k).2.2.1 ∈ BIG) (hdecl : (T k).1 = Cn) (hin : ∀ w ∈ u_ws Cn T N, w ∈ BIG) (hv : fs[k]? = some v) (hdg : decode cc pc = .ok (.getfield idx, 3))
    (kk : W p l e R s m args below meth c H locs cells slots Q (F0 m (pc + 3) ls (v :: rest))) : W p l e R s m args below meth c H locs cells slots Q (F0 m pc ls (.ref (q o) :: rest)) := by
  obtain ⟨hx, hb, -, hown, hts, hE, -, -⟩ := C
  exact va_get hx hb hts hin hown hE.1 hW.1 o (fs := fs) (by rw [wl_at ho, he]) hc k hk (hts _ hlink) (fun x h => by rw [← hdecl]; exact h) hv hdg kk
theorem r_put (C : CX G p s m args c cc nL own n q) (hW : WB G n q E s H locs) {o k idx ci N : Nat} {fs : List Value} {Cn : String} {T : u_T} {v : Value} {ty : FieldType} (ho : o < n) (he : E o = .inr (ci, fs)) (hc : vwCl[ci]? = some (Cn, T, N)) (hk : k < N)
    (hlink : Cond.fieldLink own idx Cn (T k).2.1 (T k).2.2.1 ∈ BIG) (hdecl : (T k).1 = Cn) (hin : ∀ w ∈ u_ws Cn T N, w ∈ BIG) (ty0 : Nat → FieldType) (hty : ∀ k, k < N → parseFieldDescriptor (T k).2.2.1 = some (ty0 k)) (hnm : ∀ a, a < N → ∀ b, b < N → a ≠ b → (T a).2.1 ≠ (T b).2.1)
    (hfin : (T k).2.2.2 = false) (hd : parseFieldDescriptor (T k).2.2.1 = some ty) (hn : narrow ty v = v) (hfit : fits ty v = true) (hl : k < fs.length) (hdg : decode cc pc = .ok (.putfield idx, 3)) {E' : Nat → va_E} (hE' : ∀ j, j < n → va_up E o (.inr (ci, fs.set k v)) j = E' j)
    (kk : ∀ (H1 : Heap) (locs1 : List Loc), WB G n q E' s H1 locs1 → W p l e R s m args below meth c H1 locs1 cells slots Q (F0 m (pc + 3) ls rest)) : W p l e R s m args below meth c H locs cells slots Q (F0 m pc ls (v :: .ref (q o) :: rest)) := by
  obtain ⟨hx, hb, -, hown, hts, hE, hi, -⟩ := C
  refine va_put hx hb hts hin ty0 hty hnm hown hE.1 hW.1 (wl_D hi _) hW.2 o (fs := fs) (by rw [wl_at ho, he]) hc k hk (hts _ hlink) (fun x h => by rw [← hdecl]; exact h) hfin hd hn hfit hl hdg (fun H1 locs1 hP _ hS => kk H1 locs1 (WB.to ⟨?_, hS⟩ hE'))
  rw [← wl_set ho]
  exact hP
theorem r_iald (C : CX G p s m args c cc nL own n q) (hW : WB G n q E s H locs) {o z : Nat} {f : Nat → Int32} (ho : o < n) (he : E o = .inl (G.2.1.1, z, .inl f)) {i : Int32} {k : Nat} (hi : i.toInt = (k : Int)) (hk : k < z) {v : Int32} (hv : f k = v) (hdg : decode cc pc = .ok (.iaload, 1))
    (kk : W p l e R s m args below meth c H locs cells slots Q (F0 m (pc + 1) ls (.int v :: rest))) : W p l e R s m args below meth c H locs cells slots Q (F0 m pc ls (.int i :: .ref (q o) :: rest)) := by
  obtain ⟨hx, hb, -, -, -, hE, -, -⟩ := C
  have e : i.toNatClampNeg = k := by show i.toInt.toNat = k; rw [hi]; rfl
  refine va_iald hx hb hE.1 hW.1 o 0 (f := f) (n := z) (by rw [wl_at ho, he]) rfl (vp_in_iff.mpr (by omega)) hdg ?_
  rw [e, hv]
  exact kk
theorem r_zald (C : CX G p s m args c cc nL own n q) (hW : WB G n q E s H locs) {o z : Nat} {f : Nat → Int32} (ho : o < n) (he : E o = .inl (G.2.1.2.2.1, z, .inl f)) {i : Int32} {k : Nat} (hi : i.toInt = (k : Int)) (hk : k < z) {v : Int32} (hv : f k = v) (hdg : decode cc pc = .ok (.baload, 1))
    (kk : W p l e R s m args below meth c H locs cells slots Q (F0 m (pc + 1) ls (.int v :: rest))) : W p l e R s m args below meth c H locs cells slots Q (F0 m pc ls (.int i :: .ref (q o) :: rest)) := by
  obtain ⟨hx, hb, -, -, -, hE, -, -⟩ := C
  have e : i.toNatClampNeg = k := by show i.toInt.toNat = k; rw [hi]; rfl
  refine va_zald hx hb hE.1 hW.1 o 2 (f := f) (n := z) (by rw [wl_at ho, he]) rfl (vp_in_iff.mpr (by omega)) hdg ?_
  rw [e, hv]
  exact kk
theorem r_lald (C : CX G p s m args c cc nL own n q) (hW : WB G n q E s H locs) {o z : Nat} {f : Nat → Int64} (ho : o < n) (he : E o = .inl (G.2.1.2.1, z, .inr (.inl f))) {i : Int32} {k : Nat} (hi : i.toInt = (k : Int)) (hk : k < z) {v : Int64} (hv : f k = v) (hdg : decode cc pc = .ok (.laload, 1))
    (kk : W p l e R s m args below meth c H locs cells slots Q (F0 m (pc + 1) ls (.long v :: rest))) : W p l e R s m args below meth c H locs cells slots Q (F0 m pc ls (.int i :: .ref (q o) :: rest)) := by
  obtain ⟨hx, hb, -, -, -, hE, -, -⟩ := C
  have e : i.toNatClampNeg = k := by show i.toInt.toNat = k; rw [hi]; rfl
  refine va_lald hx hb hE.1 hW.1 o 1 (f := f) (n := z) (by rw [wl_at ho, he]) rfl (vp_in_iff.mpr (by omega)) hdg ?_
  rw [e, hv]
  exact kk
theorem r_iast (C : CX G p s m args c cc nL own n q) (hW : WB G n q E s H locs) {o z : Nat} {f : Nat → Int32} (ho : o < n) (he : E o = .inl (G.2.1.1, z, .inl f)) {i x : Int32} {k : Nat} (hi : i.toInt = (k : Int)) (hk : k < z) (hdg : decode cc pc = .ok (.iastore, 1)) {E' : Nat → va_E} (hE' : ∀ j, j < n → va_up E o (.inl (G.2.1.1, z, .inl (upd f k x))) j = E' j)
    (kk : ∀ (H1 : Heap) (locs1 : List Loc), WB G n q E' s H1 locs1 → W p l e R s m args below meth c H1 locs1 cells slots Q (F0 m (pc + 1) ls rest)) : W p l e R s m args below meth c H locs cells slots Q (F0 m pc ls (.int x :: .int i :: .ref (q o) :: rest)) := by
  obtain ⟨hx, hb, -, -, -, hE, hj, -⟩ := C
  have e : i.toNatClampNeg = k := by show i.toInt.toNat = k; rw [hi]; rfl
  refine va_iast hx hb hE.1 hW.1 (wl_D hj _) hW.2 o 0 (f := f) (n := z) (by rw [wl_at ho, he]) rfl (vp_in_iff.mpr (by omega)) hdg (fun H1 locs1 hP _ hS => kk H1 locs1 (WB.to ⟨?_, hS⟩ hE'))
  rw [← wl_set ho, ← e]
  exact hP
theorem r_zast (C : CX G p s m args c cc nL own n q) (hW : WB G n q E s H locs) {o z : Nat} {f : Nat → Int32} (ho : o < n) (he : E o = .inl (G.2.1.2.2.1, z, .inl f)) {i x : Int32} {k : Nat} (hi : i.toInt = (k : Int)) (hk : k < z) (hx1 : vp_nar .boolean x = x) (hdg : decode cc pc = .ok (.bastore, 1)) {E' : Nat → va_E} (hE' : ∀ j, j < n → va_up E o (.inl (G.2.1.2.2.1, z, .inl (upd f k x))) j = E' j)
    (kk : ∀ (H1 : Heap) (locs1 : List Loc), WB G n q E' s H1 locs1 → W p l e R s m args below meth c H1 locs1 cells slots Q (F0 m (pc + 1) ls rest)) : W p l e R s m args below meth c H locs cells slots Q (F0 m pc ls (.int x :: .int i :: .ref (q o) :: rest)) := by
  obtain ⟨hx, hb, -, -, -, hE, hj, -⟩ := C
  have e : i.toNatClampNeg = k := by show i.toInt.toNat = k; rw [hi]; rfl
  refine va_zast hx hb hE.1 hW.1 (wl_D hj _) hW.2 o 2 (f := f) (n := z) (by rw [wl_at ho, he]) rfl (vp_in_iff.mpr (by omega)) hdg (fun H1 locs1 hP _ hS => kk H1 locs1 (WB.to ⟨?_, hS⟩ hE'))
  rw [hx1, e] at hP
  rw [← wl_set ho]
  exact hP
theorem r_last (C : CX G p s m args c cc nL own n q) (hW : WB G n q E s H locs) {o z : Nat} {f : Nat → Int64} (ho : o < n) (he : E o = .inl (G.2.1.2.1, z, .inr (.inl f))) {i : Int32} {x : Int64} {k : Nat} (hi : i.toInt = (k : Int)) (hk : k < z) (hdg : decode cc pc = .ok (.lastore, 1)) {E' : Nat → va_E} (hE' : ∀ j, j < n → va_up E o (.inl (G.2.1.2.1, z, .inr (.inl (vp_updL f k x)))) j = E' j)
    (kk : ∀ (H1 : Heap) (locs1 : List Loc), WB G n q E' s H1 locs1 → W p l e R s m args below meth c H1 locs1 cells slots Q (F0 m (pc + 1) ls rest)) : W p l e R s m args below meth c H locs cells slots Q (F0 m pc ls (.long x :: .int i :: .ref (q o) :: rest)) := by
  obtain ⟨hx, hb, -, -, -, hE, hj, -⟩ := C
  have e : i.toNatClampNeg = k := by show i.toInt.toNat = k; rw [hi]; rfl
  refine va_last hx hb hE.1 hW.1 (wl_D hj _) hW.2 o 1 (f := f) (n := z) (by rw [wl_at ho, he]) rfl (vp_in_iff.mpr (by omega)) hdg (fun H1 locs1 hP _ hS => kk H1 locs1 (WB.to ⟨?_, hS⟩ hE'))
  rw [← wl_set ho, ← e]
  exact hP
/-- ends -/
theorem r_iret {S : Type} {post : Int32 → S → Prop} {EE : S → Nat → va_E} {r : Int32} (u : S) (C : CX G p s m args c cc nL own n q) (hW : WB G n q (EE u) s H locs) (hr : meth.sig.returnType = some .int) (hk : meth.locks = false) (hdg : decode cc pc = .ok (.ireturn, 1)) (hp : post r u) :
    W p l e R s m args below meth c H locs cells slots (MQ below (va_Qi post (fun u => BW G n q (EE u)) (FA n q s.heap.size)) args s cells slots (FA n q s.heap.size)) (F0 m pc ls [.int r]) :=
  W.iret C.1 C.2.1 hr (fun t ht _ => ⟨⟨r, u, rfl, hp, by show va_P _ _ _ t.heap; rw [ht]; exact hW.1⟩, hW.2.F ht⟩) hW.2.2.2 hdg hk
theorem r_zret {S : Type} {post : Int32 → S → Prop} {EE : S → Nat → va_E} {r : Int32} (u : S) (C : CX G p s m args c cc nL own n q) (hW : WB G n q (EE u) s H locs) (hr : meth.sig.returnType = some .boolean) (hn : narrow .boolean (.int r) = .int r) (hk : meth.locks = false) (hdg : decode cc pc = .ok (.ireturn, 1)) (hp : post r u) :
    W p l e R s m args below meth c H locs cells slots (MQ below (va_Qi post (fun u => BW G n q (EE u)) (FA n q s.heap.size)) args s cells slots (FA n q s.heap.size)) (F0 m pc ls [.int r]) :=
  W.zret C.1 C.2.1 hr hn (fun t ht _ => ⟨⟨r, u, rfl, hp, by show va_P _ _ _ t.heap; rw [ht]; exact hW.1⟩, hW.2.F ht⟩) hW.2.2.2 hdg hk
theorem r_lret {S : Type} {post : Int64 → S → Prop} {EE : S → Nat → va_E} {r : Int64} (u : S) (C : CX G p s m args c cc nL own n q) (hW : WB G n q (EE u) s H locs) (hr : meth.sig.returnType = some .long) (hk : meth.locks = false) (hdg : decode cc pc = .ok (.lreturn, 1)) (hp : post r u) :
    W p l e R s m args below meth c H locs cells slots (MQ below (va_Ql post (fun u => BW G n q (EE u)) (FA n q s.heap.size)) args s cells slots (FA n q s.heap.size)) (F0 m pc ls [.long r]) :=
  W.lret C.1 C.2.1 hr (fun t ht _ => ⟨⟨r, u, rfl, hp, by show va_P _ _ _ t.heap; rw [ht]; exact hW.1⟩, hW.2.F ht⟩) hW.2.2.2 hdg hk
theorem r_vret {S : Type} {post : S → Prop} {EE : S → Nat → va_E} (u : S) (C : CX G p s m args c cc nL own n q) (hW : WB G n q (EE u) s H locs) (hr : meth.sig.returnType = none) (hk : meth.locks = false) (hdg : decode cc pc = .ok (.return_, 1)) (hp : post u) :
    W p l e R s m args below meth c H locs cells slots (MQ below (va_Qv post (fun u => BW G n q (EE u)) (FA n q s.heap.size)) args s cells slots (FA n q s.heap.size)) (F0 m pc ls []) :=
  W.vret C.1 C.2.1 hr (fun t ht _ => ⟨⟨u, rfl, hp, by show va_P _ _ _ t.heap; rw [ht]; exact hW.1⟩, hW.2.F ht⟩) hW.2.2.2 hdg hk
theorem r_qret {S : Type} {post : Option Nat → S → Prop} {EE : S → Nat → va_E} {r : Option Nat} {rt : FieldType} (u : S) (C : CX G p s m args c cc nL own n q) (hW : WB G n q (EE u) s H locs) (hr : meth.sig.returnType = some rt) (hrt : (∃ n, rt = .object n) ∨ ∃ t, rt = .array t) (hk : meth.locks = false) (hdg : decode cc pc = .ok (.areturn, 1)) (hp : post r u) :
    W p l e R s m args below meth c H locs cells slots (MQ below (va_Qq post (fun u => BW G n q (EE u)) (FA n q s.heap.size)) args s cells slots (FA n q s.heap.size)) (F0 m pc ls [va_rf r]) :=
  W.aret C.1 C.2.1 hr hrt (va_rf_or r) (fun t ht _ => ⟨⟨r, u, rfl, hp, by show va_P _ _ _ t.heap; rw [ht]; exact hW.1⟩, hW.2.F ht⟩) hW.2.2.2 hdg hk
/-- calls inside one world -/
theorem FA_mono {n : Nat} {q : Nat → Nat} {a b x : Nat} (h : a ≤ b) (hx : FA n q b x) : FA n q a x := hx.elim Or.inl (fun h2 => Or.inr (Nat.le_trans h h2))
theorem PW_blind (av : List Value) (sz : Nat) : FrameBlind (va_Pc av (PW G n q sz E)) := fun a U g mk h => ⟨h.1, h.2.1, h.2.2.1.calling, h.2.2.2.1, h.2.2.2.2.1.moved (u := U) (U := U.calling g mk a) (Vm.Alike.refl U.vm), h.2.2.2.2.2⟩
theorem PW_at (C : CX G p s m args c cc nL own n q) (hW : WB G n q E s H locs) (av : List Value) : ∀ U : State, U.heap = H → s.WarmedH U.vm → va_Pc av (PW G n q H.size E) av.toArray U := by
  intro U hU hWm
  obtain ⟨-, -, -, -, -, hE, hi, hZ⟩ := C
  have hz : gZ G (FA n q H.size) U H := ((hZ.kept (fun a h1 h2 => hW.2.2.1 a h1 h2)).narrow (fun _ h => FA_mono hW.2.1 h)).moved hWm.alike
  exact ⟨rfl, by rw [hU], hE.moved hWm, hi, by rw [hU]; exact hz, by rw [hU]; exact hW.1⟩
theorem WB_after (hW : WB G n q E s H locs) {E1 : Nat → va_E} {t : State} {H1 : Heap} {locs1 : List Loc} (ht : t.heap = H1) (hB : BW G n q E1 t) (hS : va_S (FA n q s.heap.size) s.heap H1 locs1) : WB G n q E1 s H1 locs1 := ⟨by rw [← ht]; exact hB, hS⟩
variable {y : MethodName} {bytes : ByteArray} {maxL idx : Nat} {rm : Room} {As st0 : List Value}
theorem cw_V {ret : Option FieldType} {Cn : String} (N : Nat) (C : CX G p s m args c cc nL own n q) (hl : Cond.methodLink own idx y ∈ BIG) (hi : Cond.instanceMethod y ∈ BIG) (hv : Cond.selects Cn y y ∈ BIG) (hn : Cond.initialized Cn ∈ BIG) (hc : Cond.code y bytes maxL ret ∈ BIG) (hrc : rm.cells = 0 ∧ rm.slots = 0)
    (hd : y.cls = Cn ∧ y.cls ≠ "java/lang/invoke/MethodHandle" ∧ y.cls ≠ "java/lang/invoke/VarHandle" ∧ (parseMethodDescriptor y.desc).map (fun d => d.parameters.length) = some N) (hR : rm.frames + 1 ≤ R.frames ∧ 8 + (maxL + 11) + rm.locals ≤ R.locals) : CallW R s args own Cn idx y bytes maxL ret (WSb y bytes maxL ret) rm 0 0 N :=
  cwV N C.2.2.2.2.1 (fun w hw => by
    rcases List.mem_append.mp hw with h | h
    · have : w ∈ BIG := by
        rcases List.mem_cons.mp h with rfl | h
        · exact hl
        rcases List.mem_cons.mp h with rfl | h
        · exact hi
        rcases List.mem_cons.mp h with rfl | h
        · exact hv
        rcases List.mem_cons.mp h with rfl | h
        · exact hn
        cases h
      exact big_good w this
    · exact wsb_good hc w h) rfl hrc.1 hrc.2 hd hR
theorem cw_S {ret : Option FieldType} (N : Nat) (C : CX G p s m args c cc nL own n q) (hl : Cond.methodLink own idx y ∈ BIG) (hi : Cond.static y ∈ BIG) (hn : Cond.initialized y.cls ∈ BIG) (hc : Cond.code y bytes maxL ret ∈ BIG) (hrc : rm.cells = 0 ∧ rm.slots = 0)
    (hd : y.cls ≠ "java/lang/invoke/MethodHandle" ∧ y.cls ≠ "java/lang/invoke/VarHandle" ∧ (parseMethodDescriptor y.desc).map (fun d => d.parameters.length) = some N) (hR : rm.frames + 1 ≤ R.frames ∧ 8 + (maxL + 11) + rm.locals ≤ R.locals) : CallB R s args own idx y bytes maxL ret (WSb y bytes maxL ret) rm 0 0 N ∧ (Cond.static y).before args s = true :=
  va_cwS N C.2.2.2.2.1 (fun w hw => by
    rcases List.mem_append.mp hw with h | h
    · have : w ∈ BIG := by
        rcases List.mem_cons.mp h with rfl | h
        · exact hl
        rcases List.mem_cons.mp h with rfl | h
        · exact hi
        rcases List.mem_cons.mp h with rfl | h
        · exact hn
        cases h
      exact big_good w this
    · exact wsb_good hc w h) rfl hrc.1 hrc.2 hd hR
theorem run_V {ret : Option FieldType} {Cn : String} {N ci : Nat} {fs : List Value} {o : Nat} {T : u_T} {NN : Nat} {Qc : Array Value → State → Outcome → State → Prop} (C : CX G p s m args c cc nL own n q) (hW : WB G n q E s H locs) (ho : o < n) (he : E o = .inr (ci, fs)) (hcl : vwCl[ci]? = some (Cn, T, NN))
    (hM : Met l y (WSb y bytes maxL ret) rm (va_Pc (.ref (q o) :: As) (PW G n q H.size E)) Qc 0 0 (FA n q H.size)) (cw : CallW R s args own Cn idx y bytes maxL ret (WSb y bytes maxL ret) rm 0 0 N) (hN : As.length = N) (hl : ls.size = nL) (hst : st0 = As.reverse ++ .ref (q o) :: rest) (hcat : (rest.map fun v => v.category).sum ≤ 8) (hdg : decode cc pc = .ok (.invokevirtual idx, 3)) (hf : cells ≤ R.cells ∧ slots ≤ R.slots) :
    va_Run p l e R s m args below meth c H locs cells slots 0 0 (F0 m pc ls st0) rest (Qc (Value.ref (q o) :: As).toArray) (FA n q H.size) :=
  va_runV (As := As) (rest := rest) (b := q o) (C := Cn) ⟨C.1, C.2.1, C.2.2.1, C.2.2.2.1, C.2.2.2.2.1⟩ hM cw ⟨PW_blind _ _, va_recv C.2.2.2.2.2.1.1 hW.1 (ci := ci) (q0 := o) (q := (Cn, T, NN)) (fs := fs) hcl (by rw [wl_at ho, he]), PW_at C hW _⟩ rfl hN hl hst (lv_room hcat) hdg hf
theorem run_S {ret : Option FieldType} {N : Nat} {Qc : Array Value → State → Outcome → State → Prop} (C : CX G p s m args c cc nL own n q) (hW : WB G n q E s H locs)
    (hM : Met l y (WSb y bytes maxL ret) rm (va_Pc As (PW G n q H.size E)) Qc 0 0 (FA n q H.size)) (cw : CallB R s args own idx y bytes maxL ret (WSb y bytes maxL ret) rm 0 0 N ∧ (Cond.static y).before args s = true) (hN : As.length = N) (hl : ls.size = nL) (hst : st0 = As.reverse ++ rest) (hcat : (rest.map fun v => v.category).sum ≤ 8) (hdg : decode cc pc = .ok (.invokestatic idx, 3)) (hf : cells ≤ R.cells ∧ slots ≤ R.slots) :
    va_Run p l e R s m args below meth c H locs cells slots 0 0 (F0 m pc ls st0) rest (Qc As.toArray) (FA n q H.size) :=
  va_runS (As := As) (rest := rest) ⟨C.1, C.2.1, C.2.2.1, C.2.2.2.1, C.2.2.2.2.1⟩ hM cw ⟨PW_blind _ _, PW_at C hW _⟩ rfl hN hl hst (lv_room hcat) hdg hf
theorem go_i {S : Type} {post : Int32 → S → Prop} {EE : S → Nat → va_E} {a : Array Value} (hW : WB G n q E s H locs) (hr : va_Run p l e R s m args below meth c H locs cells slots 0 0 (F0 m pc ls st0) rest (va_Qi post (fun u => BW G n q (EE u)) (FA n q H.size) a) (FA n q H.size))
    (kk : ∀ (r : Int32) (u : S) (H1 : Heap) (locs1 : List Loc), post r u → WB G n q (EE u) s H1 locs1 → W p l e R s m args below meth c H1 locs1 cells slots Q (F0 m (pc + 3) ls (.int r :: rest))) : W p l e R s m args below meth c H locs cells slots Q (F0 m pc ls st0) :=
  va_calli hr hW.2 (fun _ _ h => FA_mono hW.2.1 h) (fun _ h => FA_mono hW.2.1 h) (fun r u t H1 locs1 ht _ hp hB _ _ hS => kk r u H1 locs1 hp (WB_after hW ht hB hS))
theorem go_l {S : Type} {post : Int64 → S → Prop} {EE : S → Nat → va_E} {a : Array Value} (hW : WB G n q E s H locs) (hr : va_Run p l e R s m args below meth c H locs cells slots 0 0 (F0 m pc ls st0) rest (va_Ql post (fun u => BW G n q (EE u)) (FA n q H.size) a) (FA n q H.size))
    (kk : ∀ (r : Int64) (u : S) (H1 : Heap) (locs1 : List Loc), post r u → WB G n q (EE u) s H1 locs1 → W p l e R s m args below meth c H1 locs1 cells slots Q (F0 m (pc + 3) ls (.long r :: rest))) : W p l e R s m args below meth c H locs cells slots Q (F0 m pc ls st0) :=
  va_calll hr hW.2 (fun _ _ h => FA_mono hW.2.1 h) (fun _ h => FA_mono hW.2.1 h) (fun r u t H1 locs1 ht _ hp hB _ _ hS => kk r u H1 locs1 hp (WB_after hW ht hB hS))
theorem go_v {S : Type} {post : S → Prop} {EE : S → Nat → va_E} {a : Array Value} (hW : WB G n q E s H locs) (hr : va_Run p l e R s m args below meth c H locs cells slots 0 0 (F0 m pc ls st0) rest (va_Qv post (fun u => BW G n q (EE u)) (FA n q H.size) a) (FA n q H.size))
    (kk : ∀ (u : S) (H1 : Heap) (locs1 : List Loc), post u → WB G n q (EE u) s H1 locs1 → W p l e R s m args below meth c H1 locs1 cells slots Q (F0 m (pc + 3) ls rest)) : W p l e R s m args below meth c H locs cells slots Q (F0 m pc ls st0) :=
  va_callv hr hW.2 (fun _ _ h => FA_mono hW.2.1 h) (fun _ h => FA_mono hW.2.1 h) (fun u t H1 locs1 ht _ hp hB _ _ hS => kk u H1 locs1 hp (WB_after hW ht hB hS))
theorem go_q {S : Type} {post : Option Nat → S → Prop} {EE : S → Nat → va_E} {a : Array Value} (hW : WB G n q E s H locs) (hr : va_Run p l e R s m args below meth c H locs cells slots 0 0 (F0 m pc ls st0) rest (va_Qq post (fun u => BW G n q (EE u)) (FA n q H.size) a) (FA n q H.size))
    (kk : ∀ (r : Option Nat) (u : S) (H1 : Heap) (locs1 : List Loc), post r u → WB G n q (EE u) s H1 locs1 → W p l e R s m args below meth c H1 locs1 cells slots Q (F0 m (pc + 3) ls (va_rf r :: rest))) : W p l e R s m args below meth c H locs cells slots Q (F0 m pc ls st0) :=
  va_callq hr hW.2 (fun _ _ h => FA_mono hW.2.1 h) (fun _ h => FA_mono hW.2.1 h) (fun r u t H1 locs1 ht _ hp hB _ _ hS => kk r u H1 locs1 hp (WB_after hW ht hB hS))
end BASE
/-- a method's body, from its entry -/
theorem Met_W {l : Launch} {G : GG} {y : MethodName} {cc : ByteArray} {nL sz n : Nat} {ret : Option FieldType} {rm : Room} {av : List Value} {q : Nat → Nat} {E : Nat → va_E} {Qc : Array Value → State → Outcome → State → Prop} (hy : plainName y.cls = true) (hL : (lg_sl av).length ≤ nL)
    (body : ∀ (p : Program) (e : Env) (s : State) (m : MethodId) (below : List Frame) (meth : Method) (c : Code) (ls : Array Slot), s.heap.size = sz → CX G p s m av.toArray c cc nL y.cls n q → WB G n q E s s.heap [] → meth.sig.returnType = ret → meth.locks = false → lv_has ls nL (lv_args 0 av) →
      W p l e rm s m av.toArray below meth c s.heap [] 0 0 (MQ below Qc av.toArray s 0 0 (FA n q sz)) (F0 m 0 ls [])) : Met l y (WSb y cc nL ret) rm (va_Pc av (PW G n q sz E)) Qc 0 0 (FA n q sz) := by
  refine Met.ofW (cc := cc) (maxL := nL) (ret := ret) hy rfl ?_
  intro p e s m args below meth c s₁ B hml hv
  obtain ⟨rfl, hsz, hE, hi, hZ, hP⟩ := hv
  have hts := atoms_spec (ws := WSb y cc nL ret) B.pre
  have hl := lv_entry av (n := nL) hL
  rw [lg_entry_eq]
  exact body p e s m below meth c _ hsz ⟨B.exec, B.bytes, hml, findClass_of_methodNamed B.named, fun w hw => hts w (List.mem_cons_of_mem _ hw), hE, hi, by rw [hsz]; exact hZ⟩ ⟨hP, va_S.rf⟩ B.returns B.notSynchronized hl
