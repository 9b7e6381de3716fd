/-! constructors: worlds as lists, new cells at their ends -/
def LA (b sz : Nat) : Nat → Prop := fun a => a = b ∨ sz ≤ a
def nE (U : State) : Prop := va_AO RX1 U ∧ va_Nw (.methodLinkNest RX7 11 yX4_init RX7) U ∧ va_Nw (.methodLinkNest RX7 18 yX6_init RX7) U ∧ va_Nw (.methodLinkNest RX7 25 yX2_init RX7) U ∧ va_Nw (.methodLinkNest RX7 32 yX0_init RX7) U ∧ va_Nw (.methodLinkNest RX7 46 yX5_init RX7) U
def nT (_ : State) : Prop := True
def NB (N : State → Prop) : Prop := (∀ {u U : State}, u.WarmedH U.vm → N u → N U) ∧ (∀ {U : State} {g : JFrame} {mk : MethodId} {a : Array Value}, N U → N (U.calling g mk a))
theorem nT_B : NB nT := ⟨fun _ _ => trivial, fun _ => trivial⟩
theorem nE_B : NB nE := ⟨fun hW h => ⟨va_AO.moved hW.alike h.1, va_Nw.warmM hW h.2.1, va_Nw.warmM hW h.2.2.1, va_Nw.warmM hW h.2.2.2.1, va_Nw.warmM hW h.2.2.2.2.1, va_Nw.warmM hW h.2.2.2.2.2⟩, fun {U g mk a} h => ⟨va_AO.moved (u := U) (U := U.calling g mk a) (Vm.Alike.refl U.vm) h.1, va_Nw.same (u := U) (U := U.calling g mk a) rfl rfl h.2.1, va_Nw.same (u := U) (U := U.calling g mk a) rfl rfl h.2.2.1, va_Nw.same (u := U) (U := U.calling g mk a) rfl rfl h.2.2.2.1, va_Nw.same (u := U) (U := U.calling g mk a) rfl rfl h.2.2.2.2.1, va_Nw.same (u := U) (U := U.calling g mk a) rfl rfl h.2.2.2.2.2⟩⟩
def PL (G : GG) (A : Nat → Prop) (sz : Nat) (ws : va_W) (N : State → Prop) (U : State) : Prop := U.heap.size = sz ∧ gE G U ∧ gZ G A U U.heap ∧ va_D A ws ∧ va_P G.1 vwCl ws U.heap ∧ N U
def BL (G : GG) (A : Nat → Prop) (ws : va_W) (t : State) : Prop := va_P G.1 vwCl ws t.heap ∧ va_D A ws
def LC (G : GG) (A : Nat → Prop) (p : Program) (s : State) (m : MethodId) (args : Array Value) (c : Code) (cc : ByteArray) (nL : Nat) (own : String) : Prop :=
  p.tables.exec = Jvm.exec ∧ c.code = cc ∧ c.maxLocals = nL ∧ s.vm.findClass own = some m.cls ∧ (∀ w ∈ BIG, w.before args s = true) ∧ gE G s ∧ gZ G A s s.heap ∧ (∀ q, s.heap.size ≤ q → A q)
def LB (G : GG) (A : Nat → Prop) (ws : va_W) (s : State) (H : Heap) (locs : List Loc) : Prop := va_P G.1 vwCl ws H ∧ va_D A ws ∧ va_S A s.heap H locs
theorem K_int {D : va_G} {cl : List vw_C} {G : GG} {cA : ClassId} {U : State} (h : va_K D cl (gT G ++ [(cA, .int)]) U) : cA = G.2.1.1 := by
  have h1 : U.vm.findClass ("[" ++ FieldType.int.toString) = some cA := (h.2 4 (cA, .int) rfl).2
  have h2 : U.vm.findClass ("[" ++ FieldType.int.toString) = some G.2.1.1 := (h.2 0 (G.2.1.1, .int) rfl).2
  rw [h1] at h2; exact Option.some.inj h2
theorem K_long {D : va_G} {cl : List vw_C} {G : GG} {cA : ClassId} {U : State} (h : va_K D cl (gT G ++ [(cA, .long)]) U) : cA = G.2.1.2.1 := by
  have h1 : U.vm.findClass ("[" ++ FieldType.long.toString) = some cA := (h.2 4 (cA, .long) rfl).2
  have h2 : U.vm.findClass ("[" ++ FieldType.long.toString) = some G.2.1.2.1 := (h.2 1 (G.2.1.2.1, .long) rfl).2
  rw [h1] at h2; exact Option.some.inj h2
theorem K_bool {D : va_G} {cl : List vw_C} {G : GG} {cA : ClassId} {U : State} (h : va_K D cl (gT G ++ [(cA, .boolean)]) U) : cA = G.2.1.2.2.1 := by
  have h1 : U.vm.findClass ("[" ++ FieldType.boolean.toString) = some cA := (h.2 4 (cA, .boolean) rfl).2
  have h2 : U.vm.findClass ("[" ++ FieldType.boolean.toString) = some G.2.1.2.2.1 := (h.2 2 (G.2.1.2.2.1, .boolean) rfl).2
  rw [h1] at h2; exact Option.some.inj h2
theorem K_dish {D : va_G} {cl : List vw_C} {G : GG} {cA : ClassId} {U : State} (h : va_K D cl (gT G ++ [(cA, .object RX1)]) U) : cA = G.2.1.2.2.2 := by
  obtain ⟨_, _, _, _, _, h1⟩ := (h.2 4 (cA, .object RX1) rfl).2
  obtain ⟨_, _, _, _, _, h2⟩ := (h.2 3 (G.2.1.2.2.2, .object RX1) rfl).2
  rw [h1] at h2; exact Option.some.inj h2
section GROW
variable {G : GG} {A : Nat → Prop} {p : Program} {l : Launch} {e : Env} {R : Room} {s : State} {m : MethodId} {args : Array Value} {below : List Frame} {meth : Method} {c : Code} {H : Heap} {locs : List Loc} {cells slots : Nat} {Q : State → Prop}
variable {cc : ByteArray} {pc : Nat} {ls : Array Slot} {rest : List Value} {nL idx : Nat} {own : String} {ws : va_W}
theorem Met_L {y : MethodName} {sz mc ms : Nat} {ret : Option FieldType} {rm : Room} {av : List Value} {N : State → Prop} {Qc : Array Value → State → Outcome → State → Prop} (hown : y.cls = own) (hinit : y.name = "<init>") (hA : ∀ q, sz ≤ q → A q) (hy : plainName y.cls = true) (hL : (lg_sl av).length ≤ nL)
    (body : ∀ (p : Program) (e : Env) (s : State) (m : MethodId) (args : Array Value) (below : List Frame) (meth : Method) (c : Code) (ls : Array Slot), s.heap.size = sz → LC G A p s m args c cc nL own → meth.name = "<init>" → LB G A ws s s.heap [] → N s → meth.sig.returnType = ret → meth.locks = false → lv_has ls nL (lv_args 0 av) → ∀ QQ : State → Prop, QQ = MQ below Qc args s mc ms A →
      W p l e rm s m args below meth c s.heap [] 0 0 QQ (F0 m 0 ls [])) : Met l y (WSb y cc nL ret) rm (va_Pc av (PL G A sz ws N)) Qc mc ms A := by
  refine Met.ofW (cc := cc) (maxL := nL) (ret := ret) hy rfl ?_
  intro p e s m args below meth c s₁ B hml hv
  obtain ⟨rfl, hsz, hE, hZ, hD, hP, hN⟩ := hv
  have hts := atoms_spec (ws := WSb y cc nL ret) B.pre
  have hl := lv_entry av (n := nL) hL
  rw [lg_entry_eq]
  exact body p e s m av.toArray below meth c _ hsz ⟨B.exec, B.bytes, hml, by rw [← hown]; exact findClass_of_methodNamed B.named, fun w hw => hts w (List.mem_cons_of_mem _ hw), hE, hZ, fun q h => hA q (by rw [← hsz]; exact h)⟩ ((name_of_methodNamed B.named B.method).1.trans hinit) ⟨hP, hD, va_S.rf⟩ hN B.returns B.notSynchronized hl _ rfl
theorem l_obj (C : LC G A p s m args c cc nL own) (hl : ls.size = nL) (hm : Cond.methodLink own idx objectInit ∈ BIG) (hf : 1 ≤ R.frames) (hlo : (rest.map fun v => v.category).sum + 12 ≤ R.locals) {a : Nat} (hdg : decode cc pc = .ok (.invokespecial idx, 3))
    (kk : W p l e R s m args below meth c H locs cells slots Q (F0 m (pc + 3) ls rest)) : W p l e R s m args below meth c H locs cells slots Q (F0 m pc ls (.ref a :: rest)) :=
  W.objInit C.1 C.2.1 C.2.2.2.1 (C.2.2.2.2.1 _ hm) (C.2.2.2.2.1 _ bI_oinit) (C.2.2.2.2.1 _ bC_oinit) rfl (hl.trans C.2.2.1.symm) rfl hdg hf (by show 2 * 0 + _ + 12 ≤ _; omega) kk
theorem l_newI (C : LC G A p s m args c cc nL own) (hW : LB G A ws s H locs) {n : Int32} {N : Nat} (hn : n.toInt = (N : Int)) (hN : N ≤ 1000) (hc : cells + 1 ≤ R.cells) (hs : slots + N ≤ R.slots) (hdg : decode cc pc = .ok (.newarray .int, 2))
    (kk : ∀ (a : Nat) (H1 : Heap), LB G A (ws ++ [(a, .inl (G.2.1.1, N, .inl (fun _ => 0)))]) s H1 locs → W p l e R s m args below meth c H1 locs (cells + 1) (slots + N) Q (F0 m (pc + 2) ls (.ref a :: rest))) : W p l e R s m args below meth c H locs cells slots Q (F0 m pc ls (.int n :: rest)) := by
  have en : n.toNatClampNeg = N := by show n.toInt.toNat = N; rw [hn]; rfl
  refine va_newa (atype := .int) (ty := .int) (a0 := (N, .inl (fun _ => 0))) C.1 C.2.1 (C.2.2.2.2.1 _ bA_int) rfl C.2.2.2.2.2.1.1 hW.1 hW.2.1 hW.2.2 C.2.2.2.2.2.2.2 (fun cA => rfl) ((tn_lt hn (show (0 : Int32).toInt = 0 from by decide)).mpr (by omega)) en (by show N * 4 ≤ 536870912; omega) hc hs hdg (fun a cA H1 hK hP hD hS => ?_)
  have e := K_int hK
  subst e
  exact kk a H1 ⟨hP, hD, hS⟩
theorem l_newZ (C : LC G A p s m args c cc nL own) (hW : LB G A ws s H locs) {n : Int32} {N : Nat} (hn : n.toInt = (N : Int)) (hN : N ≤ 1000) (hc : cells + 1 ≤ R.cells) (hs : slots + N ≤ R.slots) (hdg : decode cc pc = .ok (.newarray .boolean, 2))
    (kk : ∀ (a : Nat) (H1 : Heap), LB G A (ws ++ [(a, .inl (G.2.1.2.2.1, N, .inl (fun _ => 0)))]) s H1 locs → W p l e R s m args below meth c H1 locs (cells + 1) (slots + N) Q (F0 m (pc + 2) ls (.ref a :: rest))) : W p l e R s m args below meth c H locs cells slots Q (F0 m pc ls (.int n :: rest)) := by
  have en : n.toNatClampNeg = N := by show n.toInt.toNat = N; rw [hn]; rfl
  refine va_newa (atype := .boolean) (ty := .boolean) (a0 := (N, .inl (fun _ => 0))) C.1 C.2.1 (C.2.2.2.2.1 _ bA_boolean) rfl C.2.2.2.2.2.1.1 hW.1 hW.2.1 hW.2.2 C.2.2.2.2.2.2.2 (fun cA => rfl) ((tn_lt hn (show (0 : Int32).toInt = 0 from by decide)).mpr (by omega)) en (by show N * 1 ≤ 536870912; omega) hc hs hdg (fun a cA H1 hK hP hD hS => ?_)
  have e := K_bool hK
  subst e
  exact kk a H1 ⟨hP, hD, hS⟩
theorem l_newJ (C : LC G A p s m args c cc nL own) (hW : LB G A ws s H locs) {n : Int32} {N : Nat} (hn : n.toInt = (N : Int)) (hN : N ≤ 1000) (hc : cells + 1 ≤ R.cells) (hs : slots + N ≤ R.slots) (hdg : decode cc pc = .ok (.newarray .long, 2))
    (kk : ∀ (a : Nat) (H1 : Heap), LB G A (ws ++ [(a, .inl (G.2.1.2.1, N, .inr (.inl (fun _ => 0))))]) s H1 locs → W p l e R s m args below meth c H1 locs (cells + 1) (slots + N) Q (F0 m (pc + 2) ls (.ref a :: rest))) : W p l e R s m args below meth c H locs cells slots Q (F0 m pc ls (.int n :: rest)) := by
  have en : n.toNatClampNeg = N := by show n.toInt.toNat = N; rw [hn]; rfl
  refine va_newa (atype := .long) (ty := .long) (a0 := (N, .inr (.inl (fun _ => 0)))) C.1 C.2.1 (C.2.2.2.2.1 _ bA_long) rfl C.2.2.2.2.2.1.1 hW.1 hW.2.1 hW.2.2 C.2.2.2.2.2.2.2 (fun cA => rfl) ((tn_lt hn (show (0 : Int32).toInt = 0 from by decide)).mpr (by omega)) en (by show N * 8 ≤ 536870912; omega) hc hs hdg (fun a cA H1 hK hP hD hS => ?_)
  have e := K_long hK
  subst e
  exact kk a H1 ⟨hP, hD, hS⟩
theorem l_newQ (C : LC G A p s m args c cc nL own) (hW : LB G A ws s H locs) (hO : va_AO RX1 s) (hcl : Cond.classLink own idx RX1 ∈ BIG) {n : Int32} {N : Nat} (hn : n.toInt = (N : Int)) (hN : N ≤ 1000) (hc : cells + 1 ≤ R.cells) (hs : slots + N ≤ R.slots) (hdg : decode cc pc = .ok (.anewarray idx, 3))
    (kk : ∀ (a : Nat) (H1 : Heap), LB G A (ws ++ [(a, .inl (G.2.1.2.2.2, N, .inr (.inr (.inr (.inr (fun _ => none))))))]) s H1 locs → W p l e R s m args below meth c H1 locs (cells + 1) (slots + N) Q (F0 m (pc + 3) ls (.ref a :: rest))) : W p l e R s m args below meth c H locs cells slots Q (F0 m pc ls (.int n :: rest)) := by
  have en : n.toNatClampNeg = N := by show n.toInt.toNat = N; rw [hn]; rfl
  refine va_newq (C := RX1) C.1 C.2.1 C.2.2.2.1 (C.2.2.2.2.1 _ hcl) hO C.2.2.2.2.2.1.1 hW.1 hW.2.1 hW.2.2 C.2.2.2.2.2.2.2 ((tn_lt hn (show (0 : Int32).toInt = 0 from by decide)).mpr (by omega)) en (by omega) hc hs hdg (fun a cA H1 hK hP hD hS => ?_)
  have e := K_dish hK
  subst e
  exact kk a H1 ⟨hP, hD, hS⟩
theorem l_new (C : LC G A p s m args c cc nL own) (hW : LB G A ws s H locs) {Cn : String} {T : u_T} {N ci : Nat} (hc : vwCl[ci]? = some (Cn, T, N)) (hin : ∀ w ∈ u_ws Cn T N, w ∈ BIG) (ty : Nat → FieldType) (hty : ∀ k, k < N → parseFieldDescriptor (T k).2.2.1 = some (ty k)) (hcl : Cond.classLink own idx Cn ∈ BIG) (hinst : Cond.instantiable Cn N ∈ BIG) (hini : Cond.initialized Cn ∈ BIG) {fs : List Value} (hfs : ∀ j, j < N → defaultValue (ty j) = vp_V fs j) (hce : cells + 1 ≤ R.cells) (hs : slots + N ≤ R.slots) (hdg : decode cc pc = .ok (.new idx, 3))
    (kk : ∀ (a : Nat) (H1 : Heap), LB G A (ws ++ [(a, .inr (ci, fs))]) s H1 locs → W p l e R s m args below meth c H1 locs (cells + 1) (slots + N) Q (F0 m (pc + 3) ls (.ref a :: rest))) : W p l e R s m args below meth c H locs cells slots Q (F0 m pc ls rest) :=
  va_new C.1 C.2.1 C.2.2.2.2.1 hin ty hty C.2.2.2.1 (C.2.2.2.2.1 _ hcl) (C.2.2.2.2.1 _ hinst) (C.2.2.2.2.1 _ hini) C.2.2.2.2.2.1.1 hW.1 hW.2.1 hW.2.2 C.2.2.2.2.2.2.2 hc hfs hce hs hdg (fun a H1 hP hD hS => kk a H1 ⟨hP, hD, hS⟩)
theorem l_putF (C : LC G A p s m args c cc nL own) (hin2 : meth.name = "<init>") (hW : LB G A ws s H locs) (q0 : Nat) {a k ci N : Nat} {fs : List Value} {Cn : String} {T : u_T} {v : Value} {ty : FieldType} (he : ws[q0]? = some (a, .inr (ci, fs))) (hc : vwCl[ci]? = some (Cn, T, N)) (hk : k < N)
    (hlink : Cond.fieldLink own idx Cn (T k).2.1 (T k).2.2.1 ∈ BIG) (hdecl : (T k).1 = Cn) (hown : (T k).1 = own) (hin : ∀ w ∈ u_ws Cn T N, w ∈ BIG) (ty0 : Nat → FieldType) (hty : ∀ k, k < N → parseFieldDescriptor (T k).2.2.1 = some (ty0 k)) (hnm : ∀ a, a < N → ∀ b, b < N → a ≠ b → (T a).2.1 ≠ (T b).2.1)
    (hfin : (T k).2.2.2 = true) (hd : parseFieldDescriptor (T k).2.2.1 = some ty) (hn : narrow ty v = v) (hfit : fits ty v = true) (hl : k < fs.length) (hdg : decode cc pc = .ok (.putfield idx, 3))
    (kk : ∀ (H1 : Heap) (locs1 : List Loc), LB G A (ws.set q0 (a, .inr (ci, fs.set k v))) s H1 locs1 → W p l e R s m args below meth c H1 locs1 cells slots Q (F0 m (pc + 3) ls rest)) : W p l e R s m args below meth c H locs cells slots Q (F0 m pc ls (v :: .ref a :: rest)) :=
  va_putF C.1 C.2.1 C.2.2.2.2.1 hin ty0 hty hnm C.2.2.2.1 C.2.2.2.2.2.1.1 hW.1 hW.2.1 hW.2.2 q0 he hc k hk (C.2.2.2.2.1 _ hlink) (fun x h => by rw [← hdecl]; exact h) hfin hin2 hown hd hn hfit hl hdg (fun H1 locs1 hP hD hS => kk H1 locs1 ⟨hP, hD, hS⟩)
theorem l_put (C : LC G A p s m args c cc nL own) (hW : LB G A ws s H locs) (q0 : Nat) {a k ci N : Nat} {fs : List Value} {Cn : String} {T : u_T} {v : Value} {ty : FieldType} (he : ws[q0]? = some (a, .inr (ci, fs))) (hc : vwCl[ci]? = some (Cn, T, N)) (hk : k < N)
    (hlink : Cond.fieldLink own idx Cn (T k).2.1 (T k).2.2.1 ∈ BIG) (hdecl : (T k).1 = Cn) (hin : ∀ w ∈ u_ws Cn T N, w ∈ BIG) (ty0 : Nat → FieldType) (hty : ∀ k, k < N → parseFieldDescriptor (T k).2.2.1 = some (ty0 k)) (hnm : ∀ a, a < N → ∀ b, b < N → a ≠ b → (T a).2.1 ≠ (T b).2.1)
    (hfin : (T k).2.2.2 = false) (hd : parseFieldDescriptor (T k).2.2.1 = some ty) (hn : narrow ty v = v) (hfit : fits ty v = true) (hl : k < fs.length) (hdg : decode cc pc = .ok (.putfield idx, 3))
    (kk : ∀ (H1 : Heap) (locs1 : List Loc), LB G A (ws.set q0 (a, .inr (ci, fs.set k v))) s H1 locs1 → W p l e R s m args below meth c H1 locs1 cells slots Q (F0 m (pc + 3) ls rest)) : W p l e R s m args below meth c H locs cells slots Q (F0 m pc ls (v :: .ref a :: rest)) :=
  va_put C.1 C.2.1 C.2.2.2.2.1 hin ty0 hty hnm C.2.2.2.1 C.2.2.2.2.2.1.1 hW.1 hW.2.1 hW.2.2 q0 he hc k hk (C.2.2.2.2.1 _ hlink) (fun x h => by rw [← hdecl]; exact h) hfin hd hn hfit hl hdg (fun H1 locs1 hP hD hS => kk H1 locs1 ⟨hP, hD, hS⟩)
theorem l_vret {S : Type} {post : S → Prop} {CC : S → va_W} (u : S) (C : LC G A p s m args c cc nL own) (hW : LB G A (CC u) s H locs) (hr : meth.sig.returnType = none) (hk : meth.locks = false) (hdg : decode cc pc = .ok (.return_, 1)) (hp : post u) :
    W p l e R s m args below meth c H locs cells slots (MQ below (va_Qv post (fun u => BL G A (CC u)) A) args s cells slots A) (F0 m pc ls []) :=
  W.vret C.1 C.2.1 hr (fun t ht _ => ⟨⟨u, rfl, hp, by rw [ht]; exact hW.1, hW.2.1⟩, hW.2.2.F ht⟩) hW.2.2.2.2 hdg hk
/-- a constructor is called on the newest cell -/
theorem PL_blind (av : List Value) (sz : Nat) {N : State → Prop} (hN : NB N) : FrameBlind (va_Pc av (PL G A sz ws N)) := fun a U g mk h => ⟨h.1, h.2.1, h.2.2.1.calling, h.2.2.2.1.moved (u := U) (U := U.calling g mk a) (Vm.Alike.refl U.vm), h.2.2.2.2.1, h.2.2.2.2.2.1, hN.2 h.2.2.2.2.2.2⟩
theorem LA_le (C : LC G A p s m args c cc nL own) {b : Nat} {x : va_E} (hW : LB G A (ws ++ [(b, x)]) s H locs) : ∀ q, LA b H.size q → A q := fun q h => h.elim (fun h => by
  rw [h]
  exact hW.2.1.2 ws.length (b, x) (by rw [List.getElem?_append_right (Nat.le_refl _), Nat.sub_self]; rfl)) (fun h => C.2.2.2.2.2.2.2 q (Nat.le_trans hW.2.2.1 h))
theorem PL_at (C : LC G A p s m args c cc nL own) {b : Nat} {x : va_E} (hW : LB G A (ws ++ [(b, x)]) s H locs) {N : State → Prop} (hN : NB N) (hs : N s) (av : List Value) : ∀ U : State, U.heap = H → s.WarmedH U.vm → va_Pc av (PL G (LA b H.size) H.size [(b, x)] N) av.toArray U := by
  intro U hU hWm
  have hz : gZ G (LA b H.size) U H := ((C.2.2.2.2.2.2.1.kept (fun a h1 h2 => hW.2.2.2.1 a h1 h2)).narrow (LA_le C hW)).moved hWm.alike
  have hl : (ws ++ [(b, x)])[ws.length]? = some (b, x) := by rw [List.getElem?_append_right (Nat.le_refl _), Nat.sub_self]; rfl
  refine ⟨rfl, by rw [hU], C.2.2.2.2.2.1.moved hWm, by rw [hU]; exact hz, ⟨fun i j y z hi hj _ => ?_, fun k y hk => ?_⟩, fun k y hk => ?_, hN.1 hWm hs⟩
  · have h1 := (List.getElem?_eq_some_iff.mp hi).1
    have h2 := (List.getElem?_eq_some_iff.mp hj).1
    simp at h1 h2
    omega
  · have h1 := (List.getElem?_eq_some_iff.mp hk).1
    simp at h1
    subst h1
    cases hk
    exact Or.inl rfl
  · have h1 := (List.getElem?_eq_some_iff.mp hk).1
    simp at h1
    subst h1
    cases hk
    rw [hU]
    exact hW.1 _ _ hl
variable {y : MethodName} {bytes : ByteArray} {maxL : Nat} {rm : Room} {As st0 : List Value}
theorem run_C {mc ms N : Nat} {NN : State → Prop} {Qc : Array Value → State → Outcome → State → Prop} {b : Nat} {x : va_E} (C : LC G A p s m args c cc nL own) (hW : LB G A (ws ++ [(b, x)]) s H locs) (hN : NB NN) (hs : NN s)
    (hM : Met l y (WSb y bytes maxL none) rm (va_Pc (.ref b :: As) (PL G (LA b H.size) H.size [(b, x)] NN)) Qc mc ms (LA b H.size)) (hlk : Cond.methodLink own idx y ∈ BIG) (hi : Cond.instanceMethod y ∈ BIG) (hn : Cond.initialized y.cls ∈ BIG) (hcd : Cond.code y bytes maxL none ∈ BIG) (hy1 : y.name = "<init>") (hrc : rm.cells = mc ∧ rm.slots = ms)
    (hd : y.cls ≠ "java/lang/invoke/MethodHandle" ∧ y.cls ≠ "java/lang/invoke/VarHandle" ∧ (parseMethodDescriptor y.desc).map (fun d => d.parameters.length) = some N) (hR : rm.frames + 1 ≤ R.frames ∧ 8 + (maxL + 11) + rm.locals ≤ R.locals) (hNl : As.length = N) (hl : ls.size = nL) (hst : st0 = As.reverse ++ .ref b :: rest) (hcat : (rest.map fun v => v.category).sum ≤ 8) (hdg : decode cc pc = .ok (.invokespecial idx, 3)) (hf : cells + mc ≤ R.cells ∧ slots + ms ≤ R.slots) :
    va_Run p l e R s m args below meth c H locs cells slots mc ms (F0 m pc ls st0) rest (Qc (Value.ref b :: As).toArray) (LA b H.size) :=
  va_runI (As := As) (rest := rest) ⟨C.1, C.2.1, C.2.2.1, C.2.2.2.1, C.2.2.2.2.1⟩ hM (cwI N C.2.2.2.2.1 (wsb_good hcd) rfl hrc.1 hrc.2 (C.2.2.2.2.1 _ hn) (C.2.2.2.2.1 _ hlk) (C.2.2.2.2.1 _ hi) hy1 hd hR) ⟨PL_blind _ _ hN, PL_at C hW hN hs _⟩ rfl hNl hl hst (lv_room hcat) hdg hf
theorem run_CN {mc ms N : Nat} {host : String} {NN : State → Prop} {Qc : Array Value → State → Outcome → State → Prop} {b : Nat} {x : va_E} (C : LC G A p s m args c cc nL own) (hW : LB G A (ws ++ [(b, x)]) s H locs) (hN : NB NN) (hs : NN s)
    (hM : Met l y (WSb y bytes maxL none) rm (va_Pc (.ref b :: As) (PL G (LA b H.size) H.size [(b, x)] NN)) Qc mc ms (LA b H.size)) (hlk : va_Nw (.methodLinkNest own idx y host) s) (hi : Cond.instanceMethod y ∈ BIG) (hn : Cond.initialized y.cls ∈ BIG) (hcd : Cond.code y bytes maxL none ∈ BIG) (hy1 : y.name = "<init>") (hrc : rm.cells = mc ∧ rm.slots = ms)
    (hd : y.cls ≠ "java/lang/invoke/MethodHandle" ∧ y.cls ≠ "java/lang/invoke/VarHandle" ∧ (parseMethodDescriptor y.desc).map (fun d => d.parameters.length) = some N) (hR : rm.frames + 1 ≤ R.frames ∧ 8 + (maxL + 11) + rm.locals ≤ R.locals) (hNl : As.length = N) (hl : ls.size = nL) (hst : st0 = As.reverse ++ .ref b :: rest) (hcat : (rest.map fun v => v.category).sum ≤ 8) (hdg : decode cc pc = .ok (.invokespecial idx, 3)) (hf : cells + mc ≤ R.cells ∧ slots + ms ≤ R.slots) :
    va_Run p l e R s m args below meth c H locs cells slots mc ms (F0 m pc ls st0) rest (Qc (Value.ref b :: As).toArray) (LA b H.size) :=
  va_runIN (As := As) (rest := rest) ⟨C.1, C.2.1, C.2.2.1, C.2.2.2.1, C.2.2.2.2.1⟩ hM ⟨va_cnB N C.2.2.2.2.1 (wsb_good hcd) rfl hrc.1 hrc.2 hlk (C.2.2.2.2.1 _ hn) hd hR, hy1, C.2.2.2.2.1 _ hi⟩ ⟨PL_blind _ _ hN, PL_at C hW hN hs _⟩ rfl hNl hl hst (lv_room hcat) hdg hf
/-- what the constructor leaves comes in the place of the newest cell -/
theorem LB_join (C : LC G A p s m args c cc nL own) {b : Nat} {x : va_E} (hW : LB G A (ws ++ [(b, x)]) s H locs) {H1 : Heap} {locs1 : List Loc} {w2 : va_W} (hfr : ∀ q : Nat, q < H.size → ¬ LA b H.size q → H1[q]? = H[q]?) (hP : va_P G.1 vwCl w2 H1) (hD : va_D (LA b H.size) w2) (hS : va_S A s.heap H1 locs1) : LB G A (ws ++ w2) s H1 locs1 := by
  have hlt : ∀ (k : Nat) (z : Nat × va_E), ws[k]? = some z → (ws ++ [(b, x)])[k]? = some z := fun k z h => by
    rw [List.getElem?_append_left (List.getElem?_eq_some_iff.mp h).1]; exact h
  have hne : ∀ (k : Nat) (z : Nat × va_E), ws[k]? = some z → z.1 ≠ b ∧ z.1 < H.size := fun k z h => by
    refine ⟨fun e => ?_, (hW.1 k z (hlt k z h)).lt⟩
    have h1 := hW.2.1.1 k ws.length z (b, x) (hlt k z h) (by rw [List.getElem?_append_right (Nat.le_refl _), Nat.sub_self]; rfl) e
    have h2 := (List.getElem?_eq_some_iff.mp h).1
    omega
  have hPw : va_P G.1 vwCl ws H := fun k z h => hW.1 k z (hlt k z h)
  have hDw : va_D A ws := ⟨fun i j y z hi hj e => hW.2.1.1 i j y z (hlt i y hi) (hlt j z hj) e, fun k z h => hW.2.1.2 k z (hlt k z h)⟩
  refine ⟨(hPw.kept (fun k z h => hfr z.1 (hne k z h).2 (fun q => q.elim (hne k z h).1 (fun q => by have := (hne k z h).2; omega)))).app hP, hDw.app (hD.weaken (fun k z _ h => LA_le C hW _ h)) (fun i j y z hi hj e => ?_), hS⟩
  rcases hD.2 j z hj with h | h
  · exact (hne i y hi).1 (e.trans h)
  · have := (hne i y hi).2
    omega
theorem go_c {S : Type} {post : S → Prop} {CC : S → va_W} {mc ms b : Nat} {x : va_E} {a : Array Value} (C : LC G A p s m args c cc nL own) (hW : LB G A (ws ++ [(b, x)]) s H locs) (hr : va_Run p l e R s m args below meth c H locs cells slots mc ms (F0 m pc ls st0) rest (va_Qv post (fun u => BL G (LA b H.size) (CC u)) (LA b H.size) a) (LA b H.size))
    (kk : ∀ (u : S) (H1 : Heap) (locs1 : List Loc), post u → LB G A (ws ++ CC u) s H1 locs1 → W p l e R s m args below meth c H1 locs1 (cells + mc) (slots + ms) Q (F0 m (pc + 3) ls rest)) : W p l e R s m args below meth c H locs cells slots Q (F0 m pc ls st0) :=
  va_callv hr hW.2.2 (fun q _ h => LA_le C hW q h) (LA_le C hW) (fun u t H1 locs1 ht _ hp hB _ hfr hS => kk u H1 locs1 hp (LB_join C hW hfr (by rw [← ht]; exact hB.1) hB.2 hS))
/-- between the two kinds of worlds -/
theorem LB_inj {n : Nat} {q : Nat → Nat} {E : Nat → va_E} (hW : LB G A (wl n q E) s H locs) : inj n q := fun i j hi hj e => hW.2.1.1 i j _ _ (wl_at hi) (wl_at hj) e
theorem LB_A {n sz : Nat} {q : Nat → Nat} {E : Nat → va_E} (hD : va_D A (wl n q E)) (hA : ∀ a, sz ≤ a → A a) (hA2 : ∀ a, A a → sz ≤ a ∨ ∃ k, k < n ∧ q k = a) : FA n q sz = A := by
  funext a
  exact propext ⟨fun h => h.elim (fun ⟨k, hk, e⟩ => by rw [← e]; exact hD.2 k _ (wl_at hk)) (hA a), fun h => (hA2 a h).elim Or.inr Or.inl⟩
theorem LB_CX {n : Nat} {q : Nat → Nat} {E : Nat → va_E} (C : LC G A p s m args c cc nL own) (hW : LB G A (wl n q E) s H locs) (hF : FA n q s.heap.size = A) : CX G p s m args c cc nL own n q := ⟨C.1, C.2.1, C.2.2.1, C.2.2.2.1, C.2.2.2.2.1, C.2.2.2.2.2.1, LB_inj hW, by rw [hF]; exact C.2.2.2.2.2.2.1⟩
theorem LB_WB {n : Nat} {q : Nat → Nat} {E : Nat → va_E} (hW : LB G A (wl n q E) s H locs) (hF : FA n q s.heap.size = A) : WB G n q E s H locs := ⟨hW.1, by rw [hF]; exact hW.2.2⟩
theorem WB_LB {n : Nat} {q : Nat → Nat} {E : Nat → va_E} (hi : inj n q) (hW : WB G n q E s H locs) (hF : FA n q s.heap.size = A) : LB G A (wl n q E) s H locs := ⟨hW.1, by rw [← hF]; exact wl_D hi _, by rw [← hF]; exact hW.2⟩
theorem CX_LC {n : Nat} {q : Nat → Nat} (C : CX G p s m args c cc nL own n q) : LC G (FA n q s.heap.size) p s m args c cc nL own := ⟨C.1, C.2.1, C.2.2.1, C.2.2.2.1, C.2.2.2.2.1, C.2.2.2.2.2.1, C.2.2.2.2.2.2.2, fun _ h => Or.inr h⟩
end GROW
