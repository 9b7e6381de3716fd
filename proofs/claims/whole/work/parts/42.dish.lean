/-! a new dish: the world grows by three cells -/
theorem wl_app3 {n : Nat} {q q' : Nat → Nat} {E E' : Nat → va_E} {x y z : Nat × va_E} (hq : ∀ k, k < n → q' k = q k) (hE : ∀ k, k < n → E' k = E k) (hx : x = (q' n, E' n)) (hy : y = (q' (n + 1), E' (n + 1))) (hz : z = (q' (n + 2), E' (n + 2))) : wl n q E ++ [x, y, z] = wl (n + 3) q' E' := by
  apply List.ext_getElem?
  intro j
  by_cases hj : j < n
  · rw [List.getElem?_append_left (by rw [wl_len]; exact hj), wl_at hj, wl_at (by omega), hq j hj, hE j hj]
  · rw [List.getElem?_append_right (by rw [wl_len]; omega), wl_len]
    by_cases h0 : j = n
    · rw [h0, Nat.sub_self, wl_at (by omega), hx]; rfl
    · by_cases h1 : j = n + 1
      · rw [h1, show n + 1 - n = 1 by omega, wl_at (by omega), hy]; rfl
      · by_cases h2 : j = n + 2
        · rw [h2, show n + 2 - n = 2 by omega, wl_at (by omega), hz]; rfl
        · rw [List.getElem?_eq_none (by simp; omega), List.getElem?_eq_none (by rw [wl_len]; omega)]
theorem eX_grow {G : GG} {q q' : Nat → Nat} {τ ζ : ST} {ρ : RF} {nd : Nat} {x y : Int32} (hq : ∀ k, k < 28 + 3 * nd → q k = q' k) : ∀ k, k < 28 + 3 * nd → eX G q' (sa (sa (sa τ 0 nd x) 1 nd y) 3 nd 1) (saF (sa ζ 0 nd (-1)) 1 (zrow (ζ.2.1 1) nd 100)) ρ k = eX G q τ ζ ρ k := by
  intro k hk
  symm
  by_cases h : k < 28
  · exact (match k, h with
    | 0, _ => (by show (Sum.inr (7, [.ref (q 1), .ref (q 6), .ref (q 10), .ref (q 14), .ref (q 19), .ref (q 25), .int (τ.1 1)]) : va_E) = Sum.inr (7, [.ref (q' 1), .ref (q' 6), .ref (q' 10), .ref (q' 14), .ref (q' 19), .ref (q' 25), .int (τ.1 1)]); rw [hq 1 (by omega), hq 6 (by omega), hq 10 (by omega), hq 14 (by omega), hq 19 (by omega), hq 25 (by omega)])
    | 1, _ => (by show (Sum.inr (4, [.ref (q 2), .int (τ.1 0), .ref (q 3), .ref (q 4), .ref (q 5), .int (τ.1 2)]) : va_E) = Sum.inr (4, [.ref (q' 2), .int (τ.1 0), .ref (q' 3), .ref (q' 4), .ref (q' 5), .int (τ.1 2)]); rw [hq 2 (by omega), hq 3 (by omega), hq 4 (by omega), hq 5 (by omega)])
    | 2, _ => rfl
    | 3, _ => rfl
    | 4, _ => rfl
    | 5, _ => rfl
    | 6, _ => (by show (Sum.inr (6, [.ref (q 7), .ref (q 8), .ref (q 9), .int (ζ.1 0)]) : va_E) = Sum.inr (6, [.ref (q' 7), .ref (q' 8), .ref (q' 9), .int (ζ.1 0)]); rw [hq 7 (by omega), hq 8 (by omega), hq 9 (by omega)])
    | 7, _ => rfl
    | 8, _ => rfl
    | 9, _ => rfl
    | 10, _ => (by show (Sum.inr (2, [.ref (q 11), .ref (q 12), .ref (q 13), .int (τ.1 3)]) : va_E) = Sum.inr (2, [.ref (q' 11), .ref (q' 12), .ref (q' 13), .int (τ.1 3)]); rw [hq 11 (by omega), hq 12 (by omega), hq 13 (by omega)])
    | 11, _ => rfl
    | 12, _ => rfl
    | 13, _ => rfl
    | 14, _ => (by show (Sum.inr (0, [.ref (q 15), .ref (q 16), .ref (q 17), .ref (q 18), .int (τ.1 4), .int (τ.1 5), .int (τ.1 7), .int (τ.1 6), .int (τ.1 8)]) : va_E) = Sum.inr (0, [.ref (q' 15), .ref (q' 16), .ref (q' 17), .ref (q' 18), .int (τ.1 4), .int (τ.1 5), .int (τ.1 7), .int (τ.1 6), .int (τ.1 8)]); rw [hq 15 (by omega), hq 16 (by omega), hq 17 (by omega), hq 18 (by omega)])
    | 15, _ => rfl
    | 16, _ => rfl
    | 17, _ => rfl
    | 18, _ => rfl
    | 19, _ => (by show (Sum.inr (3, [.ref (q 20), .ref (q 21), .ref (q 22), .int (τ.1 9), .ref (q 23), .ref (q 24)]) : va_E) = Sum.inr (3, [.ref (q' 20), .ref (q' 21), .ref (q' 22), .int (τ.1 9), .ref (q' 23), .ref (q' 24)]); rw [hq 20 (by omega), hq 21 (by omega), hq 22 (by omega), hq 23 (by omega), hq 24 (by omega)])
    | 20, _ => rfl
    | 21, _ => rfl
    | 22, _ => rfl
    | 23, _ => rfl
    | 24, _ => rfl
    | 25, _ => (by show (Sum.inr (5, [.ref (q 26), .ref (q 27), .int (τ.1 10), .int (τ.1 11), .int (τ.1 12), .int (τ.1 13), .int (τ.1 14), .int (τ.1 15), .int (τ.1 16)]) : va_E) = Sum.inr (5, [.ref (q' 26), .ref (q' 27), .int (τ.1 10), .int (τ.1 11), .int (τ.1 12), .int (τ.1 13), .int (τ.1 14), .int (τ.1 15), .int (τ.1 16)]); rw [hq 26 (by omega), hq 27 (by omega)])
    | 26, _ => rfl
    | 27, _ => rfl
    | k + 28, h => absurd h (by omega))
  · obtain ⟨j, rfl⟩ : ∃ j, k = j + 28 := ⟨k - 28, by omega⟩
    show dCell G q τ ζ j = dCell G q' (sa (sa (sa τ 0 nd x) 1 nd y) 3 nd 1) (saF (sa ζ 0 nd (-1)) 1 (zrow (ζ.2.1 1) nd 100)) j
    have hj : j / 3 < nd := by omega
    unfold dCell
    by_cases h1 : j % 3 = 0
    · rw [if_pos h1, if_pos h1]
      have e0 : dObj q τ ζ (j / 3) = dObj q' (sa (sa (sa τ 0 nd x) 1 nd y) 3 nd 1) (saF (sa ζ 0 nd (-1)) 1 (zrow (ζ.2.1 1) nd 100)) (j / 3) := by
        have ne : ¬ j / 3 = nd := by omega
        show [Value.int (τ.2.1 0 (j / 3)), .int (τ.2.1 1 (j / 3)), .int (τ.2.1 2 (j / 3)), .int (τ.2.1 3 (j / 3)), .int (τ.2.1 5 (j / 3)), .int (ζ.2.1 0 (j / 3)), .ref (q (29 + 3 * (j / 3))), .ref (q (30 + 3 * (j / 3)))] = [.int (if j / 3 = nd then x else τ.2.1 0 (j / 3)), .int (if j / 3 = nd then y else τ.2.1 1 (j / 3)), .int (τ.2.1 2 (j / 3)), .int (if j / 3 = nd then 1 else τ.2.1 3 (j / 3)), .int (τ.2.1 5 (j / 3)), .int (if j / 3 = nd then -1 else ζ.2.1 0 (j / 3)), .ref (q' (29 + 3 * (j / 3))), .ref (q' (30 + 3 * (j / 3)))]
        rw [if_neg ne, if_neg ne, if_neg ne, if_neg ne, hq _ (by omega), hq _ (by omega)]
      rw [e0]
    · rw [if_neg h1, if_neg h1]
      by_cases h2 : j % 3 = 1
      · rw [if_pos h2, if_pos h2]; rfl
      · rw [if_neg h2, if_neg h2]
        have e0 : dFl ζ (j / 3) = dFl (saF (sa ζ 0 nd (-1)) 1 (zrow (ζ.2.1 1) nd 100)) (j / 3) := by
          funext k
          show (if k < 100 then ζ.2.1 1 (100 * (j / 3) + k) else 0) = (if k < 100 then (if 100 * nd ≤ 100 * (j / 3) + k ∧ 100 * (j / 3) + k < 100 * nd + 100 then 0 else ζ.2.1 1 (100 * (j / 3) + k)) else 0)
          by_cases hk9 : k < 100
          · rw [if_pos hk9, if_pos hk9, if_neg (by omega)]
          · rw [if_neg hk9, if_neg hk9]
        rw [e0]
section R42
variable {G : GG} {A : Nat → Prop} {p : Program} {l : Launch} {e : Env} {R : Room} {s : State} {m : MethodId} {args : Array Value} {below : List Frame} {meth : Method} {c : Code} {H : Heap} {locs : List Loc} {cells slots : Nat} {Q : State → Prop}
variable {cc : ByteArray} {pc : Nat} {ls : Array Slot} {rest : List Value} {nL n idx : Nat} {own : String} {q : Nat → Nat} {E : Nat → va_E}
theorem r_iretG {S : Type} {post : Int32 → S → Prop} {B : S → State → Prop} {r : Int32} (u : S) (C : CX G p s m args c cc nL own n q) (hS : va_S A s.heap H locs) (hB : ∀ t : State, t.heap = H → B u t) (hr : meth.sig.returnType = some .int) (hk : meth.locks = false) (hdg : decode cc pc = .ok (.ireturn, 1)) (hp : post r u) :
    W p l e R s m args below meth c H locs cells slots (MQ below (va_Qi post B A) args s cells slots A) (F0 m pc ls [.int r]) :=
  W.iret C.1 C.2.1 hr (fun t ht _ => ⟨⟨r, u, rfl, hp, hB t ht⟩, hS.F ht⟩) hS.2.2 hdg hk
theorem Met_Bm {y : MethodName} {sz mc ms : Nat} {ret : Option FieldType} {rm : Room} {av : List Value} {Qc : Array Value → State → Outcome → State → Prop} (hown : y.cls = own) (hy : plainName y.cls = true) (hL : (lg_sl av).length ≤ nL)
    (body : ∀ (p : Program) (e : Env) (s : State) (m : MethodId) (args : Array Value) (below : List Frame) (meth : Method) (c : Code) (ls : Array Slot), s.heap.size = sz → CX G p s m args c cc nL own n q → WB G n q E s s.heap [] → meth.sig.returnType = ret → meth.locks = false → lv_has ls nL (lv_args 0 av) → ∀ QQ : State → Prop, QQ = MQ below Qc args s mc ms (FA n q sz) →
      W p l e rm s m args below meth c s.heap [] 0 0 QQ (F0 m 0 ls [])) : Met l y (WSb y cc nL ret) rm (va_Pc av (PW G n q sz E)) Qc mc ms (FA n q sz) := by
  refine Met.ofW (cc := cc) (maxL := nL) (ret := ret) hy rfl ?_
  intro p e s m args below meth c s₁ B hml hv
  obtain ⟨rfl, hsz, hE, hi, hZ, hP⟩ := hv
  have hts := atoms_spec (ws := WSb y cc nL ret) B.pre
  have hl := lv_entry av (n := nL) hL
  rw [lg_entry_eq]
  exact body p e s m av.toArray below meth c _ hsz ⟨B.exec, B.bytes, hml, by rw [← hown]; exact findClass_of_methodNamed B.named, fun w hw => hts w (List.mem_cons_of_mem _ hw), hE, hi, by rw [hsz]; exact hZ⟩ ⟨hP, va_S.rf⟩ B.returns B.notSynchronized hl _ rfl
variable {y : MethodName} {bytes : ByteArray} {maxL : Nat} {rm : Room} {As st0 : List Value}
theorem cw_Vm {ret : Option FieldType} {Cn : String} {mc ms : Nat} (N : Nat) (C : CX G p s m args c cc nL own n q) (hl : Cond.methodLink own idx y ∈ BIG) (hi : Cond.instanceMethod y ∈ BIG) (hv : Cond.selects Cn y y ∈ BIG) (hn : Cond.initialized Cn ∈ BIG) (hc : Cond.code y bytes maxL ret ∈ BIG) (hrc : rm.cells = mc ∧ rm.slots = ms)
    (hd : y.cls = Cn ∧ y.cls ≠ "java/lang/invoke/MethodHandle" ∧ y.cls ≠ "java/lang/invoke/VarHandle" ∧ (parseMethodDescriptor y.desc).map (fun d => d.parameters.length) = some N) (hR : rm.frames + 1 ≤ R.frames ∧ 8 + (maxL + 11) + rm.locals ≤ R.locals) : CallW R s args own Cn idx y bytes maxL ret (WSb y bytes maxL ret) rm mc ms N :=
  cwV N C.2.2.2.2.1 (fun w hw => by
    rcases List.mem_append.mp hw with h | h
    · have : w ∈ BIG := by
        rcases List.mem_cons.mp h with rfl | h
        · exact hl
        rcases List.mem_cons.mp h with rfl | h
        · exact hi
        rcases List.mem_cons.mp h with rfl | h
        · exact hv
        rcases List.mem_cons.mp h with rfl | h
        · exact hn
        cases h
      exact big_good w this
    · exact wsb_good hc w h) rfl hrc.1 hrc.2 hd hR
theorem run_Vm {ret : Option FieldType} {Cn : String} {N ci mc ms : Nat} {fs : List Value} {o : Nat} {T : u_T} {NN : Nat} {Qc : Array Value → State → Outcome → State → Prop} (C : CX G p s m args c cc nL own n q) (hW : WB G n q E s H locs) (ho : o < n) (he : E o = .inr (ci, fs)) (hcl : vwCl[ci]? = some (Cn, T, NN))
    (hM : Met l y (WSb y bytes maxL ret) rm (va_Pc (.ref (q o) :: As) (PW G n q H.size E)) Qc mc ms (FA n q H.size)) (cw : CallW R s args own Cn idx y bytes maxL ret (WSb y bytes maxL ret) rm mc ms N) (hN : As.length = N) (hl : ls.size = nL) (hst : st0 = As.reverse ++ .ref (q o) :: rest) (hcat : (rest.map fun v => v.category).sum ≤ 8) (hdg : decode cc pc = .ok (.invokevirtual idx, 3)) (hf : cells + mc ≤ R.cells ∧ slots + ms ≤ R.slots) :
    va_Run p l e R s m args below meth c H locs cells slots mc ms (F0 m pc ls st0) rest (Qc (Value.ref (q o) :: As).toArray) (FA n q H.size) :=
  va_runV (As := As) (rest := rest) (b := q o) (C := Cn) ⟨C.1, C.2.1, C.2.2.1, C.2.2.2.1, C.2.2.2.2.1⟩ hM cw ⟨PW_blind _ _, va_recv C.2.2.2.2.2.1.1 hW.1 (ci := ci) (q0 := o) (q := (Cn, T, NN)) (fs := fs) hcl (by rw [wl_at ho, he]), PW_at C hW _⟩ rfl hN hl hst (lv_room hcat) hdg hf
/-- a call whose world may grow -/
theorem go_iG {S : Type} {post : Int32 → S → Prop} {B : S → State → Prop} {mc ms : Nat} {a : Array Value} (hW : WB G n q E s H locs) (hr : va_Run p l e R s m args below meth c H locs cells slots mc ms (F0 m pc ls st0) rest (va_Qi post B (FA n q H.size) a) (FA n q H.size))
    (kk : ∀ (r : Int32) (u : S) (t : State) (H1 : Heap) (locs1 : List Loc), t.heap = H1 → post r u → B u t → va_S (FA n q s.heap.size) s.heap H1 locs1 → (∀ a : Nat, a < H.size → ¬ FA n q H.size a → H1[a]? = H[a]?) → W p l e R s m args below meth c H1 locs1 (cells + mc) (slots + ms) Q (F0 m (pc + 3) ls (.int r :: rest))) : W p l e R s m args below meth c H locs cells slots Q (F0 m pc ls st0) :=
  va_calli hr hW.2 (fun _ _ h => FA_mono hW.2.1 h) (fun _ h => FA_mono hW.2.1 h) (fun r u t H1 locs1 ht _ hp hB _ hfr hS => kk r u t H1 locs1 ht hp hB hS hfr)
end R42
/-- the dishes that are not there yet -/
def NOD (τ : ST) (nd : Nat) : Prop := ∀ z : Nat, nd ≤ z → z < 6 → τ.2.1 2 z = 0 ∧ (τ.2.1 4 z).toInt = 0 ∧ τ.2.1 5 z = 0 ∧ ∀ j : Nat, j < 100 → τ.2.1 7 (100 * z + j) = 0
/-- what a new dish leaves -/
def DPost (q : Nat → Nat) (nd sz : Nat) (u : (Nat → Nat) × Nat) : Prop := (∀ k, k < 28 + 3 * nd → u.1 k = q k) ∧ nd ≤ u.2 ∧ u.2 ≤ 6 ∧ inj (28 + 3 * u.2) u.1 ∧ (∀ k, 28 + 3 * nd ≤ k → k < 28 + 3 * u.2 → sz ≤ u.1 k)
theorem XZ_dish {q q' : Nat → Nat} {nd : Nat} {τ ζ : ST} {ρ : RF} {x y : Int32} (h : XZ q nd τ ζ ρ) (hn : nd < 6) (hN : NOD τ nd) (hfl : 0 ≤ (τ.1 2).toInt) (hfb : ∀ f : Nat, (f : Int) < (τ.1 2).toInt → 0 ≤ (τ.2.1 8 f).toInt ∧ (τ.2.1 8 f).toInt < (τ.1 0).toInt) (hq : ∀ k, k < 28 + 3 * nd → q' k = q k) : XZ q' (nd + 1) (sg (sa (sa (sa τ 0 nd x) 1 nd y) 3 nd 1) 0 (τ.1 0 + 1)) (saF (sa ζ 0 nd (-1)) 1 (zrow (ζ.2.1 1) nd 100)) (va_up ρ 0 (va_up (ρ 0) nd (some (q' (28 + 3 * nd))))) := by
  obtain ⟨a1, a2, a3, a4, a5, a6, a7⟩ := h
  have e1 : (τ.1 0 + 1).toInt = (nd : Int) + 1 := ti_add a1 (show (1 : Int32).toInt = 1 from by decide) (by omega) (by omega)
  refine ⟨e1, fun z hz => ?_, fun z hz => ?_, fun z hz j hj => ?_, a5, a6, fun f hf => ?_⟩
  · show (if z = nd then some (q' (28 + 3 * nd)) else ρ 0 z) = some (q' (28 + 3 * z))
    by_cases c : z = nd
    · rw [if_pos c, c]
    · rw [if_neg c, a2 z (by omega), hq _ (by omega)]
  · show (if z = nd then (-1 : Int32) else ζ.2.1 0 z) = (if (τ.2.1 4 z).toInt = 0 then -1 else τ.2.1 6 z)
    by_cases c : z = nd
    · rw [if_pos c, if_pos (hN z (by omega) (by omega)).2.1]
    · rw [if_neg c]; exact a3 z (by omega)
  · have e := flcN_eq (τ := τ) (τ' := sg (sa (sa (sa τ 0 nd x) 1 nd y) 3 nd 1) 0 (τ.1 0 + 1)) (i := z) (j := j) rfl rfl rfl (τ.1 2).toInt.toNat
    show (if 100 * nd ≤ 100 * z + j ∧ 100 * z + j < 100 * nd + 100 then 0 else ζ.2.1 1 (100 * z + j)) = nI (flcN (sg (sa (sa (sa τ 0 nd x) 1 nd y) 3 nd 1) 0 (τ.1 0 + 1)) z j (τ.1 2).toInt.toNat)
    rw [e]
    by_cases c : z = nd
    · rw [if_pos (by omega), (flcN_0 _).mpr (fun f hf h => by have := hfb f (by omega); omega)]; rfl
    · rw [if_neg (by omega)]; exact a4 z (by omega) j hj
  · have hf2 : (f : Int) < (τ.1 2).toInt := hf
    have := hfb f hf2
    show ρ 1 f = some (q' (28 + 3 * (τ.2.1 8 f).toInt.toNat))
    rw [a7 f hf2, hq _ (by omega)]
set_option maxHeartbeats 8000000 in
set_option maxRecDepth 100000 in
theorem c_X4_addDish (l : Launch) (G : GG) (q : Nat → Nat) (nd sz : Nat) (τ ζ : ST) (ρ : RF) (x y : Int32) (h_nd : nd ≤ 6) (h_z : XZ q nd τ ζ ρ) (h_no : NOD τ nd) : Met l yX4_addDish (WSb yX4_addDish cX4_addDish 3 (some .int)) { frames := 2, cells := 3, slots := 208, locals := 40 } (va_Pc [.ref (q 1), .int x, .int y] (PW G (28 + 3 * nd) q sz (eX G q τ ζ ρ)))
    (va_Qi (fun (r : Int32) (u : ((Nat → Nat) × Nat) × ST × ST × RF) => DPost q nd sz u.1 ∧ ((r = -3 ∧ nd = 6 ∧ u = ((q, nd), τ, ζ, ρ)) ∨ (nd < 6 ∧ r = τ.1 0 + 1 - 1 ∧ u.1.2 = nd + 1 ∧ u.2 = (sg (sa (sa (sa τ 0 nd x) 1 nd y) 3 nd 1) 0 (τ.1 0 + 1), (saF (sa ζ 0 nd (-1)) 1 (zrow (ζ.2.1 1) nd 100)), va_up ρ 0 (va_up (ρ 0) nd (some (u.1.1 (28 + 3 * nd)))))))) (fun u => BW G (28 + 3 * u.1.2) u.1.1 (eX G u.1.1 u.2.1 u.2.2.1 u.2.2.2)) (FA (28 + 3 * nd) q sz)) 3 208 (FA (28 + 3 * nd) q sz) := by
  refine Met_Bm (own := RX4) rfl (by decide) (Nat.le_of_ble_eq_true rfl) (fun p e s m args below meth c ls hsz C hW hr hk hl QQ hQ => ?_)
  subst hsz
  have hl : lv_has ls 3 [(0, .ref (q 1)), (1, .int x), (2, .int y)] := hl
  have h_n : (τ.1 0).toInt = (nd : Int) := h_z.1
  refine lv_aload_n C.1 C.2.1 dX4_addDish_0 rfl (lv_at hl 0 rfl) ?_
  refine xG_Row_size C hW bF_X4_27 (v := (τ.1 0)) rfl dX4_addDish_1 ?_
  refine lv_bipush C.1 C.2.1 (v := 6) dX4_addDish_4 (by decide) ?_
  refine lv_icmp_lt C.1 C.2.1 (tgt := 12) dX4_addDish_6 (by decide) (fun c_1 => ?_) (fun c_1 => ?_)
  · have k_1 := (tc_lt h_n (show (6 : Int32).toInt = 6 from by decide)).mp c_1
    refine lv_aload_n C.1 C.2.1 dX4_addDish_12 rfl (lv_at hl 0 rfl) ?_
    refine xG_Row_dishes C hW bF_X4_13 dX4_addDish_13 ?_
    refine lv_aload_n C.1 C.2.1 dX4_addDish_16 rfl (lv_at hl 0 rfl) ?_
    refine xG_Row_size C hW bF_X4_27 (v := (τ.1 0)) rfl dX4_addDish_17 ?_
    have CL := CX_LC C
    have hWL := WB_LB C.2.2.2.2.2.2.1 hW rfl
    refine l_new (ci := 1) (Cn := RX1) (T := TX1) (N := 8) (fs := [.int 0, .int 0, .int 0, .int 0, .int 0, .int 0, .null, .null]) CL hWL rfl inB_X1 tyX1 tyX1_ok bK_X4_11 bT_X1 bN_X1 (fun j hj => match j, hj with | 0, _ => rfl | 1, _ => rfl | 2, _ => rfl | 3, _ => rfl | 4, _ => rfl | 5, _ => rfl | 6, _ => rfl | 7, _ => rfl | j + 8, hj => absurd hj (by omega)) (Nat.le_of_ble_eq_true rfl) (Nat.le_of_ble_eq_true rfl) dX4_addDish_20 (fun a H hWL => ?_)
    refine lv_dup C.1 C.2.1 dX4_addDish_23 rfl ?_
    refine lv_iload_n C.1 C.2.1 dX4_addDish_24 rfl (lv_at hl 1 rfl) ?_
    refine lv_iload_n C.1 C.2.1 dX4_addDish_25 rfl (lv_at hl 2 rfl) ?_
    refine go_c CL hWL (run_C (N := 2) (As := [.int x, .int y]) (rest := [.ref a, .int (τ.1 0), .ref (q 2)]) CL hWL nT_B trivial (c_X1_init l G a H.size x y) bL_X4_31 bI_X1_init bN_X1 bC_X1_init rfl ⟨rfl, rfl⟩ (by decide +kernel) ⟨Nat.le_of_ble_eq_true rfl, Nat.le_of_ble_eq_true rfl⟩ rfl hl.1 rfl (Nat.le_of_ble_eq_true rfl) dX4_addDish_26 ⟨Nat.le_of_ble_eq_true rfl, Nat.le_of_ble_eq_true rfl⟩) (fun u H2 locs _ hWL => ?_)
    obtain ⟨q', hq'⟩ : ∃ q' : Nat → Nat, q' = (fun k => if k < 28 + 3 * nd then q k else if k = 28 + 3 * nd then a else u (k - (28 + 3 * nd))) := ⟨_, rfl⟩
    have g1 : ∀ k, k < 28 + 3 * nd → q' k = q k := fun k hk => by rw [hq']; exact if_pos hk
    have g2 : q' (28 + 3 * nd) = a := by rw [hq']; show (if 28 + 3 * nd < 28 + 3 * nd then _ else if 28 + 3 * nd = 28 + 3 * nd then a else _) = a; rw [if_neg (by omega), if_pos rfl]
    have g3 : q' (29 + 3 * nd) = u 1 := by rw [hq']; show (if 29 + 3 * nd < 28 + 3 * nd then _ else if 29 + 3 * nd = 28 + 3 * nd then a else u (29 + 3 * nd - (28 + 3 * nd))) = u 1; rw [if_neg (by omega), if_neg (by omega), show 29 + 3 * nd - (28 + 3 * nd) = 1 by omega]
    have g4 : q' (30 + 3 * nd) = u 2 := by rw [hq']; show (if 30 + 3 * nd < 28 + 3 * nd then _ else if 30 + 3 * nd = 28 + 3 * nd then a else u (30 + 3 * nd - (28 + 3 * nd))) = u 2; rw [if_neg (by omega), if_neg (by omega), show 30 + 3 * nd - (28 + 3 * nd) = 2 by omega]
    have hno := h_no nd (Nat.le_refl _) (by omega)
    have hWn : LB G (FA (28 + 3 * nd) q s.heap.size) (wl (28 + 3 * (nd + 1)) q' (eX G q' (sa (sa (sa τ 0 nd x) 1 nd y) 3 nd 1) (saF (sa ζ 0 nd (-1)) 1 (zrow (ζ.2.1 1) nd 100)) ρ)) s H2 locs := by
      rw [show 28 + 3 * (nd + 1) = 28 + 3 * nd + 3 from by omega, ← wl_app3 g1 (eX_grow (fun k hk => (g1 k hk).symm)) (x := (a, .inr (1, [.int x, .int y, .int 0, .int 1, .int 0, .int (-1), .ref (u 1), .ref (u 2)]))) (y := (u 1, .inl (G.2.1.1, 100, .inl (fun _ => 0)))) (z := (u 2, .inl (G.2.1.1, 100, .inl (fun _ => 0)))) ?_ ?_ ?_]
      · exact hWL
      · rw [g2, eX_obj]
        show _ = (a, (Sum.inr (1, [Value.int (if nd = nd then x else τ.2.1 0 nd), .int (if nd = nd then y else τ.2.1 1 nd), .int (τ.2.1 2 nd), .int (if nd = nd then 1 else τ.2.1 3 nd), .int (τ.2.1 5 nd), .int (if nd = nd then -1 else ζ.2.1 0 nd), .ref (q' (29 + 3 * nd)), .ref (q' (30 + 3 * nd))]) : va_E))
        rw [if_pos rfl, if_pos rfl, if_pos rfl, if_pos rfl, hno.1, hno.2.2.1, g3, g4]
      · rw [show 28 + 3 * nd + 1 = 29 + 3 * nd from by omega, g3, eX_it]
        have e0 : dIt (sa (sa (sa τ 0 nd x) 1 nd y) 3 nd 1) nd = (fun _ => 0) := by
          funext k
          show (if k < 100 then τ.2.1 7 (100 * nd + k) else 0) = 0
          by_cases hk9 : k < 100
          · rw [if_pos hk9]; exact hno.2.2.2 k hk9
          · rw [if_neg hk9]
        rw [e0]
      · rw [show 28 + 3 * nd + 2 = 30 + 3 * nd from by omega, g4, eX_fl]
        have e0 : dFl (saF (sa ζ 0 nd (-1)) 1 (zrow (ζ.2.1 1) nd 100)) nd = (fun _ => 0) := by
          funext k
          show (if k < 100 then (if 100 * nd ≤ 100 * nd + k ∧ 100 * nd + k < 100 * nd + 100 then 0 else ζ.2.1 1 (100 * nd + k)) else 0) = 0
          by_cases hk9 : k < 100
          · rw [if_pos hk9, if_pos (by omega)]
          · rw [if_neg hk9]
        rw [e0]
    have hF : FA (28 + 3 * (nd + 1)) q' s.heap.size = FA (28 + 3 * nd) q s.heap.size := LB_A hWn.2.1 (fun a h => Or.inr h) (fun a h => h.elim (fun ⟨k, hk, e⟩ => Or.inr ⟨k, by omega, (g1 k hk).trans e⟩) Or.inl)
    have hi' := LB_inj hWn
    have C' := LB_CX CL hWn hF
    have hW := LB_WB hWn hF
    have hnew : ∀ k, 28 + 3 * nd ≤ k → k < 28 + 3 * (nd + 1) → s.heap.size ≤ q' k := fun k h1 h2 => by
      rcases hWn.2.1.2 k _ (wl_at h2) with ⟨j, hj, e⟩ | h
      · exact absurd (hi' j k (by omega) h2 ((g1 j hj).trans e)) (by omega)
      · exact h
    have hl : lv_has ls 3 [(0, .ref (q' 1)), (1, .int x), (2, .int y)] := by rw [g1 1 (by omega)]; exact hl
    rw [← g2, ← g1 2 (by omega)]
    refine r_qast C' hW (o := 2) (d := 28 + 3 * nd) (by omega) rfl (by omega) (eX_obj _ _ _ _ _ nd) (k := nd) h_n (by omega) dX4_addDish_29 (E' := eX G q' (sa (sa (sa τ 0 nd x) 1 nd y) 3 nd 1) (saF (sa ζ 0 nd (-1)) 1 (zrow (ζ.2.1 1) nd 100)) (va_up ρ 0 (va_up (ρ 0) nd (some (q' (28 + 3 * nd)))))) (fun j hj => match j, hj with
      | 0, _ => rfl
      | 1, _ => rfl
      | 2, _ => rfl
      | 3, _ => rfl
      | 4, _ => rfl
      | 5, _ => rfl
      | 6, _ => rfl
      | 7, _ => rfl
      | 8, _ => rfl
      | 9, _ => rfl
      | 10, _ => rfl
      | 11, _ => rfl
      | 12, _ => rfl
      | 13, _ => rfl
      | 14, _ => rfl
      | 15, _ => rfl
      | 16, _ => rfl
      | 17, _ => rfl
      | 18, _ => rfl
      | 19, _ => rfl
      | 20, _ => rfl
      | 21, _ => rfl
      | 22, _ => rfl
      | 23, _ => rfl
      | 24, _ => rfl
      | 25, _ => rfl
      | 26, _ => rfl
      | 27, _ => rfl
      | j + 28, hj => (if_neg (by omega)).trans rfl) (fun H locs hW => ?_)
    refine lv_aload_n C'.1 C'.2.1 dX4_addDish_30 rfl (lv_at hl 0 rfl) ?_
    refine lv_dup C'.1 C'.2.1 dX4_addDish_31 rfl ?_
    refine xG_Row_size C' hW bF_X4_27 (v := (τ.1 0)) rfl dX4_addDish_32 ?_
    refine lv_iconst C'.1 C'.2.1 (v := 1) dX4_addDish_35 (by decide) ?_
    refine lv_iadd C'.1 C'.2.1 dX4_addDish_36 ?_
    refine xP_Row_size C' hW bF_X4_27 dX4_addDish_37 (fun H locs hW => ?_)
    refine lv_aload_n C'.1 C'.2.1 dX4_addDish_40 rfl (lv_at hl 0 rfl) ?_
    refine xG_Row_size C' hW bF_X4_27 (v := (τ.1 0 + 1)) rfl dX4_addDish_41 ?_
    refine lv_iconst C'.1 C'.2.1 (v := 1) dX4_addDish_44 (by decide) ?_
    refine lv_isub C'.1 C'.2.1 dX4_addDish_45 ?_
    subst hQ
    refine W.widen (k := 3) (n := 208) (Nat.le_of_ble_eq_true rfl) (Nat.le_of_ble_eq_true rfl) ?_
    exact r_iretG (A := FA (28 + 3 * nd) q s.heap.size) ((q', nd + 1), sg (sa (sa (sa τ 0 nd x) 1 nd y) 3 nd 1) 0 (τ.1 0 + 1), (saF (sa ζ 0 nd (-1)) 1 (zrow (ζ.2.1 1) nd 100)), va_up ρ 0 (va_up (ρ 0) nd (some (q' (28 + 3 * nd))))) C' (by rw [← hF]; exact hW.2) (fun t ht => by show va_P _ _ _ t.heap; rw [ht]; exact hW.1) hr hk dX4_addDish_46 ⟨⟨g1, by show nd ≤ nd + 1; omega, by show nd + 1 ≤ 6; omega, hi', hnew⟩, Or.inr ⟨by omega, rfl, rfl, rfl⟩⟩
  · have k_1 := (tn_lt h_n (show (6 : Int32).toInt = 6 from by decide)).mp c_1
    refine lv_bipush C.1 C.2.1 (v := (-3)) dX4_addDish_9 (by decide) ?_
    subst hQ
    refine W.widen (k := 3) (n := 208) (Nat.le_of_ble_eq_true rfl) (Nat.le_of_ble_eq_true rfl) ?_
    exact r_iretG ((q, nd), τ, ζ, ρ) C hW.2 (fun t ht => by show va_P _ _ _ t.heap; rw [ht]; exact hW.1) hr hk dX4_addDish_11 ⟨⟨fun _ _ => rfl, Nat.le_refl _, h_nd, C.2.2.2.2.2.2.1, fun k h1 h2 => absurd h1 (by show ¬ 28 + 3 * nd ≤ k; have : k < 28 + 3 * nd := h2; omega)⟩, Or.inl ⟨rfl, by omega, rfl⟩⟩
set_option maxHeartbeats 8000000 in
set_option maxRecDepth 100000 in
theorem c_X7_dish (l : Launch) (G : GG) (q : Nat → Nat) (nd sz : Nat) (τ ζ : ST) (ρ : RF) (x y : Int32) (h_nd : nd ≤ 6) (h_z : XZ q nd τ ζ ρ) (h_f : 0 ≤ (τ.1 2).toInt ∧ (τ.1 2).toInt ≤ 40) (h_fb : ∀ f : Nat, (f : Int) < (τ.1 2).toInt → 0 ≤ (τ.2.1 8 f).toInt ∧ (τ.2.1 8 f).toInt < (τ.1 0).toInt ∧ 0 ≤ (τ.2.1 9 f).toInt ∧ (τ.2.1 9 f).toInt ≤ (τ.2.1 10 f).toInt ∧ (τ.2.1 10 f).toInt ≤ 99) (h_no : NOD τ nd) : Met l yX7_dish (WSb yX7_dish cX7_dish 3 (some .int)) { frames := 3, cells := 3, slots := 208, locals := 62 } (va_Pc [.ref (q 0), .int x, .int y] (PW G (28 + 3 * nd) q sz (eX G q τ ζ ρ)))
    (va_Qi (fun (r : Int32) (u : ((Nat → Nat) × Nat) × ST × ST × RF) => DPost q nd sz u.1 ∧ sp_dish τ x y = (r, u.2.1) ∧ XZ u.1.1 u.1.2 u.2.1 u.2.2.1 u.2.2.2) (fun u => BW G (28 + 3 * u.1.2) u.1.1 (eX G u.1.1 u.2.1 u.2.2.1 u.2.2.2)) (FA (28 + 3 * nd) q sz)) 3 208 (FA (28 + 3 * nd) q sz) := by
  refine Met_Bm (own := RX7) rfl (by decide) (Nat.le_of_ble_eq_true rfl) (fun p e s m args below meth c ls hsz C hW hr hk hl QQ hQ => ?_)
  subst hsz
  have hl : lv_has ls 3 [(0, .ref (q 0)), (1, .int x), (2, .int y)] := hl
  have h_n : (τ.1 0).toInt = (nd : Int) := h_z.1
  have hDP : DPost q nd s.heap.size (q, nd) := ⟨fun _ _ => rfl, Nat.le_refl _, h_nd, C.2.2.2.2.2.2.1, fun k h1 h2 => absurd h1 (by show ¬ 28 + 3 * nd ≤ k; have : k < 28 + 3 * nd := h2; omega)⟩
  have hBad : ∀ {H : Heap} {locs : List Loc} {pc : Nat} {ls : Array Slot}, WB G (28 + 3 * nd) q (eX G q τ ζ ρ) s H locs → decode cX7_dish pc = .ok (.ireturn, 1) → ¬ ((-100 ≤ x.toInt ∧ x.toInt ≤ 100) ∧ -100 ≤ y.toInt ∧ y.toInt ≤ 100) → W p l e { frames := 3, cells := 3, slots := 208, locals := 62 } s m args below meth c H locs 0 0 QQ (F0 m pc ls [.int (-2)]) := fun hW hdg hno => by
    subst hQ
    refine W.widen (k := 3) (n := 208) (Nat.le_of_ble_eq_true rfl) (Nat.le_of_ble_eq_true rfl) ?_
    exact r_iretG ((q, nd), τ, ζ, ρ) C hW.2 (fun t ht => by show va_P _ _ _ t.heap; rw [ht]; exact hW.1) hr hk hdg ⟨hDP, by unfold sp_dish; rw [if_neg hno], h_z⟩
  refine lv_iload_n C.1 C.2.1 dX7_dish_0 rfl (lv_at hl 1 rfl) ?_
  refine lv_bipush C.1 C.2.1 (v := (-100)) dX7_dish_1 (by decide) ?_
  refine lv_bipush C.1 C.2.1 (v := 100) dX7_dish_3 (by decide) ?_
  refine go_i hW (run_S (As := [.int x, .int (-100), .int 100]) (rest := []) C hW (c_X7_isWithin l G q nd _ τ ζ ρ x (-100) 100 x.toInt (-100) 100 rfl (by decide) (by decide) h_nd) (cw_S 3 C bL_X7_51 bS_X7_isWithin bN_X7 bC_X7_isWithin ⟨rfl, rfl⟩ (by decide +kernel) ⟨Nat.le_of_ble_eq_true rfl, Nat.le_of_ble_eq_true rfl⟩) rfl hl.1 rfl (Nat.le_of_ble_eq_true rfl) dX7_dish_5 ⟨Nat.le_of_ble_eq_true rfl, Nat.le_of_ble_eq_true rfl⟩) (fun r_1 u_1 H locs hp_1 hW => ?_)
  rcases hp_1 with ⟨rfl, rfl, k1, k2⟩ | ⟨rfl, rfl, k1⟩
  · have hW : WB G (28 + 3 * nd) q (eX G q τ ζ ρ) s H locs := hW
    refine lv_if_eq C.1 C.2.1 (tgt := 22) dX7_dish_8 (by decide) (fun c => absurd c (by decide)) (fun _ => ?_)
    refine lv_iload_n C.1 C.2.1 dX7_dish_11 rfl (lv_at hl 2 rfl) ?_
    refine lv_bipush C.1 C.2.1 (v := (-100)) dX7_dish_12 (by decide) ?_
    refine lv_bipush C.1 C.2.1 (v := 100) dX7_dish_14 (by decide) ?_
    refine go_i hW (run_S (As := [.int y, .int (-100), .int 100]) (rest := []) C hW (c_X7_isWithin l G q nd _ τ ζ ρ y (-100) 100 y.toInt (-100) 100 rfl (by decide) (by decide) h_nd) (cw_S 3 C bL_X7_51 bS_X7_isWithin bN_X7 bC_X7_isWithin ⟨rfl, rfl⟩ (by decide +kernel) ⟨Nat.le_of_ble_eq_true rfl, Nat.le_of_ble_eq_true rfl⟩) rfl hl.1 rfl (Nat.le_of_ble_eq_true rfl) dX7_dish_16 ⟨Nat.le_of_ble_eq_true rfl, Nat.le_of_ble_eq_true rfl⟩) (fun r_2 u_2 H locs hp_2 hW => ?_)
    rcases hp_2 with ⟨rfl, rfl, k3, k4⟩ | ⟨rfl, rfl, k3⟩
    · have hW : WB G (28 + 3 * nd) q (eX G q τ ζ ρ) s H locs := hW
      refine lv_if_ne C.1 C.2.1 (tgt := 25) dX7_dish_19 (by decide) (fun _ => ?_) (fun c => absurd c (by decide))
      refine lv_aload_n C.1 C.2.1 dX7_dish_25 rfl (lv_at hl 0 rfl) ?_
      refine xG_DishHouse_row C hW bF_X7_12 dX7_dish_26 ?_
      refine lv_iload_n C.1 C.2.1 dX7_dish_29 rfl (lv_at hl 1 rfl) ?_
      refine lv_iload_n C.1 C.2.1 dX7_dish_30 rfl (lv_at hl 2 rfl) ?_
      refine go_iG hW (run_Vm (o := 1) (As := [.int x, .int y]) (rest := []) C hW (by omega) rfl rfl (c_X4_addDish l G q nd _ τ ζ ρ x y h_nd h_z h_no) (cw_Vm 2 C bL_X7_55 bI_X4_addDish bV_X4_addDish bN_X4 bC_X4_addDish ⟨rfl, rfl⟩ (by decide +kernel) ⟨Nat.le_of_ble_eq_true rfl, Nat.le_of_ble_eq_true rfl⟩) rfl hl.1 rfl (Nat.le_of_ble_eq_true rfl) dX7_dish_31 ⟨Nat.le_of_ble_eq_true rfl, Nat.le_of_ble_eq_true rfl⟩) (fun r u t H1 locs1 ht hp hB hS _ => ?_)
      subst hQ
      refine W.widen (k := 3) (n := 208) (Nat.le_of_ble_eq_true rfl) (Nat.le_of_ble_eq_true rfl) ?_
      have hsz := hW.2.1
      refine r_iretG u C hS (fun t2 ht2 => by show va_P _ _ _ t2.heap; rw [ht2, ← ht]; exact hB) hr hk dX7_dish_34 ⟨⟨hp.1.1, hp.1.2.1, hp.1.2.2.1, hp.1.2.2.2.1, fun k h1 h2 => Nat.le_trans hsz (hp.1.2.2.2.2 k h1 h2)⟩, ?_⟩
      obtain ⟨⟨q', nd'⟩, τ', ζ', ρ'⟩ := u
      rcases hp.2 with ⟨rfl, h6, hu⟩ | ⟨h6, rfl, hu1, hu2⟩
      · cases hu
        exact ⟨by unfold sp_dish; rw [if_pos (by omega), if_pos (by omega)], h_z⟩
      · have e : nd' = nd + 1 := hu1
        subst e
        have a1 : τ' = sg (sa (sa (sa τ 0 nd x) 1 nd y) 3 nd 1) 0 (τ.1 0 + 1) := congrArg Prod.fst hu2
        have a2 : ζ' = (saF (sa ζ 0 nd (-1)) 1 (zrow (ζ.2.1 1) nd 100)) := congrArg (fun z => z.2.1) hu2
        have a3 : ρ' = va_up ρ 0 (va_up (ρ 0) nd (some (q' (28 + 3 * nd)))) := congrArg (fun z => z.2.2) hu2
        subst a1; subst a2; subst a3
        exact ⟨by unfold sp_dish; rw [if_pos (by omega), if_neg (by omega), h_n]; rfl, XZ_dish h_z h6 h_no h_f.1 (fun f hf => ⟨(h_fb f hf).1, (h_fb f hf).2.1⟩) hp.1.1⟩
    · have hW : WB G (28 + 3 * nd) q (eX G q τ ζ ρ) s H locs := hW
      refine lv_if_ne C.1 C.2.1 (tgt := 25) dX7_dish_19 (by decide) (fun c => absurd rfl c) (fun _ => ?_)
      refine lv_bipush C.1 C.2.1 (v := (-2)) dX7_dish_22 (by decide) ?_
      exact hBad hW dX7_dish_24 (by omega)
  · have hW : WB G (28 + 3 * nd) q (eX G q τ ζ ρ) s H locs := hW
    refine lv_if_eq C.1 C.2.1 (tgt := 22) dX7_dish_8 (by decide) (fun _ => ?_) (fun c => absurd rfl c)
    refine lv_bipush C.1 C.2.1 (v := (-2)) dX7_dish_22 (by decide) ?_
    exact hBad hW dX7_dish_24 (by omega)
