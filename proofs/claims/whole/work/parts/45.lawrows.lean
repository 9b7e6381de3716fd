/-! the law's start, and two objects side by side -/
theorem cls_ok {args : Array Value} {s : State} (hts : ∀ w ∈ BIG, w.before args s = true) : ∃ D : va_G, ∀ (c : Nat) (q : vw_C), vwCl[c]? = some q → u_Kn s q.1 q.2.1 q.2.2 (D.1 c) (D.2 c) := by
  obtain ⟨c0, i0, h0⟩ := u_known hts inB_X0 (hts _ bT_X0)
  obtain ⟨c1, i1, h1⟩ := u_known hts inB_X1 (hts _ bT_X1)
  obtain ⟨c2, i2, h2⟩ := u_known hts inB_X2 (hts _ bT_X2)
  obtain ⟨c3, i3, h3⟩ := u_known hts inB_X3 (hts _ bT_X3)
  obtain ⟨c4, i4, h4⟩ := u_known hts inB_X4 (hts _ bT_X4)
  obtain ⟨c5, i5, h5⟩ := u_known hts inB_X5 (hts _ bT_X5)
  obtain ⟨c6, i6, h6⟩ := u_known hts inB_X6 (hts _ bT_X6)
  obtain ⟨c7, i7, h7⟩ := u_known hts inB_X7 (hts _ bT_X7)
  obtain ⟨c8, i8, h8⟩ := u_known hts inB_X8 (hts _ bT_X8)
  refine ⟨(fun k => match k with | 0 => c0 | 1 => c1 | 2 => c2 | 3 => c3 | 4 => c4 | 5 => c5 | 6 => c6 | 7 => c7 | _ => c8, fun k => match k with | 0 => i0 | 1 => i1 | 2 => i2 | 3 => i3 | 4 => i4 | 5 => i5 | 6 => i6 | 7 => i7 | _ => i8), fun c q hq => ?_⟩
  match c, hq with
  | 0, hq => have e : (RX0, TX0, 9) = q := Option.some.inj hq; subst e; exact h0
  | 1, hq => have e : (RX1, TX1, 8) = q := Option.some.inj hq; subst e; exact h1
  | 2, hq => have e : (RX2, TX2, 4) = q := Option.some.inj hq; subst e; exact h2
  | 3, hq => have e : (RX3, TX3, 6) = q := Option.some.inj hq; subst e; exact h3
  | 4, hq => have e : (RX4, TX4, 6) = q := Option.some.inj hq; subst e; exact h4
  | 5, hq => have e : (RX5, TX5, 9) = q := Option.some.inj hq; subst e; exact h5
  | 6, hq => have e : (RX6, TX6, 4) = q := Option.some.inj hq; subst e; exact h6
  | 7, hq => have e : (RX7, TX7, 7) = q := Option.some.inj hq; subst e; exact h7
  | 8, hq => have e : (RX8, TX8, 52) = q := Option.some.inj hq; subst e; exact h8
  | c + 9, hq => have h := (List.getElem?_eq_some_iff.mp hq).1; exact absurd h (by show ¬ c + 9 < 9; omega)
theorem arr_ok {args : Array Value} {s : State} {ty : FieldType} (h : (Cond.arrayClass ty).before args s = true) : ∃ cA : ClassId, s.vm.findClass ("[" ++ ty.toString) = some cA ∧ ((∀ C, ty ≠ .object C) → (∀ k, ty ≠ .array k) → ArrOfT s cA ty) := by
  obtain ⟨cA, kA, comp, h1, h2, h3⟩ := Cond.arrayClass_spec h
  exact ⟨cA, h1, fun _ _ n z => ⟨fun k h => (by cases h), kA, h2, comp, h3⟩⟩
theorem start_G {args : Array Value} {s : State} (hts : ∀ w ∈ lw_tbl, w.before args s = true) (hpre : (Jvm.Cond.and given_1 narrow_1).before args s = true) : ∃ G : GG, gE G s ∧ nE s ∧ gZ G (fun a => s.heap.size ≤ a) s s.heap := by
  have hB := big_law hts
  have hs := flat_of_before _ hpre
  obtain ⟨D, hD⟩ := cls_ok hB
  obtain ⟨cI, fI, aI⟩ := arr_ok (hB _ bA_int)
  obtain ⟨cJ, fJ, aJ⟩ := arr_ok (hB _ bA_long)
  obtain ⟨cZ, fZ, aZ⟩ := arr_ok (hB _ bA_boolean)
  have hO : (Cond.arrayOver (.object RX1)).before args s = true := hts _ (by decide +kernel)
  obtain ⟨comp, cQ, kQ, q1, -, q3, q4, q5⟩ := Cond.arrayOver_spec hO
  have hAO : va_AO RX1 s := va_AO.of hO
  obtain ⟨t, ht, hT⟩ := va_Tof (args := args) (s := s) (tm := .static RX6 "WAVE" "[I") (ty := .int) (N := 16) (f := fun j => .int (wv j)) (A := fun a => s.heap.size ≤ a) (by decide) (hs _ (by decide +kernel)) (va_eqt (t := .length (.static RX6 "WAVE" "[I")) (z := 16) (hs _ (by decide +kernel))) (fun j hj => match j, hj with
    | 0, _ => va_eqt (z := 1000) (hs (Cond.eq (.elem (.static RX6 "WAVE" "[I") (.int 0)) (.int 1000)) (by decide +kernel))
    | 1, _ => va_eqt (z := 924) (hs (Cond.eq (.elem (.static RX6 "WAVE" "[I") (.int 1)) (.int 924)) (by decide +kernel))
    | 2, _ => va_eqt (z := 707) (hs (Cond.eq (.elem (.static RX6 "WAVE" "[I") (.int 2)) (.int 707)) (by decide +kernel))
    | 3, _ => va_eqt (z := 383) (hs (Cond.eq (.elem (.static RX6 "WAVE" "[I") (.int 3)) (.int 383)) (by decide +kernel))
    | 4, _ => va_eqt (z := 0) (hs (Cond.eq (.elem (.static RX6 "WAVE" "[I") (.int 4)) (.int 0)) (by decide +kernel))
    | 5, _ => va_eqt (z := -383) (hs (Cond.eq (.elem (.static RX6 "WAVE" "[I") (.int 5)) (.int (-383))) (by decide +kernel))
    | 6, _ => va_eqt (z := -707) (hs (Cond.eq (.elem (.static RX6 "WAVE" "[I") (.int 6)) (.int (-707))) (by decide +kernel))
    | 7, _ => va_eqt (z := -924) (hs (Cond.eq (.elem (.static RX6 "WAVE" "[I") (.int 7)) (.int (-924))) (by decide +kernel))
    | 8, _ => va_eqt (z := -1000) (hs (Cond.eq (.elem (.static RX6 "WAVE" "[I") (.int 8)) (.int (-1000))) (by decide +kernel))
    | 9, _ => va_eqt (z := -924) (hs (Cond.eq (.elem (.static RX6 "WAVE" "[I") (.int 9)) (.int (-924))) (by decide +kernel))
    | 10, _ => va_eqt (z := -707) (hs (Cond.eq (.elem (.static RX6 "WAVE" "[I") (.int 10)) (.int (-707))) (by decide +kernel))
    | 11, _ => va_eqt (z := -383) (hs (Cond.eq (.elem (.static RX6 "WAVE" "[I") (.int 11)) (.int (-383))) (by decide +kernel))
    | 12, _ => va_eqt (z := 0) (hs (Cond.eq (.elem (.static RX6 "WAVE" "[I") (.int 12)) (.int 0)) (by decide +kernel))
    | 13, _ => va_eqt (z := 383) (hs (Cond.eq (.elem (.static RX6 "WAVE" "[I") (.int 13)) (.int 383)) (by decide +kernel))
    | 14, _ => va_eqt (z := 707) (hs (Cond.eq (.elem (.static RX6 "WAVE" "[I") (.int 14)) (.int 707)) (by decide +kernel))
    | 15, _ => va_eqt (z := 924) (hs (Cond.eq (.elem (.static RX6 "WAVE" "[I") (.int 15)) (.int 924)) (by decide +kernel))
    | j + 16, hj => absurd hj (by omega)) (fun a h1 h2 => Nat.not_le.mpr h1 h2)
  refine ⟨(D, (cI, cJ, cZ, cQ), t), ⟨⟨hD, fun k q hq => ?_⟩, va_Nw.of rfl (hts _ (by decide +kernel))⟩, ⟨hAO, va_Nw.of rfl (hts _ (by decide +kernel)), va_Nw.of rfl (hts _ (by decide +kernel)), va_Nw.of rfl (hts _ (by decide +kernel)), va_Nw.of rfl (hts _ (by decide +kernel)), va_Nw.of rfl (hts _ (by decide +kernel))⟩, va_Zof (hts _ (by decide +kernel)) (hB _ bN_X6) ht (fun a h1 h2 => Nat.not_le.mpr h1 h2), hT⟩
  match k, hq with
  | 0, hq => have e : (cI, FieldType.int) = q := Option.some.inj hq; subst e; exact ⟨aI (fun _ h => by cases h) (fun _ h => by cases h), fI⟩
  | 1, hq => have e : (cJ, FieldType.long) = q := Option.some.inj hq; subst e; exact ⟨aJ (fun _ h => by cases h) (fun _ h => by cases h), fJ⟩
  | 2, hq => have e : (cZ, FieldType.boolean) = q := Option.some.inj hq; subst e; exact ⟨aZ (fun _ h => by cases h) (fun _ h => by cases h), fZ⟩
  | 3, hq => have e : (cQ, FieldType.object RX1) = q := Option.some.inj hq; subst e; exact ⟨fun n z => ⟨fun k h => (by cases h), kQ, q3, comp, q4⟩, kQ, comp, q3, q4, q1, q5⟩
  | k + 4, hq => have h := (List.getElem?_eq_some_iff.mp hq).1; exact absurd h (by show ¬ k + 4 < 4; omega)
section R45
variable {G : GG} {p : Program} {l : Launch} {e : Env} {R : Room} {s : State} {m : MethodId} {args : Array Value} {below : List Frame} {meth : Method} {c : Code} {H : Heap} {locs : List Loc} {cells slots : Nat} {Q : State → Prop}
variable {cc : ByteArray} {pc : Nat} {ls : Array Slot} {rest : List Value} {nL n n2 : Nat} {own : String} {q q2 : Nat → Nat} {E E2 : Nat → va_E} {st0' : List Value}
theorem FA_A0 (h : ∀ j, j < n → s.heap.size ≤ q j) : FA n q s.heap.size = (fun a => s.heap.size ≤ a) := by
  funext a
  exact propext ⟨fun x => x.elim (fun ⟨k, hk, e⟩ => by rw [← e]; exact h k hk) id, Or.inr⟩
theorem LC_CX (C : LC G (fun a => s.heap.size ≤ a) p s m args c cc nL own) (hi : inj n q) (h : ∀ j, j < n → s.heap.size ≤ q j) : CX G p s m args c cc nL own n q := ⟨C.1, C.2.1, C.2.2.1, C.2.2.2.1, C.2.2.2.2.1, C.2.2.2.2.2.1, hi, by rw [FA_A0 h]; exact C.2.2.2.2.2.2.1⟩
theorem keep2 (h2 : WB G n2 q2 E2 s H locs) (hd : ∀ j, j < n → ∀ k, k < n2 → q j ≠ q2 k) {H1 : Heap} {locs1 : List Loc} (hfr : ∀ a : Nat, a < H.size → ¬ FA n q H.size a → H1[a]? = H[a]?) (hS : va_S (FA n2 q2 s.heap.size) s.heap H1 locs1) : WB G n2 q2 E2 s H1 locs1 := by
  refine ⟨h2.1.kept (fun k x hx => ?_), hS⟩
  have hlt := (h2.1 k x hx).lt
  obtain ⟨hk, rfl⟩ := wl_of hx
  exact hfr _ hlt (fun h => h.elim (fun ⟨j, hj, e⟩ => hd j hj k hk e) (fun h => Nat.not_lt.mpr h hlt))
theorem go2_i {S : Type} {post : Int32 → S → Prop} {EE : S → Nat → va_E} {a : Array Value} (hW : WB G n q E s H locs) (h2 : WB G n2 q2 E2 s H locs) (hd : ∀ j, j < n → ∀ k, k < n2 → q j ≠ q2 k) (hF : FA n q s.heap.size = FA n2 q2 s.heap.size) (hr : va_Run p l e R s m args below meth c H locs cells slots 0 0 (F0 m pc ls st0') rest (va_Qi post (fun u => BW G n q (EE u)) (FA n q H.size) a) (FA n q H.size))
    (kk : ∀ (r : Int32) (u : S) (H1 : Heap) (locs1 : List Loc), post r u → WB G n q (EE u) s H1 locs1 → WB G n2 q2 E2 s H1 locs1 → W p l e R s m args below meth c H1 locs1 cells slots Q (F0 m (pc + 3) ls (.int r :: rest))) : W p l e R s m args below meth c H locs cells slots Q (F0 m pc ls st0') :=
  va_calli hr hW.2 (fun _ _ h => FA_mono hW.2.1 h) (fun _ h => FA_mono hW.2.1 h) (fun r u t H1 locs1 ht _ hp hB _ hfr hS => kk r u H1 locs1 hp (WB_after hW ht hB hS) (keep2 h2 hd hfr (by rw [← hF]; exact hS)))
theorem go2_l {S : Type} {post : Int64 → S → Prop} {EE : S → Nat → va_E} {a : Array Value} (hW : WB G n q E s H locs) (h2 : WB G n2 q2 E2 s H locs) (hd : ∀ j, j < n → ∀ k, k < n2 → q j ≠ q2 k) (hF : FA n q s.heap.size = FA n2 q2 s.heap.size) (hr : va_Run p l e R s m args below meth c H locs cells slots 0 0 (F0 m pc ls st0') rest (va_Ql post (fun u => BW G n q (EE u)) (FA n q H.size) a) (FA n q H.size))
    (kk : ∀ (r : Int64) (u : S) (H1 : Heap) (locs1 : List Loc), post r u → WB G n q (EE u) s H1 locs1 → WB G n2 q2 E2 s H1 locs1 → W p l e R s m args below meth c H1 locs1 cells slots Q (F0 m (pc + 3) ls (.long r :: rest))) : W p l e R s m args below meth c H locs cells slots Q (F0 m pc ls st0') :=
  va_calll hr hW.2 (fun _ _ h => FA_mono hW.2.1 h) (fun _ h => FA_mono hW.2.1 h) (fun r u t H1 locs1 ht _ hp hB _ hfr hS => kk r u H1 locs1 hp (WB_after hW ht hB hS) (keep2 h2 hd hfr (by rw [← hF]; exact hS)))
end R45
/-- what holds of the two objects between two calls of the law -/
def LI (G : GG) (s : State) (τ : ST) (nd : Nat) (q qM : Nat → Nat) (ζ ξ : ST) (ρ : RF) (H : Heap) (locs : List Loc) : Prop :=
  nd ≤ 6 ∧ XZ q nd τ ζ ρ ∧ IV τ ∧ WB G (28 + 3 * nd) q (eX G q τ ζ ρ) s H locs ∧ WB G 33 qM (eM G qM τ ξ) s H locs ∧ inj (28 + 3 * nd) q ∧ inj 33 qM ∧ (∀ j, j < 28 + 3 * nd → s.heap.size ≤ q j) ∧ (∀ k, k < 33 → s.heap.size ≤ qM k) ∧ (∀ j, j < 28 + 3 * nd → ∀ k, k < 33 → q j ≠ qM k)
theorem LI_next {A : Type} {G : GG} {s : State} {τ : ST} {nd : Nat} {q qM : Nat → Nat} {ζ ξ : ST} {ρ : RF} {H H0 : Heap} {locs locs0 : List Loc} (h : LI G s τ nd q qM ζ ξ ρ H0 locs0) {r r2 : A} {u : ST × ST × RF} {u2 : ST × ST} {sp : A × ST} (hp : sp = (r, u.1) ∧ XZ q nd u.1 u.2.1 u.2.2) (hp2 : sp = (r2, u2.1)) (hi : IV sp.2) (hX : WB G (28 + 3 * nd) q (eX G q u.1 u.2.1 u.2.2) s H locs) (hM : WB G 33 qM (eM G qM u2.1 u2.2) s H locs) : LI G s u.1 nd q qM u.2.1 u2.2 u.2.2 H locs ∧ r = r2 := by
  have e := hp.1.symm.trans hp2
  have er : r = r2 := congrArg Prod.fst e
  have eu : u.1 = u2.1 := congrArg Prod.snd e
  obtain ⟨h1, h2, h3, h4, h5, h6, h7, h8, h9, h10⟩ := h
  refine ⟨⟨h1, hp.2, by rw [hp.1] at hi; exact hi, hX, by rw [eu]; exact hM, h6, h7, h8, h9, h10⟩, er⟩
theorem LI_dish {G : GG} {s : State} {τ : ST} {nd sz : Nat} {q qM : Nat → Nat} {ζ ξ : ST} {ρ : RF} {H H0 : Heap} {locs locs0 : List Loc} (h : LI G s τ nd q qM ζ ξ ρ H0 locs0) (hsz : s.heap.size ≤ sz) (hszM : ∀ k, k < 33 → qM k < sz) {r r2 : Int32} {u : ((Nat → Nat) × Nat) × ST × ST × RF} {u2 : ST × ST} {sp : Int32 × ST} (hp : DPost q nd sz u.1 ∧ sp = (r, u.2.1) ∧ XZ u.1.1 u.1.2 u.2.1 u.2.2.1 u.2.2.2) (hp2 : sp = (r2, u2.1)) (hi : IV sp.2) (hX : WB G (28 + 3 * u.1.2) u.1.1 (eX G u.1.1 u.2.1 u.2.2.1 u.2.2.2) s H locs) (hM : WB G 33 qM (eM G qM u2.1 u2.2) s H locs) : LI G s u.2.1 u.1.2 u.1.1 qM u.2.2.1 u2.2 u.2.2.2 H locs ∧ r = r2 ∧ u.1.1 0 = q 0 := by
  have e := hp.2.1.symm.trans hp2
  have er : r = r2 := congrArg Prod.fst e
  have eu : u.2.1 = u2.1 := congrArg Prod.snd e
  obtain ⟨h1, h2, h3, h4, h5, h6, h7, h8, h9, h10⟩ := h
  obtain ⟨d1, d2, d3, d4, d5⟩ := hp.1
  have hold : ∀ j, j < 28 + 3 * u.1.2 → (j < 28 + 3 * nd ∧ u.1.1 j = q j) ∨ sz ≤ u.1.1 j := fun j hj => by
    by_cases c : j < 28 + 3 * nd
    · exact Or.inl ⟨c, d1 j c⟩
    · exact Or.inr (d5 j (by omega) hj)
  refine ⟨⟨d3, hp.2.2, by rw [hp.2.1] at hi; exact hi, hX, by rw [eu]; exact hM, d4, h7, fun j hj => ?_, h9, fun j hj k hk => ?_⟩, er, d1 0 (by omega)⟩
  · rcases hold j hj with ⟨c, e⟩ | c
    · rw [e]; exact h8 j c
    · exact Nat.le_trans hsz c
  · rcases hold j hj with ⟨c, e⟩ | c
    · rw [e]; exact h10 j c k hk
    · have := hszM k hk
      omega
