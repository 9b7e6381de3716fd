/-! the landed class's world: 28 cells and three a dish; τ: the common state, ζ: extras (lengths, flag counts, kept beam, sources, spacings, remaining), ρ: rows of references -/
abbrev RF : Type := Nat → Nat → Option Nat
def dObj (q : Nat → Nat) (τ ζ : ST) (i : Nat) : List Value := [.int (τ.2.1 0 i), .int (τ.2.1 1 i), .int (τ.2.1 2 i), .int (τ.2.1 3 i), .int (τ.2.1 5 i), .int (ζ.2.1 0 i), .ref (q (29 + 3 * i)), .ref (q (30 + 3 * i))]
def dIt (τ : ST) (i : Nat) : Nat → Int32 := fun j => if j < 100 then τ.2.1 7 (100 * i + j) else 0
def dFl (ζ : ST) (i : Nat) : Nat → Int32 := fun j => if j < 100 then ζ.2.1 1 (100 * i + j) else 0
def dCell (G : GG) (q : Nat → Nat) (τ ζ : ST) (k : Nat) : va_E := if k % 3 = 0 then .inr (1, dObj q τ ζ (k / 3)) else if k % 3 = 1 then .inl (G.2.1.1, 100, .inl (dIt τ (k / 3))) else .inl (G.2.1.1, 100, .inl (dFl ζ (k / 3)))
def eX (G : GG) (q : Nat → Nat) (τ ζ : ST) (ρ : RF) : Nat → va_E := fun k => match k with
  | 0 => .inr (7, [.ref (q 1), .ref (q 6), .ref (q 10), .ref (q 14), .ref (q 19), .ref (q 25), .int (τ.1 1)])
  | 1 => .inr (4, [.ref (q 2), .int (τ.1 0), .ref (q 3), .ref (q 4), .ref (q 5), .int (τ.1 2)])
  | 2 => .inl (G.2.1.2.2.2, 6, .inr (.inr (.inr (.inr (ρ 0)))))
  | 3 => .inl (G.2.1.2.2.2, 40, .inr (.inr (.inr (.inr (ρ 1)))))
  | 4 => .inl (G.2.1.1, 40, .inl (τ.2.1 9))
  | 5 => .inl (G.2.1.1, 40, .inl (τ.2.1 10))
  | 6 => .inr (6, [.ref (q 7), .ref (q 8), .ref (q 9), .int (ζ.1 0)])
  | 7 => .inl (G.2.1.1, 15, .inl (ζ.2.1 5))
  | 8 => .inl (G.2.1.1, 15, .inl (ζ.2.1 6))
  | 9 => .inl (G.2.1.2.1, 15, .inr (.inl (ζ.2.2 0)))
  | 10 => .inr (2, [.ref (q 11), .ref (q 12), .ref (q 13), .int (τ.1 3)])
  | 11 => .inl (G.2.1.1, 10, .inl (τ.2.1 11))
  | 12 => .inl (G.2.1.1, 10, .inl (τ.2.1 12))
  | 13 => .inl (G.2.1.1, 10, .inl (τ.2.1 13))
  | 14 => .inr (0, [.ref (q 15), .ref (q 16), .ref (q 17), .ref (q 18), .int (τ.1 4), .int (τ.1 5), .int (τ.1 7), .int (τ.1 6), .int (τ.1 8)])
  | 15 => .inl (G.2.1.2.1, 256, .inr (.inl (τ.2.2 0)))
  | 16 => .inl (G.2.1.1, 256, .inl (ζ.2.1 2))
  | 17 => .inl (G.2.1.1, 200, .inl (τ.2.1 14))
  | 18 => .inl (G.2.1.2.1, 200, .inr (.inl (τ.2.2 1)))
  | 19 => .inr (3, [.ref (q 20), .ref (q 21), .ref (q 22), .int (τ.1 9), .ref (q 23), .ref (q 24)])
  | 20 => .inl (G.2.1.1, 60, .inl (τ.2.1 18))
  | 21 => .inl (G.2.1.1, 60, .inl (τ.2.1 19))
  | 22 => .inl (G.2.1.1, 60, .inl (τ.2.1 20))
  | 23 => .inl (G.2.1.1, 8, .inl (ζ.2.1 3))
  | 24 => .inl (G.2.1.1, 8, .inl (ζ.2.1 4))
  | 25 => .inr (5, [.ref (q 26), .ref (q 27), .int (τ.1 10), .int (τ.1 11), .int (τ.1 12), .int (τ.1 13), .int (τ.1 14), .int (τ.1 15), .int (τ.1 16)])
  | 26 => .inl (G.2.1.1, 60, .inl (ζ.2.1 7))
  | 27 => .inl (G.2.1.1, 8, .inl (τ.2.1 21))
  | k + 28 => dCell G q τ ζ k
theorem eX_obj (G : GG) (q : Nat → Nat) (τ ζ : ST) (ρ : RF) (i : Nat) : eX G q τ ζ ρ (28 + 3 * i) = .inr (1, dObj q τ ζ i) := by
  rw [show 28 + 3 * i = 3 * i + 28 from by omega]
  show dCell G q τ ζ (3 * i) = _
  unfold dCell
  rw [if_pos (by omega), show 3 * i / 3 = i from by omega]
theorem eX_it (G : GG) (q : Nat → Nat) (τ ζ : ST) (ρ : RF) (i : Nat) : eX G q τ ζ ρ (29 + 3 * i) = .inl (G.2.1.1, 100, .inl (dIt τ i)) := by
  rw [show 29 + 3 * i = (3 * i + 1) + 28 from by omega]
  show dCell G q τ ζ (3 * i + 1) = _
  unfold dCell
  rw [if_neg (by omega), if_pos (by omega), show (3 * i + 1) / 3 = i from by omega]
theorem eX_fl (G : GG) (q : Nat → Nat) (τ ζ : ST) (ρ : RF) (i : Nat) : eX G q τ ζ ρ (30 + 3 * i) = .inl (G.2.1.1, 100, .inl (dFl ζ i)) := by
  rw [show 30 + 3 * i = (3 * i + 2) + 28 from by omega]
  show dCell G q τ ζ (3 * i + 2) = _
  unfold dCell
  rw [if_neg (by omega), if_neg (by omega), show (3 * i + 2) / 3 = i from by omega]
/-- two states with the same dishes' cells, and the same fixed cells -/
theorem eX_eq {G : GG} {q : Nat → Nat} {τ ζ τ' ζ' : ST} {ρ ρ' : RF} {n : Nat} (hf : ∀ k, k < 28 → eX G q τ ζ ρ k = eX G q τ' ζ' ρ' k) (ho : ∀ i, 3 * i + 28 < n → dObj q τ ζ i = dObj q τ' ζ' i) (hi : ∀ i, 3 * i + 29 < n → dIt τ i = dIt τ' i) (hl : ∀ i, 3 * i + 30 < n → dFl ζ i = dFl ζ' i) : ∀ k, k < n → eX G q τ ζ ρ k = eX G q τ' ζ' ρ' k := by
  intro k hk
  by_cases h : k < 28
  · exact hf k h
  · obtain ⟨j, rfl⟩ : ∃ j, k = j + 28 := ⟨k - 28, by omega⟩
    show dCell G q τ ζ j = dCell G q τ' ζ' j
    unfold dCell
    by_cases h1 : j % 3 = 0
    · rw [if_pos h1, if_pos h1, ho (j / 3) (by omega)]
    · rw [if_neg h1, if_neg h1]
      by_cases h2 : j % 3 = 1
      · rw [if_pos h2, if_pos h2, hi (j / 3) (by omega)]
      · rw [if_neg h2, if_neg h2, hl (j / 3) (by omega)]
/-- one dish's object, one dish's row changed -/
theorem eX_putO {G : GG} {q : Nat → Nat} {τ ζ τ' ζ' : ST} {ρ : RF} {n i : Nat} {v : List Value} (hv : dObj q τ' ζ' i = v) (hf : ∀ k, k < 28 → eX G q τ ζ ρ k = eX G q τ' ζ' ρ k) (ho : ∀ z, z ≠ i → dObj q τ ζ z = dObj q τ' ζ' z) (hi : dIt τ = dIt τ') (hl : dFl ζ = dFl ζ') : ∀ k, k < n → va_up (eX G q τ ζ ρ) (28 + 3 * i) (.inr (1, v)) k = eX G q τ' ζ' ρ k := by
  intro k hk
  by_cases h : k = 28 + 3 * i
  · subst h; rw [eX_obj, hv]; exact if_pos rfl
  · refine (if_neg h).trans ?_
    by_cases h0 : k < 28
    · exact hf k h0
    · obtain ⟨j, rfl⟩ : ∃ j, k = j + 28 := ⟨k - 28, by omega⟩
      show dCell G q τ ζ j = dCell G q τ' ζ' j
      unfold dCell
      by_cases h1 : j % 3 = 0
      · rw [if_pos h1, if_pos h1, ho (j / 3) (by omega)]
      · rw [if_neg h1, if_neg h1, hi, hl]
theorem eX_putI {G : GG} {q : Nat → Nat} {τ ζ τ' ζ' : ST} {ρ : RF} {n i : Nat} {v : Nat → Int32} (hv : dIt τ' i = v) (hf : ∀ k, k < 28 → eX G q τ ζ ρ k = eX G q τ' ζ' ρ k) (ho : dObj q τ ζ = dObj q τ' ζ') (hi : ∀ z, z ≠ i → z < 6 → dIt τ z = dIt τ' z) (hl : dFl ζ = dFl ζ') (hn : n ≤ 46) : ∀ k, k < n → va_up (eX G q τ ζ ρ) (29 + 3 * i) (.inl (G.2.1.1, 100, .inl v)) k = eX G q τ' ζ' ρ k := by
  intro k hk
  by_cases h : k = 29 + 3 * i
  · subst h; rw [eX_it, hv]; exact if_pos rfl
  · refine (if_neg h).trans ?_
    by_cases h0 : k < 28
    · exact hf k h0
    · obtain ⟨j, rfl⟩ : ∃ j, k = j + 28 := ⟨k - 28, by omega⟩
      show dCell G q τ ζ j = dCell G q τ' ζ' j
      unfold dCell
      by_cases h1 : j % 3 = 0
      · rw [if_pos h1, if_pos h1, ho]
      · rw [if_neg h1, if_neg h1]
        by_cases h2 : j % 3 = 1
        · rw [if_pos h2, if_pos h2, hi (j / 3) (by omega) (by omega)]
        · rw [if_neg h2, if_neg h2, hl]
theorem eX_putL {G : GG} {q : Nat → Nat} {τ ζ τ' ζ' : ST} {ρ : RF} {n i : Nat} {v : Nat → Int32} (hv : dFl ζ' i = v) (hf : ∀ k, k < 28 → eX G q τ ζ ρ k = eX G q τ' ζ' ρ k) (ho : dObj q τ ζ = dObj q τ' ζ') (hi : dIt τ = dIt τ') (hl : ∀ z, z ≠ i → z < 6 → dFl ζ z = dFl ζ' z) (hn : n ≤ 46) : ∀ k, k < n → va_up (eX G q τ ζ ρ) (30 + 3 * i) (.inl (G.2.1.1, 100, .inl v)) k = eX G q τ' ζ' ρ k := by
  intro k hk
  by_cases h : k = 30 + 3 * i
  · subst h; rw [eX_fl, hv]; exact if_pos rfl
  · refine (if_neg h).trans ?_
    by_cases h0 : k < 28
    · exact hf k h0
    · obtain ⟨j, rfl⟩ : ∃ j, k = j + 28 := ⟨k - 28, by omega⟩
      show dCell G q τ ζ j = dCell G q τ' ζ' j
      unfold dCell
      by_cases h1 : j % 3 = 0
      · rw [if_pos h1, if_pos h1, ho]
      · rw [if_neg h1, if_neg h1]
        by_cases h2 : j % 3 = 1
        · rw [if_pos h2, if_pos h2, hi]
        · rw [if_neg h2, if_neg h2, hl (j / 3) (by omega) (by omega)]
section XROWS
variable {G : GG} {p : Program} {l : Launch} {e : Env} {R : Room} {s : State} {m : MethodId} {args : Array Value} {below : List Frame} {meth : Method} {c : Code} {H : Heap} {locs : List Loc} {cells slots : Nat} {Q : State → Prop}
variable {cc : ByteArray} {pc : Nat} {ls : Array Slot} {rest : List Value} {nL nd idx : Nat} {own : String} {q : Nat → Nat} {τ ζ : ST} {ρ : RF}
theorem xG_Row_dishes (C : CX G p s m args c cc nL own (28 + 3 * nd) q) (hW : WB G (28 + 3 * nd) q (eX G q τ ζ ρ) s H locs) (hl : Cond.fieldLink own idx RX4 "dishes" "[LDishHouse$Dish;" ∈ BIG) (hdg : decode cc pc = .ok (.getfield idx, 3)) (kk : W p l e R s m args below meth c H locs cells slots Q (F0 m (pc + 3) ls (.ref (q 2) :: rest))) : W p l e R s m args below meth c H locs cells slots Q (F0 m pc ls (.ref (q 1) :: rest)) := r_get C hW (o := 1) (k := 0) (by omega) rfl rfl (by decide) hl rfl inB_X4 rfl hdg kk
theorem xG_Row_size (C : CX G p s m args c cc nL own (28 + 3 * nd) q) (hW : WB G (28 + 3 * nd) q (eX G q τ ζ ρ) s H locs) (hl : Cond.fieldLink own idx RX4 "size" "I" ∈ BIG) {v : Int32} (hv : τ.1 0 = v) (hdg : decode cc pc = .ok (.getfield idx, 3)) (kk : W p l e R s m args below meth c H locs cells slots Q (F0 m (pc + 3) ls (.int v :: rest))) : W p l e R s m args below meth c H locs cells slots Q (F0 m pc ls (.ref (q 1) :: rest)) := by
  subst hv
  exact r_get C hW (o := 1) (k := 1) (by omega) rfl rfl (by decide) hl rfl inB_X4 rfl hdg kk
theorem xP_Row_size (C : CX G p s m args c cc nL own (28 + 3 * nd) q) (hW : WB G (28 + 3 * nd) q (eX G q τ ζ ρ) s H locs) (hl : Cond.fieldLink own idx RX4 "size" "I" ∈ BIG) {v : Int32} (hdg : decode cc pc = .ok (.putfield idx, 3)) (kk : ∀ (H1 : Heap) (locs1 : List Loc), WB G (28 + 3 * nd) q (eX G q (sg τ 0 v) ζ ρ) s H1 locs1 → W p l e R s m args below meth c H1 locs1 cells slots Q (F0 m (pc + 3) ls rest)) : W p l e R s m args below meth c H locs cells slots Q (F0 m pc ls (.int v :: .ref (q 1) :: rest)) := r_put C hW (o := 1) (k := 1) (ty := .int) (by omega) rfl rfl (by decide) hl rfl inB_X4 tyX4 tyX4_ok nmX4 rfl (by decide +kernel) rfl rfl (Nat.le_of_ble_eq_true rfl) hdg (E' := eX G q (sg τ 0 v) ζ ρ) (fun j hj => match j, hj with
  | 0, _ => rfl
  | 1, _ => rfl
  | 2, _ => rfl
  | 3, _ => rfl
  | 4, _ => rfl
  | 5, _ => rfl
  | 6, _ => rfl
  | 7, _ => rfl
  | 8, _ => rfl
  | 9, _ => rfl
  | 10, _ => rfl
  | 11, _ => rfl
  | 12, _ => rfl
  | 13, _ => rfl
  | 14, _ => rfl
  | 15, _ => rfl
  | 16, _ => rfl
  | 17, _ => rfl
  | 18, _ => rfl
  | 19, _ => rfl
  | 20, _ => rfl
  | 21, _ => rfl
  | 22, _ => rfl
  | 23, _ => rfl
  | 24, _ => rfl
  | 25, _ => rfl
  | 26, _ => rfl
  | 27, _ => rfl
  | j + 28, hj => (if_neg (by omega)).trans rfl) kk
theorem xG_Row_flagDishes (C : CX G p s m args c cc nL own (28 + 3 * nd) q) (hW : WB G (28 + 3 * nd) q (eX G q τ ζ ρ) s H locs) (hl : Cond.fieldLink own idx RX4 "flagDishes" "[LDishHouse$Dish;" ∈ BIG) (hdg : decode cc pc = .ok (.getfield idx, 3)) (kk : W p l e R s m args below meth c H locs cells slots Q (F0 m (pc + 3) ls (.ref (q 3) :: rest))) : W p l e R s m args below meth c H locs cells slots Q (F0 m pc ls (.ref (q 1) :: rest)) := r_get C hW (o := 1) (k := 2) (by omega) rfl rfl (by decide) hl rfl inB_X4 rfl hdg kk
theorem xG_Row_flagFroms (C : CX G p s m args c cc nL own (28 + 3 * nd) q) (hW : WB G (28 + 3 * nd) q (eX G q τ ζ ρ) s H locs) (hl : Cond.fieldLink own idx RX4 "flagFroms" "[I" ∈ BIG) (hdg : decode cc pc = .ok (.getfield idx, 3)) (kk : W p l e R s m args below meth c H locs cells slots Q (F0 m (pc + 3) ls (.ref (q 4) :: rest))) : W p l e R s m args below meth c H locs cells slots Q (F0 m pc ls (.ref (q 1) :: rest)) := r_get C hW (o := 1) (k := 3) (by omega) rfl rfl (by decide) hl rfl inB_X4 rfl hdg kk
theorem xG_Row_flagTos (C : CX G p s m args c cc nL own (28 + 3 * nd) q) (hW : WB G (28 + 3 * nd) q (eX G q τ ζ ρ) s H locs) (hl : Cond.fieldLink own idx RX4 "flagTos" "[I" ∈ BIG) (hdg : decode cc pc = .ok (.getfield idx, 3)) (kk : W p l e R s m args below meth c H locs cells slots Q (F0 m (pc + 3) ls (.ref (q 5) :: rest))) : W p l e R s m args below meth c H locs cells slots Q (F0 m pc ls (.ref (q 1) :: rest)) := r_get C hW (o := 1) (k := 4) (by omega) rfl rfl (by decide) hl rfl inB_X4 rfl hdg kk
theorem xG_Row_flags (C : CX G p s m args c cc nL own (28 + 3 * nd) q) (hW : WB G (28 + 3 * nd) q (eX G q τ ζ ρ) s H locs) (hl : Cond.fieldLink own idx RX4 "flags" "I" ∈ BIG) {v : Int32} (hv : τ.1 2 = v) (hdg : decode cc pc = .ok (.getfield idx, 3)) (kk : W p l e R s m args below meth c H locs cells slots Q (F0 m (pc + 3) ls (.int v :: rest))) : W p l e R s m args below meth c H locs cells slots Q (F0 m pc ls (.ref (q 1) :: rest)) := by
  subst hv
  exact r_get C hW (o := 1) (k := 5) (by omega) rfl rfl (by decide) hl rfl inB_X4 rfl hdg kk
theorem xP_Row_flags (C : CX G p s m args c cc nL own (28 + 3 * nd) q) (hW : WB G (28 + 3 * nd) q (eX G q τ ζ ρ) s H locs) (hl : Cond.fieldLink own idx RX4 "flags" "I" ∈ BIG) {v : Int32} (hdg : decode cc pc = .ok (.putfield idx, 3)) (kk : ∀ (H1 : Heap) (locs1 : List Loc), WB G (28 + 3 * nd) q (eX G q (sg τ 2 v) ζ ρ) s H1 locs1 → W p l e R s m args below meth c H1 locs1 cells slots Q (F0 m (pc + 3) ls rest)) : W p l e R s m args below meth c H locs cells slots Q (F0 m pc ls (.int v :: .ref (q 1) :: rest)) := r_put C hW (o := 1) (k := 5) (ty := .int) (by omega) rfl rfl (by decide) hl rfl inB_X4 tyX4 tyX4_ok nmX4 rfl (by decide +kernel) rfl rfl (Nat.le_of_ble_eq_true rfl) hdg (E' := eX G q (sg τ 2 v) ζ ρ) (fun j hj => match j, hj with
  | 0, _ => rfl
  | 1, _ => rfl
  | 2, _ => rfl
  | 3, _ => rfl
  | 4, _ => rfl
  | 5, _ => rfl
  | 6, _ => rfl
  | 7, _ => rfl
  | 8, _ => rfl
  | 9, _ => rfl
  | 10, _ => rfl
  | 11, _ => rfl
  | 12, _ => rfl
  | 13, _ => rfl
  | 14, _ => rfl
  | 15, _ => rfl
  | 16, _ => rfl
  | 17, _ => rfl
  | 18, _ => rfl
  | 19, _ => rfl
  | 20, _ => rfl
  | 21, _ => rfl
  | 22, _ => rfl
  | 23, _ => rfl
  | 24, _ => rfl
  | 25, _ => rfl
  | 26, _ => rfl
  | 27, _ => rfl
  | j + 28, hj => (if_neg (by omega)).trans rfl) kk
theorem xG_Spacings_us (C : CX G p s m args c cc nL own (28 + 3 * nd) q) (hW : WB G (28 + 3 * nd) q (eX G q τ ζ ρ) s H locs) (hl : Cond.fieldLink own idx RX6 "us" "[I" ∈ BIG) (hdg : decode cc pc = .ok (.getfield idx, 3)) (kk : W p l e R s m args below meth c H locs cells slots Q (F0 m (pc + 3) ls (.ref (q 7) :: rest))) : W p l e R s m args below meth c H locs cells slots Q (F0 m pc ls (.ref (q 6) :: rest)) := r_get C hW (o := 6) (k := 0) (by omega) rfl rfl (by decide) hl rfl inB_X6 rfl hdg kk
theorem xG_Spacings_vs (C : CX G p s m args c cc nL own (28 + 3 * nd) q) (hW : WB G (28 + 3 * nd) q (eX G q τ ζ ρ) s H locs) (hl : Cond.fieldLink own idx RX6 "vs" "[I" ∈ BIG) (hdg : decode cc pc = .ok (.getfield idx, 3)) (kk : W p l e R s m args below meth c H locs cells slots Q (F0 m (pc + 3) ls (.ref (q 8) :: rest))) : W p l e R s m args below meth c H locs cells slots Q (F0 m pc ls (.ref (q 6) :: rest)) := r_get C hW (o := 6) (k := 1) (by omega) rfl rfl (by decide) hl rfl inB_X6 rfl hdg kk
theorem xG_Spacings_products (C : CX G p s m args c cc nL own (28 + 3 * nd) q) (hW : WB G (28 + 3 * nd) q (eX G q τ ζ ρ) s H locs) (hl : Cond.fieldLink own idx RX6 "products" "[J" ∈ BIG) (hdg : decode cc pc = .ok (.getfield idx, 3)) (kk : W p l e R s m args below meth c H locs cells slots Q (F0 m (pc + 3) ls (.ref (q 9) :: rest))) : W p l e R s m args below meth c H locs cells slots Q (F0 m pc ls (.ref (q 6) :: rest)) := r_get C hW (o := 6) (k := 2) (by omega) rfl rfl (by decide) hl rfl inB_X6 rfl hdg kk
theorem xG_Spacings_size (C : CX G p s m args c cc nL own (28 + 3 * nd) q) (hW : WB G (28 + 3 * nd) q (eX G q τ ζ ρ) s H locs) (hl : Cond.fieldLink own idx RX6 "size" "I" ∈ BIG) {v : Int32} (hv : ζ.1 0 = v) (hdg : decode cc pc = .ok (.getfield idx, 3)) (kk : W p l e R s m args below meth c H locs cells slots Q (F0 m (pc + 3) ls (.int v :: rest))) : W p l e R s m args below meth c H locs cells slots Q (F0 m pc ls (.ref (q 6) :: rest)) := by
  subst hv
  exact r_get C hW (o := 6) (k := 3) (by omega) rfl rfl (by decide) hl rfl inB_X6 rfl hdg kk
theorem xP_Spacings_size (C : CX G p s m args c cc nL own (28 + 3 * nd) q) (hW : WB G (28 + 3 * nd) q (eX G q τ ζ ρ) s H locs) (hl : Cond.fieldLink own idx RX6 "size" "I" ∈ BIG) {v : Int32} (hdg : decode cc pc = .ok (.putfield idx, 3)) (kk : ∀ (H1 : Heap) (locs1 : List Loc), WB G (28 + 3 * nd) q (eX G q τ (sg ζ 0 v) ρ) s H1 locs1 → W p l e R s m args below meth c H1 locs1 cells slots Q (F0 m (pc + 3) ls rest)) : W p l e R s m args below meth c H locs cells slots Q (F0 m pc ls (.int v :: .ref (q 6) :: rest)) := r_put C hW (o := 6) (k := 3) (ty := .int) (by omega) rfl rfl (by decide) hl rfl inB_X6 tyX6 tyX6_ok nmX6 rfl (by decide +kernel) rfl rfl (Nat.le_of_ble_eq_true rfl) hdg (E' := eX G q τ (sg ζ 0 v) ρ) (fun j hj => match j, hj with
  | 0, _ => rfl
  | 1, _ => rfl
  | 2, _ => rfl
  | 3, _ => rfl
  | 4, _ => rfl
  | 5, _ => rfl
  | 6, _ => rfl
  | 7, _ => rfl
  | 8, _ => rfl
  | 9, _ => rfl
  | 10, _ => rfl
  | 11, _ => rfl
  | 12, _ => rfl
  | 13, _ => rfl
  | 14, _ => rfl
  | 15, _ => rfl
  | 16, _ => rfl
  | 17, _ => rfl
  | 18, _ => rfl
  | 19, _ => rfl
  | 20, _ => rfl
  | 21, _ => rfl
  | 22, _ => rfl
  | 23, _ => rfl
  | 24, _ => rfl
  | 25, _ => rfl
  | 26, _ => rfl
  | 27, _ => rfl
  | j + 28, hj => (if_neg (by omega)).trans rfl) kk
theorem xG_Points_xs (C : CX G p s m args c cc nL own (28 + 3 * nd) q) (hW : WB G (28 + 3 * nd) q (eX G q τ ζ ρ) s H locs) (hl : Cond.fieldLink own idx RX2 "xs" "[I" ∈ BIG) (hdg : decode cc pc = .ok (.getfield idx, 3)) (kk : W p l e R s m args below meth c H locs cells slots Q (F0 m (pc + 3) ls (.ref (q 11) :: rest))) : W p l e R s m args below meth c H locs cells slots Q (F0 m pc ls (.ref (q 10) :: rest)) := r_get C hW (o := 10) (k := 0) (by omega) rfl rfl (by decide) hl rfl inB_X2 rfl hdg kk
theorem xG_Points_ys (C : CX G p s m args c cc nL own (28 + 3 * nd) q) (hW : WB G (28 + 3 * nd) q (eX G q τ ζ ρ) s H locs) (hl : Cond.fieldLink own idx RX2 "ys" "[I" ∈ BIG) (hdg : decode cc pc = .ok (.getfield idx, 3)) (kk : W p l e R s m args below meth c H locs cells slots Q (F0 m (pc + 3) ls (.ref (q 12) :: rest))) : W p l e R s m args below meth c H locs cells slots Q (F0 m pc ls (.ref (q 10) :: rest)) := r_get C hW (o := 10) (k := 1) (by omega) rfl rfl (by decide) hl rfl inB_X2 rfl hdg kk
theorem xG_Points_fluxes (C : CX G p s m args c cc nL own (28 + 3 * nd) q) (hW : WB G (28 + 3 * nd) q (eX G q τ ζ ρ) s H locs) (hl : Cond.fieldLink own idx RX2 "fluxes" "[I" ∈ BIG) (hdg : decode cc pc = .ok (.getfield idx, 3)) (kk : W p l e R s m args below meth c H locs cells slots Q (F0 m (pc + 3) ls (.ref (q 13) :: rest))) : W p l e R s m args below meth c H locs cells slots Q (F0 m pc ls (.ref (q 10) :: rest)) := r_get C hW (o := 10) (k := 2) (by omega) rfl rfl (by decide) hl rfl inB_X2 rfl hdg kk
theorem xG_Points_size (C : CX G p s m args c cc nL own (28 + 3 * nd) q) (hW : WB G (28 + 3 * nd) q (eX G q τ ζ ρ) s H locs) (hl : Cond.fieldLink own idx RX2 "size" "I" ∈ BIG) {v : Int32} (hv : τ.1 3 = v) (hdg : decode cc pc = .ok (.getfield idx, 3)) (kk : W p l e R s m args below meth c H locs cells slots Q (F0 m (pc + 3) ls (.int v :: rest))) : W p l e R s m args below meth c H locs cells slots Q (F0 m pc ls (.ref (q 10) :: rest)) := by
  subst hv
  exact r_get C hW (o := 10) (k := 3) (by omega) rfl rfl (by decide) hl rfl inB_X2 rfl hdg kk
theorem xP_Points_size (C : CX G p s m args c cc nL own (28 + 3 * nd) q) (hW : WB G (28 + 3 * nd) q (eX G q τ ζ ρ) s H locs) (hl : Cond.fieldLink own idx RX2 "size" "I" ∈ BIG) {v : Int32} (hdg : decode cc pc = .ok (.putfield idx, 3)) (kk : ∀ (H1 : Heap) (locs1 : List Loc), WB G (28 + 3 * nd) q (eX G q (sg τ 3 v) ζ ρ) s H1 locs1 → W p l e R s m args below meth c H1 locs1 cells slots Q (F0 m (pc + 3) ls rest)) : W p l e R s m args below meth c H locs cells slots Q (F0 m pc ls (.int v :: .ref (q 10) :: rest)) := r_put C hW (o := 10) (k := 3) (ty := .int) (by omega) rfl rfl (by decide) hl rfl inB_X2 tyX2 tyX2_ok nmX2 rfl (by decide +kernel) rfl rfl (Nat.le_of_ble_eq_true rfl) hdg (E' := eX G q (sg τ 3 v) ζ ρ) (fun j hj => match j, hj with
  | 0, _ => rfl
  | 1, _ => rfl
  | 2, _ => rfl
  | 3, _ => rfl
  | 4, _ => rfl
  | 5, _ => rfl
  | 6, _ => rfl
  | 7, _ => rfl
  | 8, _ => rfl
  | 9, _ => rfl
  | 10, _ => rfl
  | 11, _ => rfl
  | 12, _ => rfl
  | 13, _ => rfl
  | 14, _ => rfl
  | 15, _ => rfl
  | 16, _ => rfl
  | 17, _ => rfl
  | 18, _ => rfl
  | 19, _ => rfl
  | 20, _ => rfl
  | 21, _ => rfl
  | 22, _ => rfl
  | 23, _ => rfl
  | 24, _ => rfl
  | 25, _ => rfl
  | 26, _ => rfl
  | 27, _ => rfl
  | j + 28, hj => (if_neg (by omega)).trans rfl) kk
theorem xG_Board_cells (C : CX G p s m args c cc nL own (28 + 3 * nd) q) (hW : WB G (28 + 3 * nd) q (eX G q τ ζ ρ) s H locs) (hl : Cond.fieldLink own idx RX0 "cells" "[J" ∈ BIG) (hdg : decode cc pc = .ok (.getfield idx, 3)) (kk : W p l e R s m args below meth c H locs cells slots Q (F0 m (pc + 3) ls (.ref (q 15) :: rest))) : W p l e R s m args below meth c H locs cells slots Q (F0 m pc ls (.ref (q 14) :: rest)) := r_get C hW (o := 14) (k := 0) (by omega) rfl rfl (by decide) hl rfl inB_X0 rfl hdg kk
theorem xG_Board_kept (C : CX G p s m args c cc nL own (28 + 3 * nd) q) (hW : WB G (28 + 3 * nd) q (eX G q τ ζ ρ) s H locs) (hl : Cond.fieldLink own idx RX0 "kept" "[I" ∈ BIG) (hdg : decode cc pc = .ok (.getfield idx, 3)) (kk : W p l e R s m args below meth c H locs cells slots Q (F0 m (pc + 3) ls (.ref (q 16) :: rest))) : W p l e R s m args below meth c H locs cells slots Q (F0 m pc ls (.ref (q 14) :: rest)) := r_get C hW (o := 14) (k := 1) (by omega) rfl rfl (by decide) hl rfl inB_X0 rfl hdg kk
theorem xG_Board_partCells (C : CX G p s m args c cc nL own (28 + 3 * nd) q) (hW : WB G (28 + 3 * nd) q (eX G q τ ζ ρ) s H locs) (hl : Cond.fieldLink own idx RX0 "partCells" "[I" ∈ BIG) (hdg : decode cc pc = .ok (.getfield idx, 3)) (kk : W p l e R s m args below meth c H locs cells slots Q (F0 m (pc + 3) ls (.ref (q 17) :: rest))) : W p l e R s m args below meth c H locs cells slots Q (F0 m pc ls (.ref (q 14) :: rest)) := r_get C hW (o := 14) (k := 2) (by omega) rfl rfl (by decide) hl rfl inB_X0 rfl hdg kk
theorem xG_Board_partAmounts (C : CX G p s m args c cc nL own (28 + 3 * nd) q) (hW : WB G (28 + 3 * nd) q (eX G q τ ζ ρ) s H locs) (hl : Cond.fieldLink own idx RX0 "partAmounts" "[J" ∈ BIG) (hdg : decode cc pc = .ok (.getfield idx, 3)) (kk : W p l e R s m args below meth c H locs cells slots Q (F0 m (pc + 3) ls (.ref (q 18) :: rest))) : W p l e R s m args below meth c H locs cells slots Q (F0 m pc ls (.ref (q 14) :: rest)) := r_get C hW (o := 14) (k := 3) (by omega) rfl rfl (by decide) hl rfl inB_X0 rfl hdg kk
theorem xG_Board_parts (C : CX G p s m args c cc nL own (28 + 3 * nd) q) (hW : WB G (28 + 3 * nd) q (eX G q τ ζ ρ) s H locs) (hl : Cond.fieldLink own idx RX0 "parts" "I" ∈ BIG) {v : Int32} (hv : τ.1 4 = v) (hdg : decode cc pc = .ok (.getfield idx, 3)) (kk : W p l e R s m args below meth c H locs cells slots Q (F0 m (pc + 3) ls (.int v :: rest))) : W p l e R s m args below meth c H locs cells slots Q (F0 m pc ls (.ref (q 14) :: rest)) := by
  subst hv
  exact r_get C hW (o := 14) (k := 4) (by omega) rfl rfl (by decide) hl rfl inB_X0 rfl hdg kk
theorem xP_Board_parts (C : CX G p s m args c cc nL own (28 + 3 * nd) q) (hW : WB G (28 + 3 * nd) q (eX G q τ ζ ρ) s H locs) (hl : Cond.fieldLink own idx RX0 "parts" "I" ∈ BIG) {v : Int32} (hdg : decode cc pc = .ok (.putfield idx, 3)) (kk : ∀ (H1 : Heap) (locs1 : List Loc), WB G (28 + 3 * nd) q (eX G q (sg τ 4 v) ζ ρ) s H1 locs1 → W p l e R s m args below meth c H1 locs1 cells slots Q (F0 m (pc + 3) ls rest)) : W p l e R s m args below meth c H locs cells slots Q (F0 m pc ls (.int v :: .ref (q 14) :: rest)) := r_put C hW (o := 14) (k := 4) (ty := .int) (by omega) rfl rfl (by decide) hl rfl inB_X0 tyX0 tyX0_ok nmX0 rfl (by decide +kernel) rfl rfl (Nat.le_of_ble_eq_true rfl) hdg (E' := eX G q (sg τ 4 v) ζ ρ) (fun j hj => match j, hj with
  | 0, _ => rfl
  | 1, _ => rfl
  | 2, _ => rfl
  | 3, _ => rfl
  | 4, _ => rfl
  | 5, _ => rfl
  | 6, _ => rfl
  | 7, _ => rfl
  | 8, _ => rfl
  | 9, _ => rfl
  | 10, _ => rfl
  | 11, _ => rfl
  | 12, _ => rfl
  | 13, _ => rfl
  | 14, _ => rfl
  | 15, _ => rfl
  | 16, _ => rfl
  | 17, _ => rfl
  | 18, _ => rfl
  | 19, _ => rfl
  | 20, _ => rfl
  | 21, _ => rfl
  | 22, _ => rfl
  | 23, _ => rfl
  | 24, _ => rfl
  | 25, _ => rfl
  | 26, _ => rfl
  | 27, _ => rfl
  | j + 28, hj => (if_neg (by omega)).trans rfl) kk
theorem xG_Board_left (C : CX G p s m args c cc nL own (28 + 3 * nd) q) (hW : WB G (28 + 3 * nd) q (eX G q τ ζ ρ) s H locs) (hl : Cond.fieldLink own idx RX0 "left" "I" ∈ BIG) {v : Int32} (hv : τ.1 5 = v) (hdg : decode cc pc = .ok (.getfield idx, 3)) (kk : W p l e R s m args below meth c H locs cells slots Q (F0 m (pc + 3) ls (.int v :: rest))) : W p l e R s m args below meth c H locs cells slots Q (F0 m pc ls (.ref (q 14) :: rest)) := by
  subst hv
  exact r_get C hW (o := 14) (k := 5) (by omega) rfl rfl (by decide) hl rfl inB_X0 rfl hdg kk
theorem xP_Board_left (C : CX G p s m args c cc nL own (28 + 3 * nd) q) (hW : WB G (28 + 3 * nd) q (eX G q τ ζ ρ) s H locs) (hl : Cond.fieldLink own idx RX0 "left" "I" ∈ BIG) {v : Int32} (hdg : decode cc pc = .ok (.putfield idx, 3)) (kk : ∀ (H1 : Heap) (locs1 : List Loc), WB G (28 + 3 * nd) q (eX G q (sg τ 5 v) ζ ρ) s H1 locs1 → W p l e R s m args below meth c H1 locs1 cells slots Q (F0 m (pc + 3) ls rest)) : W p l e R s m args below meth c H locs cells slots Q (F0 m pc ls (.int v :: .ref (q 14) :: rest)) := r_put C hW (o := 14) (k := 5) (ty := .int) (by omega) rfl rfl (by decide) hl rfl inB_X0 tyX0 tyX0_ok nmX0 rfl (by decide +kernel) rfl rfl (Nat.le_of_ble_eq_true rfl) hdg (E' := eX G q (sg τ 5 v) ζ ρ) (fun j hj => match j, hj with
  | 0, _ => rfl
  | 1, _ => rfl
  | 2, _ => rfl
  | 3, _ => rfl
  | 4, _ => rfl
  | 5, _ => rfl
  | 6, _ => rfl
  | 7, _ => rfl
  | 8, _ => rfl
  | 9, _ => rfl
  | 10, _ => rfl
  | 11, _ => rfl
  | 12, _ => rfl
  | 13, _ => rfl
  | 14, _ => rfl
  | 15, _ => rfl
  | 16, _ => rfl
  | 17, _ => rfl
  | 18, _ => rfl
  | 19, _ => rfl
  | 20, _ => rfl
  | 21, _ => rfl
  | 22, _ => rfl
  | 23, _ => rfl
  | 24, _ => rfl
  | 25, _ => rfl
  | 26, _ => rfl
  | 27, _ => rfl
  | j + 28, hj => (if_neg (by omega)).trans rfl) kk
theorem xG_Board_top (C : CX G p s m args c cc nL own (28 + 3 * nd) q) (hW : WB G (28 + 3 * nd) q (eX G q τ ζ ρ) s H locs) (hl : Cond.fieldLink own idx RX0 "top" "I" ∈ BIG) {v : Int32} (hv : τ.1 7 = v) (hdg : decode cc pc = .ok (.getfield idx, 3)) (kk : W p l e R s m args below meth c H locs cells slots Q (F0 m (pc + 3) ls (.int v :: rest))) : W p l e R s m args below meth c H locs cells slots Q (F0 m pc ls (.ref (q 14) :: rest)) := by
  subst hv
  exact r_get C hW (o := 14) (k := 6) (by omega) rfl rfl (by decide) hl rfl inB_X0 rfl hdg kk
theorem xP_Board_top (C : CX G p s m args c cc nL own (28 + 3 * nd) q) (hW : WB G (28 + 3 * nd) q (eX G q τ ζ ρ) s H locs) (hl : Cond.fieldLink own idx RX0 "top" "I" ∈ BIG) {v : Int32} (hdg : decode cc pc = .ok (.putfield idx, 3)) (kk : ∀ (H1 : Heap) (locs1 : List Loc), WB G (28 + 3 * nd) q (eX G q (sg τ 7 v) ζ ρ) s H1 locs1 → W p l e R s m args below meth c H1 locs1 cells slots Q (F0 m (pc + 3) ls rest)) : W p l e R s m args below meth c H locs cells slots Q (F0 m pc ls (.int v :: .ref (q 14) :: rest)) := r_put C hW (o := 14) (k := 6) (ty := .int) (by omega) rfl rfl (by decide) hl rfl inB_X0 tyX0 tyX0_ok nmX0 rfl (by decide +kernel) rfl rfl (Nat.le_of_ble_eq_true rfl) hdg (E' := eX G q (sg τ 7 v) ζ ρ) (fun j hj => match j, hj with
  | 0, _ => rfl
  | 1, _ => rfl
  | 2, _ => rfl
  | 3, _ => rfl
  | 4, _ => rfl
  | 5, _ => rfl
  | 6, _ => rfl
  | 7, _ => rfl
  | 8, _ => rfl
  | 9, _ => rfl
  | 10, _ => rfl
  | 11, _ => rfl
  | 12, _ => rfl
  | 13, _ => rfl
  | 14, _ => rfl
  | 15, _ => rfl
  | 16, _ => rfl
  | 17, _ => rfl
  | 18, _ => rfl
  | 19, _ => rfl
  | 20, _ => rfl
  | 21, _ => rfl
  | 22, _ => rfl
  | 23, _ => rfl
  | 24, _ => rfl
  | 25, _ => rfl
  | 26, _ => rfl
  | 27, _ => rfl
  | j + 28, hj => (if_neg (by omega)).trans rfl) kk
theorem xG_Board_right (C : CX G p s m args c cc nL own (28 + 3 * nd) q) (hW : WB G (28 + 3 * nd) q (eX G q τ ζ ρ) s H locs) (hl : Cond.fieldLink own idx RX0 "right" "I" ∈ BIG) {v : Int32} (hv : τ.1 6 = v) (hdg : decode cc pc = .ok (.getfield idx, 3)) (kk : W p l e R s m args below meth c H locs cells slots Q (F0 m (pc + 3) ls (.int v :: rest))) : W p l e R s m args below meth c H locs cells slots Q (F0 m pc ls (.ref (q 14) :: rest)) := by
  subst hv
  exact r_get C hW (o := 14) (k := 7) (by omega) rfl rfl (by decide) hl rfl inB_X0 rfl hdg kk
theorem xP_Board_right (C : CX G p s m args c cc nL own (28 + 3 * nd) q) (hW : WB G (28 + 3 * nd) q (eX G q τ ζ ρ) s H locs) (hl : Cond.fieldLink own idx RX0 "right" "I" ∈ BIG) {v : Int32} (hdg : decode cc pc = .ok (.putfield idx, 3)) (kk : ∀ (H1 : Heap) (locs1 : List Loc), WB G (28 + 3 * nd) q (eX G q (sg τ 6 v) ζ ρ) s H1 locs1 → W p l e R s m args below meth c H1 locs1 cells slots Q (F0 m (pc + 3) ls rest)) : W p l e R s m args below meth c H locs cells slots Q (F0 m pc ls (.int v :: .ref (q 14) :: rest)) := r_put C hW (o := 14) (k := 7) (ty := .int) (by omega) rfl rfl (by decide) hl rfl inB_X0 tyX0 tyX0_ok nmX0 rfl (by decide +kernel) rfl rfl (Nat.le_of_ble_eq_true rfl) hdg (E' := eX G q (sg τ 6 v) ζ ρ) (fun j hj => match j, hj with
  | 0, _ => rfl
  | 1, _ => rfl
  | 2, _ => rfl
  | 3, _ => rfl
  | 4, _ => rfl
  | 5, _ => rfl
  | 6, _ => rfl
  | 7, _ => rfl
  | 8, _ => rfl
  | 9, _ => rfl
  | 10, _ => rfl
  | 11, _ => rfl
  | 12, _ => rfl
  | 13, _ => rfl
  | 14, _ => rfl
  | 15, _ => rfl
  | 16, _ => rfl
  | 17, _ => rfl
  | 18, _ => rfl
  | 19, _ => rfl
  | 20, _ => rfl
  | 21, _ => rfl
  | 22, _ => rfl
  | 23, _ => rfl
  | 24, _ => rfl
  | 25, _ => rfl
  | 26, _ => rfl
  | 27, _ => rfl
  | j + 28, hj => (if_neg (by omega)).trans rfl) kk
theorem xG_Board_bottom (C : CX G p s m args c cc nL own (28 + 3 * nd) q) (hW : WB G (28 + 3 * nd) q (eX G q τ ζ ρ) s H locs) (hl : Cond.fieldLink own idx RX0 "bottom" "I" ∈ BIG) {v : Int32} (hv : τ.1 8 = v) (hdg : decode cc pc = .ok (.getfield idx, 3)) (kk : W p l e R s m args below meth c H locs cells slots Q (F0 m (pc + 3) ls (.int v :: rest))) : W p l e R s m args below meth c H locs cells slots Q (F0 m pc ls (.ref (q 14) :: rest)) := by
  subst hv
  exact r_get C hW (o := 14) (k := 8) (by omega) rfl rfl (by decide) hl rfl inB_X0 rfl hdg kk
theorem xP_Board_bottom (C : CX G p s m args c cc nL own (28 + 3 * nd) q) (hW : WB G (28 + 3 * nd) q (eX G q τ ζ ρ) s H locs) (hl : Cond.fieldLink own idx RX0 "bottom" "I" ∈ BIG) {v : Int32} (hdg : decode cc pc = .ok (.putfield idx, 3)) (kk : ∀ (H1 : Heap) (locs1 : List Loc), WB G (28 + 3 * nd) q (eX G q (sg τ 8 v) ζ ρ) s H1 locs1 → W p l e R s m args below meth c H1 locs1 cells slots Q (F0 m (pc + 3) ls rest)) : W p l e R s m args below meth c H locs cells slots Q (F0 m pc ls (.int v :: .ref (q 14) :: rest)) := r_put C hW (o := 14) (k := 8) (ty := .int) (by omega) rfl rfl (by decide) hl rfl inB_X0 tyX0 tyX0_ok nmX0 rfl (by decide +kernel) rfl rfl (Nat.le_of_ble_eq_true rfl) hdg (E' := eX G q (sg τ 8 v) ζ ρ) (fun j hj => match j, hj with
  | 0, _ => rfl
  | 1, _ => rfl
  | 2, _ => rfl
  | 3, _ => rfl
  | 4, _ => rfl
  | 5, _ => rfl
  | 6, _ => rfl
  | 7, _ => rfl
  | 8, _ => rfl
  | 9, _ => rfl
  | 10, _ => rfl
  | 11, _ => rfl
  | 12, _ => rfl
  | 13, _ => rfl
  | 14, _ => rfl
  | 15, _ => rfl
  | 16, _ => rfl
  | 17, _ => rfl
  | 18, _ => rfl
  | 19, _ => rfl
  | 20, _ => rfl
  | 21, _ => rfl
  | 22, _ => rfl
  | 23, _ => rfl
  | 24, _ => rfl
  | 25, _ => rfl
  | 26, _ => rfl
  | 27, _ => rfl
  | j + 28, hj => (if_neg (by omega)).trans rfl) kk
theorem xG_Program_kinds (C : CX G p s m args c cc nL own (28 + 3 * nd) q) (hW : WB G (28 + 3 * nd) q (eX G q τ ζ ρ) s H locs) (hl : Cond.fieldLink own idx RX3 "kinds" "[I" ∈ BIG) (hdg : decode cc pc = .ok (.getfield idx, 3)) (kk : W p l e R s m args below meth c H locs cells slots Q (F0 m (pc + 3) ls (.ref (q 20) :: rest))) : W p l e R s m args below meth c H locs cells slots Q (F0 m pc ls (.ref (q 19) :: rest)) := r_get C hW (o := 19) (k := 0) (by omega) rfl rfl (by decide) hl rfl inB_X3 rfl hdg kk
theorem xG_Program_as (C : CX G p s m args c cc nL own (28 + 3 * nd) q) (hW : WB G (28 + 3 * nd) q (eX G q τ ζ ρ) s H locs) (hl : Cond.fieldLink own idx RX3 "as" "[I" ∈ BIG) (hdg : decode cc pc = .ok (.getfield idx, 3)) (kk : W p l e R s m args below meth c H locs cells slots Q (F0 m (pc + 3) ls (.ref (q 21) :: rest))) : W p l e R s m args below meth c H locs cells slots Q (F0 m pc ls (.ref (q 19) :: rest)) := r_get C hW (o := 19) (k := 1) (by omega) rfl rfl (by decide) hl rfl inB_X3 rfl hdg kk
theorem xG_Program_bs (C : CX G p s m args c cc nL own (28 + 3 * nd) q) (hW : WB G (28 + 3 * nd) q (eX G q τ ζ ρ) s H locs) (hl : Cond.fieldLink own idx RX3 "bs" "[I" ∈ BIG) (hdg : decode cc pc = .ok (.getfield idx, 3)) (kk : W p l e R s m args below meth c H locs cells slots Q (F0 m (pc + 3) ls (.ref (q 22) :: rest))) : W p l e R s m args below meth c H locs cells slots Q (F0 m pc ls (.ref (q 19) :: rest)) := r_get C hW (o := 19) (k := 2) (by omega) rfl rfl (by decide) hl rfl inB_X3 rfl hdg kk
theorem xG_Program_size (C : CX G p s m args c cc nL own (28 + 3 * nd) q) (hW : WB G (28 + 3 * nd) q (eX G q τ ζ ρ) s H locs) (hl : Cond.fieldLink own idx RX3 "size" "I" ∈ BIG) {v : Int32} (hv : τ.1 9 = v) (hdg : decode cc pc = .ok (.getfield idx, 3)) (kk : W p l e R s m args below meth c H locs cells slots Q (F0 m (pc + 3) ls (.int v :: rest))) : W p l e R s m args below meth c H locs cells slots Q (F0 m pc ls (.ref (q 19) :: rest)) := by
  subst hv
  exact r_get C hW (o := 19) (k := 3) (by omega) rfl rfl (by decide) hl rfl inB_X3 rfl hdg kk
theorem xP_Program_size (C : CX G p s m args c cc nL own (28 + 3 * nd) q) (hW : WB G (28 + 3 * nd) q (eX G q τ ζ ρ) s H locs) (hl : Cond.fieldLink own idx RX3 "size" "I" ∈ BIG) {v : Int32} (hdg : decode cc pc = .ok (.putfield idx, 3)) (kk : ∀ (H1 : Heap) (locs1 : List Loc), WB G (28 + 3 * nd) q (eX G q (sg τ 9 v) ζ ρ) s H1 locs1 → W p l e R s m args below meth c H1 locs1 cells slots Q (F0 m (pc + 3) ls rest)) : W p l e R s m args below meth c H locs cells slots Q (F0 m pc ls (.int v :: .ref (q 19) :: rest)) := r_put C hW (o := 19) (k := 3) (ty := .int) (by omega) rfl rfl (by decide) hl rfl inB_X3 tyX3 tyX3_ok nmX3 rfl (by decide +kernel) rfl rfl (Nat.le_of_ble_eq_true rfl) hdg (E' := eX G q (sg τ 9 v) ζ ρ) (fun j hj => match j, hj with
  | 0, _ => rfl
  | 1, _ => rfl
  | 2, _ => rfl
  | 3, _ => rfl
  | 4, _ => rfl
  | 5, _ => rfl
  | 6, _ => rfl
  | 7, _ => rfl
  | 8, _ => rfl
  | 9, _ => rfl
  | 10, _ => rfl
  | 11, _ => rfl
  | 12, _ => rfl
  | 13, _ => rfl
  | 14, _ => rfl
  | 15, _ => rfl
  | 16, _ => rfl
  | 17, _ => rfl
  | 18, _ => rfl
  | 19, _ => rfl
  | 20, _ => rfl
  | 21, _ => rfl
  | 22, _ => rfl
  | 23, _ => rfl
  | 24, _ => rfl
  | 25, _ => rfl
  | 26, _ => rfl
  | 27, _ => rfl
  | j + 28, hj => (if_neg (by omega)).trans rfl) kk
theorem xG_Program_rises (C : CX G p s m args c cc nL own (28 + 3 * nd) q) (hW : WB G (28 + 3 * nd) q (eX G q τ ζ ρ) s H locs) (hl : Cond.fieldLink own idx RX3 "rises" "[I" ∈ BIG) (hdg : decode cc pc = .ok (.getfield idx, 3)) (kk : W p l e R s m args below meth c H locs cells slots Q (F0 m (pc + 3) ls (.ref (q 23) :: rest))) : W p l e R s m args below meth c H locs cells slots Q (F0 m pc ls (.ref (q 19) :: rest)) := r_get C hW (o := 19) (k := 4) (by omega) rfl rfl (by decide) hl rfl inB_X3 rfl hdg kk
theorem xG_Program_sets (C : CX G p s m args c cc nL own (28 + 3 * nd) q) (hW : WB G (28 + 3 * nd) q (eX G q τ ζ ρ) s H locs) (hl : Cond.fieldLink own idx RX3 "sets" "[I" ∈ BIG) (hdg : decode cc pc = .ok (.getfield idx, 3)) (kk : W p l e R s m args below meth c H locs cells slots Q (F0 m (pc + 3) ls (.ref (q 24) :: rest))) : W p l e R s m args below meth c H locs cells slots Q (F0 m pc ls (.ref (q 19) :: rest)) := r_get C hW (o := 19) (k := 5) (by omega) rfl rfl (by decide) hl rfl inB_X3 rfl hdg kk
theorem xG_Run_remaining (C : CX G p s m args c cc nL own (28 + 3 * nd) q) (hW : WB G (28 + 3 * nd) q (eX G q τ ζ ρ) s H locs) (hl : Cond.fieldLink own idx RX5 "remaining" "[I" ∈ BIG) (hdg : decode cc pc = .ok (.getfield idx, 3)) (kk : W p l e R s m args below meth c H locs cells slots Q (F0 m (pc + 3) ls (.ref (q 26) :: rest))) : W p l e R s m args below meth c H locs cells slots Q (F0 m pc ls (.ref (q 25) :: rest)) := r_get C hW (o := 25) (k := 0) (by omega) rfl rfl (by decide) hl rfl inB_X5 rfl hdg kk
theorem xG_Run_watchedOf (C : CX G p s m args c cc nL own (28 + 3 * nd) q) (hW : WB G (28 + 3 * nd) q (eX G q τ ζ ρ) s H locs) (hl : Cond.fieldLink own idx RX5 "watchedOf" "[I" ∈ BIG) (hdg : decode cc pc = .ok (.getfield idx, 3)) (kk : W p l e R s m args below meth c H locs cells slots Q (F0 m (pc + 3) ls (.ref (q 27) :: rest))) : W p l e R s m args below meth c H locs cells slots Q (F0 m pc ls (.ref (q 25) :: rest)) := r_get C hW (o := 25) (k := 1) (by omega) rfl rfl (by decide) hl rfl inB_X5 rfl hdg kk
theorem xG_Run_minute (C : CX G p s m args c cc nL own (28 + 3 * nd) q) (hW : WB G (28 + 3 * nd) q (eX G q τ ζ ρ) s H locs) (hl : Cond.fieldLink own idx RX5 "minute" "I" ∈ BIG) {v : Int32} (hv : τ.1 10 = v) (hdg : decode cc pc = .ok (.getfield idx, 3)) (kk : W p l e R s m args below meth c H locs cells slots Q (F0 m (pc + 3) ls (.int v :: rest))) : W p l e R s m args below meth c H locs cells slots Q (F0 m pc ls (.ref (q 25) :: rest)) := by
  subst hv
  exact r_get C hW (o := 25) (k := 2) (by omega) rfl rfl (by decide) hl rfl inB_X5 rfl hdg kk
theorem xP_Run_minute (C : CX G p s m args c cc nL own (28 + 3 * nd) q) (hW : WB G (28 + 3 * nd) q (eX G q τ ζ ρ) s H locs) (hl : Cond.fieldLink own idx RX5 "minute" "I" ∈ BIG) {v : Int32} (hdg : decode cc pc = .ok (.putfield idx, 3)) (kk : ∀ (H1 : Heap) (locs1 : List Loc), WB G (28 + 3 * nd) q (eX G q (sg τ 10 v) ζ ρ) s H1 locs1 → W p l e R s m args below meth c H1 locs1 cells slots Q (F0 m (pc + 3) ls rest)) : W p l e R s m args below meth c H locs cells slots Q (F0 m pc ls (.int v :: .ref (q 25) :: rest)) := r_put C hW (o := 25) (k := 2) (ty := .int) (by omega) rfl rfl (by decide) hl rfl inB_X5 tyX5 tyX5_ok nmX5 rfl (by decide +kernel) rfl rfl (Nat.le_of_ble_eq_true rfl) hdg (E' := eX G q (sg τ 10 v) ζ ρ) (fun j hj => match j, hj with
  | 0, _ => rfl
  | 1, _ => rfl
  | 2, _ => rfl
  | 3, _ => rfl
  | 4, _ => rfl
  | 5, _ => rfl
  | 6, _ => rfl
  | 7, _ => rfl
  | 8, _ => rfl
  | 9, _ => rfl
  | 10, _ => rfl
  | 11, _ => rfl
  | 12, _ => rfl
  | 13, _ => rfl
  | 14, _ => rfl
  | 15, _ => rfl
  | 16, _ => rfl
  | 17, _ => rfl
  | 18, _ => rfl
  | 19, _ => rfl
  | 20, _ => rfl
  | 21, _ => rfl
  | 22, _ => rfl
  | 23, _ => rfl
  | 24, _ => rfl
  | 25, _ => rfl
  | 26, _ => rfl
  | 27, _ => rfl
  | j + 28, hj => (if_neg (by omega)).trans rfl) kk
theorem xG_Run_azimuth (C : CX G p s m args c cc nL own (28 + 3 * nd) q) (hW : WB G (28 + 3 * nd) q (eX G q τ ζ ρ) s H locs) (hl : Cond.fieldLink own idx RX5 "azimuth" "I" ∈ BIG) {v : Int32} (hv : τ.1 11 = v) (hdg : decode cc pc = .ok (.getfield idx, 3)) (kk : W p l e R s m args below meth c H locs cells slots Q (F0 m (pc + 3) ls (.int v :: rest))) : W p l e R s m args below meth c H locs cells slots Q (F0 m pc ls (.ref (q 25) :: rest)) := by
  subst hv
  exact r_get C hW (o := 25) (k := 3) (by omega) rfl rfl (by decide) hl rfl inB_X5 rfl hdg kk
theorem xP_Run_azimuth (C : CX G p s m args c cc nL own (28 + 3 * nd) q) (hW : WB G (28 + 3 * nd) q (eX G q τ ζ ρ) s H locs) (hl : Cond.fieldLink own idx RX5 "azimuth" "I" ∈ BIG) {v : Int32} (hdg : decode cc pc = .ok (.putfield idx, 3)) (kk : ∀ (H1 : Heap) (locs1 : List Loc), WB G (28 + 3 * nd) q (eX G q (sg τ 11 v) ζ ρ) s H1 locs1 → W p l e R s m args below meth c H1 locs1 cells slots Q (F0 m (pc + 3) ls rest)) : W p l e R s m args below meth c H locs cells slots Q (F0 m pc ls (.int v :: .ref (q 25) :: rest)) := r_put C hW (o := 25) (k := 3) (ty := .int) (by omega) rfl rfl (by decide) hl rfl inB_X5 tyX5 tyX5_ok nmX5 rfl (by decide +kernel) rfl rfl (Nat.le_of_ble_eq_true rfl) hdg (E' := eX G q (sg τ 11 v) ζ ρ) (fun j hj => match j, hj with
  | 0, _ => rfl
  | 1, _ => rfl
  | 2, _ => rfl
  | 3, _ => rfl
  | 4, _ => rfl
  | 5, _ => rfl
  | 6, _ => rfl
  | 7, _ => rfl
  | 8, _ => rfl
  | 9, _ => rfl
  | 10, _ => rfl
  | 11, _ => rfl
  | 12, _ => rfl
  | 13, _ => rfl
  | 14, _ => rfl
  | 15, _ => rfl
  | 16, _ => rfl
  | 17, _ => rfl
  | 18, _ => rfl
  | 19, _ => rfl
  | 20, _ => rfl
  | 21, _ => rfl
  | 22, _ => rfl
  | 23, _ => rfl
  | 24, _ => rfl
  | 25, _ => rfl
  | 26, _ => rfl
  | 27, _ => rfl
  | j + 28, hj => (if_neg (by omega)).trans rfl) kk
theorem xG_Run_watched (C : CX G p s m args c cc nL own (28 + 3 * nd) q) (hW : WB G (28 + 3 * nd) q (eX G q τ ζ ρ) s H locs) (hl : Cond.fieldLink own idx RX5 "watched" "I" ∈ BIG) {v : Int32} (hv : τ.1 12 = v) (hdg : decode cc pc = .ok (.getfield idx, 3)) (kk : W p l e R s m args below meth c H locs cells slots Q (F0 m (pc + 3) ls (.int v :: rest))) : W p l e R s m args below meth c H locs cells slots Q (F0 m pc ls (.ref (q 25) :: rest)) := by
  subst hv
  exact r_get C hW (o := 25) (k := 4) (by omega) rfl rfl (by decide) hl rfl inB_X5 rfl hdg kk
theorem xP_Run_watched (C : CX G p s m args c cc nL own (28 + 3 * nd) q) (hW : WB G (28 + 3 * nd) q (eX G q τ ζ ρ) s H locs) (hl : Cond.fieldLink own idx RX5 "watched" "I" ∈ BIG) {v : Int32} (hdg : decode cc pc = .ok (.putfield idx, 3)) (kk : ∀ (H1 : Heap) (locs1 : List Loc), WB G (28 + 3 * nd) q (eX G q (sg τ 12 v) ζ ρ) s H1 locs1 → W p l e R s m args below meth c H1 locs1 cells slots Q (F0 m (pc + 3) ls rest)) : W p l e R s m args below meth c H locs cells slots Q (F0 m pc ls (.int v :: .ref (q 25) :: rest)) := r_put C hW (o := 25) (k := 4) (ty := .int) (by omega) rfl rfl (by decide) hl rfl inB_X5 tyX5 tyX5_ok nmX5 rfl (by decide +kernel) rfl rfl (Nat.le_of_ble_eq_true rfl) hdg (E' := eX G q (sg τ 12 v) ζ ρ) (fun j hj => match j, hj with
  | 0, _ => rfl
  | 1, _ => rfl
  | 2, _ => rfl
  | 3, _ => rfl
  | 4, _ => rfl
  | 5, _ => rfl
  | 6, _ => rfl
  | 7, _ => rfl
  | 8, _ => rfl
  | 9, _ => rfl
  | 10, _ => rfl
  | 11, _ => rfl
  | 12, _ => rfl
  | 13, _ => rfl
  | 14, _ => rfl
  | 15, _ => rfl
  | 16, _ => rfl
  | 17, _ => rfl
  | 18, _ => rfl
  | 19, _ => rfl
  | 20, _ => rfl
  | 21, _ => rfl
  | 22, _ => rfl
  | 23, _ => rfl
  | 24, _ => rfl
  | 25, _ => rfl
  | 26, _ => rfl
  | 27, _ => rfl
  | j + 28, hj => (if_neg (by omega)).trans rfl) kk
theorem xG_Run_finished (C : CX G p s m args c cc nL own (28 + 3 * nd) q) (hW : WB G (28 + 3 * nd) q (eX G q τ ζ ρ) s H locs) (hl : Cond.fieldLink own idx RX5 "finished" "I" ∈ BIG) {v : Int32} (hv : τ.1 13 = v) (hdg : decode cc pc = .ok (.getfield idx, 3)) (kk : W p l e R s m args below meth c H locs cells slots Q (F0 m (pc + 3) ls (.int v :: rest))) : W p l e R s m args below meth c H locs cells slots Q (F0 m pc ls (.ref (q 25) :: rest)) := by
  subst hv
  exact r_get C hW (o := 25) (k := 5) (by omega) rfl rfl (by decide) hl rfl inB_X5 rfl hdg kk
theorem xP_Run_finished (C : CX G p s m args c cc nL own (28 + 3 * nd) q) (hW : WB G (28 + 3 * nd) q (eX G q τ ζ ρ) s H locs) (hl : Cond.fieldLink own idx RX5 "finished" "I" ∈ BIG) {v : Int32} (hdg : decode cc pc = .ok (.putfield idx, 3)) (kk : ∀ (H1 : Heap) (locs1 : List Loc), WB G (28 + 3 * nd) q (eX G q (sg τ 13 v) ζ ρ) s H1 locs1 → W p l e R s m args below meth c H1 locs1 cells slots Q (F0 m (pc + 3) ls rest)) : W p l e R s m args below meth c H locs cells slots Q (F0 m pc ls (.int v :: .ref (q 25) :: rest)) := r_put C hW (o := 25) (k := 5) (ty := .int) (by omega) rfl rfl (by decide) hl rfl inB_X5 tyX5 tyX5_ok nmX5 rfl (by decide +kernel) rfl rfl (Nat.le_of_ble_eq_true rfl) hdg (E' := eX G q (sg τ 13 v) ζ ρ) (fun j hj => match j, hj with
  | 0, _ => rfl
  | 1, _ => rfl
  | 2, _ => rfl
  | 3, _ => rfl
  | 4, _ => rfl
  | 5, _ => rfl
  | 6, _ => rfl
  | 7, _ => rfl
  | 8, _ => rfl
  | 9, _ => rfl
  | 10, _ => rfl
  | 11, _ => rfl
  | 12, _ => rfl
  | 13, _ => rfl
  | 14, _ => rfl
  | 15, _ => rfl
  | 16, _ => rfl
  | 17, _ => rfl
  | 18, _ => rfl
  | 19, _ => rfl
  | 20, _ => rfl
  | 21, _ => rfl
  | 22, _ => rfl
  | 23, _ => rfl
  | 24, _ => rfl
  | 25, _ => rfl
  | 26, _ => rfl
  | 27, _ => rfl
  | j + 28, hj => (if_neg (by omega)).trans rfl) kk
theorem xG_Run_endedAt (C : CX G p s m args c cc nL own (28 + 3 * nd) q) (hW : WB G (28 + 3 * nd) q (eX G q τ ζ ρ) s H locs) (hl : Cond.fieldLink own idx RX5 "endedAt" "I" ∈ BIG) {v : Int32} (hv : τ.1 14 = v) (hdg : decode cc pc = .ok (.getfield idx, 3)) (kk : W p l e R s m args below meth c H locs cells slots Q (F0 m (pc + 3) ls (.int v :: rest))) : W p l e R s m args below meth c H locs cells slots Q (F0 m pc ls (.ref (q 25) :: rest)) := by
  subst hv
  exact r_get C hW (o := 25) (k := 6) (by omega) rfl rfl (by decide) hl rfl inB_X5 rfl hdg kk
theorem xP_Run_endedAt (C : CX G p s m args c cc nL own (28 + 3 * nd) q) (hW : WB G (28 + 3 * nd) q (eX G q τ ζ ρ) s H locs) (hl : Cond.fieldLink own idx RX5 "endedAt" "I" ∈ BIG) {v : Int32} (hdg : decode cc pc = .ok (.putfield idx, 3)) (kk : ∀ (H1 : Heap) (locs1 : List Loc), WB G (28 + 3 * nd) q (eX G q (sg τ 14 v) ζ ρ) s H1 locs1 → W p l e R s m args below meth c H1 locs1 cells slots Q (F0 m (pc + 3) ls rest)) : W p l e R s m args below meth c H locs cells slots Q (F0 m pc ls (.int v :: .ref (q 25) :: rest)) := r_put C hW (o := 25) (k := 6) (ty := .int) (by omega) rfl rfl (by decide) hl rfl inB_X5 tyX5 tyX5_ok nmX5 rfl (by decide +kernel) rfl rfl (Nat.le_of_ble_eq_true rfl) hdg (E' := eX G q (sg τ 14 v) ζ ρ) (fun j hj => match j, hj with
  | 0, _ => rfl
  | 1, _ => rfl
  | 2, _ => rfl
  | 3, _ => rfl
  | 4, _ => rfl
  | 5, _ => rfl
  | 6, _ => rfl
  | 7, _ => rfl
  | 8, _ => rfl
  | 9, _ => rfl
  | 10, _ => rfl
  | 11, _ => rfl
  | 12, _ => rfl
  | 13, _ => rfl
  | 14, _ => rfl
  | 15, _ => rfl
  | 16, _ => rfl
  | 17, _ => rfl
  | 18, _ => rfl
  | 19, _ => rfl
  | 20, _ => rfl
  | 21, _ => rfl
  | 22, _ => rfl
  | 23, _ => rfl
  | 24, _ => rfl
  | 25, _ => rfl
  | 26, _ => rfl
  | 27, _ => rfl
  | j + 28, hj => (if_neg (by omega)).trans rfl) kk
theorem xG_Run_turning (C : CX G p s m args c cc nL own (28 + 3 * nd) q) (hW : WB G (28 + 3 * nd) q (eX G q τ ζ ρ) s H locs) (hl : Cond.fieldLink own idx RX5 "turning" "I" ∈ BIG) {v : Int32} (hv : τ.1 15 = v) (hdg : decode cc pc = .ok (.getfield idx, 3)) (kk : W p l e R s m args below meth c H locs cells slots Q (F0 m (pc + 3) ls (.int v :: rest))) : W p l e R s m args below meth c H locs cells slots Q (F0 m pc ls (.ref (q 25) :: rest)) := by
  subst hv
  exact r_get C hW (o := 25) (k := 7) (by omega) rfl rfl (by decide) hl rfl inB_X5 rfl hdg kk
theorem xP_Run_turning (C : CX G p s m args c cc nL own (28 + 3 * nd) q) (hW : WB G (28 + 3 * nd) q (eX G q τ ζ ρ) s H locs) (hl : Cond.fieldLink own idx RX5 "turning" "I" ∈ BIG) {v : Int32} (hdg : decode cc pc = .ok (.putfield idx, 3)) (kk : ∀ (H1 : Heap) (locs1 : List Loc), WB G (28 + 3 * nd) q (eX G q (sg τ 15 v) ζ ρ) s H1 locs1 → W p l e R s m args below meth c H1 locs1 cells slots Q (F0 m (pc + 3) ls rest)) : W p l e R s m args below meth c H locs cells slots Q (F0 m pc ls (.int v :: .ref (q 25) :: rest)) := r_put C hW (o := 25) (k := 7) (ty := .int) (by omega) rfl rfl (by decide) hl rfl inB_X5 tyX5 tyX5_ok nmX5 rfl (by decide +kernel) rfl rfl (Nat.le_of_ble_eq_true rfl) hdg (E' := eX G q (sg τ 15 v) ζ ρ) (fun j hj => match j, hj with
  | 0, _ => rfl
  | 1, _ => rfl
  | 2, _ => rfl
  | 3, _ => rfl
  | 4, _ => rfl
  | 5, _ => rfl
  | 6, _ => rfl
  | 7, _ => rfl
  | 8, _ => rfl
  | 9, _ => rfl
  | 10, _ => rfl
  | 11, _ => rfl
  | 12, _ => rfl
  | 13, _ => rfl
  | 14, _ => rfl
  | 15, _ => rfl
  | 16, _ => rfl
  | 17, _ => rfl
  | 18, _ => rfl
  | 19, _ => rfl
  | 20, _ => rfl
  | 21, _ => rfl
  | 22, _ => rfl
  | 23, _ => rfl
  | 24, _ => rfl
  | 25, _ => rfl
  | 26, _ => rfl
  | 27, _ => rfl
  | j + 28, hj => (if_neg (by omega)).trans rfl) kk
theorem xG_Run_stormEnd (C : CX G p s m args c cc nL own (28 + 3 * nd) q) (hW : WB G (28 + 3 * nd) q (eX G q τ ζ ρ) s H locs) (hl : Cond.fieldLink own idx RX5 "stormEnd" "I" ∈ BIG) {v : Int32} (hv : τ.1 16 = v) (hdg : decode cc pc = .ok (.getfield idx, 3)) (kk : W p l e R s m args below meth c H locs cells slots Q (F0 m (pc + 3) ls (.int v :: rest))) : W p l e R s m args below meth c H locs cells slots Q (F0 m pc ls (.ref (q 25) :: rest)) := by
  subst hv
  exact r_get C hW (o := 25) (k := 8) (by omega) rfl rfl (by decide) hl rfl inB_X5 rfl hdg kk
theorem xP_Run_stormEnd (C : CX G p s m args c cc nL own (28 + 3 * nd) q) (hW : WB G (28 + 3 * nd) q (eX G q τ ζ ρ) s H locs) (hl : Cond.fieldLink own idx RX5 "stormEnd" "I" ∈ BIG) {v : Int32} (hdg : decode cc pc = .ok (.putfield idx, 3)) (kk : ∀ (H1 : Heap) (locs1 : List Loc), WB G (28 + 3 * nd) q (eX G q (sg τ 16 v) ζ ρ) s H1 locs1 → W p l e R s m args below meth c H1 locs1 cells slots Q (F0 m (pc + 3) ls rest)) : W p l e R s m args below meth c H locs cells slots Q (F0 m pc ls (.int v :: .ref (q 25) :: rest)) := r_put C hW (o := 25) (k := 8) (ty := .int) (by omega) rfl rfl (by decide) hl rfl inB_X5 tyX5 tyX5_ok nmX5 rfl (by decide +kernel) rfl rfl (Nat.le_of_ble_eq_true rfl) hdg (E' := eX G q (sg τ 16 v) ζ ρ) (fun j hj => match j, hj with
  | 0, _ => rfl
  | 1, _ => rfl
  | 2, _ => rfl
  | 3, _ => rfl
  | 4, _ => rfl
  | 5, _ => rfl
  | 6, _ => rfl
  | 7, _ => rfl
  | 8, _ => rfl
  | 9, _ => rfl
  | 10, _ => rfl
  | 11, _ => rfl
  | 12, _ => rfl
  | 13, _ => rfl
  | 14, _ => rfl
  | 15, _ => rfl
  | 16, _ => rfl
  | 17, _ => rfl
  | 18, _ => rfl
  | 19, _ => rfl
  | 20, _ => rfl
  | 21, _ => rfl
  | 22, _ => rfl
  | 23, _ => rfl
  | 24, _ => rfl
  | 25, _ => rfl
  | 26, _ => rfl
  | 27, _ => rfl
  | j + 28, hj => (if_neg (by omega)).trans rfl) kk
theorem xG_DishHouse_row (C : CX G p s m args c cc nL own (28 + 3 * nd) q) (hW : WB G (28 + 3 * nd) q (eX G q τ ζ ρ) s H locs) (hl : Cond.fieldLink own idx RX7 "row" "LDishHouse$Row;" ∈ BIG) (hdg : decode cc pc = .ok (.getfield idx, 3)) (kk : W p l e R s m args below meth c H locs cells slots Q (F0 m (pc + 3) ls (.ref (q 1) :: rest))) : W p l e R s m args below meth c H locs cells slots Q (F0 m pc ls (.ref (q 0) :: rest)) := r_get C hW (o := 0) (k := 0) (by omega) rfl rfl (by decide) hl rfl inB_X7 rfl hdg kk
theorem xG_DishHouse_spacings (C : CX G p s m args c cc nL own (28 + 3 * nd) q) (hW : WB G (28 + 3 * nd) q (eX G q τ ζ ρ) s H locs) (hl : Cond.fieldLink own idx RX7 "spacings" "LDishHouse$Spacings;" ∈ BIG) (hdg : decode cc pc = .ok (.getfield idx, 3)) (kk : W p l e R s m args below meth c H locs cells slots Q (F0 m (pc + 3) ls (.ref (q 6) :: rest))) : W p l e R s m args below meth c H locs cells slots Q (F0 m pc ls (.ref (q 0) :: rest)) := r_get C hW (o := 0) (k := 1) (by omega) rfl rfl (by decide) hl rfl inB_X7 rfl hdg kk
theorem xG_DishHouse_points (C : CX G p s m args c cc nL own (28 + 3 * nd) q) (hW : WB G (28 + 3 * nd) q (eX G q τ ζ ρ) s H locs) (hl : Cond.fieldLink own idx RX7 "points" "LDishHouse$Points;" ∈ BIG) (hdg : decode cc pc = .ok (.getfield idx, 3)) (kk : W p l e R s m args below meth c H locs cells slots Q (F0 m (pc + 3) ls (.ref (q 10) :: rest))) : W p l e R s m args below meth c H locs cells slots Q (F0 m pc ls (.ref (q 0) :: rest)) := r_get C hW (o := 0) (k := 2) (by omega) rfl rfl (by decide) hl rfl inB_X7 rfl hdg kk
theorem xG_DishHouse_board (C : CX G p s m args c cc nL own (28 + 3 * nd) q) (hW : WB G (28 + 3 * nd) q (eX G q τ ζ ρ) s H locs) (hl : Cond.fieldLink own idx RX7 "board" "LDishHouse$Board;" ∈ BIG) (hdg : decode cc pc = .ok (.getfield idx, 3)) (kk : W p l e R s m args below meth c H locs cells slots Q (F0 m (pc + 3) ls (.ref (q 14) :: rest))) : W p l e R s m args below meth c H locs cells slots Q (F0 m pc ls (.ref (q 0) :: rest)) := r_get C hW (o := 0) (k := 3) (by omega) rfl rfl (by decide) hl rfl inB_X7 rfl hdg kk
theorem xG_DishHouse_program (C : CX G p s m args c cc nL own (28 + 3 * nd) q) (hW : WB G (28 + 3 * nd) q (eX G q τ ζ ρ) s H locs) (hl : Cond.fieldLink own idx RX7 "program" "LDishHouse$Program;" ∈ BIG) (hdg : decode cc pc = .ok (.getfield idx, 3)) (kk : W p l e R s m args below meth c H locs cells slots Q (F0 m (pc + 3) ls (.ref (q 19) :: rest))) : W p l e R s m args below meth c H locs cells slots Q (F0 m pc ls (.ref (q 0) :: rest)) := r_get C hW (o := 0) (k := 4) (by omega) rfl rfl (by decide) hl rfl inB_X7 rfl hdg kk
theorem xG_DishHouse_run (C : CX G p s m args c cc nL own (28 + 3 * nd) q) (hW : WB G (28 + 3 * nd) q (eX G q τ ζ ρ) s H locs) (hl : Cond.fieldLink own idx RX7 "run" "LDishHouse$Run;" ∈ BIG) (hdg : decode cc pc = .ok (.getfield idx, 3)) (kk : W p l e R s m args below meth c H locs cells slots Q (F0 m (pc + 3) ls (.ref (q 25) :: rest))) : W p l e R s m args below meth c H locs cells slots Q (F0 m pc ls (.ref (q 0) :: rest)) := r_get C hW (o := 0) (k := 5) (by omega) rfl rfl (by decide) hl rfl inB_X7 rfl hdg kk
theorem xG_DishHouse_finding (C : CX G p s m args c cc nL own (28 + 3 * nd) q) (hW : WB G (28 + 3 * nd) q (eX G q τ ζ ρ) s H locs) (hl : Cond.fieldLink own idx RX7 "finding" "I" ∈ BIG) {v : Int32} (hv : τ.1 1 = v) (hdg : decode cc pc = .ok (.getfield idx, 3)) (kk : W p l e R s m args below meth c H locs cells slots Q (F0 m (pc + 3) ls (.int v :: rest))) : W p l e R s m args below meth c H locs cells slots Q (F0 m pc ls (.ref (q 0) :: rest)) := by
  subst hv
  exact r_get C hW (o := 0) (k := 6) (by omega) rfl rfl (by decide) hl rfl inB_X7 rfl hdg kk
theorem xP_DishHouse_finding (C : CX G p s m args c cc nL own (28 + 3 * nd) q) (hW : WB G (28 + 3 * nd) q (eX G q τ ζ ρ) s H locs) (hl : Cond.fieldLink own idx RX7 "finding" "I" ∈ BIG) {v : Int32} (hdg : decode cc pc = .ok (.putfield idx, 3)) (kk : ∀ (H1 : Heap) (locs1 : List Loc), WB G (28 + 3 * nd) q (eX G q (sg τ 1 v) ζ ρ) s H1 locs1 → W p l e R s m args below meth c H1 locs1 cells slots Q (F0 m (pc + 3) ls rest)) : W p l e R s m args below meth c H locs cells slots Q (F0 m pc ls (.int v :: .ref (q 0) :: rest)) := r_put C hW (o := 0) (k := 6) (ty := .int) (by omega) rfl rfl (by decide) hl rfl inB_X7 tyX7 tyX7_ok nmX7 rfl (by decide +kernel) rfl rfl (Nat.le_of_ble_eq_true rfl) hdg (E' := eX G q (sg τ 1 v) ζ ρ) (fun j hj => match j, hj with
  | 0, _ => rfl
  | 1, _ => rfl
  | 2, _ => rfl
  | 3, _ => rfl
  | 4, _ => rfl
  | 5, _ => rfl
  | 6, _ => rfl
  | 7, _ => rfl
  | 8, _ => rfl
  | 9, _ => rfl
  | 10, _ => rfl
  | 11, _ => rfl
  | 12, _ => rfl
  | 13, _ => rfl
  | 14, _ => rfl
  | 15, _ => rfl
  | 16, _ => rfl
  | 17, _ => rfl
  | 18, _ => rfl
  | 19, _ => rfl
  | 20, _ => rfl
  | 21, _ => rfl
  | 22, _ => rfl
  | 23, _ => rfl
  | 24, _ => rfl
  | 25, _ => rfl
  | 26, _ => rfl
  | 27, _ => rfl
  | j + 28, hj => (if_neg (by omega)).trans rfl) kk
theorem xL_4 (C : CX G p s m args c cc nL own (28 + 3 * nd) q) (hW : WB G (28 + 3 * nd) q (eX G q τ ζ ρ) s H locs) {i : Int32} (k : Nat) (hi : i.toInt = (k : Int)) (hk : k < 40) {v : Int32} (hv : τ.2.1 9 k = v) (hdg : decode cc pc = .ok (.iaload, 1)) (kk : W p l e R s m args below meth c H locs cells slots Q (F0 m (pc + 1) ls (.int v :: rest))) : W p l e R s m args below meth c H locs cells slots Q (F0 m pc ls (.int i :: .ref (q 4) :: rest)) := r_iald C hW (o := 4) (by omega) rfl hi hk hv hdg kk
theorem xS_4 (C : CX G p s m args c cc nL own (28 + 3 * nd) q) (hW : WB G (28 + 3 * nd) q (eX G q τ ζ ρ) s H locs) {i x : Int32} (k : Nat) (hi : i.toInt = (k : Int)) (hk : k < 40) (hdg : decode cc pc = .ok (.iastore, 1)) (kk : ∀ (H1 : Heap) (locs1 : List Loc), WB G (28 + 3 * nd) q (eX G q (sa τ 9 k x) ζ ρ) s H1 locs1 → W p l e R s m args below meth c H1 locs1 cells slots Q (F0 m (pc + 1) ls rest)) : W p l e R s m args below meth c H locs cells slots Q (F0 m pc ls (.int x :: .int i :: .ref (q 4) :: rest)) := r_iast C hW (o := 4) (by omega) rfl hi hk hdg (E' := eX G q (sa τ 9 k x) ζ ρ) (fun j hj => match j, hj with
  | 0, _ => rfl
  | 1, _ => rfl
  | 2, _ => rfl
  | 3, _ => rfl
  | 4, _ => rfl
  | 5, _ => rfl
  | 6, _ => rfl
  | 7, _ => rfl
  | 8, _ => rfl
  | 9, _ => rfl
  | 10, _ => rfl
  | 11, _ => rfl
  | 12, _ => rfl
  | 13, _ => rfl
  | 14, _ => rfl
  | 15, _ => rfl
  | 16, _ => rfl
  | 17, _ => rfl
  | 18, _ => rfl
  | 19, _ => rfl
  | 20, _ => rfl
  | 21, _ => rfl
  | 22, _ => rfl
  | 23, _ => rfl
  | 24, _ => rfl
  | 25, _ => rfl
  | 26, _ => rfl
  | 27, _ => rfl
  | j + 28, hj => (if_neg (by omega)).trans rfl) kk
theorem xL_5 (C : CX G p s m args c cc nL own (28 + 3 * nd) q) (hW : WB G (28 + 3 * nd) q (eX G q τ ζ ρ) s H locs) {i : Int32} (k : Nat) (hi : i.toInt = (k : Int)) (hk : k < 40) {v : Int32} (hv : τ.2.1 10 k = v) (hdg : decode cc pc = .ok (.iaload, 1)) (kk : W p l e R s m args below meth c H locs cells slots Q (F0 m (pc + 1) ls (.int v :: rest))) : W p l e R s m args below meth c H locs cells slots Q (F0 m pc ls (.int i :: .ref (q 5) :: rest)) := r_iald C hW (o := 5) (by omega) rfl hi hk hv hdg kk
theorem xS_5 (C : CX G p s m args c cc nL own (28 + 3 * nd) q) (hW : WB G (28 + 3 * nd) q (eX G q τ ζ ρ) s H locs) {i x : Int32} (k : Nat) (hi : i.toInt = (k : Int)) (hk : k < 40) (hdg : decode cc pc = .ok (.iastore, 1)) (kk : ∀ (H1 : Heap) (locs1 : List Loc), WB G (28 + 3 * nd) q (eX G q (sa τ 10 k x) ζ ρ) s H1 locs1 → W p l e R s m args below meth c H1 locs1 cells slots Q (F0 m (pc + 1) ls rest)) : W p l e R s m args below meth c H locs cells slots Q (F0 m pc ls (.int x :: .int i :: .ref (q 5) :: rest)) := r_iast C hW (o := 5) (by omega) rfl hi hk hdg (E' := eX G q (sa τ 10 k x) ζ ρ) (fun j hj => match j, hj with
  | 0, _ => rfl
  | 1, _ => rfl
  | 2, _ => rfl
  | 3, _ => rfl
  | 4, _ => rfl
  | 5, _ => rfl
  | 6, _ => rfl
  | 7, _ => rfl
  | 8, _ => rfl
  | 9, _ => rfl
  | 10, _ => rfl
  | 11, _ => rfl
  | 12, _ => rfl
  | 13, _ => rfl
  | 14, _ => rfl
  | 15, _ => rfl
  | 16, _ => rfl
  | 17, _ => rfl
  | 18, _ => rfl
  | 19, _ => rfl
  | 20, _ => rfl
  | 21, _ => rfl
  | 22, _ => rfl
  | 23, _ => rfl
  | 24, _ => rfl
  | 25, _ => rfl
  | 26, _ => rfl
  | 27, _ => rfl
  | j + 28, hj => (if_neg (by omega)).trans rfl) kk
theorem xL_7 (C : CX G p s m args c cc nL own (28 + 3 * nd) q) (hW : WB G (28 + 3 * nd) q (eX G q τ ζ ρ) s H locs) {i : Int32} (k : Nat) (hi : i.toInt = (k : Int)) (hk : k < 15) {v : Int32} (hv : ζ.2.1 5 k = v) (hdg : decode cc pc = .ok (.iaload, 1)) (kk : W p l e R s m args below meth c H locs cells slots Q (F0 m (pc + 1) ls (.int v :: rest))) : W p l e R s m args below meth c H locs cells slots Q (F0 m pc ls (.int i :: .ref (q 7) :: rest)) := r_iald C hW (o := 7) (by omega) rfl hi hk hv hdg kk
theorem xS_7 (C : CX G p s m args c cc nL own (28 + 3 * nd) q) (hW : WB G (28 + 3 * nd) q (eX G q τ ζ ρ) s H locs) {i x : Int32} (k : Nat) (hi : i.toInt = (k : Int)) (hk : k < 15) (hdg : decode cc pc = .ok (.iastore, 1)) (kk : ∀ (H1 : Heap) (locs1 : List Loc), WB G (28 + 3 * nd) q (eX G q τ (sa ζ 5 k x) ρ) s H1 locs1 → W p l e R s m args below meth c H1 locs1 cells slots Q (F0 m (pc + 1) ls rest)) : W p l e R s m args below meth c H locs cells slots Q (F0 m pc ls (.int x :: .int i :: .ref (q 7) :: rest)) := r_iast C hW (o := 7) (by omega) rfl hi hk hdg (E' := eX G q τ (sa ζ 5 k x) ρ) (fun j hj => match j, hj with
  | 0, _ => rfl
  | 1, _ => rfl
  | 2, _ => rfl
  | 3, _ => rfl
  | 4, _ => rfl
  | 5, _ => rfl
  | 6, _ => rfl
  | 7, _ => rfl
  | 8, _ => rfl
  | 9, _ => rfl
  | 10, _ => rfl
  | 11, _ => rfl
  | 12, _ => rfl
  | 13, _ => rfl
  | 14, _ => rfl
  | 15, _ => rfl
  | 16, _ => rfl
  | 17, _ => rfl
  | 18, _ => rfl
  | 19, _ => rfl
  | 20, _ => rfl
  | 21, _ => rfl
  | 22, _ => rfl
  | 23, _ => rfl
  | 24, _ => rfl
  | 25, _ => rfl
  | 26, _ => rfl
  | 27, _ => rfl
  | j + 28, hj => (if_neg (by omega)).trans rfl) kk
theorem xL_8 (C : CX G p s m args c cc nL own (28 + 3 * nd) q) (hW : WB G (28 + 3 * nd) q (eX G q τ ζ ρ) s H locs) {i : Int32} (k : Nat) (hi : i.toInt = (k : Int)) (hk : k < 15) {v : Int32} (hv : ζ.2.1 6 k = v) (hdg : decode cc pc = .ok (.iaload, 1)) (kk : W p l e R s m args below meth c H locs cells slots Q (F0 m (pc + 1) ls (.int v :: rest))) : W p l e R s m args below meth c H locs cells slots Q (F0 m pc ls (.int i :: .ref (q 8) :: rest)) := r_iald C hW (o := 8) (by omega) rfl hi hk hv hdg kk
theorem xS_8 (C : CX G p s m args c cc nL own (28 + 3 * nd) q) (hW : WB G (28 + 3 * nd) q (eX G q τ ζ ρ) s H locs) {i x : Int32} (k : Nat) (hi : i.toInt = (k : Int)) (hk : k < 15) (hdg : decode cc pc = .ok (.iastore, 1)) (kk : ∀ (H1 : Heap) (locs1 : List Loc), WB G (28 + 3 * nd) q (eX G q τ (sa ζ 6 k x) ρ) s H1 locs1 → W p l e R s m args below meth c H1 locs1 cells slots Q (F0 m (pc + 1) ls rest)) : W p l e R s m args below meth c H locs cells slots Q (F0 m pc ls (.int x :: .int i :: .ref (q 8) :: rest)) := r_iast C hW (o := 8) (by omega) rfl hi hk hdg (E' := eX G q τ (sa ζ 6 k x) ρ) (fun j hj => match j, hj with
  | 0, _ => rfl
  | 1, _ => rfl
  | 2, _ => rfl
  | 3, _ => rfl
  | 4, _ => rfl
  | 5, _ => rfl
  | 6, _ => rfl
  | 7, _ => rfl
  | 8, _ => rfl
  | 9, _ => rfl
  | 10, _ => rfl
  | 11, _ => rfl
  | 12, _ => rfl
  | 13, _ => rfl
  | 14, _ => rfl
  | 15, _ => rfl
  | 16, _ => rfl
  | 17, _ => rfl
  | 18, _ => rfl
  | 19, _ => rfl
  | 20, _ => rfl
  | 21, _ => rfl
  | 22, _ => rfl
  | 23, _ => rfl
  | 24, _ => rfl
  | 25, _ => rfl
  | 26, _ => rfl
  | 27, _ => rfl
  | j + 28, hj => (if_neg (by omega)).trans rfl) kk
theorem xL_9 (C : CX G p s m args c cc nL own (28 + 3 * nd) q) (hW : WB G (28 + 3 * nd) q (eX G q τ ζ ρ) s H locs) {i : Int32} (k : Nat) (hi : i.toInt = (k : Int)) (hk : k < 15) {v : Int64} (hv : ζ.2.2 0 k = v) (hdg : decode cc pc = .ok (.laload, 1)) (kk : W p l e R s m args below meth c H locs cells slots Q (F0 m (pc + 1) ls (.long v :: rest))) : W p l e R s m args below meth c H locs cells slots Q (F0 m pc ls (.int i :: .ref (q 9) :: rest)) := r_lald C hW (o := 9) (by omega) rfl hi hk hv hdg kk
theorem xS_9 (C : CX G p s m args c cc nL own (28 + 3 * nd) q) (hW : WB G (28 + 3 * nd) q (eX G q τ ζ ρ) s H locs) {i : Int32} {x : Int64} (k : Nat) (hi : i.toInt = (k : Int)) (hk : k < 15) (hdg : decode cc pc = .ok (.lastore, 1)) (kk : ∀ (H1 : Heap) (locs1 : List Loc), WB G (28 + 3 * nd) q (eX G q τ (sb ζ 0 k x) ρ) s H1 locs1 → W p l e R s m args below meth c H1 locs1 cells slots Q (F0 m (pc + 1) ls rest)) : W p l e R s m args below meth c H locs cells slots Q (F0 m pc ls (.long x :: .int i :: .ref (q 9) :: rest)) := r_last C hW (o := 9) (by omega) rfl hi hk hdg (E' := eX G q τ (sb ζ 0 k x) ρ) (fun j hj => match j, hj with
  | 0, _ => rfl
  | 1, _ => rfl
  | 2, _ => rfl
  | 3, _ => rfl
  | 4, _ => rfl
  | 5, _ => rfl
  | 6, _ => rfl
  | 7, _ => rfl
  | 8, _ => rfl
  | 9, _ => rfl
  | 10, _ => rfl
  | 11, _ => rfl
  | 12, _ => rfl
  | 13, _ => rfl
  | 14, _ => rfl
  | 15, _ => rfl
  | 16, _ => rfl
  | 17, _ => rfl
  | 18, _ => rfl
  | 19, _ => rfl
  | 20, _ => rfl
  | 21, _ => rfl
  | 22, _ => rfl
  | 23, _ => rfl
  | 24, _ => rfl
  | 25, _ => rfl
  | 26, _ => rfl
  | 27, _ => rfl
  | j + 28, hj => (if_neg (by omega)).trans rfl) kk
theorem xL_11 (C : CX G p s m args c cc nL own (28 + 3 * nd) q) (hW : WB G (28 + 3 * nd) q (eX G q τ ζ ρ) s H locs) {i : Int32} (k : Nat) (hi : i.toInt = (k : Int)) (hk : k < 10) {v : Int32} (hv : τ.2.1 11 k = v) (hdg : decode cc pc = .ok (.iaload, 1)) (kk : W p l e R s m args below meth c H locs cells slots Q (F0 m (pc + 1) ls (.int v :: rest))) : W p l e R s m args below meth c H locs cells slots Q (F0 m pc ls (.int i :: .ref (q 11) :: rest)) := r_iald C hW (o := 11) (by omega) rfl hi hk hv hdg kk
theorem xS_11 (C : CX G p s m args c cc nL own (28 + 3 * nd) q) (hW : WB G (28 + 3 * nd) q (eX G q τ ζ ρ) s H locs) {i x : Int32} (k : Nat) (hi : i.toInt = (k : Int)) (hk : k < 10) (hdg : decode cc pc = .ok (.iastore, 1)) (kk : ∀ (H1 : Heap) (locs1 : List Loc), WB G (28 + 3 * nd) q (eX G q (sa τ 11 k x) ζ ρ) s H1 locs1 → W p l e R s m args below meth c H1 locs1 cells slots Q (F0 m (pc + 1) ls rest)) : W p l e R s m args below meth c H locs cells slots Q (F0 m pc ls (.int x :: .int i :: .ref (q 11) :: rest)) := r_iast C hW (o := 11) (by omega) rfl hi hk hdg (E' := eX G q (sa τ 11 k x) ζ ρ) (fun j hj => match j, hj with
  | 0, _ => rfl
  | 1, _ => rfl
  | 2, _ => rfl
  | 3, _ => rfl
  | 4, _ => rfl
  | 5, _ => rfl
  | 6, _ => rfl
  | 7, _ => rfl
  | 8, _ => rfl
  | 9, _ => rfl
  | 10, _ => rfl
  | 11, _ => rfl
  | 12, _ => rfl
  | 13, _ => rfl
  | 14, _ => rfl
  | 15, _ => rfl
  | 16, _ => rfl
  | 17, _ => rfl
  | 18, _ => rfl
  | 19, _ => rfl
  | 20, _ => rfl
  | 21, _ => rfl
  | 22, _ => rfl
  | 23, _ => rfl
  | 24, _ => rfl
  | 25, _ => rfl
  | 26, _ => rfl
  | 27, _ => rfl
  | j + 28, hj => (if_neg (by omega)).trans rfl) kk
theorem xL_12 (C : CX G p s m args c cc nL own (28 + 3 * nd) q) (hW : WB G (28 + 3 * nd) q (eX G q τ ζ ρ) s H locs) {i : Int32} (k : Nat) (hi : i.toInt = (k : Int)) (hk : k < 10) {v : Int32} (hv : τ.2.1 12 k = v) (hdg : decode cc pc = .ok (.iaload, 1)) (kk : W p l e R s m args below meth c H locs cells slots Q (F0 m (pc + 1) ls (.int v :: rest))) : W p l e R s m args below meth c H locs cells slots Q (F0 m pc ls (.int i :: .ref (q 12) :: rest)) := r_iald C hW (o := 12) (by omega) rfl hi hk hv hdg kk
theorem xS_12 (C : CX G p s m args c cc nL own (28 + 3 * nd) q) (hW : WB G (28 + 3 * nd) q (eX G q τ ζ ρ) s H locs) {i x : Int32} (k : Nat) (hi : i.toInt = (k : Int)) (hk : k < 10) (hdg : decode cc pc = .ok (.iastore, 1)) (kk : ∀ (H1 : Heap) (locs1 : List Loc), WB G (28 + 3 * nd) q (eX G q (sa τ 12 k x) ζ ρ) s H1 locs1 → W p l e R s m args below meth c H1 locs1 cells slots Q (F0 m (pc + 1) ls rest)) : W p l e R s m args below meth c H locs cells slots Q (F0 m pc ls (.int x :: .int i :: .ref (q 12) :: rest)) := r_iast C hW (o := 12) (by omega) rfl hi hk hdg (E' := eX G q (sa τ 12 k x) ζ ρ) (fun j hj => match j, hj with
  | 0, _ => rfl
  | 1, _ => rfl
  | 2, _ => rfl
  | 3, _ => rfl
  | 4, _ => rfl
  | 5, _ => rfl
  | 6, _ => rfl
  | 7, _ => rfl
  | 8, _ => rfl
  | 9, _ => rfl
  | 10, _ => rfl
  | 11, _ => rfl
  | 12, _ => rfl
  | 13, _ => rfl
  | 14, _ => rfl
  | 15, _ => rfl
  | 16, _ => rfl
  | 17, _ => rfl
  | 18, _ => rfl
  | 19, _ => rfl
  | 20, _ => rfl
  | 21, _ => rfl
  | 22, _ => rfl
  | 23, _ => rfl
  | 24, _ => rfl
  | 25, _ => rfl
  | 26, _ => rfl
  | 27, _ => rfl
  | j + 28, hj => (if_neg (by omega)).trans rfl) kk
theorem xL_13 (C : CX G p s m args c cc nL own (28 + 3 * nd) q) (hW : WB G (28 + 3 * nd) q (eX G q τ ζ ρ) s H locs) {i : Int32} (k : Nat) (hi : i.toInt = (k : Int)) (hk : k < 10) {v : Int32} (hv : τ.2.1 13 k = v) (hdg : decode cc pc = .ok (.iaload, 1)) (kk : W p l e R s m args below meth c H locs cells slots Q (F0 m (pc + 1) ls (.int v :: rest))) : W p l e R s m args below meth c H locs cells slots Q (F0 m pc ls (.int i :: .ref (q 13) :: rest)) := r_iald C hW (o := 13) (by omega) rfl hi hk hv hdg kk
theorem xS_13 (C : CX G p s m args c cc nL own (28 + 3 * nd) q) (hW : WB G (28 + 3 * nd) q (eX G q τ ζ ρ) s H locs) {i x : Int32} (k : Nat) (hi : i.toInt = (k : Int)) (hk : k < 10) (hdg : decode cc pc = .ok (.iastore, 1)) (kk : ∀ (H1 : Heap) (locs1 : List Loc), WB G (28 + 3 * nd) q (eX G q (sa τ 13 k x) ζ ρ) s H1 locs1 → W p l e R s m args below meth c H1 locs1 cells slots Q (F0 m (pc + 1) ls rest)) : W p l e R s m args below meth c H locs cells slots Q (F0 m pc ls (.int x :: .int i :: .ref (q 13) :: rest)) := r_iast C hW (o := 13) (by omega) rfl hi hk hdg (E' := eX G q (sa τ 13 k x) ζ ρ) (fun j hj => match j, hj with
  | 0, _ => rfl
  | 1, _ => rfl
  | 2, _ => rfl
  | 3, _ => rfl
  | 4, _ => rfl
  | 5, _ => rfl
  | 6, _ => rfl
  | 7, _ => rfl
  | 8, _ => rfl
  | 9, _ => rfl
  | 10, _ => rfl
  | 11, _ => rfl
  | 12, _ => rfl
  | 13, _ => rfl
  | 14, _ => rfl
  | 15, _ => rfl
  | 16, _ => rfl
  | 17, _ => rfl
  | 18, _ => rfl
  | 19, _ => rfl
  | 20, _ => rfl
  | 21, _ => rfl
  | 22, _ => rfl
  | 23, _ => rfl
  | 24, _ => rfl
  | 25, _ => rfl
  | 26, _ => rfl
  | 27, _ => rfl
  | j + 28, hj => (if_neg (by omega)).trans rfl) kk
theorem xL_15 (C : CX G p s m args c cc nL own (28 + 3 * nd) q) (hW : WB G (28 + 3 * nd) q (eX G q τ ζ ρ) s H locs) {i : Int32} (k : Nat) (hi : i.toInt = (k : Int)) (hk : k < 256) {v : Int64} (hv : τ.2.2 0 k = v) (hdg : decode cc pc = .ok (.laload, 1)) (kk : W p l e R s m args below meth c H locs cells slots Q (F0 m (pc + 1) ls (.long v :: rest))) : W p l e R s m args below meth c H locs cells slots Q (F0 m pc ls (.int i :: .ref (q 15) :: rest)) := r_lald C hW (o := 15) (by omega) rfl hi hk hv hdg kk
theorem xS_15 (C : CX G p s m args c cc nL own (28 + 3 * nd) q) (hW : WB G (28 + 3 * nd) q (eX G q τ ζ ρ) s H locs) {i : Int32} {x : Int64} (k : Nat) (hi : i.toInt = (k : Int)) (hk : k < 256) (hdg : decode cc pc = .ok (.lastore, 1)) (kk : ∀ (H1 : Heap) (locs1 : List Loc), WB G (28 + 3 * nd) q (eX G q (sb τ 0 k x) ζ ρ) s H1 locs1 → W p l e R s m args below meth c H1 locs1 cells slots Q (F0 m (pc + 1) ls rest)) : W p l e R s m args below meth c H locs cells slots Q (F0 m pc ls (.long x :: .int i :: .ref (q 15) :: rest)) := r_last C hW (o := 15) (by omega) rfl hi hk hdg (E' := eX G q (sb τ 0 k x) ζ ρ) (fun j hj => match j, hj with
  | 0, _ => rfl
  | 1, _ => rfl
  | 2, _ => rfl
  | 3, _ => rfl
  | 4, _ => rfl
  | 5, _ => rfl
  | 6, _ => rfl
  | 7, _ => rfl
  | 8, _ => rfl
  | 9, _ => rfl
  | 10, _ => rfl
  | 11, _ => rfl
  | 12, _ => rfl
  | 13, _ => rfl
  | 14, _ => rfl
  | 15, _ => rfl
  | 16, _ => rfl
  | 17, _ => rfl
  | 18, _ => rfl
  | 19, _ => rfl
  | 20, _ => rfl
  | 21, _ => rfl
  | 22, _ => rfl
  | 23, _ => rfl
  | 24, _ => rfl
  | 25, _ => rfl
  | 26, _ => rfl
  | 27, _ => rfl
  | j + 28, hj => (if_neg (by omega)).trans rfl) kk
theorem xL_16 (C : CX G p s m args c cc nL own (28 + 3 * nd) q) (hW : WB G (28 + 3 * nd) q (eX G q τ ζ ρ) s H locs) {i : Int32} (k : Nat) (hi : i.toInt = (k : Int)) (hk : k < 256) {v : Int32} (hv : ζ.2.1 2 k = v) (hdg : decode cc pc = .ok (.iaload, 1)) (kk : W p l e R s m args below meth c H locs cells slots Q (F0 m (pc + 1) ls (.int v :: rest))) : W p l e R s m args below meth c H locs cells slots Q (F0 m pc ls (.int i :: .ref (q 16) :: rest)) := r_iald C hW (o := 16) (by omega) rfl hi hk hv hdg kk
theorem xS_16 (C : CX G p s m args c cc nL own (28 + 3 * nd) q) (hW : WB G (28 + 3 * nd) q (eX G q τ ζ ρ) s H locs) {i x : Int32} (k : Nat) (hi : i.toInt = (k : Int)) (hk : k < 256) (hdg : decode cc pc = .ok (.iastore, 1)) (kk : ∀ (H1 : Heap) (locs1 : List Loc), WB G (28 + 3 * nd) q (eX G q τ (sa ζ 2 k x) ρ) s H1 locs1 → W p l e R s m args below meth c H1 locs1 cells slots Q (F0 m (pc + 1) ls rest)) : W p l e R s m args below meth c H locs cells slots Q (F0 m pc ls (.int x :: .int i :: .ref (q 16) :: rest)) := r_iast C hW (o := 16) (by omega) rfl hi hk hdg (E' := eX G q τ (sa ζ 2 k x) ρ) (fun j hj => match j, hj with
  | 0, _ => rfl
  | 1, _ => rfl
  | 2, _ => rfl
  | 3, _ => rfl
  | 4, _ => rfl
  | 5, _ => rfl
  | 6, _ => rfl
  | 7, _ => rfl
  | 8, _ => rfl
  | 9, _ => rfl
  | 10, _ => rfl
  | 11, _ => rfl
  | 12, _ => rfl
  | 13, _ => rfl
  | 14, _ => rfl
  | 15, _ => rfl
  | 16, _ => rfl
  | 17, _ => rfl
  | 18, _ => rfl
  | 19, _ => rfl
  | 20, _ => rfl
  | 21, _ => rfl
  | 22, _ => rfl
  | 23, _ => rfl
  | 24, _ => rfl
  | 25, _ => rfl
  | 26, _ => rfl
  | 27, _ => rfl
  | j + 28, hj => (if_neg (by omega)).trans rfl) kk
theorem xL_17 (C : CX G p s m args c cc nL own (28 + 3 * nd) q) (hW : WB G (28 + 3 * nd) q (eX G q τ ζ ρ) s H locs) {i : Int32} (k : Nat) (hi : i.toInt = (k : Int)) (hk : k < 200) {v : Int32} (hv : τ.2.1 14 k = v) (hdg : decode cc pc = .ok (.iaload, 1)) (kk : W p l e R s m args below meth c H locs cells slots Q (F0 m (pc + 1) ls (.int v :: rest))) : W p l e R s m args below meth c H locs cells slots Q (F0 m pc ls (.int i :: .ref (q 17) :: rest)) := r_iald C hW (o := 17) (by omega) rfl hi hk hv hdg kk
theorem xS_17 (C : CX G p s m args c cc nL own (28 + 3 * nd) q) (hW : WB G (28 + 3 * nd) q (eX G q τ ζ ρ) s H locs) {i x : Int32} (k : Nat) (hi : i.toInt = (k : Int)) (hk : k < 200) (hdg : decode cc pc = .ok (.iastore, 1)) (kk : ∀ (H1 : Heap) (locs1 : List Loc), WB G (28 + 3 * nd) q (eX G q (sa τ 14 k x) ζ ρ) s H1 locs1 → W p l e R s m args below meth c H1 locs1 cells slots Q (F0 m (pc + 1) ls rest)) : W p l e R s m args below meth c H locs cells slots Q (F0 m pc ls (.int x :: .int i :: .ref (q 17) :: rest)) := r_iast C hW (o := 17) (by omega) rfl hi hk hdg (E' := eX G q (sa τ 14 k x) ζ ρ) (fun j hj => match j, hj with
  | 0, _ => rfl
  | 1, _ => rfl
  | 2, _ => rfl
  | 3, _ => rfl
  | 4, _ => rfl
  | 5, _ => rfl
  | 6, _ => rfl
  | 7, _ => rfl
  | 8, _ => rfl
  | 9, _ => rfl
  | 10, _ => rfl
  | 11, _ => rfl
  | 12, _ => rfl
  | 13, _ => rfl
  | 14, _ => rfl
  | 15, _ => rfl
  | 16, _ => rfl
  | 17, _ => rfl
  | 18, _ => rfl
  | 19, _ => rfl
  | 20, _ => rfl
  | 21, _ => rfl
  | 22, _ => rfl
  | 23, _ => rfl
  | 24, _ => rfl
  | 25, _ => rfl
  | 26, _ => rfl
  | 27, _ => rfl
  | j + 28, hj => (if_neg (by omega)).trans rfl) kk
theorem xL_18 (C : CX G p s m args c cc nL own (28 + 3 * nd) q) (hW : WB G (28 + 3 * nd) q (eX G q τ ζ ρ) s H locs) {i : Int32} (k : Nat) (hi : i.toInt = (k : Int)) (hk : k < 200) {v : Int64} (hv : τ.2.2 1 k = v) (hdg : decode cc pc = .ok (.laload, 1)) (kk : W p l e R s m args below meth c H locs cells slots Q (F0 m (pc + 1) ls (.long v :: rest))) : W p l e R s m args below meth c H locs cells slots Q (F0 m pc ls (.int i :: .ref (q 18) :: rest)) := r_lald C hW (o := 18) (by omega) rfl hi hk hv hdg kk
theorem xS_18 (C : CX G p s m args c cc nL own (28 + 3 * nd) q) (hW : WB G (28 + 3 * nd) q (eX G q τ ζ ρ) s H locs) {i : Int32} {x : Int64} (k : Nat) (hi : i.toInt = (k : Int)) (hk : k < 200) (hdg : decode cc pc = .ok (.lastore, 1)) (kk : ∀ (H1 : Heap) (locs1 : List Loc), WB G (28 + 3 * nd) q (eX G q (sb τ 1 k x) ζ ρ) s H1 locs1 → W p l e R s m args below meth c H1 locs1 cells slots Q (F0 m (pc + 1) ls rest)) : W p l e R s m args below meth c H locs cells slots Q (F0 m pc ls (.long x :: .int i :: .ref (q 18) :: rest)) := r_last C hW (o := 18) (by omega) rfl hi hk hdg (E' := eX G q (sb τ 1 k x) ζ ρ) (fun j hj => match j, hj with
  | 0, _ => rfl
  | 1, _ => rfl
  | 2, _ => rfl
  | 3, _ => rfl
  | 4, _ => rfl
  | 5, _ => rfl
  | 6, _ => rfl
  | 7, _ => rfl
  | 8, _ => rfl
  | 9, _ => rfl
  | 10, _ => rfl
  | 11, _ => rfl
  | 12, _ => rfl
  | 13, _ => rfl
  | 14, _ => rfl
  | 15, _ => rfl
  | 16, _ => rfl
  | 17, _ => rfl
  | 18, _ => rfl
  | 19, _ => rfl
  | 20, _ => rfl
  | 21, _ => rfl
  | 22, _ => rfl
  | 23, _ => rfl
  | 24, _ => rfl
  | 25, _ => rfl
  | 26, _ => rfl
  | 27, _ => rfl
  | j + 28, hj => (if_neg (by omega)).trans rfl) kk
theorem xL_20 (C : CX G p s m args c cc nL own (28 + 3 * nd) q) (hW : WB G (28 + 3 * nd) q (eX G q τ ζ ρ) s H locs) {i : Int32} (k : Nat) (hi : i.toInt = (k : Int)) (hk : k < 60) {v : Int32} (hv : τ.2.1 18 k = v) (hdg : decode cc pc = .ok (.iaload, 1)) (kk : W p l e R s m args below meth c H locs cells slots Q (F0 m (pc + 1) ls (.int v :: rest))) : W p l e R s m args below meth c H locs cells slots Q (F0 m pc ls (.int i :: .ref (q 20) :: rest)) := r_iald C hW (o := 20) (by omega) rfl hi hk hv hdg kk
theorem xS_20 (C : CX G p s m args c cc nL own (28 + 3 * nd) q) (hW : WB G (28 + 3 * nd) q (eX G q τ ζ ρ) s H locs) {i x : Int32} (k : Nat) (hi : i.toInt = (k : Int)) (hk : k < 60) (hdg : decode cc pc = .ok (.iastore, 1)) (kk : ∀ (H1 : Heap) (locs1 : List Loc), WB G (28 + 3 * nd) q (eX G q (sa τ 18 k x) ζ ρ) s H1 locs1 → W p l e R s m args below meth c H1 locs1 cells slots Q (F0 m (pc + 1) ls rest)) : W p l e R s m args below meth c H locs cells slots Q (F0 m pc ls (.int x :: .int i :: .ref (q 20) :: rest)) := r_iast C hW (o := 20) (by omega) rfl hi hk hdg (E' := eX G q (sa τ 18 k x) ζ ρ) (fun j hj => match j, hj with
  | 0, _ => rfl
  | 1, _ => rfl
  | 2, _ => rfl
  | 3, _ => rfl
  | 4, _ => rfl
  | 5, _ => rfl
  | 6, _ => rfl
  | 7, _ => rfl
  | 8, _ => rfl
  | 9, _ => rfl
  | 10, _ => rfl
  | 11, _ => rfl
  | 12, _ => rfl
  | 13, _ => rfl
  | 14, _ => rfl
  | 15, _ => rfl
  | 16, _ => rfl
  | 17, _ => rfl
  | 18, _ => rfl
  | 19, _ => rfl
  | 20, _ => rfl
  | 21, _ => rfl
  | 22, _ => rfl
  | 23, _ => rfl
  | 24, _ => rfl
  | 25, _ => rfl
  | 26, _ => rfl
  | 27, _ => rfl
  | j + 28, hj => (if_neg (by omega)).trans rfl) kk
theorem xL_21 (C : CX G p s m args c cc nL own (28 + 3 * nd) q) (hW : WB G (28 + 3 * nd) q (eX G q τ ζ ρ) s H locs) {i : Int32} (k : Nat) (hi : i.toInt = (k : Int)) (hk : k < 60) {v : Int32} (hv : τ.2.1 19 k = v) (hdg : decode cc pc = .ok (.iaload, 1)) (kk : W p l e R s m args below meth c H locs cells slots Q (F0 m (pc + 1) ls (.int v :: rest))) : W p l e R s m args below meth c H locs cells slots Q (F0 m pc ls (.int i :: .ref (q 21) :: rest)) := r_iald C hW (o := 21) (by omega) rfl hi hk hv hdg kk
theorem xS_21 (C : CX G p s m args c cc nL own (28 + 3 * nd) q) (hW : WB G (28 + 3 * nd) q (eX G q τ ζ ρ) s H locs) {i x : Int32} (k : Nat) (hi : i.toInt = (k : Int)) (hk : k < 60) (hdg : decode cc pc = .ok (.iastore, 1)) (kk : ∀ (H1 : Heap) (locs1 : List Loc), WB G (28 + 3 * nd) q (eX G q (sa τ 19 k x) ζ ρ) s H1 locs1 → W p l e R s m args below meth c H1 locs1 cells slots Q (F0 m (pc + 1) ls rest)) : W p l e R s m args below meth c H locs cells slots Q (F0 m pc ls (.int x :: .int i :: .ref (q 21) :: rest)) := r_iast C hW (o := 21) (by omega) rfl hi hk hdg (E' := eX G q (sa τ 19 k x) ζ ρ) (fun j hj => match j, hj with
  | 0, _ => rfl
  | 1, _ => rfl
  | 2, _ => rfl
  | 3, _ => rfl
  | 4, _ => rfl
  | 5, _ => rfl
  | 6, _ => rfl
  | 7, _ => rfl
  | 8, _ => rfl
  | 9, _ => rfl
  | 10, _ => rfl
  | 11, _ => rfl
  | 12, _ => rfl
  | 13, _ => rfl
  | 14, _ => rfl
  | 15, _ => rfl
  | 16, _ => rfl
  | 17, _ => rfl
  | 18, _ => rfl
  | 19, _ => rfl
  | 20, _ => rfl
  | 21, _ => rfl
  | 22, _ => rfl
  | 23, _ => rfl
  | 24, _ => rfl
  | 25, _ => rfl
  | 26, _ => rfl
  | 27, _ => rfl
  | j + 28, hj => (if_neg (by omega)).trans rfl) kk
theorem xL_22 (C : CX G p s m args c cc nL own (28 + 3 * nd) q) (hW : WB G (28 + 3 * nd) q (eX G q τ ζ ρ) s H locs) {i : Int32} (k : Nat) (hi : i.toInt = (k : Int)) (hk : k < 60) {v : Int32} (hv : τ.2.1 20 k = v) (hdg : decode cc pc = .ok (.iaload, 1)) (kk : W p l e R s m args below meth c H locs cells slots Q (F0 m (pc + 1) ls (.int v :: rest))) : W p l e R s m args below meth c H locs cells slots Q (F0 m pc ls (.int i :: .ref (q 22) :: rest)) := r_iald C hW (o := 22) (by omega) rfl hi hk hv hdg kk
theorem xS_22 (C : CX G p s m args c cc nL own (28 + 3 * nd) q) (hW : WB G (28 + 3 * nd) q (eX G q τ ζ ρ) s H locs) {i x : Int32} (k : Nat) (hi : i.toInt = (k : Int)) (hk : k < 60) (hdg : decode cc pc = .ok (.iastore, 1)) (kk : ∀ (H1 : Heap) (locs1 : List Loc), WB G (28 + 3 * nd) q (eX G q (sa τ 20 k x) ζ ρ) s H1 locs1 → W p l e R s m args below meth c H1 locs1 cells slots Q (F0 m (pc + 1) ls rest)) : W p l e R s m args below meth c H locs cells slots Q (F0 m pc ls (.int x :: .int i :: .ref (q 22) :: rest)) := r_iast C hW (o := 22) (by omega) rfl hi hk hdg (E' := eX G q (sa τ 20 k x) ζ ρ) (fun j hj => match j, hj with
  | 0, _ => rfl
  | 1, _ => rfl
  | 2, _ => rfl
  | 3, _ => rfl
  | 4, _ => rfl
  | 5, _ => rfl
  | 6, _ => rfl
  | 7, _ => rfl
  | 8, _ => rfl
  | 9, _ => rfl
  | 10, _ => rfl
  | 11, _ => rfl
  | 12, _ => rfl
  | 13, _ => rfl
  | 14, _ => rfl
  | 15, _ => rfl
  | 16, _ => rfl
  | 17, _ => rfl
  | 18, _ => rfl
  | 19, _ => rfl
  | 20, _ => rfl
  | 21, _ => rfl
  | 22, _ => rfl
  | 23, _ => rfl
  | 24, _ => rfl
  | 25, _ => rfl
  | 26, _ => rfl
  | 27, _ => rfl
  | j + 28, hj => (if_neg (by omega)).trans rfl) kk
theorem xL_23 (C : CX G p s m args c cc nL own (28 + 3 * nd) q) (hW : WB G (28 + 3 * nd) q (eX G q τ ζ ρ) s H locs) {i : Int32} (k : Nat) (hi : i.toInt = (k : Int)) (hk : k < 8) {v : Int32} (hv : ζ.2.1 3 k = v) (hdg : decode cc pc = .ok (.iaload, 1)) (kk : W p l e R s m args below meth c H locs cells slots Q (F0 m (pc + 1) ls (.int v :: rest))) : W p l e R s m args below meth c H locs cells slots Q (F0 m pc ls (.int i :: .ref (q 23) :: rest)) := r_iald C hW (o := 23) (by omega) rfl hi hk hv hdg kk
theorem xS_23 (C : CX G p s m args c cc nL own (28 + 3 * nd) q) (hW : WB G (28 + 3 * nd) q (eX G q τ ζ ρ) s H locs) {i x : Int32} (k : Nat) (hi : i.toInt = (k : Int)) (hk : k < 8) (hdg : decode cc pc = .ok (.iastore, 1)) (kk : ∀ (H1 : Heap) (locs1 : List Loc), WB G (28 + 3 * nd) q (eX G q τ (sa ζ 3 k x) ρ) s H1 locs1 → W p l e R s m args below meth c H1 locs1 cells slots Q (F0 m (pc + 1) ls rest)) : W p l e R s m args below meth c H locs cells slots Q (F0 m pc ls (.int x :: .int i :: .ref (q 23) :: rest)) := r_iast C hW (o := 23) (by omega) rfl hi hk hdg (E' := eX G q τ (sa ζ 3 k x) ρ) (fun j hj => match j, hj with
  | 0, _ => rfl
  | 1, _ => rfl
  | 2, _ => rfl
  | 3, _ => rfl
  | 4, _ => rfl
  | 5, _ => rfl
  | 6, _ => rfl
  | 7, _ => rfl
  | 8, _ => rfl
  | 9, _ => rfl
  | 10, _ => rfl
  | 11, _ => rfl
  | 12, _ => rfl
  | 13, _ => rfl
  | 14, _ => rfl
  | 15, _ => rfl
  | 16, _ => rfl
  | 17, _ => rfl
  | 18, _ => rfl
  | 19, _ => rfl
  | 20, _ => rfl
  | 21, _ => rfl
  | 22, _ => rfl
  | 23, _ => rfl
  | 24, _ => rfl
  | 25, _ => rfl
  | 26, _ => rfl
  | 27, _ => rfl
  | j + 28, hj => (if_neg (by omega)).trans rfl) kk
theorem xL_24 (C : CX G p s m args c cc nL own (28 + 3 * nd) q) (hW : WB G (28 + 3 * nd) q (eX G q τ ζ ρ) s H locs) {i : Int32} (k : Nat) (hi : i.toInt = (k : Int)) (hk : k < 8) {v : Int32} (hv : ζ.2.1 4 k = v) (hdg : decode cc pc = .ok (.iaload, 1)) (kk : W p l e R s m args below meth c H locs cells slots Q (F0 m (pc + 1) ls (.int v :: rest))) : W p l e R s m args below meth c H locs cells slots Q (F0 m pc ls (.int i :: .ref (q 24) :: rest)) := r_iald C hW (o := 24) (by omega) rfl hi hk hv hdg kk
theorem xS_24 (C : CX G p s m args c cc nL own (28 + 3 * nd) q) (hW : WB G (28 + 3 * nd) q (eX G q τ ζ ρ) s H locs) {i x : Int32} (k : Nat) (hi : i.toInt = (k : Int)) (hk : k < 8) (hdg : decode cc pc = .ok (.iastore, 1)) (kk : ∀ (H1 : Heap) (locs1 : List Loc), WB G (28 + 3 * nd) q (eX G q τ (sa ζ 4 k x) ρ) s H1 locs1 → W p l e R s m args below meth c H1 locs1 cells slots Q (F0 m (pc + 1) ls rest)) : W p l e R s m args below meth c H locs cells slots Q (F0 m pc ls (.int x :: .int i :: .ref (q 24) :: rest)) := r_iast C hW (o := 24) (by omega) rfl hi hk hdg (E' := eX G q τ (sa ζ 4 k x) ρ) (fun j hj => match j, hj with
  | 0, _ => rfl
  | 1, _ => rfl
  | 2, _ => rfl
  | 3, _ => rfl
  | 4, _ => rfl
  | 5, _ => rfl
  | 6, _ => rfl
  | 7, _ => rfl
  | 8, _ => rfl
  | 9, _ => rfl
  | 10, _ => rfl
  | 11, _ => rfl
  | 12, _ => rfl
  | 13, _ => rfl
  | 14, _ => rfl
  | 15, _ => rfl
  | 16, _ => rfl
  | 17, _ => rfl
  | 18, _ => rfl
  | 19, _ => rfl
  | 20, _ => rfl
  | 21, _ => rfl
  | 22, _ => rfl
  | 23, _ => rfl
  | 24, _ => rfl
  | 25, _ => rfl
  | 26, _ => rfl
  | 27, _ => rfl
  | j + 28, hj => (if_neg (by omega)).trans rfl) kk
theorem xL_26 (C : CX G p s m args c cc nL own (28 + 3 * nd) q) (hW : WB G (28 + 3 * nd) q (eX G q τ ζ ρ) s H locs) {i : Int32} (k : Nat) (hi : i.toInt = (k : Int)) (hk : k < 60) {v : Int32} (hv : ζ.2.1 7 k = v) (hdg : decode cc pc = .ok (.iaload, 1)) (kk : W p l e R s m args below meth c H locs cells slots Q (F0 m (pc + 1) ls (.int v :: rest))) : W p l e R s m args below meth c H locs cells slots Q (F0 m pc ls (.int i :: .ref (q 26) :: rest)) := r_iald C hW (o := 26) (by omega) rfl hi hk hv hdg kk
theorem xS_26 (C : CX G p s m args c cc nL own (28 + 3 * nd) q) (hW : WB G (28 + 3 * nd) q (eX G q τ ζ ρ) s H locs) {i x : Int32} (k : Nat) (hi : i.toInt = (k : Int)) (hk : k < 60) (hdg : decode cc pc = .ok (.iastore, 1)) (kk : ∀ (H1 : Heap) (locs1 : List Loc), WB G (28 + 3 * nd) q (eX G q τ (sa ζ 7 k x) ρ) s H1 locs1 → W p l e R s m args below meth c H1 locs1 cells slots Q (F0 m (pc + 1) ls rest)) : W p l e R s m args below meth c H locs cells slots Q (F0 m pc ls (.int x :: .int i :: .ref (q 26) :: rest)) := r_iast C hW (o := 26) (by omega) rfl hi hk hdg (E' := eX G q τ (sa ζ 7 k x) ρ) (fun j hj => match j, hj with
  | 0, _ => rfl
  | 1, _ => rfl
  | 2, _ => rfl
  | 3, _ => rfl
  | 4, _ => rfl
  | 5, _ => rfl
  | 6, _ => rfl
  | 7, _ => rfl
  | 8, _ => rfl
  | 9, _ => rfl
  | 10, _ => rfl
  | 11, _ => rfl
  | 12, _ => rfl
  | 13, _ => rfl
  | 14, _ => rfl
  | 15, _ => rfl
  | 16, _ => rfl
  | 17, _ => rfl
  | 18, _ => rfl
  | 19, _ => rfl
  | 20, _ => rfl
  | 21, _ => rfl
  | 22, _ => rfl
  | 23, _ => rfl
  | 24, _ => rfl
  | 25, _ => rfl
  | 26, _ => rfl
  | 27, _ => rfl
  | j + 28, hj => (if_neg (by omega)).trans rfl) kk
theorem xL_27 (C : CX G p s m args c cc nL own (28 + 3 * nd) q) (hW : WB G (28 + 3 * nd) q (eX G q τ ζ ρ) s H locs) {i : Int32} (k : Nat) (hi : i.toInt = (k : Int)) (hk : k < 8) {v : Int32} (hv : τ.2.1 21 k = v) (hdg : decode cc pc = .ok (.iaload, 1)) (kk : W p l e R s m args below meth c H locs cells slots Q (F0 m (pc + 1) ls (.int v :: rest))) : W p l e R s m args below meth c H locs cells slots Q (F0 m pc ls (.int i :: .ref (q 27) :: rest)) := r_iald C hW (o := 27) (by omega) rfl hi hk hv hdg kk
theorem xS_27 (C : CX G p s m args c cc nL own (28 + 3 * nd) q) (hW : WB G (28 + 3 * nd) q (eX G q τ ζ ρ) s H locs) {i x : Int32} (k : Nat) (hi : i.toInt = (k : Int)) (hk : k < 8) (hdg : decode cc pc = .ok (.iastore, 1)) (kk : ∀ (H1 : Heap) (locs1 : List Loc), WB G (28 + 3 * nd) q (eX G q (sa τ 21 k x) ζ ρ) s H1 locs1 → W p l e R s m args below meth c H1 locs1 cells slots Q (F0 m (pc + 1) ls rest)) : W p l e R s m args below meth c H locs cells slots Q (F0 m pc ls (.int x :: .int i :: .ref (q 27) :: rest)) := r_iast C hW (o := 27) (by omega) rfl hi hk hdg (E' := eX G q (sa τ 21 k x) ζ ρ) (fun j hj => match j, hj with
  | 0, _ => rfl
  | 1, _ => rfl
  | 2, _ => rfl
  | 3, _ => rfl
  | 4, _ => rfl
  | 5, _ => rfl
  | 6, _ => rfl
  | 7, _ => rfl
  | 8, _ => rfl
  | 9, _ => rfl
  | 10, _ => rfl
  | 11, _ => rfl
  | 12, _ => rfl
  | 13, _ => rfl
  | 14, _ => rfl
  | 15, _ => rfl
  | 16, _ => rfl
  | 17, _ => rfl
  | 18, _ => rfl
  | 19, _ => rfl
  | 20, _ => rfl
  | 21, _ => rfl
  | 22, _ => rfl
  | 23, _ => rfl
  | 24, _ => rfl
  | 25, _ => rfl
  | 26, _ => rfl
  | 27, _ => rfl
  | j + 28, hj => (if_neg (by omega)).trans rfl) kk
theorem xG_Dish_x (C : CX G p s m args c cc nL own (28 + 3 * nd) q) (hW : WB G (28 + 3 * nd) q (eX G q τ ζ ρ) s H locs) (i : Nat) (hi : i < nd) (hl : Cond.fieldLink own idx RX1 "x" "I" ∈ BIG) {v : Int32} (hv : τ.2.1 0 i = v) (hdg : decode cc pc = .ok (.getfield idx, 3)) (kk : W p l e R s m args below meth c H locs cells slots Q (F0 m (pc + 3) ls (.int v :: rest))) : W p l e R s m args below meth c H locs cells slots Q (F0 m pc ls (.ref (q (28 + 3 * i)) :: rest)) := by
  subst hv
  exact r_get C hW (o := 28 + 3 * i) (k := 0) (by omega) (eX_obj G q τ ζ ρ i) rfl (by decide) hl rfl inB_X1 rfl hdg kk
theorem xG_Dish_y (C : CX G p s m args c cc nL own (28 + 3 * nd) q) (hW : WB G (28 + 3 * nd) q (eX G q τ ζ ρ) s H locs) (i : Nat) (hi : i < nd) (hl : Cond.fieldLink own idx RX1 "y" "I" ∈ BIG) {v : Int32} (hv : τ.2.1 1 i = v) (hdg : decode cc pc = .ok (.getfield idx, 3)) (kk : W p l e R s m args below meth c H locs cells slots Q (F0 m (pc + 3) ls (.int v :: rest))) : W p l e R s m args below meth c H locs cells slots Q (F0 m pc ls (.ref (q (28 + 3 * i)) :: rest)) := by
  subst hv
  exact r_get C hW (o := 28 + 3 * i) (k := 1) (by omega) (eX_obj G q τ ζ ρ i) rfl (by decide) hl rfl inB_X1 rfl hdg kk
theorem xG_Dish_delay (C : CX G p s m args c cc nL own (28 + 3 * nd) q) (hW : WB G (28 + 3 * nd) q (eX G q τ ζ ρ) s H locs) (i : Nat) (hi : i < nd) (hl : Cond.fieldLink own idx RX1 "delay" "I" ∈ BIG) {v : Int32} (hv : τ.2.1 2 i = v) (hdg : decode cc pc = .ok (.getfield idx, 3)) (kk : W p l e R s m args below meth c H locs cells slots Q (F0 m (pc + 3) ls (.int v :: rest))) : W p l e R s m args below meth c H locs cells slots Q (F0 m pc ls (.ref (q (28 + 3 * i)) :: rest)) := by
  subst hv
  exact r_get C hW (o := 28 + 3 * i) (k := 2) (by omega) (eX_obj G q τ ζ ρ i) rfl (by decide) hl rfl inB_X1 rfl hdg kk
theorem xP_Dish_delay (C : CX G p s m args c cc nL own (28 + 3 * nd) q) (hW : WB G (28 + 3 * nd) q (eX G q τ ζ ρ) s H locs) (i : Nat) (hi : i < nd) (hl : Cond.fieldLink own idx RX1 "delay" "I" ∈ BIG) {v : Int32} (hdg : decode cc pc = .ok (.putfield idx, 3)) (kk : ∀ (H1 : Heap) (locs1 : List Loc), WB G (28 + 3 * nd) q (eX G q (sa τ 2 i v) ζ ρ) s H1 locs1 → W p l e R s m args below meth c H1 locs1 cells slots Q (F0 m (pc + 3) ls rest)) : W p l e R s m args below meth c H locs cells slots Q (F0 m pc ls (.int v :: .ref (q (28 + 3 * i)) :: rest)) := r_put C hW (o := 28 + 3 * i) (k := 2) (ty := .int) (by omega) (eX_obj G q τ ζ ρ i) rfl (by decide) hl rfl inB_X1 tyX1 tyX1_ok nmX1 rfl (by decide +kernel) rfl rfl (Nat.le_of_ble_eq_true rfl) hdg (E' := eX G q (sa τ 2 i v) ζ ρ) (eX_putO (by simp [dObj, sa, va_up, upd]) (fun k hk => match k, hk with
  | 0, _ => rfl
  | 1, _ => rfl
  | 2, _ => rfl
  | 3, _ => rfl
  | 4, _ => rfl
  | 5, _ => rfl
  | 6, _ => rfl
  | 7, _ => rfl
  | 8, _ => rfl
  | 9, _ => rfl
  | 10, _ => rfl
  | 11, _ => rfl
  | 12, _ => rfl
  | 13, _ => rfl
  | 14, _ => rfl
  | 15, _ => rfl
  | 16, _ => rfl
  | 17, _ => rfl
  | 18, _ => rfl
  | 19, _ => rfl
  | 20, _ => rfl
  | 21, _ => rfl
  | 22, _ => rfl
  | 23, _ => rfl
  | 24, _ => rfl
  | 25, _ => rfl
  | 26, _ => rfl
  | 27, _ => rfl
  | k + 28, hk => absurd hk (by omega)) (fun z hz => by simp [dObj, sa, va_up, upd, hz]) rfl rfl) kk
theorem xG_Dish_gain (C : CX G p s m args c cc nL own (28 + 3 * nd) q) (hW : WB G (28 + 3 * nd) q (eX G q τ ζ ρ) s H locs) (i : Nat) (hi : i < nd) (hl : Cond.fieldLink own idx RX1 "gain" "I" ∈ BIG) {v : Int32} (hv : τ.2.1 3 i = v) (hdg : decode cc pc = .ok (.getfield idx, 3)) (kk : W p l e R s m args below meth c H locs cells slots Q (F0 m (pc + 3) ls (.int v :: rest))) : W p l e R s m args below meth c H locs cells slots Q (F0 m pc ls (.ref (q (28 + 3 * i)) :: rest)) := by
  subst hv
  exact r_get C hW (o := 28 + 3 * i) (k := 3) (by omega) (eX_obj G q τ ζ ρ i) rfl (by decide) hl rfl inB_X1 rfl hdg kk
theorem xP_Dish_gain (C : CX G p s m args c cc nL own (28 + 3 * nd) q) (hW : WB G (28 + 3 * nd) q (eX G q τ ζ ρ) s H locs) (i : Nat) (hi : i < nd) (hl : Cond.fieldLink own idx RX1 "gain" "I" ∈ BIG) {v : Int32} (hdg : decode cc pc = .ok (.putfield idx, 3)) (kk : ∀ (H1 : Heap) (locs1 : List Loc), WB G (28 + 3 * nd) q (eX G q (sa τ 3 i v) ζ ρ) s H1 locs1 → W p l e R s m args below meth c H1 locs1 cells slots Q (F0 m (pc + 3) ls rest)) : W p l e R s m args below meth c H locs cells slots Q (F0 m pc ls (.int v :: .ref (q (28 + 3 * i)) :: rest)) := r_put C hW (o := 28 + 3 * i) (k := 3) (ty := .int) (by omega) (eX_obj G q τ ζ ρ i) rfl (by decide) hl rfl inB_X1 tyX1 tyX1_ok nmX1 rfl (by decide +kernel) rfl rfl (Nat.le_of_ble_eq_true rfl) hdg (E' := eX G q (sa τ 3 i v) ζ ρ) (eX_putO (by simp [dObj, sa, va_up, upd]) (fun k hk => match k, hk with
  | 0, _ => rfl
  | 1, _ => rfl
  | 2, _ => rfl
  | 3, _ => rfl
  | 4, _ => rfl
  | 5, _ => rfl
  | 6, _ => rfl
  | 7, _ => rfl
  | 8, _ => rfl
  | 9, _ => rfl
  | 10, _ => rfl
  | 11, _ => rfl
  | 12, _ => rfl
  | 13, _ => rfl
  | 14, _ => rfl
  | 15, _ => rfl
  | 16, _ => rfl
  | 17, _ => rfl
  | 18, _ => rfl
  | 19, _ => rfl
  | 20, _ => rfl
  | 21, _ => rfl
  | 22, _ => rfl
  | 23, _ => rfl
  | 24, _ => rfl
  | 25, _ => rfl
  | 26, _ => rfl
  | 27, _ => rfl
  | k + 28, hk => absurd hk (by omega)) (fun z hz => by simp [dObj, sa, va_up, upd, hz]) rfl rfl) kk
theorem xG_Dish_form (C : CX G p s m args c cc nL own (28 + 3 * nd) q) (hW : WB G (28 + 3 * nd) q (eX G q τ ζ ρ) s H locs) (i : Nat) (hi : i < nd) (hl : Cond.fieldLink own idx RX1 "form" "I" ∈ BIG) {v : Int32} (hv : τ.2.1 5 i = v) (hdg : decode cc pc = .ok (.getfield idx, 3)) (kk : W p l e R s m args below meth c H locs cells slots Q (F0 m (pc + 3) ls (.int v :: rest))) : W p l e R s m args below meth c H locs cells slots Q (F0 m pc ls (.ref (q (28 + 3 * i)) :: rest)) := by
  subst hv
  exact r_get C hW (o := 28 + 3 * i) (k := 4) (by omega) (eX_obj G q τ ζ ρ i) rfl (by decide) hl rfl inB_X1 rfl hdg kk
theorem xP_Dish_form (C : CX G p s m args c cc nL own (28 + 3 * nd) q) (hW : WB G (28 + 3 * nd) q (eX G q τ ζ ρ) s H locs) (i : Nat) (hi : i < nd) (hl : Cond.fieldLink own idx RX1 "form" "I" ∈ BIG) {v : Int32} (hdg : decode cc pc = .ok (.putfield idx, 3)) (kk : ∀ (H1 : Heap) (locs1 : List Loc), WB G (28 + 3 * nd) q (eX G q (sa τ 5 i v) ζ ρ) s H1 locs1 → W p l e R s m args below meth c H1 locs1 cells slots Q (F0 m (pc + 3) ls rest)) : W p l e R s m args below meth c H locs cells slots Q (F0 m pc ls (.int v :: .ref (q (28 + 3 * i)) :: rest)) := r_put C hW (o := 28 + 3 * i) (k := 4) (ty := .int) (by omega) (eX_obj G q τ ζ ρ i) rfl (by decide) hl rfl inB_X1 tyX1 tyX1_ok nmX1 rfl (by decide +kernel) rfl rfl (Nat.le_of_ble_eq_true rfl) hdg (E' := eX G q (sa τ 5 i v) ζ ρ) (eX_putO (by simp [dObj, sa, va_up, upd]) (fun k hk => match k, hk with
  | 0, _ => rfl
  | 1, _ => rfl
  | 2, _ => rfl
  | 3, _ => rfl
  | 4, _ => rfl
  | 5, _ => rfl
  | 6, _ => rfl
  | 7, _ => rfl
  | 8, _ => rfl
  | 9, _ => rfl
  | 10, _ => rfl
  | 11, _ => rfl
  | 12, _ => rfl
  | 13, _ => rfl
  | 14, _ => rfl
  | 15, _ => rfl
  | 16, _ => rfl
  | 17, _ => rfl
  | 18, _ => rfl
  | 19, _ => rfl
  | 20, _ => rfl
  | 21, _ => rfl
  | 22, _ => rfl
  | 23, _ => rfl
  | 24, _ => rfl
  | 25, _ => rfl
  | 26, _ => rfl
  | 27, _ => rfl
  | k + 28, hk => absurd hk (by omega)) (fun z hz => by simp [dObj, sa, va_up, upd, hz]) rfl rfl) kk
theorem xG_Dish_length (C : CX G p s m args c cc nL own (28 + 3 * nd) q) (hW : WB G (28 + 3 * nd) q (eX G q τ ζ ρ) s H locs) (i : Nat) (hi : i < nd) (hl : Cond.fieldLink own idx RX1 "length" "I" ∈ BIG) {v : Int32} (hv : ζ.2.1 0 i = v) (hdg : decode cc pc = .ok (.getfield idx, 3)) (kk : W p l e R s m args below meth c H locs cells slots Q (F0 m (pc + 3) ls (.int v :: rest))) : W p l e R s m args below meth c H locs cells slots Q (F0 m pc ls (.ref (q (28 + 3 * i)) :: rest)) := by
  subst hv
  exact r_get C hW (o := 28 + 3 * i) (k := 5) (by omega) (eX_obj G q τ ζ ρ i) rfl (by decide) hl rfl inB_X1 rfl hdg kk
theorem xP_Dish_length (C : CX G p s m args c cc nL own (28 + 3 * nd) q) (hW : WB G (28 + 3 * nd) q (eX G q τ ζ ρ) s H locs) (i : Nat) (hi : i < nd) (hl : Cond.fieldLink own idx RX1 "length" "I" ∈ BIG) {v : Int32} (hdg : decode cc pc = .ok (.putfield idx, 3)) (kk : ∀ (H1 : Heap) (locs1 : List Loc), WB G (28 + 3 * nd) q (eX G q τ (sa ζ 0 i v) ρ) s H1 locs1 → W p l e R s m args below meth c H1 locs1 cells slots Q (F0 m (pc + 3) ls rest)) : W p l e R s m args below meth c H locs cells slots Q (F0 m pc ls (.int v :: .ref (q (28 + 3 * i)) :: rest)) := r_put C hW (o := 28 + 3 * i) (k := 5) (ty := .int) (by omega) (eX_obj G q τ ζ ρ i) rfl (by decide) hl rfl inB_X1 tyX1 tyX1_ok nmX1 rfl (by decide +kernel) rfl rfl (Nat.le_of_ble_eq_true rfl) hdg (E' := eX G q τ (sa ζ 0 i v) ρ) (eX_putO (by simp [dObj, sa, va_up, upd]) (fun k hk => match k, hk with
  | 0, _ => rfl
  | 1, _ => rfl
  | 2, _ => rfl
  | 3, _ => rfl
  | 4, _ => rfl
  | 5, _ => rfl
  | 6, _ => rfl
  | 7, _ => rfl
  | 8, _ => rfl
  | 9, _ => rfl
  | 10, _ => rfl
  | 11, _ => rfl
  | 12, _ => rfl
  | 13, _ => rfl
  | 14, _ => rfl
  | 15, _ => rfl
  | 16, _ => rfl
  | 17, _ => rfl
  | 18, _ => rfl
  | 19, _ => rfl
  | 20, _ => rfl
  | 21, _ => rfl
  | 22, _ => rfl
  | 23, _ => rfl
  | 24, _ => rfl
  | 25, _ => rfl
  | 26, _ => rfl
  | 27, _ => rfl
  | k + 28, hk => absurd hk (by omega)) (fun z hz => by simp [dObj, sa, va_up, upd, hz]) rfl rfl) kk
theorem xG_Dish_items (C : CX G p s m args c cc nL own (28 + 3 * nd) q) (hW : WB G (28 + 3 * nd) q (eX G q τ ζ ρ) s H locs) (i : Nat) (hi : i < nd) (hl : Cond.fieldLink own idx RX1 "items" "[I" ∈ BIG) (hdg : decode cc pc = .ok (.getfield idx, 3)) (kk : W p l e R s m args below meth c H locs cells slots Q (F0 m (pc + 3) ls (.ref (q (29 + 3 * i)) :: rest))) : W p l e R s m args below meth c H locs cells slots Q (F0 m pc ls (.ref (q (28 + 3 * i)) :: rest)) := r_get C hW (o := 28 + 3 * i) (k := 6) (by omega) (eX_obj G q τ ζ ρ i) rfl (by decide) hl rfl inB_X1 rfl hdg kk
theorem xG_Dish_flagged (C : CX G p s m args c cc nL own (28 + 3 * nd) q) (hW : WB G (28 + 3 * nd) q (eX G q τ ζ ρ) s H locs) (i : Nat) (hi : i < nd) (hl : Cond.fieldLink own idx RX1 "flagged" "[I" ∈ BIG) (hdg : decode cc pc = .ok (.getfield idx, 3)) (kk : W p l e R s m args below meth c H locs cells slots Q (F0 m (pc + 3) ls (.ref (q (30 + 3 * i)) :: rest))) : W p l e R s m args below meth c H locs cells slots Q (F0 m pc ls (.ref (q (28 + 3 * i)) :: rest)) := r_get C hW (o := 28 + 3 * i) (k := 7) (by omega) (eX_obj G q τ ζ ρ i) rfl (by decide) hl rfl inB_X1 rfl hdg kk
theorem dIt_at (τ : ST) (i : Nat) {k : Nat} (hk : k < 100) : dIt τ i k = τ.2.1 7 (100 * i + k) := if_pos hk
theorem dIt_put (τ : ST) (i k : Nat) (x : Int32) (hk : k < 100) : dIt (sa τ 7 (100 * i + k) x) i = upd (dIt τ i) k x := by
  funext z
  simp only [dIt, sa, va_up, upd, if_true]
  by_cases h : z = k
  · rw [if_pos h, if_pos (by omega), if_pos (by omega)]
  · rw [if_neg h]
    by_cases h2 : z < 100
    · rw [if_pos h2, if_pos h2, if_neg (by omega)]
    · rw [if_neg h2, if_neg h2]
theorem dIt_oth (τ : ST) (i k z : Nat) (x : Int32) (hk : k < 100) (hz : z ≠ i) : dIt τ z = dIt (sa τ 7 (100 * i + k) x) z := by
  funext y
  simp only [dIt, sa, va_up, upd, if_true]
  by_cases h2 : y < 100
  · rw [if_pos h2, if_pos h2, if_neg (by omega)]
  · rw [if_neg h2, if_neg h2]
theorem xL_items (C : CX G p s m args c cc nL own (28 + 3 * nd) q) (hW : WB G (28 + 3 * nd) q (eX G q τ ζ ρ) s H locs) (i : Nat) (hi : i < nd) {j : Int32} (k : Nat) (hj : j.toInt = (k : Int)) (hk : k < 100) {v : Int32} (hv : τ.2.1 7 (100 * i + k) = v) (hdg : decode cc pc = .ok (.iaload, 1)) (kk : W p l e R s m args below meth c H locs cells slots Q (F0 m (pc + 1) ls (.int v :: rest))) : W p l e R s m args below meth c H locs cells slots Q (F0 m pc ls (.int j :: .ref (q (29 + 3 * i)) :: rest)) := r_iald C hW (o := 29 + 3 * i) (by omega) (eX_it G q τ ζ ρ i) hj hk ((dIt_at τ i hk).trans hv) hdg kk
theorem xS_items (C : CX G p s m args c cc nL own (28 + 3 * nd) q) (hW : WB G (28 + 3 * nd) q (eX G q τ ζ ρ) s H locs) (hnd : nd ≤ 6) (i : Nat) (hi : i < nd) {j x : Int32} (k : Nat) (hj : j.toInt = (k : Int)) (hk : k < 100) (hdg : decode cc pc = .ok (.iastore, 1)) (kk : ∀ (H1 : Heap) (locs1 : List Loc), WB G (28 + 3 * nd) q (eX G q (sa τ 7 (100 * i + k) x) ζ ρ) s H1 locs1 → W p l e R s m args below meth c H1 locs1 cells slots Q (F0 m (pc + 1) ls rest)) : W p l e R s m args below meth c H locs cells slots Q (F0 m pc ls (.int x :: .int j :: .ref (q (29 + 3 * i)) :: rest)) := r_iast C hW (o := 29 + 3 * i) (by omega) (eX_it G q τ ζ ρ i) hj hk hdg (E' := eX G q (sa τ 7 (100 * i + k) x) ζ ρ) (eX_putI (dIt_put τ i k x hk) (fun k hk => match k, hk with
  | 0, _ => rfl
  | 1, _ => rfl
  | 2, _ => rfl
  | 3, _ => rfl
  | 4, _ => rfl
  | 5, _ => rfl
  | 6, _ => rfl
  | 7, _ => rfl
  | 8, _ => rfl
  | 9, _ => rfl
  | 10, _ => rfl
  | 11, _ => rfl
  | 12, _ => rfl
  | 13, _ => rfl
  | 14, _ => rfl
  | 15, _ => rfl
  | 16, _ => rfl
  | 17, _ => rfl
  | 18, _ => rfl
  | 19, _ => rfl
  | 20, _ => rfl
  | 21, _ => rfl
  | 22, _ => rfl
  | 23, _ => rfl
  | 24, _ => rfl
  | 25, _ => rfl
  | 26, _ => rfl
  | 27, _ => rfl
  | k + 28, hk => absurd hk (by omega)) rfl (fun z hz _ => dIt_oth τ i k z x hk hz) rfl (by omega)) kk
theorem dFl_at (ζ : ST) (i : Nat) {k : Nat} (hk : k < 100) : dFl ζ i k = ζ.2.1 1 (100 * i + k) := if_pos hk
theorem dFl_put (ζ : ST) (i k : Nat) (x : Int32) (hk : k < 100) : dFl (sa ζ 1 (100 * i + k) x) i = upd (dFl ζ i) k x := by
  funext z
  simp only [dFl, sa, va_up, upd, if_true]
  by_cases h : z = k
  · rw [if_pos h, if_pos (by omega), if_pos (by omega)]
  · rw [if_neg h]
    by_cases h2 : z < 100
    · rw [if_pos h2, if_pos h2, if_neg (by omega)]
    · rw [if_neg h2, if_neg h2]
theorem dFl_oth (ζ : ST) (i k z : Nat) (x : Int32) (hk : k < 100) (hz : z ≠ i) : dFl ζ z = dFl (sa ζ 1 (100 * i + k) x) z := by
  funext y
  simp only [dFl, sa, va_up, upd, if_true]
  by_cases h2 : y < 100
  · rw [if_pos h2, if_pos h2, if_neg (by omega)]
  · rw [if_neg h2, if_neg h2]
theorem xL_flagged (C : CX G p s m args c cc nL own (28 + 3 * nd) q) (hW : WB G (28 + 3 * nd) q (eX G q τ ζ ρ) s H locs) (i : Nat) (hi : i < nd) {j : Int32} (k : Nat) (hj : j.toInt = (k : Int)) (hk : k < 100) {v : Int32} (hv : ζ.2.1 1 (100 * i + k) = v) (hdg : decode cc pc = .ok (.iaload, 1)) (kk : W p l e R s m args below meth c H locs cells slots Q (F0 m (pc + 1) ls (.int v :: rest))) : W p l e R s m args below meth c H locs cells slots Q (F0 m pc ls (.int j :: .ref (q (30 + 3 * i)) :: rest)) := r_iald C hW (o := 30 + 3 * i) (by omega) (eX_fl G q τ ζ ρ i) hj hk ((dFl_at ζ i hk).trans hv) hdg kk
theorem xS_flagged (C : CX G p s m args c cc nL own (28 + 3 * nd) q) (hW : WB G (28 + 3 * nd) q (eX G q τ ζ ρ) s H locs) (hnd : nd ≤ 6) (i : Nat) (hi : i < nd) {j x : Int32} (k : Nat) (hj : j.toInt = (k : Int)) (hk : k < 100) (hdg : decode cc pc = .ok (.iastore, 1)) (kk : ∀ (H1 : Heap) (locs1 : List Loc), WB G (28 + 3 * nd) q (eX G q τ (sa ζ 1 (100 * i + k) x) ρ) s H1 locs1 → W p l e R s m args below meth c H1 locs1 cells slots Q (F0 m (pc + 1) ls rest)) : W p l e R s m args below meth c H locs cells slots Q (F0 m pc ls (.int x :: .int j :: .ref (q (30 + 3 * i)) :: rest)) := r_iast C hW (o := 30 + 3 * i) (by omega) (eX_fl G q τ ζ ρ i) hj hk hdg (E' := eX G q τ (sa ζ 1 (100 * i + k) x) ρ) (eX_putL (dFl_put ζ i k x hk) (fun k hk => match k, hk with
  | 0, _ => rfl
  | 1, _ => rfl
  | 2, _ => rfl
  | 3, _ => rfl
  | 4, _ => rfl
  | 5, _ => rfl
  | 6, _ => rfl
  | 7, _ => rfl
  | 8, _ => rfl
  | 9, _ => rfl
  | 10, _ => rfl
  | 11, _ => rfl
  | 12, _ => rfl
  | 13, _ => rfl
  | 14, _ => rfl
  | 15, _ => rfl
  | 16, _ => rfl
  | 17, _ => rfl
  | 18, _ => rfl
  | 19, _ => rfl
  | 20, _ => rfl
  | 21, _ => rfl
  | 22, _ => rfl
  | 23, _ => rfl
  | 24, _ => rfl
  | 25, _ => rfl
  | 26, _ => rfl
  | 27, _ => rfl
  | k + 28, hk => absurd hk (by omega)) rfl rfl (fun z hz _ => dFl_oth ζ i k z x hk hz) (by omega)) kk
end XROWS
