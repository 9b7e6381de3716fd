/-! nights: one order, and a run -/
def tn32 (az a : Int32) : Int32 := ((if 180 < ((a - az + 360) - (a - az + 360) / 360 * 360).toInt then 360 - ((a - az + 360) - (a - az + 360) / 360 * 360) else ((a - az + 360) - (a - az + 360) / 360 * 360)) + 5) / 6
def lenO (τ : ST) (k : Nat) : Int32 := if (τ.2.1 18 k).toInt = 0 ∨ (τ.2.1 18 k).toInt = 2 then τ.2.1 19 k else if (τ.2.1 18 k).toInt = 1 ∨ (τ.2.1 18 k).toInt = 5 then tn32 (τ.1 11) (τ.2.1 19 k) else 0
def upP (τ : ST) (z : Nat) (t : Int) : Prop := (τ.2.1 15 z).toInt = 0 ∨ ((τ.2.1 16 z).toInt ≤ t % 1440 ∧ t % 1440 ≤ (τ.2.1 17 z).toInt - 1)
def upA (τ : ST) (k : Nat) : Prop := ∀ j : Nat, (j : Int) < (τ.2.1 19 k).toInt → upP τ (τ.2.1 20 k).toInt.toNat ((τ.1 10).toInt + j)
def frO (τ : ST) (k : Nat) : Int32 := if (τ.1 10 + τ.2.1 19 k - (if (τ.1 10).toInt < (τ.1 16).toInt then τ.1 16 else τ.1 10)).toInt < 0 then 0 else τ.1 10 + τ.2.1 19 k - (if (τ.1 10).toInt < (τ.1 16).toInt then τ.1 16 else τ.1 10)
def dnT (τ : ST) (k : Nat) : ST :=
  if (τ.2.1 18 k).toInt = 3 then sg τ 13 (τ.1 13 + 1)
  else if (τ.2.1 18 k).toInt = 4 then sg (sg (sg τ 13 (τ.1 13 + 1)) 16 (if (τ.1 16).toInt < (τ.1 10 + τ.2.1 19 k).toInt then τ.1 10 + τ.2.1 19 k else τ.1 16)) 10 (τ.1 10 + lenO τ k)
  else if (τ.2.1 18 k).toInt = 1 ∨ (τ.2.1 18 k).toInt = 5 then sg (sg (sg (sg τ 13 (τ.1 13 + 1)) 15 (τ.1 15 + lenO τ k)) 11 (τ.2.1 19 k)) 10 (τ.1 10 + lenO τ k)
  else if (τ.2.1 18 k).toInt = 2 then sg (sa (sg (sg τ 13 (τ.1 13 + 1)) 12 (τ.1 12 + frO τ k)) 21 (τ.2.1 20 k).toInt.toNat (τ.2.1 21 (τ.2.1 20 k).toInt.toNat + frO τ k)) 10 (τ.1 10 + lenO τ k)
  else sg (sg τ 13 (τ.1 13 + 1)) 10 (τ.1 10 + lenO τ k)
def dnL (τ : ST) (f : Nat → Int32) (k : Nat) : Nat → Int32 := if (τ.2.1 18 k).toInt = 3 then (if 0 < (f k).toInt then upd f k (f k - 1) else upd f k (τ.2.1 20 k)) else f
def dnK (τ : ST) (f : Nat → Int32) (k : Nat) : Nat := if (τ.2.1 18 k).toInt = 3 ∧ 0 < (f k).toInt then (τ.2.1 19 k).toInt.toNat else k + 1
/-- an order as told -/
def okK (τ : ST) (k : Nat) : Prop := ((τ.2.1 18 k).toInt = 0 ∧ 0 ≤ (τ.2.1 19 k).toInt ∧ (τ.2.1 19 k).toInt ≤ 600) ∨ ((τ.2.1 18 k).toInt = 1 ∧ 0 ≤ (τ.2.1 19 k).toInt ∧ (τ.2.1 19 k).toInt ≤ 359) ∨ ((τ.2.1 18 k).toInt = 2 ∧ 1 ≤ (τ.2.1 19 k).toInt ∧ (τ.2.1 19 k).toInt ≤ 600 ∧ 0 ≤ (τ.2.1 20 k).toInt ∧ (τ.2.1 20 k).toInt ≤ 7) ∨ ((τ.2.1 18 k).toInt = 3 ∧ 0 ≤ (τ.2.1 19 k).toInt ∧ (τ.2.1 19 k).toInt < k ∧ 1 ≤ (τ.2.1 20 k).toInt ∧ (τ.2.1 20 k).toInt ≤ 50) ∨ ((τ.2.1 18 k).toInt = 4 ∧ 1 ≤ (τ.2.1 19 k).toInt ∧ (τ.2.1 19 k).toInt ≤ 600) ∨ ((τ.2.1 18 k).toInt = 5 ∧ (τ.2.1 19 k).toInt = 0)
theorem tn32_rng {az a : Int32} (h1 : 0 ≤ az.toInt) (h2 : az.toInt ≤ 359) (h3 : 0 ≤ a.toInt) (h4 : a.toInt ≤ 359) : (tn32 az a).toInt = (if 180 < (a.toInt - az.toInt + 360) % 360 then 360 - (a.toInt - az.toInt + 360) % 360 + 5 else (a.toInt - az.toInt + 360) % 360 + 5) / 6 := by
  have c360 : (360 : Int32).toInt = 360 := by decide
  have c5 : (5 : Int32).toInt = 5 := by decide
  have c6 : (6 : Int32).toInt = 6 := by decide
  have e0 := ti_rem (ti_add (ti_sub (x := a) (y := az) rfl rfl (by omega) (by omega)) c360 (by omega) (by omega)) c360 (by omega) (by omega)
  unfold tn32
  rw [e0]
  split
  · exact ti_div (ti_add (ti_sub c360 e0 (by omega) (by omega)) c5 (by omega) (by omega)) c6 (by omega) (by omega)
  · exact ti_div (ti_add e0 c5 (by omega) (by omega)) c6 (by omega) (by omega)
theorem lenO_rng {τ : ST} {k : Nat} (h : okK τ k) (h1 : 0 ≤ (τ.1 11).toInt) (h2 : (τ.1 11).toInt ≤ 359) : 0 ≤ (lenO τ k).toInt ∧ (lenO τ k).toInt ≤ 600 := by
  unfold lenO
  unfold okK at h
  by_cases c1 : (τ.2.1 18 k).toInt = 0 ∨ (τ.2.1 18 k).toInt = 2
  · rw [if_pos c1]; omega
  · rw [if_neg c1]
    by_cases c2 : (τ.2.1 18 k).toInt = 1 ∨ (τ.2.1 18 k).toInt = 5
    · rw [if_pos c2, tn32_rng h1 h2 (by omega) (by omega)]
      split <;> omega
    · rw [if_neg c2]; decide
theorem frO_rng {τ : ST} {k : Nat} (h0 : 0 ≤ (τ.2.1 19 k).toInt ∧ (τ.2.1 19 k).toInt ≤ 600) (hm : 0 ≤ (τ.1 10).toInt ∧ (τ.1 10).toInt ≤ 100000) (hs : 0 ≤ (τ.1 16).toInt ∧ (τ.1 16).toInt ≤ 100600) : (frO τ k).toInt = max 0 ((τ.1 10).toInt + (τ.2.1 19 k).toInt - max (τ.1 16).toInt (τ.1 10).toInt) := by
  have a1 := ti_add (x := τ.1 10) (y := τ.2.1 19 k) rfl rfl (by omega) (by omega)
  unfold frO
  by_cases c : (τ.1 10).toInt < (τ.1 16).toInt
  · rw [if_pos c]
    have a2 := ti_sub a1 (y := τ.1 16) rfl (by omega) (by omega)
    rw [a2]
    split
    · show (0 : Int32).toInt = _; rw [show (0 : Int32).toInt = 0 from by decide]; omega
    · rw [a2]; omega
  · rw [if_neg c]
    have a2 := ti_sub a1 (y := τ.1 10) rfl (by omega) (by omega)
    rw [a2]
    split
    · show (0 : Int32).toInt = _; rw [show (0 : Int32).toInt = 0 from by decide]; omega
    · rw [a2]; omega
noncomputable def runN (last : Int) : Nat → Nat → ST → (Nat → Int32) → Int32 × ST
  | 0, _, τ, _ => (0, τ)
  | n + 1, k, τ, f =>
    if (k : Int) < (τ.1 9).toInt then
      (if (τ.1 13).toInt = 2000 then (3, sg τ 14 (nI k))
       else if last < (τ.1 10 + lenO τ k).toInt then (2, sg τ 14 (nI k))
       else cIf ((τ.2.1 18 k).toInt = 2 ∧ ¬ upA τ k) (1, sg τ 14 (nI k)) (runN last n (dnK τ f k) (dnT (sg τ 14 (nI k)) k) (dnL τ f k)))
    else (0, sg τ 14 (-1))
theorem runN_go {last : Int} {n k : Nat} {τ : ST} {f : Nat → Int32} (h1 : (k : Int) < (τ.1 9).toInt) (h2 : ¬ (τ.1 13).toInt = 2000) (h3 : ¬ last < (τ.1 10 + lenO τ k).toInt) (h4 : ¬ ((τ.2.1 18 k).toInt = 2 ∧ ¬ upA τ k)) : runN last (n + 1) k τ f = runN last n (dnK τ f k) (dnT (sg τ 14 (nI k)) k) (dnL τ f k) := by
  rw [runN, if_pos h1, if_neg h2, if_neg h3, cIf_neg h4]
theorem runN_1 {last : Int} {n k : Nat} {τ : ST} {f : Nat → Int32} (h1 : (k : Int) < (τ.1 9).toInt) (h2 : ¬ (τ.1 13).toInt = 2000) (h3 : ¬ last < (τ.1 10 + lenO τ k).toInt) (h4 : (τ.2.1 18 k).toInt = 2) (h5 : ¬ upA τ k) : runN last (n + 1) k τ f = (1, sg τ 14 (nI k)) := by
  rw [runN, if_pos h1, if_neg h2, if_neg h3, cIf_pos ⟨h4, h5⟩]
theorem runN_2 {last : Int} {n k : Nat} {τ : ST} {f : Nat → Int32} (h1 : (k : Int) < (τ.1 9).toInt) (h2 : ¬ (τ.1 13).toInt = 2000) (h3 : last < (τ.1 10 + lenO τ k).toInt) : runN last (n + 1) k τ f = (2, sg τ 14 (nI k)) := by
  rw [runN, if_pos h1, if_neg h2, if_pos h3]
theorem runN_3 {last : Int} {n k : Nat} {τ : ST} {f : Nat → Int32} (h1 : (k : Int) < (τ.1 9).toInt) (h2 : (τ.1 13).toInt = 2000) : runN last (n + 1) k τ f = (3, sg τ 14 (nI k)) := by
  rw [runN, if_pos h1, if_pos h2]
theorem runN_0 {last : Int} {n k : Nat} {τ : ST} {f : Nat → Int32} (h1 : ¬ (k : Int) < (τ.1 9).toInt) : runN last (n + 1) k τ f = (0, sg τ 14 (-1)) := by
  rw [runN, if_neg h1]
theorem dnL_congr {τ : ST} {f g : Nat → Int32} {k j : Nat} (hk : f k = g k) (hj : f j = g j) : dnL τ f k j = dnL τ g k j := by
  unfold dnL
  rw [hk]
  split
  · split
    · unfold upd; rw [hj]
    · unfold upd; rw [hj]
  · exact hj
theorem dnT_9 (τ : ST) (k : Nat) : (dnT τ k).1 9 = τ.1 9 := by
  unfold dnT; (repeat' split) <;> rfl
theorem dnT_13 (τ : ST) (k : Nat) : (dnT τ k).1 13 = τ.1 13 + 1 := by
  unfold dnT; (repeat' split) <;> rfl
theorem dnT_10 (τ : ST) (k : Nat) : (dnT τ k).1 10 = τ.1 10 ∨ (dnT τ k).1 10 = τ.1 10 + lenO τ k := by
  unfold dnT; (repeat' split) <;> first | exact Or.inl rfl | exact Or.inr rfl
theorem dnT_11 (τ : ST) (k : Nat) : (dnT τ k).1 11 = τ.1 11 ∨ (((τ.2.1 18 k).toInt = 1 ∨ (τ.2.1 18 k).toInt = 5) ∧ (dnT τ k).1 11 = τ.2.1 19 k) := by
  unfold dnT; (repeat' split) <;> first | exact Or.inl rfl | exact Or.inr ⟨by assumption, rfl⟩
theorem dnT_pr (τ : ST) (k : Nat) : (dnT τ k).2.1 15 = τ.2.1 15 ∧ (dnT τ k).2.1 16 = τ.2.1 16 ∧ (dnT τ k).2.1 17 = τ.2.1 17 ∧ (dnT τ k).2.1 18 = τ.2.1 18 ∧ (dnT τ k).2.1 19 = τ.2.1 19 ∧ (dnT τ k).2.1 20 = τ.2.1 20 := by
  unfold dnT; (repeat' split) <;> exact ⟨rfl, rfl, rfl, rfl, rfl, rfl⟩
theorem dnK_le {τ : ST} {f : Nat → Int32} {k : Nat} {z : Int} (h : okK τ k) (hk : (k : Int) < z) : (dnK τ f k : Int) ≤ z := by
  unfold okK at h
  unfold dnK
  split <;> omega
def ini (τ : ST) : ST := saF (sg (sg (sg (sg (sg (sg (sg τ 10 0) 11 0) 12 0) 13 0) 14 (-1)) 15 0) 16 0) 21 (cut 8 (fun _ => 0) (τ.2.1 21))
noncomputable def sp_night (τ : ST) (last : Int32) : Int32 × ST := if 0 ≤ last.toInt ∧ last.toInt ≤ 100000 then runN last.toInt 2001 0 (ini τ) (τ.2.1 20) else (-2, τ)
set_option maxHeartbeats 4000000 in
set_option maxRecDepth 100000 in
theorem c_X8_turnOf (l : Launch) (G : GG) (q : Nat → Nat) (sz : Nat) (τ ξ : ST) (a : Int32) (h_az : 0 ≤ (τ.1 11).toInt ∧ (τ.1 11).toInt ≤ 359) (h_a : 0 ≤ a.toInt ∧ a.toInt ≤ 359) : Met l yX8_turnOf (WSb yX8_turnOf cX8_turnOf 4 (some .int)) (rmA 0 0) (va_Pc [.ref (q 0), .int a] (PW G 33 q sz (eM G q τ ξ))) (va_Qi (fun (r : Int32) (u : (ST × ST)) => r = tn32 (τ.1 11) a ∧ u = (τ, ξ)) (fun u => BW G 33 q (eM G q u.1 u.2)) (FA 33 q sz)) 0 0 (FA 33 q sz) := by
  refine Met_B (own := RX8) rfl (by decide) (Nat.le_of_ble_eq_true rfl) (fun p e s m args below meth c ls hsz C hW hr hk hl QQ hQ => ?_)
  subst hsz
  have hl : lv_has ls 4 [(0, .ref (q 0)), (1, .int a)] := hl
  refine lv_iload_n C.1 C.2.1 dX8_turnOf_0 rfl (lv_at hl 1 rfl) ?_
  refine lv_aload_n C.1 C.2.1 dX8_turnOf_1 rfl (lv_at hl 0 rfl) ?_
  refine mG_azimuth C hW (v := (τ.1 11)) rfl dX8_turnOf_2 ?_
  refine lv_isub C.1 C.2.1 dX8_turnOf_5 ?_
  refine lv_sipush C.1 C.2.1 (v := 360) dX8_turnOf_6 (by decide) ?_
  refine lv_iadd C.1 C.2.1 dX8_turnOf_9 ?_
  refine lv_sipush C.1 C.2.1 (v := 360) dX8_turnOf_10 (by decide) ?_
  refine lv_irem C.1 C.2.1 dX8_turnOf_13 (by decide) ?_
  refine lv_istore_n (lv' := [(2, .int (((a - (τ.1 11)) + 360) - ((a - (τ.1 11)) + 360) / 360 * 360)), (0, .ref (q 0)), (1, .int a)]) C.1 C.2.1 dX8_turnOf_14 rfl hl (by decide) rfl (fun ls hl => ?_)
  refine lv_iload_n C.1 C.2.1 dX8_turnOf_15 rfl (lv_at hl 0 rfl) ?_
  refine lv_sipush C.1 C.2.1 (v := 180) dX8_turnOf_16 (by decide) ?_
  refine lv_icmp_le C.1 C.2.1 (tgt := 30) dX8_turnOf_19 (by decide) (fun c_1 => ?_) (fun c_1 => ?_)
  · skip
    have k_1 := (tc_le (ti_rem (ti_add (ti_sub (rfl : (a).toInt = (a).toInt) (rfl : ((τ.1 11)).toInt = ((τ.1 11)).toInt) (by omega) (by omega)) (show (360 : Int32).toInt = 360 from by decide) (by omega) (by omega)) (show (360 : Int32).toInt = 360 from by decide) (by omega) (by omega)) (show (180 : Int32).toInt = 180 from by decide)).mp c_1
    refine lv_iload_n C.1 C.2.1 dX8_turnOf_30 rfl (lv_at hl 0 rfl) ?_
    refine lv_istore_n (lv' := [(3, .int (((a - (τ.1 11)) + 360) - ((a - (τ.1 11)) + 360) / 360 * 360)), (2, .int (((a - (τ.1 11)) + 360) - ((a - (τ.1 11)) + 360) / 360 * 360)), (0, .ref (q 0)), (1, .int a)]) C.1 C.2.1 dX8_turnOf_31 rfl hl (by decide) rfl (fun ls hl => ?_)
    refine lv_iload_n C.1 C.2.1 dX8_turnOf_32 rfl (lv_at hl 0 rfl) ?_
    refine lv_iconst C.1 C.2.1 (v := 5) dX8_turnOf_33 (by decide) ?_
    refine lv_iadd C.1 C.2.1 dX8_turnOf_34 ?_
    refine lv_bipush C.1 C.2.1 (v := 6) dX8_turnOf_35 (by decide) ?_
    refine lv_idiv C.1 C.2.1 dX8_turnOf_37 (by decide) ?_
    subst hQ
    exact r_iret (τ, ξ) C hW hr hk dX8_turnOf_38 ⟨by unfold tn32; repeat (first | rw [if_pos (by rw [ti_rem (ti_add (ti_sub (x := a) (y := τ.1 11) rfl rfl (by omega) (by omega)) (show (360 : Int32).toInt = 360 from by decide) (by omega) (by omega)) (show (360 : Int32).toInt = 360 from by decide) (by omega) (by omega)]; omega)] | rw [if_neg (by rw [ti_rem (ti_add (ti_sub (x := a) (y := τ.1 11) rfl rfl (by omega) (by omega)) (show (360 : Int32).toInt = 360 from by decide) (by omega) (by omega)) (show (360 : Int32).toInt = 360 from by decide) (by omega) (by omega)]; omega)]), rfl⟩
  · skip
    have k_1 := (tn_le (ti_rem (ti_add (ti_sub (rfl : (a).toInt = (a).toInt) (rfl : ((τ.1 11)).toInt = ((τ.1 11)).toInt) (by omega) (by omega)) (show (360 : Int32).toInt = 360 from by decide) (by omega) (by omega)) (show (360 : Int32).toInt = 360 from by decide) (by omega) (by omega)) (show (180 : Int32).toInt = 180 from by decide)).mp c_1
    refine lv_sipush C.1 C.2.1 (v := 360) dX8_turnOf_22 (by decide) ?_
    refine lv_iload_n C.1 C.2.1 dX8_turnOf_25 rfl (lv_at hl 0 rfl) ?_
    refine lv_isub C.1 C.2.1 dX8_turnOf_26 ?_
    refine lv_goto C.1 C.2.1 (tgt := 31) dX8_turnOf_27 (by decide) ?_
    refine lv_istore_n (lv' := [(3, .int (360 - (((a - (τ.1 11)) + 360) - ((a - (τ.1 11)) + 360) / 360 * 360))), (2, .int (((a - (τ.1 11)) + 360) - ((a - (τ.1 11)) + 360) / 360 * 360)), (0, .ref (q 0)), (1, .int a)]) C.1 C.2.1 dX8_turnOf_31 rfl hl (by decide) rfl (fun ls hl => ?_)
    refine lv_iload_n C.1 C.2.1 dX8_turnOf_32 rfl (lv_at hl 0 rfl) ?_
    refine lv_iconst C.1 C.2.1 (v := 5) dX8_turnOf_33 (by decide) ?_
    refine lv_iadd C.1 C.2.1 dX8_turnOf_34 ?_
    refine lv_bipush C.1 C.2.1 (v := 6) dX8_turnOf_35 (by decide) ?_
    refine lv_idiv C.1 C.2.1 dX8_turnOf_37 (by decide) ?_
    subst hQ
    exact r_iret (τ, ξ) C hW hr hk dX8_turnOf_38 ⟨by unfold tn32; repeat (first | rw [if_pos (by rw [ti_rem (ti_add (ti_sub (x := a) (y := τ.1 11) rfl rfl (by omega) (by omega)) (show (360 : Int32).toInt = 360 from by decide) (by omega) (by omega)) (show (360 : Int32).toInt = 360 from by decide) (by omega) (by omega)]; omega)] | rw [if_neg (by rw [ti_rem (ti_add (ti_sub (x := a) (y := τ.1 11) rfl rfl (by omega) (by omega)) (show (360 : Int32).toInt = 360 from by decide) (by omega) (by omega)) (show (360 : Int32).toInt = 360 from by decide) (by omega) (by omega)]; omega)]), rfl⟩
set_option maxHeartbeats 4000000 in
set_option maxRecDepth 100000 in
theorem c_X8_lengthOf (l : Launch) (G : GG) (q : Nat → Nat) (sz : Nat) (τ ξ : ST) (o : Int32) (oN : Nat) (ho : o.toInt = (oN : Int)) (ho60 : oN < 60) (h_az : 0 ≤ (τ.1 11).toInt ∧ (τ.1 11).toInt ≤ 359) (h_ok : okK τ oN) : Met l yX8_lengthOf (WSb yX8_lengthOf cX8_lengthOf 2 (some .int)) (rmA 1 23) (va_Pc [.ref (q 0), .int o] (PW G 33 q sz (eM G q τ ξ))) (va_Qi (fun (r : Int32) (u : (ST × ST)) => r = lenO τ oN ∧ u = (τ, ξ)) (fun u => BW G 33 q (eM G q u.1 u.2)) (FA 33 q sz)) 0 0 (FA 33 q sz) := by
  refine Met_B (own := RX8) rfl (by decide) (Nat.le_of_ble_eq_true rfl) (fun p e s m args below meth c ls hsz C hW hr hk hl QQ hQ => ?_)
  subst hsz
  have hl : lv_has ls 2 [(0, .ref (q 0)), (1, .int o)] := hl
  have ok := h_ok
  unfold okK at ok
  refine lv_aload_n C.1 C.2.1 dX8_lengthOf_0 rfl (lv_at hl 0 rfl) ?_
  refine mG_kinds C hW dX8_lengthOf_1 ?_
  refine lv_iload_n C.1 C.2.1 dX8_lengthOf_4 rfl (lv_at hl 1 rfl) ?_
  refine mL_kinds C hW oN (ho.trans (by omega)) (by omega) (v := (τ.2.1 18 oN)) rfl dX8_lengthOf_5 ?_
  have e_1 : ((τ.2.1 18 oN)).toInt = ((τ.2.1 18 oN)).toInt := (rfl : ((τ.2.1 18 oN)).toInt = ((τ.2.1 18 oN)).toInt)
  by_cases c_1_0 : ((τ.2.1 18 oN)).toInt = 0
  · skip
    refine lv_tableIn C.1 C.2.1 dX8_lengthOf_6 (off := 38) (tgt := 44) (by omega) (by omega) (by rw [show ((τ.2.1 18 oN)).toInt = 0 by omega]; rfl) (by decide) ?_
    refine lv_aload_n C.1 C.2.1 dX8_lengthOf_44 rfl (lv_at hl 0 rfl) ?_
    refine mG_first C hW dX8_lengthOf_45 ?_
    refine lv_iload_n C.1 C.2.1 dX8_lengthOf_48 rfl (lv_at hl 1 rfl) ?_
    refine mL_first C hW oN (ho.trans (by omega)) (by omega) (v := (τ.2.1 19 oN)) rfl dX8_lengthOf_49 ?_
    subst hQ
    exact r_iret (τ, ξ) C hW hr hk dX8_lengthOf_50 ⟨by unfold lenO; (repeat (first | rw [if_pos (by omega)] | rw [if_neg (by omega)])); first | done | rfl | (exfalso; omega), rfl⟩
  by_cases c_1_1 : ((τ.2.1 18 oN)).toInt = 1
  · skip
    refine lv_tableIn C.1 C.2.1 dX8_lengthOf_6 (off := 45) (tgt := 51) (by omega) (by omega) (by rw [show ((τ.2.1 18 oN)).toInt = 1 by omega]; rfl) (by decide) ?_
    refine lv_aload_n C.1 C.2.1 dX8_lengthOf_51 rfl (lv_at hl 0 rfl) ?_
    refine lv_aload_n C.1 C.2.1 dX8_lengthOf_52 rfl (lv_at hl 0 rfl) ?_
    refine mG_first C hW dX8_lengthOf_53 ?_
    refine lv_iload_n C.1 C.2.1 dX8_lengthOf_56 rfl (lv_at hl 1 rfl) ?_
    refine mL_first C hW oN (ho.trans (by omega)) (by omega) (v := (τ.2.1 19 oN)) rfl dX8_lengthOf_57 ?_
    refine go_i hW (run_V (o := 0) (As := [.int (τ.2.1 19 oN)]) (rest := []) C hW (by decide) rfl rfl (c_X8_turnOf l G q _ τ ξ (τ.2.1 19 oN)  h_az (by omega)) (cw_V 1 C bL_X8_264 bI_X8_turnOf bV_X8_turnOf bN_X8 bC_X8_turnOf ⟨rfl, rfl⟩ (by decide +kernel) ⟨Nat.le_of_ble_eq_true rfl, Nat.le_of_ble_eq_true rfl⟩) rfl hl.1 rfl (Nat.le_of_ble_eq_true rfl) dX8_lengthOf_58 ⟨Nat.le_refl _, Nat.le_refl _⟩) (fun r_2 u_2 H locs hp_2 hW => ?_)
    rcases hp_2 with ⟨rfl, rfl⟩
    have hW : WB G 33 q (eM G q τ ξ) s H locs := hW
    subst hQ
    exact r_iret (τ, ξ) C hW hr hk dX8_lengthOf_61 ⟨by unfold lenO; (repeat (first | rw [if_pos (by omega)] | rw [if_neg (by omega)])); first | done | rfl | (exfalso; omega), rfl⟩
  by_cases c_1_2 : ((τ.2.1 18 oN)).toInt = 2
  · skip
    refine lv_tableIn C.1 C.2.1 dX8_lengthOf_6 (off := 38) (tgt := 44) (by omega) (by omega) (by rw [show ((τ.2.1 18 oN)).toInt = 2 by omega]; rfl) (by decide) ?_
    refine lv_aload_n C.1 C.2.1 dX8_lengthOf_44 rfl (lv_at hl 0 rfl) ?_
    refine mG_first C hW dX8_lengthOf_45 ?_
    refine lv_iload_n C.1 C.2.1 dX8_lengthOf_48 rfl (lv_at hl 1 rfl) ?_
    refine mL_first C hW oN (ho.trans (by omega)) (by omega) (v := (τ.2.1 19 oN)) rfl dX8_lengthOf_49 ?_
    subst hQ
    exact r_iret (τ, ξ) C hW hr hk dX8_lengthOf_50 ⟨by unfold lenO; (repeat (first | rw [if_pos (by omega)] | rw [if_neg (by omega)])); first | done | rfl | (exfalso; omega), rfl⟩
  by_cases c_1_3 : ((τ.2.1 18 oN)).toInt = 3
  · skip
    refine lv_tableIn C.1 C.2.1 dX8_lengthOf_6 (off := 56) (tgt := 62) (by omega) (by omega) (by rw [show ((τ.2.1 18 oN)).toInt = 3 by omega]; rfl) (by decide) ?_
    refine lv_iconst C.1 C.2.1 (v := 0) dX8_lengthOf_62 (by decide) ?_
    subst hQ
    exact r_iret (τ, ξ) C hW hr hk dX8_lengthOf_63 ⟨by unfold lenO; (repeat (first | rw [if_pos (by omega)] | rw [if_neg (by omega)])); first | done | rfl | (exfalso; omega), rfl⟩
  by_cases c_1_4 : ((τ.2.1 18 oN)).toInt = 4
  · skip
    refine lv_tableIn C.1 C.2.1 dX8_lengthOf_6 (off := 56) (tgt := 62) (by omega) (by omega) (by rw [show ((τ.2.1 18 oN)).toInt = 4 by omega]; rfl) (by decide) ?_
    refine lv_iconst C.1 C.2.1 (v := 0) dX8_lengthOf_62 (by decide) ?_
    subst hQ
    exact r_iret (τ, ξ) C hW hr hk dX8_lengthOf_63 ⟨by unfold lenO; (repeat (first | rw [if_pos (by omega)] | rw [if_neg (by omega)])); first | done | rfl | (exfalso; omega), rfl⟩
  by_cases c_1_5 : ((τ.2.1 18 oN)).toInt = 5
  · skip
    refine lv_tableIn C.1 C.2.1 dX8_lengthOf_6 (off := 45) (tgt := 51) (by omega) (by omega) (by rw [show ((τ.2.1 18 oN)).toInt = 5 by omega]; rfl) (by decide) ?_
    refine lv_aload_n C.1 C.2.1 dX8_lengthOf_51 rfl (lv_at hl 0 rfl) ?_
    refine lv_aload_n C.1 C.2.1 dX8_lengthOf_52 rfl (lv_at hl 0 rfl) ?_
    refine mG_first C hW dX8_lengthOf_53 ?_
    refine lv_iload_n C.1 C.2.1 dX8_lengthOf_56 rfl (lv_at hl 1 rfl) ?_
    refine mL_first C hW oN (ho.trans (by omega)) (by omega) (v := (τ.2.1 19 oN)) rfl dX8_lengthOf_57 ?_
    refine go_i hW (run_V (o := 0) (As := [.int (τ.2.1 19 oN)]) (rest := []) C hW (by decide) rfl rfl (c_X8_turnOf l G q _ τ ξ (τ.2.1 19 oN)  h_az (by omega)) (cw_V 1 C bL_X8_264 bI_X8_turnOf bV_X8_turnOf bN_X8 bC_X8_turnOf ⟨rfl, rfl⟩ (by decide +kernel) ⟨Nat.le_of_ble_eq_true rfl, Nat.le_of_ble_eq_true rfl⟩) rfl hl.1 rfl (Nat.le_of_ble_eq_true rfl) dX8_lengthOf_58 ⟨Nat.le_refl _, Nat.le_refl _⟩) (fun r_3 u_3 H locs hp_3 hW => ?_)
    rcases hp_3 with ⟨rfl, rfl⟩
    have hW : WB G 33 q (eM G q τ ξ) s H locs := hW
    subst hQ
    exact r_iret (τ, ξ) C hW hr hk dX8_lengthOf_61 ⟨by unfold lenO; (repeat (first | rw [if_pos (by omega)] | rw [if_neg (by omega)])); first | done | rfl | (exfalso; omega), rfl⟩
  refine lv_tableOut C.1 C.2.1 dX8_lengthOf_6 (tgt := 62) (by omega) (by decide) ?_
  refine lv_iconst C.1 C.2.1 (v := 0) dX8_lengthOf_62 (by decide) ?_
  subst hQ
  exact r_iret (τ, ξ) C hW hr hk dX8_lengthOf_63 ⟨by unfold lenO; (repeat (first | rw [if_pos (by omega)] | rw [if_neg (by omega)])); first | done | rfl | (exfalso; omega), rfl⟩
set_option maxHeartbeats 4000000 in
set_option maxRecDepth 100000 in
theorem c_X8_isUp (l : Launch) (G : GG) (q : Nat → Nat) (sz : Nat) (τ ξ : ST) (z : Int32) (t : Int32) (tZ : Int) (zN : Nat) (ht : t.toInt = tZ) (hz : z.toInt = (zN : Int)) (hz8 : zN < 8) (ht0 : 0 ≤ tZ) (h_u : ∀ z : Nat, z < 8 → 0 ≤ (τ.2.1 17 z).toInt ∧ (τ.2.1 17 z).toInt ≤ 1440) : Met l yX8_isUp (WSb yX8_isUp cX8_isUp 3 (some .boolean)) (rmA 1 25) (va_Pc [.ref (q 0), .int z, .int t] (PW G 33 q sz (eM G q τ ξ))) (va_Qi (fun (r : Int32) (u : (ST × ST)) => (r = 1 ∧ u = (τ, ξ) ∧ (upP τ zN tZ)) ∨ (r = 0 ∧ u = (τ, ξ) ∧ (¬ upP τ zN tZ))) (fun u => BW G 33 q (eM G q u.1 u.2)) (FA 33 q sz)) 0 0 (FA 33 q sz) := by
  refine Met_B (own := RX8) rfl (by decide) (Nat.le_of_ble_eq_true rfl) (fun p e s m args below meth c ls hsz C hW hr hk hl QQ hQ => ?_)
  subst hsz
  have hl : lv_has ls 3 [(0, .ref (q 0)), (1, .int z), (2, .int t)] := hl
  have l1 := h_u zN hz8
  refine lv_aload_n C.1 C.2.1 dX8_isUp_0 rfl (lv_at hl 0 rfl) ?_
  refine mG_rises C hW dX8_isUp_1 ?_
  refine lv_iload_n C.1 C.2.1 dX8_isUp_4 rfl (lv_at hl 1 rfl) ?_
  refine mL_rises C hW zN (hz.trans (by omega)) (by omega) (v := (τ.2.1 15 zN)) rfl dX8_isUp_5 ?_
  refine lv_if_eq C.1 C.2.1 (tgt := 37) dX8_isUp_6 (by decide) (fun c_1 => ?_) (fun c_1 => ?_)
  · skip
    have k_1 := (tc_eq (rfl : ((τ.2.1 15 zN)).toInt = ((τ.2.1 15 zN)).toInt) (show (0 : Int32).toInt = 0 from by decide)).mp c_1
    refine lv_iconst C.1 C.2.1 (v := 1) dX8_isUp_37 (by decide) ?_
    refine lv_goto C.1 C.2.1 (tgt := 42) dX8_isUp_38 (by decide) ?_
    subst hQ
    exact r_zret (τ, ξ) C hW hr rfl hk dX8_isUp_42 (by first | exact Or.inl ⟨rfl, rfl, by unfold upP; omega⟩ | exact Or.inr ⟨rfl, rfl, by unfold upP; omega⟩)
  · skip
    have k_1 := (tn_eq (rfl : ((τ.2.1 15 zN)).toInt = ((τ.2.1 15 zN)).toInt) (show (0 : Int32).toInt = 0 from by decide)).mp c_1
    refine lv_iload_n C.1 C.2.1 dX8_isUp_9 rfl (lv_at hl 2 rfl) ?_
    refine lv_sipush C.1 C.2.1 (v := 1440) dX8_isUp_10 (by decide) ?_
    refine lv_irem C.1 C.2.1 dX8_isUp_13 (by decide) ?_
    refine lv_i2l C.1 C.2.1 dX8_isUp_14 rfl ?_
    refine lv_aload_n C.1 C.2.1 dX8_isUp_15 rfl (lv_at hl 0 rfl) ?_
    refine mG_riseAt C hW dX8_isUp_16 ?_
    refine lv_iload_n C.1 C.2.1 dX8_isUp_19 rfl (lv_at hl 1 rfl) ?_
    refine mL_riseAt C hW zN (hz.trans (by omega)) (by omega) (v := (τ.2.1 16 zN)) rfl dX8_isUp_20 ?_
    refine lv_i2l C.1 C.2.1 dX8_isUp_21 rfl ?_
    refine lv_aload_n C.1 C.2.1 dX8_isUp_22 rfl (lv_at hl 0 rfl) ?_
    refine mG_setAt C hW dX8_isUp_23 ?_
    refine lv_iload_n C.1 C.2.1 dX8_isUp_26 rfl (lv_at hl 1 rfl) ?_
    refine mL_setAt C hW zN (hz.trans (by omega)) (by omega) (v := (τ.2.1 17 zN)) rfl dX8_isUp_27 ?_
    refine lv_iconst C.1 C.2.1 (v := 1) dX8_isUp_28 (by decide) ?_
    refine lv_isub C.1 C.2.1 dX8_isUp_29 ?_
    refine lv_i2l C.1 C.2.1 dX8_isUp_30 rfl ?_
    refine go_i hW (run_S (As := [.long ((t - t / 1440 * 1440).toInt64), .long ((τ.2.1 16 zN).toInt64), .long (((τ.2.1 17 zN) - 1).toInt64)]) (rest := []) C hW (c_X8_in l G q _ τ ξ ((t - t / 1440 * 1440).toInt64) ((τ.2.1 16 zN).toInt64) (((τ.2.1 17 zN) - 1).toInt64) (tZ % 1440) (((τ.2.1 16 zN)).toInt) (((τ.2.1 17 zN)).toInt - 1) (ti_i2l (ti_rem ht (show (1440 : Int32).toInt = 1440 from by decide) (by omega) (by omega))) (ti_i2l (rfl : ((τ.2.1 16 zN)).toInt = ((τ.2.1 16 zN)).toInt)) (ti_i2l (ti_sub (rfl : ((τ.2.1 17 zN)).toInt = ((τ.2.1 17 zN)).toInt) (show (1 : Int32).toInt = 1 from by decide) (by omega) (by omega)))) (cw_S 3 C bL_X8_121 bS_X8_in bN_X8 bC_X8_in ⟨rfl, rfl⟩ (by decide +kernel) ⟨Nat.le_of_ble_eq_true rfl, Nat.le_of_ble_eq_true rfl⟩) rfl hl.1 rfl (Nat.le_of_ble_eq_true rfl) dX8_isUp_31 ⟨Nat.le_refl _, Nat.le_refl _⟩) (fun r_2 u_2 H locs hp_2 hW => ?_)
    rcases hp_2 with ⟨rfl, rfl, k_2_0, k_2_1⟩ | ⟨rfl, rfl, k_2⟩
    · skip
      have hW : WB G 33 q (eM G q τ ξ) s H locs := hW
      refine lv_if_eq C.1 C.2.1 (tgt := 41) dX8_isUp_34 (by decide) (fun c => absurd c (by decide)) (fun _ => ?_)
      refine lv_iconst C.1 C.2.1 (v := 1) dX8_isUp_37 (by decide) ?_
      refine lv_goto C.1 C.2.1 (tgt := 42) dX8_isUp_38 (by decide) ?_
      subst hQ
      exact r_zret (τ, ξ) C hW hr rfl hk dX8_isUp_42 (by first | exact Or.inl ⟨rfl, rfl, by unfold upP; omega⟩ | exact Or.inr ⟨rfl, rfl, by unfold upP; omega⟩)
    · skip
      have hW : WB G 33 q (eM G q τ ξ) s H locs := hW
      refine lv_if_eq C.1 C.2.1 (tgt := 41) dX8_isUp_34 (by decide) (fun _ => ?_) (fun c => absurd c (by decide))
      refine lv_iconst C.1 C.2.1 (v := 0) dX8_isUp_41 (by decide) ?_
      subst hQ
      exact r_zret (τ, ξ) C hW hr rfl hk dX8_isUp_42 (by first | exact Or.inl ⟨rfl, rfl, by unfold upP; omega⟩ | exact Or.inr ⟨rfl, rfl, by unfold upP; omega⟩)
set_option maxHeartbeats 4000000 in
set_option maxRecDepth 100000 in
theorem c_X8_isUpAll (l : Launch) (G : GG) (q : Nat → Nat) (sz : Nat) (τ ξ : ST) (o : Int32) (oN : Nat) (ho : o.toInt = (oN : Int)) (ho60 : oN < 60) (h_u : ∀ z : Nat, z < 8 → 0 ≤ (τ.2.1 17 z).toInt ∧ (τ.2.1 17 z).toInt ≤ 1440) (h_mi : 0 ≤ (τ.1 10).toInt ∧ (τ.1 10).toInt ≤ 100000) (hfi : (τ.2.1 19 oN).toInt ≤ 600) (hse : 0 ≤ (τ.2.1 20 oN).toInt ∧ (τ.2.1 20 oN).toInt ≤ 7) : Met l yX8_isUpAll (WSb yX8_isUpAll cX8_isUpAll 3 (some .boolean)) (rmA 2 47) (va_Pc [.ref (q 0), .int o] (PW G 33 q sz (eM G q τ ξ))) (va_Qi (fun (r : Int32) (u : (ST × ST)) => (r = 1 ∧ u = (τ, ξ) ∧ (upA τ oN)) ∨ (r = 0 ∧ u = (τ, ξ) ∧ (¬ upA τ oN))) (fun u => BW G 33 q (eM G q u.1 u.2)) (FA 33 q sz)) 0 0 (FA 33 q sz) := by
  refine Met_B (own := RX8) rfl (by decide) (Nat.le_of_ble_eq_true rfl) (fun p e s m args below meth c ls hsz C hW hr hk hl QQ hQ => ?_)
  subst hsz
  have hl : lv_has ls 3 [(0, .ref (q 0)), (1, .int o)] := hl
  refine lv_iconst C.1 C.2.1 (v := 0) dX8_isUpAll_0 (by decide) ?_
  refine lv_istore_n (lv' := [(2, .int 0), (0, .ref (q 0)), (1, .int o)]) C.1 C.2.1 dX8_isUpAll_1 rfl hl (by decide) rfl (fun ls hl => ?_)
  have L_2_1 : ∀ (fuel : Nat) (g : Nat) (x2 : Int32), 601 - g < fuel → (x2.toInt = (g : Int)) → (g ≤ 600) → (∀ j : Nat, j < g → upP τ (τ.2.1 20 oN).toInt.toNat ((τ.1 10).toInt + j)) → ∀ (H : Heap) (locs : List Loc) (ls : Array Slot), WB G 33 q (eM G q τ ξ) s H locs → lv_has ls 3 [(2, .int x2), (0, .ref (q 0)), (1, .int o)] → W p l e (rmA 2 47) s m args below meth c H locs 0 0 QQ (F0 m 2 ls []) := by
    intro fuel; induction fuel with
    | zero => intro g x2 hf; exact absurd hf (Nat.not_lt_zero _)
    | succ fuel ih_2 =>
      intro g x2 hf hg hgl hff H locs ls hW hl
      refine lv_iload_n C.1 C.2.1 dX8_isUpAll_2 rfl (lv_at hl 0 rfl) ?_
      refine lv_aload_n C.1 C.2.1 dX8_isUpAll_3 rfl (lv_at hl 1 rfl) ?_
      refine mG_first C hW dX8_isUpAll_4 ?_
      refine lv_iload_n C.1 C.2.1 dX8_isUpAll_7 rfl (lv_at hl 2 rfl) ?_
      refine mL_first C hW oN (ho.trans (by omega)) (by omega) (v := (τ.2.1 19 oN)) rfl dX8_isUpAll_8 ?_
      refine lv_icmp_ge C.1 C.2.1 (tgt := 39) dX8_isUpAll_9 (by decide) (fun c_2 => ?_) (fun c_2 => ?_)
      · skip
        have k_2 := (tc_le (rfl : ((τ.2.1 19 oN)).toInt = ((τ.2.1 19 oN)).toInt) hg).mp c_2
        refine lv_iconst C.1 C.2.1 (v := 1) dX8_isUpAll_39 (by decide) ?_
        subst hQ
        exact r_zret (τ, ξ) C hW hr rfl hk dX8_isUpAll_40 (Or.inl ⟨rfl, rfl, fun j hj => hff j (by omega)⟩)
      · skip
        have k_2 := (tn_le (rfl : ((τ.2.1 19 oN)).toInt = ((τ.2.1 19 oN)).toInt) hg).mp c_2
        refine lv_aload_n C.1 C.2.1 dX8_isUpAll_12 rfl (lv_at hl 1 rfl) ?_
        refine lv_aload_n C.1 C.2.1 dX8_isUpAll_13 rfl (lv_at hl 1 rfl) ?_
        refine mG_second C hW dX8_isUpAll_14 ?_
        refine lv_iload_n C.1 C.2.1 dX8_isUpAll_17 rfl (lv_at hl 2 rfl) ?_
        refine mL_second C hW oN (ho.trans (by omega)) (by omega) (v := (τ.2.1 20 oN)) rfl dX8_isUpAll_18 ?_
        refine lv_aload_n C.1 C.2.1 dX8_isUpAll_19 rfl (lv_at hl 1 rfl) ?_
        refine mG_minute C hW (v := (τ.1 10)) rfl dX8_isUpAll_20 ?_
        refine lv_iload_n C.1 C.2.1 dX8_isUpAll_23 rfl (lv_at hl 0 rfl) ?_
        refine lv_iadd C.1 C.2.1 dX8_isUpAll_24 ?_
        refine go_i hW (run_V (o := 0) (As := [.int (τ.2.1 20 oN), .int ((τ.1 10) + x2)]) (rest := []) C hW (by decide) rfl rfl (c_X8_isUp l G q _ τ ξ (τ.2.1 20 oN) ((τ.1 10) + x2) (((τ.1 10)).toInt + (g : Int)) ((((τ.2.1 20 oN)).toInt).toNat) (ti_add (rfl : ((τ.1 10)).toInt = ((τ.1 10)).toInt) hg (by omega) (by omega)) ((rfl : ((τ.2.1 20 oN)).toInt = ((τ.2.1 20 oN)).toInt).trans (by omega)) (by omega) (by omega) h_u) (cw_V 2 C bL_X8_270 bI_X8_isUp bV_X8_isUp bN_X8 bC_X8_isUp ⟨rfl, rfl⟩ (by decide +kernel) ⟨Nat.le_of_ble_eq_true rfl, Nat.le_of_ble_eq_true rfl⟩) rfl hl.1 rfl (Nat.le_of_ble_eq_true rfl) dX8_isUpAll_25 ⟨Nat.le_refl _, Nat.le_refl _⟩) (fun r_3 u_3 H locs hp_3 hW => ?_)
        rcases hp_3 with ⟨rfl, rfl, k_3⟩ | ⟨rfl, rfl, k_3⟩
        · skip
          have hW : WB G 33 q (eM G q τ ξ) s H locs := hW
          have hup := k_3
          refine lv_if_ne C.1 C.2.1 (tgt := 33) dX8_isUpAll_28 (by decide) (fun _ => ?_) (fun c => absurd c (by decide))
          refine lv_iinc (v := (x2 + 1)) (lv' := [(2, .int (x2 + 1)), (0, .ref (q 0)), (1, .int o)]) C.1 C.2.1 dX8_isUpAll_33 hl (k := 0) rfl rfl (by decide) rfl (fun ls hl => ?_)
          refine lv_goto C.1 C.2.1 (tgt := 2) dX8_isUpAll_36 (by decide) ?_
          exact ih_2 (g + 1) (x2 + 1) (by omega) ((ti_add hg (show (1 : Int32).toInt = 1 from by decide) (by omega) (by omega)).trans (by omega)) (by omega) (fun f hf => (Nat.lt_succ_iff_lt_or_eq.mp hf).elim (hff f) (fun h => by subst h; exact hup)) _ _ _ hW (lv_sub hl [0, 1, 2] rfl)
        · skip
          have hW : WB G 33 q (eM G q τ ξ) s H locs := hW
          have hnup := k_3
          refine lv_if_ne C.1 C.2.1 (tgt := 33) dX8_isUpAll_28 (by decide) (fun c => absurd c (by decide)) (fun _ => ?_)
          refine lv_iconst C.1 C.2.1 (v := 0) dX8_isUpAll_31 (by decide) ?_
          subst hQ
          exact r_zret (τ, ξ) C hW hr rfl hk dX8_isUpAll_32 (Or.inr ⟨rfl, rfl, fun h => hnup (h g (by omega))⟩)
  exact L_2_1 _ 0 0 (Nat.lt_succ_self _) (by decide) (by omega) (fun f h => absurd h (Nat.not_lt_zero _)) _ _ _ hW (lv_sub hl [0, 1, 2] rfl)
set_option maxHeartbeats 4000000 in
set_option maxRecDepth 100000 in
theorem c_X8_does (l : Launch) (G : GG) (q : Nat → Nat) (sz : Nat) (τ ξ : ST) (o : Int32) (oN : Nat) (ho : o.toInt = (oN : Int)) (ho60 : oN < 60) (h_az : 0 ≤ (τ.1 11).toInt ∧ (τ.1 11).toInt ≤ 359) (h_ok : okK τ oN) : Met l yX8_does (WSb yX8_does cX8_does 4 (some .int)) (rmA 2 44) (va_Pc [.ref (q 0), .int o] (PW G 33 q sz (eM G q τ ξ))) (va_Qi (fun (r : Int32) (u : (ST × ST)) => ∃ (ξ1 : ST), r = nI (dnK τ (ξ.2.1 2) oN) ∧ u = ((dnT τ oN), ξ1) ∧ (ξ1.2.1 2 = dnL τ (ξ.2.1 2) oN)) (fun u => BW G 33 q (eM G q u.1 u.2)) (FA 33 q sz)) 0 0 (FA 33 q sz) := by
  refine Met_B (own := RX8) rfl (by decide) (Nat.le_of_ble_eq_true rfl) (fun p e s m args below meth c ls hsz C hW hr hk hl QQ hQ => ?_)
  subst hsz
  have hl : lv_has ls 4 [(0, .ref (q 0)), (1, .int o)] := hl
  have ok := h_ok
  unfold okK at ok
  refine lv_aload_n C.1 C.2.1 dX8_does_0 rfl (lv_at hl 0 rfl) ?_
  refine lv_iload_n C.1 C.2.1 dX8_does_1 rfl (lv_at hl 1 rfl) ?_
  refine go_i hW (run_V (o := 0) (As := [.int o]) (rest := []) C hW (by decide) rfl rfl (c_X8_lengthOf l G q _ τ ξ o oN (ho.trans (by omega)) (by omega) h_az h_ok) (cw_V 1 C bL_X8_273 bI_X8_lengthOf bV_X8_lengthOf bN_X8 bC_X8_lengthOf ⟨rfl, rfl⟩ (by decide +kernel) ⟨Nat.le_of_ble_eq_true rfl, Nat.le_of_ble_eq_true rfl⟩) rfl hl.1 rfl (Nat.le_of_ble_eq_true rfl) dX8_does_2 ⟨Nat.le_refl _, Nat.le_refl _⟩) (fun r_1 u_1 H locs hp_1 hW => ?_)
  rcases hp_1 with ⟨rfl, rfl⟩
  have hW : WB G 33 q (eM G q τ ξ) s H locs := hW
  refine lv_istore_n (lv' := [(2, .int (lenO τ oN)), (0, .ref (q 0)), (1, .int o)]) C.1 C.2.1 dX8_does_5 rfl hl (by decide) rfl (fun ls hl => ?_)
  refine lv_aload_n C.1 C.2.1 dX8_does_6 rfl (lv_at hl 1 rfl) ?_
  refine lv_dup C.1 C.2.1 dX8_does_7 rfl ?_
  refine mG_done C hW (v := (τ.1 13)) rfl dX8_does_8 ?_
  refine lv_iconst C.1 C.2.1 (v := 1) dX8_does_11 (by decide) ?_
  refine lv_iadd C.1 C.2.1 dX8_does_12 ?_
  refine mP_done C hW dX8_does_13 (fun H locs hW => ?_)
  refine lv_aload_n C.1 C.2.1 dX8_does_16 rfl (lv_at hl 1 rfl) ?_
  refine mG_kinds C hW dX8_does_17 ?_
  refine lv_iload_n C.1 C.2.1 dX8_does_20 rfl (lv_at hl 2 rfl) ?_
  refine mL_kinds C hW oN (ho.trans (by omega)) (by omega) (v := (τ.2.1 18 oN)) rfl dX8_does_21 ?_
  refine lv_iconst C.1 C.2.1 (v := 3) dX8_does_22 (by decide) ?_
  refine lv_icmp_ne C.1 C.2.1 (tgt := 68) dX8_does_23 (by decide) (fun c_2 => ?_) (fun c_2 => ?_)
  · skip
    have k_2 := (tn_eq (rfl : ((τ.2.1 18 oN)).toInt = ((τ.2.1 18 oN)).toInt) (show (3 : Int32).toInt = 3 from by decide)).mp c_2
    refine lv_aload_n C.1 C.2.1 dX8_does_68 rfl (lv_at hl 1 rfl) ?_
    refine mG_kinds C hW dX8_does_69 ?_
    refine lv_iload_n C.1 C.2.1 dX8_does_72 rfl (lv_at hl 2 rfl) ?_
    refine mL_kinds C hW oN (ho.trans (by omega)) (by omega) (v := (τ.2.1 18 oN)) rfl dX8_does_73 ?_
    refine lv_iconst C.1 C.2.1 (v := 4) dX8_does_74 (by decide) ?_
    refine lv_icmp_ne C.1 C.2.1 (tgt := 118) dX8_does_75 (by decide) (fun c_3 => ?_) (fun c_3 => ?_)
    · skip
      have k_3 := (tn_eq (rfl : ((τ.2.1 18 oN)).toInt = ((τ.2.1 18 oN)).toInt) (show (4 : Int32).toInt = 4 from by decide)).mp c_3
      refine lv_aload_n C.1 C.2.1 dX8_does_118 rfl (lv_at hl 1 rfl) ?_
      refine mG_kinds C hW dX8_does_119 ?_
      refine lv_iload_n C.1 C.2.1 dX8_does_122 rfl (lv_at hl 2 rfl) ?_
      refine mL_kinds C hW oN (ho.trans (by omega)) (by omega) (v := (τ.2.1 18 oN)) rfl dX8_does_123 ?_
      refine lv_iconst C.1 C.2.1 (v := 1) dX8_does_124 (by decide) ?_
      refine lv_icmp_eq C.1 C.2.1 (tgt := 138) dX8_does_125 (by decide) (fun c_4 => ?_) (fun c_4 => ?_)
      · skip
        have k_4 := (tc_eq (rfl : ((τ.2.1 18 oN)).toInt = ((τ.2.1 18 oN)).toInt) (show (1 : Int32).toInt = 1 from by decide)).mp c_4
        refine lv_aload_n C.1 C.2.1 dX8_does_138 rfl (lv_at hl 1 rfl) ?_
        refine lv_dup C.1 C.2.1 dX8_does_139 rfl ?_
        refine mG_turning C hW (v := (τ.1 15)) rfl dX8_does_140 ?_
        refine lv_iload_n C.1 C.2.1 dX8_does_143 rfl (lv_at hl 0 rfl) ?_
        refine lv_iadd C.1 C.2.1 dX8_does_144 ?_
        refine mP_turning C hW dX8_does_145 (fun H locs hW => ?_)
        refine lv_aload_n C.1 C.2.1 dX8_does_148 rfl (lv_at hl 1 rfl) ?_
        refine lv_aload_n C.1 C.2.1 dX8_does_149 rfl (lv_at hl 1 rfl) ?_
        refine mG_first C hW dX8_does_150 ?_
        refine lv_iload_n C.1 C.2.1 dX8_does_153 rfl (lv_at hl 2 rfl) ?_
        refine mL_first C hW oN (ho.trans (by omega)) (by omega) (v := (τ.2.1 19 oN)) rfl dX8_does_154 ?_
        refine mP_azimuth C hW dX8_does_155 (fun H locs hW => ?_)
        refine lv_aload_n C.1 C.2.1 dX8_does_158 rfl (lv_at hl 1 rfl) ?_
        refine mG_kinds C hW dX8_does_159 ?_
        refine lv_iload_n C.1 C.2.1 dX8_does_162 rfl (lv_at hl 2 rfl) ?_
        refine mL_kinds C hW oN (ho.trans (by omega)) (by omega) (v := (τ.2.1 18 oN)) rfl dX8_does_163 ?_
        refine lv_iconst C.1 C.2.1 (v := 2) dX8_does_164 (by decide) ?_
        refine lv_icmp_ne C.1 C.2.1 (tgt := 238) dX8_does_165 (by decide) (fun _ => ?_) (fun c => absurd ((tc_eq (rfl : ((τ.2.1 18 oN)).toInt = ((τ.2.1 18 oN)).toInt) (show (2 : Int32).toInt = 2 from by decide)).mp c) (by omega))
        refine lv_aload_n C.1 C.2.1 dX8_does_238 rfl (lv_at hl 1 rfl) ?_
        refine lv_dup C.1 C.2.1 dX8_does_239 rfl ?_
        refine mG_minute C hW (v := (τ.1 10)) rfl dX8_does_240 ?_
        refine lv_iload_n C.1 C.2.1 dX8_does_243 rfl (lv_at hl 0 rfl) ?_
        refine lv_iadd C.1 C.2.1 dX8_does_244 ?_
        refine mP_minute C hW dX8_does_245 (fun H locs hW => ?_)
        refine lv_iload_n C.1 C.2.1 dX8_does_248 rfl (lv_at hl 2 rfl) ?_
        refine lv_iconst C.1 C.2.1 (v := 1) dX8_does_249 (by decide) ?_
        refine lv_iadd C.1 C.2.1 dX8_does_250 ?_
        subst hQ
        exact r_iret ((sg (sg (sg (sg τ 13 ((τ.1 13) + 1)) 15 ((τ.1 15) + (lenO τ oN))) 11 (τ.2.1 19 oN)) 10 ((τ.1 10) + (lenO τ oN))), ξ) C hW hr hk dX8_does_251 ⟨_, Int32.toInt_inj.mp (by rw [show dnK τ (ξ.2.1 2) oN = oN + 1 from if_neg (by omega), nI_toInt (by omega)]; exact (ti_add ho (show (1 : Int32).toInt = 1 from by decide) (by omega) (by omega)).trans (by omega)), (by congr 1; unfold dnT; (try unfold frO); (try (first | rw [if_pos (show (τ.1 10).toInt < (τ.1 16).toInt by omega)] | rw [if_neg (show ¬ (τ.1 10).toInt < (τ.1 16).toInt by omega)])); (repeat (first | rw [if_pos (by omega)] | rw [if_neg (by omega)])); first | done | rfl), (by unfold dnL; (repeat (first | rw [if_pos (by omega)] | rw [if_neg (by omega)])); first | done | rfl)⟩
      · skip
        have k_4 := (tn_eq (rfl : ((τ.2.1 18 oN)).toInt = ((τ.2.1 18 oN)).toInt) (show (1 : Int32).toInt = 1 from by decide)).mp c_4
        refine lv_aload_n C.1 C.2.1 dX8_does_128 rfl (lv_at hl 1 rfl) ?_
        refine mG_kinds C hW dX8_does_129 ?_
        refine lv_iload_n C.1 C.2.1 dX8_does_132 rfl (lv_at hl 2 rfl) ?_
        refine mL_kinds C hW oN (ho.trans (by omega)) (by omega) (v := (τ.2.1 18 oN)) rfl dX8_does_133 ?_
        refine lv_iconst C.1 C.2.1 (v := 5) dX8_does_134 (by decide) ?_
        refine lv_icmp_ne C.1 C.2.1 (tgt := 158) dX8_does_135 (by decide) (fun c_6 => ?_) (fun c_6 => ?_)
        · skip
          have k_6 := (tn_eq (rfl : ((τ.2.1 18 oN)).toInt = ((τ.2.1 18 oN)).toInt) (show (5 : Int32).toInt = 5 from by decide)).mp c_6
          refine lv_aload_n C.1 C.2.1 dX8_does_158 rfl (lv_at hl 1 rfl) ?_
          refine mG_kinds C hW dX8_does_159 ?_
          refine lv_iload_n C.1 C.2.1 dX8_does_162 rfl (lv_at hl 2 rfl) ?_
          refine mL_kinds C hW oN (ho.trans (by omega)) (by omega) (v := (τ.2.1 18 oN)) rfl dX8_does_163 ?_
          refine lv_iconst C.1 C.2.1 (v := 2) dX8_does_164 (by decide) ?_
          refine lv_icmp_ne C.1 C.2.1 (tgt := 238) dX8_does_165 (by decide) (fun c_7 => ?_) (fun c_7 => ?_)
          · skip
            have k_7 := (tn_eq (rfl : ((τ.2.1 18 oN)).toInt = ((τ.2.1 18 oN)).toInt) (show (2 : Int32).toInt = 2 from by decide)).mp c_7
            refine lv_aload_n C.1 C.2.1 dX8_does_238 rfl (lv_at hl 1 rfl) ?_
            refine lv_dup C.1 C.2.1 dX8_does_239 rfl ?_
            refine mG_minute C hW (v := (τ.1 10)) rfl dX8_does_240 ?_
            refine lv_iload_n C.1 C.2.1 dX8_does_243 rfl (lv_at hl 0 rfl) ?_
            refine lv_iadd C.1 C.2.1 dX8_does_244 ?_
            refine mP_minute C hW dX8_does_245 (fun H locs hW => ?_)
            refine lv_iload_n C.1 C.2.1 dX8_does_248 rfl (lv_at hl 2 rfl) ?_
            refine lv_iconst C.1 C.2.1 (v := 1) dX8_does_249 (by decide) ?_
            refine lv_iadd C.1 C.2.1 dX8_does_250 ?_
            subst hQ
            exact r_iret ((sg (sg τ 13 ((τ.1 13) + 1)) 10 ((τ.1 10) + (lenO τ oN))), ξ) C hW hr hk dX8_does_251 ⟨_, Int32.toInt_inj.mp (by rw [show dnK τ (ξ.2.1 2) oN = oN + 1 from if_neg (by omega), nI_toInt (by omega)]; exact (ti_add ho (show (1 : Int32).toInt = 1 from by decide) (by omega) (by omega)).trans (by omega)), (by congr 1; unfold dnT; (try unfold frO); (try (first | rw [if_pos (show (τ.1 10).toInt < (τ.1 16).toInt by omega)] | rw [if_neg (show ¬ (τ.1 10).toInt < (τ.1 16).toInt by omega)])); (repeat (first | rw [if_pos (by omega)] | rw [if_neg (by omega)])); first | done | rfl), (by unfold dnL; (repeat (first | rw [if_pos (by omega)] | rw [if_neg (by omega)])); first | done | rfl)⟩
          · skip
            have k_7 := (tc_eq (rfl : ((τ.2.1 18 oN)).toInt = ((τ.2.1 18 oN)).toInt) (show (2 : Int32).toInt = 2 from by decide)).mp c_7
            refine lv_aload_n C.1 C.2.1 dX8_does_168 rfl (lv_at hl 1 rfl) ?_
            refine mG_minute C hW (v := (τ.1 10)) rfl dX8_does_169 ?_
            refine lv_aload_n C.1 C.2.1 dX8_does_172 rfl (lv_at hl 1 rfl) ?_
            refine mG_first C hW dX8_does_173 ?_
            refine lv_iload_n C.1 C.2.1 dX8_does_176 rfl (lv_at hl 2 rfl) ?_
            refine mL_first C hW oN (ho.trans (by omega)) (by omega) (v := (τ.2.1 19 oN)) rfl dX8_does_177 ?_
            refine lv_iadd C.1 C.2.1 dX8_does_178 ?_
            refine lv_aload_n C.1 C.2.1 dX8_does_179 rfl (lv_at hl 1 rfl) ?_
            refine mG_stormEnd C hW (v := (τ.1 16)) rfl dX8_does_180 ?_
            refine lv_aload_n C.1 C.2.1 dX8_does_183 rfl (lv_at hl 1 rfl) ?_
            refine mG_minute C hW (v := (τ.1 10)) rfl dX8_does_184 ?_
            refine lv_icmp_le C.1 C.2.1 (tgt := 197) dX8_does_187 (by decide) (fun c_8 => ?_) (fun c_8 => ?_)
            · skip
              have k_8 := (tc_le (rfl : ((τ.1 16)).toInt = ((τ.1 16)).toInt) (rfl : ((τ.1 10)).toInt = ((τ.1 10)).toInt)).mp c_8
              refine lv_aload_n C.1 C.2.1 dX8_does_197 rfl (lv_at hl 1 rfl) ?_
              refine mG_minute C hW (v := (τ.1 10)) rfl dX8_does_198 ?_
              refine lv_isub C.1 C.2.1 dX8_does_201 ?_
              refine lv_istore_n (lv' := [(3, .int (((τ.1 10) + (τ.2.1 19 oN)) - (τ.1 10))), (2, .int (lenO τ oN)), (0, .ref (q 0)), (1, .int o)]) C.1 C.2.1 dX8_does_202 rfl hl (by decide) rfl (fun ls hl => ?_)
              refine lv_iload_n C.1 C.2.1 dX8_does_203 rfl (lv_at hl 0 rfl) ?_
              refine lv_if_ge C.1 C.2.1 (tgt := 211) dX8_does_204 (by decide) (fun c_9 => ?_) (fun c_9 => ?_)
              · skip
                have k_9 := (tc_le (show (0 : Int32).toInt = 0 from by decide) (rfl : ((((τ.1 10) + (τ.2.1 19 oN)) - (τ.1 10))).toInt = ((((τ.1 10) + (τ.2.1 19 oN)) - (τ.1 10))).toInt)).mp c_9
                refine lv_iload_n C.1 C.2.1 dX8_does_211 rfl (lv_at hl 0 rfl) ?_
                refine lv_istore_n (lv' := [(3, .int (((τ.1 10) + (τ.2.1 19 oN)) - (τ.1 10))), (2, .int (lenO τ oN)), (0, .ref (q 0)), (1, .int o)]) C.1 C.2.1 dX8_does_212 rfl hl (by decide) rfl (fun ls hl => ?_)
                refine lv_aload_n C.1 C.2.1 dX8_does_213 rfl (lv_at hl 2 rfl) ?_
                refine lv_dup C.1 C.2.1 dX8_does_214 rfl ?_
                refine mG_watched C hW (v := (τ.1 12)) rfl dX8_does_215 ?_
                refine lv_iload_n C.1 C.2.1 dX8_does_218 rfl (lv_at hl 0 rfl) ?_
                refine lv_iadd C.1 C.2.1 dX8_does_219 ?_
                refine mP_watched C hW dX8_does_220 (fun H locs hW => ?_)
                refine lv_aload_n C.1 C.2.1 dX8_does_223 rfl (lv_at hl 2 rfl) ?_
                refine mG_watchedOf C hW dX8_does_224 ?_
                refine lv_aload_n C.1 C.2.1 dX8_does_227 rfl (lv_at hl 2 rfl) ?_
                refine mG_second C hW dX8_does_228 ?_
                refine lv_iload_n C.1 C.2.1 dX8_does_231 rfl (lv_at hl 3 rfl) ?_
                refine mL_second C hW oN (ho.trans (by omega)) (by omega) (v := (τ.2.1 20 oN)) rfl dX8_does_232 ?_
                refine lv_dup2_11 C.1 C.2.1 dX8_does_233 rfl rfl ?_
                refine mL_watchedOf C hW ((((τ.2.1 20 oN)).toInt).toNat) ((rfl : ((τ.2.1 20 oN)).toInt = ((τ.2.1 20 oN)).toInt).trans (by omega)) (by omega) (v := (τ.2.1 21 ((((τ.2.1 20 oN)).toInt).toNat))) rfl dX8_does_234 ?_
                refine lv_iload_n C.1 C.2.1 dX8_does_235 rfl (lv_at hl 0 rfl) ?_
                refine lv_iadd C.1 C.2.1 dX8_does_236 ?_
                refine mS_watchedOf C hW ((((τ.2.1 20 oN)).toInt).toNat) ((rfl : ((τ.2.1 20 oN)).toInt = ((τ.2.1 20 oN)).toInt).trans (by omega)) (by omega) dX8_does_237 (fun H locs hW => ?_)
                refine lv_aload_n C.1 C.2.1 dX8_does_238 rfl (lv_at hl 2 rfl) ?_
                refine lv_dup C.1 C.2.1 dX8_does_239 rfl ?_
                refine mG_minute C hW (v := (τ.1 10)) rfl dX8_does_240 ?_
                refine lv_iload_n C.1 C.2.1 dX8_does_243 rfl (lv_at hl 1 rfl) ?_
                refine lv_iadd C.1 C.2.1 dX8_does_244 ?_
                refine mP_minute C hW dX8_does_245 (fun H locs hW => ?_)
                refine lv_iload_n C.1 C.2.1 dX8_does_248 rfl (lv_at hl 3 rfl) ?_
                refine lv_iconst C.1 C.2.1 (v := 1) dX8_does_249 (by decide) ?_
                refine lv_iadd C.1 C.2.1 dX8_does_250 ?_
                subst hQ
                exact r_iret ((sg (sa (sg (sg τ 13 ((τ.1 13) + 1)) 12 ((τ.1 12) + (((τ.1 10) + (τ.2.1 19 oN)) - (τ.1 10)))) 21 ((((τ.2.1 20 oN)).toInt).toNat) ((τ.2.1 21 ((((τ.2.1 20 oN)).toInt).toNat)) + (((τ.1 10) + (τ.2.1 19 oN)) - (τ.1 10)))) 10 ((τ.1 10) + (lenO τ oN))), ξ) C hW hr hk dX8_does_251 ⟨_, Int32.toInt_inj.mp (by rw [show dnK τ (ξ.2.1 2) oN = oN + 1 from if_neg (by omega), nI_toInt (by omega)]; exact (ti_add ho (show (1 : Int32).toInt = 1 from by decide) (by omega) (by omega)).trans (by omega)), (by congr 1; unfold dnT; (try unfold frO); (try (first | rw [if_pos (show (τ.1 10).toInt < (τ.1 16).toInt by omega)] | rw [if_neg (show ¬ (τ.1 10).toInt < (τ.1 16).toInt by omega)])); (repeat (first | rw [if_pos (by omega)] | rw [if_neg (by omega)])); first | done | rfl), (by unfold dnL; (repeat (first | rw [if_pos (by omega)] | rw [if_neg (by omega)])); first | done | rfl)⟩
              · skip
                have k_9 := (tn_le (show (0 : Int32).toInt = 0 from by decide) (rfl : ((((τ.1 10) + (τ.2.1 19 oN)) - (τ.1 10))).toInt = ((((τ.1 10) + (τ.2.1 19 oN)) - (τ.1 10))).toInt)).mp c_9
                refine lv_iconst C.1 C.2.1 (v := 0) dX8_does_207 (by decide) ?_
                refine lv_goto C.1 C.2.1 (tgt := 212) dX8_does_208 (by decide) ?_
                refine lv_istore_n (lv' := [(3, .int 0), (2, .int (lenO τ oN)), (0, .ref (q 0)), (1, .int o)]) C.1 C.2.1 dX8_does_212 rfl hl (by decide) rfl (fun ls hl => ?_)
                refine lv_aload_n C.1 C.2.1 dX8_does_213 rfl (lv_at hl 2 rfl) ?_
                refine lv_dup C.1 C.2.1 dX8_does_214 rfl ?_
                refine mG_watched C hW (v := (τ.1 12)) rfl dX8_does_215 ?_
                refine lv_iload_n C.1 C.2.1 dX8_does_218 rfl (lv_at hl 0 rfl) ?_
                refine lv_iadd C.1 C.2.1 dX8_does_219 ?_
                refine mP_watched C hW dX8_does_220 (fun H locs hW => ?_)
                refine lv_aload_n C.1 C.2.1 dX8_does_223 rfl (lv_at hl 2 rfl) ?_
                refine mG_watchedOf C hW dX8_does_224 ?_
                refine lv_aload_n C.1 C.2.1 dX8_does_227 rfl (lv_at hl 2 rfl) ?_
                refine mG_second C hW dX8_does_228 ?_
                refine lv_iload_n C.1 C.2.1 dX8_does_231 rfl (lv_at hl 3 rfl) ?_
                refine mL_second C hW oN (ho.trans (by omega)) (by omega) (v := (τ.2.1 20 oN)) rfl dX8_does_232 ?_
                refine lv_dup2_11 C.1 C.2.1 dX8_does_233 rfl rfl ?_
                refine mL_watchedOf C hW ((((τ.2.1 20 oN)).toInt).toNat) ((rfl : ((τ.2.1 20 oN)).toInt = ((τ.2.1 20 oN)).toInt).trans (by omega)) (by omega) (v := (τ.2.1 21 ((((τ.2.1 20 oN)).toInt).toNat))) rfl dX8_does_234 ?_
                refine lv_iload_n C.1 C.2.1 dX8_does_235 rfl (lv_at hl 0 rfl) ?_
                refine lv_iadd C.1 C.2.1 dX8_does_236 ?_
                refine mS_watchedOf C hW ((((τ.2.1 20 oN)).toInt).toNat) ((rfl : ((τ.2.1 20 oN)).toInt = ((τ.2.1 20 oN)).toInt).trans (by omega)) (by omega) dX8_does_237 (fun H locs hW => ?_)
                refine lv_aload_n C.1 C.2.1 dX8_does_238 rfl (lv_at hl 2 rfl) ?_
                refine lv_dup C.1 C.2.1 dX8_does_239 rfl ?_
                refine mG_minute C hW (v := (τ.1 10)) rfl dX8_does_240 ?_
                refine lv_iload_n C.1 C.2.1 dX8_does_243 rfl (lv_at hl 1 rfl) ?_
                refine lv_iadd C.1 C.2.1 dX8_does_244 ?_
                refine mP_minute C hW dX8_does_245 (fun H locs hW => ?_)
                refine lv_iload_n C.1 C.2.1 dX8_does_248 rfl (lv_at hl 3 rfl) ?_
                refine lv_iconst C.1 C.2.1 (v := 1) dX8_does_249 (by decide) ?_
                refine lv_iadd C.1 C.2.1 dX8_does_250 ?_
                subst hQ
                exact r_iret ((sg (sa (sg (sg τ 13 ((τ.1 13) + 1)) 12 ((τ.1 12) + 0)) 21 ((((τ.2.1 20 oN)).toInt).toNat) ((τ.2.1 21 ((((τ.2.1 20 oN)).toInt).toNat)) + 0)) 10 ((τ.1 10) + (lenO τ oN))), ξ) C hW hr hk dX8_does_251 ⟨_, Int32.toInt_inj.mp (by rw [show dnK τ (ξ.2.1 2) oN = oN + 1 from if_neg (by omega), nI_toInt (by omega)]; exact (ti_add ho (show (1 : Int32).toInt = 1 from by decide) (by omega) (by omega)).trans (by omega)), (by congr 1; unfold dnT; (try unfold frO); (try (first | rw [if_pos (show (τ.1 10).toInt < (τ.1 16).toInt by omega)] | rw [if_neg (show ¬ (τ.1 10).toInt < (τ.1 16).toInt by omega)])); (repeat (first | rw [if_pos (by omega)] | rw [if_neg (by omega)])); first | done | rfl), (by unfold dnL; (repeat (first | rw [if_pos (by omega)] | rw [if_neg (by omega)])); first | done | rfl)⟩
            · skip
              have k_8 := (tn_le (rfl : ((τ.1 16)).toInt = ((τ.1 16)).toInt) (rfl : ((τ.1 10)).toInt = ((τ.1 10)).toInt)).mp c_8
              refine lv_aload_n C.1 C.2.1 dX8_does_190 rfl (lv_at hl 1 rfl) ?_
              refine mG_stormEnd C hW (v := (τ.1 16)) rfl dX8_does_191 ?_
              refine lv_goto C.1 C.2.1 (tgt := 201) dX8_does_194 (by decide) ?_
              refine lv_isub C.1 C.2.1 dX8_does_201 ?_
              refine lv_istore_n (lv' := [(3, .int (((τ.1 10) + (τ.2.1 19 oN)) - (τ.1 16))), (2, .int (lenO τ oN)), (0, .ref (q 0)), (1, .int o)]) C.1 C.2.1 dX8_does_202 rfl hl (by decide) rfl (fun ls hl => ?_)
              refine lv_iload_n C.1 C.2.1 dX8_does_203 rfl (lv_at hl 0 rfl) ?_
              refine lv_if_ge C.1 C.2.1 (tgt := 211) dX8_does_204 (by decide) (fun c_10 => ?_) (fun c_10 => ?_)
              · skip
                have k_10 := (tc_le (show (0 : Int32).toInt = 0 from by decide) (rfl : ((((τ.1 10) + (τ.2.1 19 oN)) - (τ.1 16))).toInt = ((((τ.1 10) + (τ.2.1 19 oN)) - (τ.1 16))).toInt)).mp c_10
                refine lv_iload_n C.1 C.2.1 dX8_does_211 rfl (lv_at hl 0 rfl) ?_
                refine lv_istore_n (lv' := [(3, .int (((τ.1 10) + (τ.2.1 19 oN)) - (τ.1 16))), (2, .int (lenO τ oN)), (0, .ref (q 0)), (1, .int o)]) C.1 C.2.1 dX8_does_212 rfl hl (by decide) rfl (fun ls hl => ?_)
                refine lv_aload_n C.1 C.2.1 dX8_does_213 rfl (lv_at hl 2 rfl) ?_
                refine lv_dup C.1 C.2.1 dX8_does_214 rfl ?_
                refine mG_watched C hW (v := (τ.1 12)) rfl dX8_does_215 ?_
                refine lv_iload_n C.1 C.2.1 dX8_does_218 rfl (lv_at hl 0 rfl) ?_
                refine lv_iadd C.1 C.2.1 dX8_does_219 ?_
                refine mP_watched C hW dX8_does_220 (fun H locs hW => ?_)
                refine lv_aload_n C.1 C.2.1 dX8_does_223 rfl (lv_at hl 2 rfl) ?_
                refine mG_watchedOf C hW dX8_does_224 ?_
                refine lv_aload_n C.1 C.2.1 dX8_does_227 rfl (lv_at hl 2 rfl) ?_
                refine mG_second C hW dX8_does_228 ?_
                refine lv_iload_n C.1 C.2.1 dX8_does_231 rfl (lv_at hl 3 rfl) ?_
                refine mL_second C hW oN (ho.trans (by omega)) (by omega) (v := (τ.2.1 20 oN)) rfl dX8_does_232 ?_
                refine lv_dup2_11 C.1 C.2.1 dX8_does_233 rfl rfl ?_
                refine mL_watchedOf C hW ((((τ.2.1 20 oN)).toInt).toNat) ((rfl : ((τ.2.1 20 oN)).toInt = ((τ.2.1 20 oN)).toInt).trans (by omega)) (by omega) (v := (τ.2.1 21 ((((τ.2.1 20 oN)).toInt).toNat))) rfl dX8_does_234 ?_
                refine lv_iload_n C.1 C.2.1 dX8_does_235 rfl (lv_at hl 0 rfl) ?_
                refine lv_iadd C.1 C.2.1 dX8_does_236 ?_
                refine mS_watchedOf C hW ((((τ.2.1 20 oN)).toInt).toNat) ((rfl : ((τ.2.1 20 oN)).toInt = ((τ.2.1 20 oN)).toInt).trans (by omega)) (by omega) dX8_does_237 (fun H locs hW => ?_)
                refine lv_aload_n C.1 C.2.1 dX8_does_238 rfl (lv_at hl 2 rfl) ?_
                refine lv_dup C.1 C.2.1 dX8_does_239 rfl ?_
                refine mG_minute C hW (v := (τ.1 10)) rfl dX8_does_240 ?_
                refine lv_iload_n C.1 C.2.1 dX8_does_243 rfl (lv_at hl 1 rfl) ?_
                refine lv_iadd C.1 C.2.1 dX8_does_244 ?_
                refine mP_minute C hW dX8_does_245 (fun H locs hW => ?_)
                refine lv_iload_n C.1 C.2.1 dX8_does_248 rfl (lv_at hl 3 rfl) ?_
                refine lv_iconst C.1 C.2.1 (v := 1) dX8_does_249 (by decide) ?_
                refine lv_iadd C.1 C.2.1 dX8_does_250 ?_
                subst hQ
                exact r_iret ((sg (sa (sg (sg τ 13 ((τ.1 13) + 1)) 12 ((τ.1 12) + (((τ.1 10) + (τ.2.1 19 oN)) - (τ.1 16)))) 21 ((((τ.2.1 20 oN)).toInt).toNat) ((τ.2.1 21 ((((τ.2.1 20 oN)).toInt).toNat)) + (((τ.1 10) + (τ.2.1 19 oN)) - (τ.1 16)))) 10 ((τ.1 10) + (lenO τ oN))), ξ) C hW hr hk dX8_does_251 ⟨_, Int32.toInt_inj.mp (by rw [show dnK τ (ξ.2.1 2) oN = oN + 1 from if_neg (by omega), nI_toInt (by omega)]; exact (ti_add ho (show (1 : Int32).toInt = 1 from by decide) (by omega) (by omega)).trans (by omega)), (by congr 1; unfold dnT; (try unfold frO); (try (first | rw [if_pos (show (τ.1 10).toInt < (τ.1 16).toInt by omega)] | rw [if_neg (show ¬ (τ.1 10).toInt < (τ.1 16).toInt by omega)])); (repeat (first | rw [if_pos (by omega)] | rw [if_neg (by omega)])); first | done | rfl), (by unfold dnL; (repeat (first | rw [if_pos (by omega)] | rw [if_neg (by omega)])); first | done | rfl)⟩
              · skip
                have k_10 := (tn_le (show (0 : Int32).toInt = 0 from by decide) (rfl : ((((τ.1 10) + (τ.2.1 19 oN)) - (τ.1 16))).toInt = ((((τ.1 10) + (τ.2.1 19 oN)) - (τ.1 16))).toInt)).mp c_10
                refine lv_iconst C.1 C.2.1 (v := 0) dX8_does_207 (by decide) ?_
                refine lv_goto C.1 C.2.1 (tgt := 212) dX8_does_208 (by decide) ?_
                refine lv_istore_n (lv' := [(3, .int 0), (2, .int (lenO τ oN)), (0, .ref (q 0)), (1, .int o)]) C.1 C.2.1 dX8_does_212 rfl hl (by decide) rfl (fun ls hl => ?_)
                refine lv_aload_n C.1 C.2.1 dX8_does_213 rfl (lv_at hl 2 rfl) ?_
                refine lv_dup C.1 C.2.1 dX8_does_214 rfl ?_
                refine mG_watched C hW (v := (τ.1 12)) rfl dX8_does_215 ?_
                refine lv_iload_n C.1 C.2.1 dX8_does_218 rfl (lv_at hl 0 rfl) ?_
                refine lv_iadd C.1 C.2.1 dX8_does_219 ?_
                refine mP_watched C hW dX8_does_220 (fun H locs hW => ?_)
                refine lv_aload_n C.1 C.2.1 dX8_does_223 rfl (lv_at hl 2 rfl) ?_
                refine mG_watchedOf C hW dX8_does_224 ?_
                refine lv_aload_n C.1 C.2.1 dX8_does_227 rfl (lv_at hl 2 rfl) ?_
                refine mG_second C hW dX8_does_228 ?_
                refine lv_iload_n C.1 C.2.1 dX8_does_231 rfl (lv_at hl 3 rfl) ?_
                refine mL_second C hW oN (ho.trans (by omega)) (by omega) (v := (τ.2.1 20 oN)) rfl dX8_does_232 ?_
                refine lv_dup2_11 C.1 C.2.1 dX8_does_233 rfl rfl ?_
                refine mL_watchedOf C hW ((((τ.2.1 20 oN)).toInt).toNat) ((rfl : ((τ.2.1 20 oN)).toInt = ((τ.2.1 20 oN)).toInt).trans (by omega)) (by omega) (v := (τ.2.1 21 ((((τ.2.1 20 oN)).toInt).toNat))) rfl dX8_does_234 ?_
                refine lv_iload_n C.1 C.2.1 dX8_does_235 rfl (lv_at hl 0 rfl) ?_
                refine lv_iadd C.1 C.2.1 dX8_does_236 ?_
                refine mS_watchedOf C hW ((((τ.2.1 20 oN)).toInt).toNat) ((rfl : ((τ.2.1 20 oN)).toInt = ((τ.2.1 20 oN)).toInt).trans (by omega)) (by omega) dX8_does_237 (fun H locs hW => ?_)
                refine lv_aload_n C.1 C.2.1 dX8_does_238 rfl (lv_at hl 2 rfl) ?_
                refine lv_dup C.1 C.2.1 dX8_does_239 rfl ?_
                refine mG_minute C hW (v := (τ.1 10)) rfl dX8_does_240 ?_
                refine lv_iload_n C.1 C.2.1 dX8_does_243 rfl (lv_at hl 1 rfl) ?_
                refine lv_iadd C.1 C.2.1 dX8_does_244 ?_
                refine mP_minute C hW dX8_does_245 (fun H locs hW => ?_)
                refine lv_iload_n C.1 C.2.1 dX8_does_248 rfl (lv_at hl 3 rfl) ?_
                refine lv_iconst C.1 C.2.1 (v := 1) dX8_does_249 (by decide) ?_
                refine lv_iadd C.1 C.2.1 dX8_does_250 ?_
                subst hQ
                exact r_iret ((sg (sa (sg (sg τ 13 ((τ.1 13) + 1)) 12 ((τ.1 12) + 0)) 21 ((((τ.2.1 20 oN)).toInt).toNat) ((τ.2.1 21 ((((τ.2.1 20 oN)).toInt).toNat)) + 0)) 10 ((τ.1 10) + (lenO τ oN))), ξ) C hW hr hk dX8_does_251 ⟨_, Int32.toInt_inj.mp (by rw [show dnK τ (ξ.2.1 2) oN = oN + 1 from if_neg (by omega), nI_toInt (by omega)]; exact (ti_add ho (show (1 : Int32).toInt = 1 from by decide) (by omega) (by omega)).trans (by omega)), (by congr 1; unfold dnT; (try unfold frO); (try (first | rw [if_pos (show (τ.1 10).toInt < (τ.1 16).toInt by omega)] | rw [if_neg (show ¬ (τ.1 10).toInt < (τ.1 16).toInt by omega)])); (repeat (first | rw [if_pos (by omega)] | rw [if_neg (by omega)])); first | done | rfl), (by unfold dnL; (repeat (first | rw [if_pos (by omega)] | rw [if_neg (by omega)])); first | done | rfl)⟩
        · skip
          have k_6 := (tc_eq (rfl : ((τ.2.1 18 oN)).toInt = ((τ.2.1 18 oN)).toInt) (show (5 : Int32).toInt = 5 from by decide)).mp c_6
          refine lv_aload_n C.1 C.2.1 dX8_does_138 rfl (lv_at hl 1 rfl) ?_
          refine lv_dup C.1 C.2.1 dX8_does_139 rfl ?_
          refine mG_turning C hW (v := (τ.1 15)) rfl dX8_does_140 ?_
          refine lv_iload_n C.1 C.2.1 dX8_does_143 rfl (lv_at hl 0 rfl) ?_
          refine lv_iadd C.1 C.2.1 dX8_does_144 ?_
          refine mP_turning C hW dX8_does_145 (fun H locs hW => ?_)
          refine lv_aload_n C.1 C.2.1 dX8_does_148 rfl (lv_at hl 1 rfl) ?_
          refine lv_aload_n C.1 C.2.1 dX8_does_149 rfl (lv_at hl 1 rfl) ?_
          refine mG_first C hW dX8_does_150 ?_
          refine lv_iload_n C.1 C.2.1 dX8_does_153 rfl (lv_at hl 2 rfl) ?_
          refine mL_first C hW oN (ho.trans (by omega)) (by omega) (v := (τ.2.1 19 oN)) rfl dX8_does_154 ?_
          refine mP_azimuth C hW dX8_does_155 (fun H locs hW => ?_)
          refine lv_aload_n C.1 C.2.1 dX8_does_158 rfl (lv_at hl 1 rfl) ?_
          refine mG_kinds C hW dX8_does_159 ?_
          refine lv_iload_n C.1 C.2.1 dX8_does_162 rfl (lv_at hl 2 rfl) ?_
          refine mL_kinds C hW oN (ho.trans (by omega)) (by omega) (v := (τ.2.1 18 oN)) rfl dX8_does_163 ?_
          refine lv_iconst C.1 C.2.1 (v := 2) dX8_does_164 (by decide) ?_
          refine lv_icmp_ne C.1 C.2.1 (tgt := 238) dX8_does_165 (by decide) (fun _ => ?_) (fun c => absurd ((tc_eq (rfl : ((τ.2.1 18 oN)).toInt = ((τ.2.1 18 oN)).toInt) (show (2 : Int32).toInt = 2 from by decide)).mp c) (by omega))
          refine lv_aload_n C.1 C.2.1 dX8_does_238 rfl (lv_at hl 1 rfl) ?_
          refine lv_dup C.1 C.2.1 dX8_does_239 rfl ?_
          refine mG_minute C hW (v := (τ.1 10)) rfl dX8_does_240 ?_
          refine lv_iload_n C.1 C.2.1 dX8_does_243 rfl (lv_at hl 0 rfl) ?_
          refine lv_iadd C.1 C.2.1 dX8_does_244 ?_
          refine mP_minute C hW dX8_does_245 (fun H locs hW => ?_)
          refine lv_iload_n C.1 C.2.1 dX8_does_248 rfl (lv_at hl 2 rfl) ?_
          refine lv_iconst C.1 C.2.1 (v := 1) dX8_does_249 (by decide) ?_
          refine lv_iadd C.1 C.2.1 dX8_does_250 ?_
          subst hQ
          exact r_iret ((sg (sg (sg (sg τ 13 ((τ.1 13) + 1)) 15 ((τ.1 15) + (lenO τ oN))) 11 (τ.2.1 19 oN)) 10 ((τ.1 10) + (lenO τ oN))), ξ) C hW hr hk dX8_does_251 ⟨_, Int32.toInt_inj.mp (by rw [show dnK τ (ξ.2.1 2) oN = oN + 1 from if_neg (by omega), nI_toInt (by omega)]; exact (ti_add ho (show (1 : Int32).toInt = 1 from by decide) (by omega) (by omega)).trans (by omega)), (by congr 1; unfold dnT; (try unfold frO); (try (first | rw [if_pos (show (τ.1 10).toInt < (τ.1 16).toInt by omega)] | rw [if_neg (show ¬ (τ.1 10).toInt < (τ.1 16).toInt by omega)])); (repeat (first | rw [if_pos (by omega)] | rw [if_neg (by omega)])); first | done | rfl), (by unfold dnL; (repeat (first | rw [if_pos (by omega)] | rw [if_neg (by omega)])); first | done | rfl)⟩
    · skip
      have k_3 := (tc_eq (rfl : ((τ.2.1 18 oN)).toInt = ((τ.2.1 18 oN)).toInt) (show (4 : Int32).toInt = 4 from by decide)).mp c_3
      refine lv_aload_n C.1 C.2.1 dX8_does_78 rfl (lv_at hl 1 rfl) ?_
      refine lv_aload_n C.1 C.2.1 dX8_does_79 rfl (lv_at hl 1 rfl) ?_
      refine mG_minute C hW (v := (τ.1 10)) rfl dX8_does_80 ?_
      refine lv_aload_n C.1 C.2.1 dX8_does_83 rfl (lv_at hl 1 rfl) ?_
      refine mG_first C hW dX8_does_84 ?_
      refine lv_iload_n C.1 C.2.1 dX8_does_87 rfl (lv_at hl 2 rfl) ?_
      refine mL_first C hW oN (ho.trans (by omega)) (by omega) (v := (τ.2.1 19 oN)) rfl dX8_does_88 ?_
      refine lv_iadd C.1 C.2.1 dX8_does_89 ?_
      refine lv_aload_n C.1 C.2.1 dX8_does_90 rfl (lv_at hl 1 rfl) ?_
      refine mG_stormEnd C hW (v := (τ.1 16)) rfl dX8_does_91 ?_
      refine lv_icmp_le C.1 C.2.1 (tgt := 111) dX8_does_94 (by decide) (fun c_12 => ?_) (fun c_12 => ?_)
      · skip
        have k_12 := (tc_le (rfl : (((τ.1 10) + (τ.2.1 19 oN))).toInt = (((τ.1 10) + (τ.2.1 19 oN))).toInt) (rfl : ((τ.1 16)).toInt = ((τ.1 16)).toInt)).mp c_12
        refine lv_aload_n C.1 C.2.1 dX8_does_111 rfl (lv_at hl 1 rfl) ?_
        refine mG_stormEnd C hW (v := (τ.1 16)) rfl dX8_does_112 ?_
        refine mP_stormEnd C hW dX8_does_115 (fun H locs hW => ?_)
        refine lv_aload_n C.1 C.2.1 dX8_does_118 rfl (lv_at hl 1 rfl) ?_
        refine mG_kinds C hW dX8_does_119 ?_
        refine lv_iload_n C.1 C.2.1 dX8_does_122 rfl (lv_at hl 2 rfl) ?_
        refine mL_kinds C hW oN (ho.trans (by omega)) (by omega) (v := (τ.2.1 18 oN)) rfl dX8_does_123 ?_
        refine lv_iconst C.1 C.2.1 (v := 1) dX8_does_124 (by decide) ?_
        refine lv_icmp_eq C.1 C.2.1 (tgt := 138) dX8_does_125 (by decide) (fun c => absurd ((tc_eq (rfl : ((τ.2.1 18 oN)).toInt = ((τ.2.1 18 oN)).toInt) (show (1 : Int32).toInt = 1 from by decide)).mp c) (by omega)) (fun _ => ?_)
        refine lv_aload_n C.1 C.2.1 dX8_does_128 rfl (lv_at hl 1 rfl) ?_
        refine mG_kinds C hW dX8_does_129 ?_
        refine lv_iload_n C.1 C.2.1 dX8_does_132 rfl (lv_at hl 2 rfl) ?_
        refine mL_kinds C hW oN (ho.trans (by omega)) (by omega) (v := (τ.2.1 18 oN)) rfl dX8_does_133 ?_
        refine lv_iconst C.1 C.2.1 (v := 5) dX8_does_134 (by decide) ?_
        refine lv_icmp_ne C.1 C.2.1 (tgt := 158) dX8_does_135 (by decide) (fun _ => ?_) (fun c => absurd ((tc_eq (rfl : ((τ.2.1 18 oN)).toInt = ((τ.2.1 18 oN)).toInt) (show (5 : Int32).toInt = 5 from by decide)).mp c) (by omega))
        refine lv_aload_n C.1 C.2.1 dX8_does_158 rfl (lv_at hl 1 rfl) ?_
        refine mG_kinds C hW dX8_does_159 ?_
        refine lv_iload_n C.1 C.2.1 dX8_does_162 rfl (lv_at hl 2 rfl) ?_
        refine mL_kinds C hW oN (ho.trans (by omega)) (by omega) (v := (τ.2.1 18 oN)) rfl dX8_does_163 ?_
        refine lv_iconst C.1 C.2.1 (v := 2) dX8_does_164 (by decide) ?_
        refine lv_icmp_ne C.1 C.2.1 (tgt := 238) dX8_does_165 (by decide) (fun _ => ?_) (fun c => absurd ((tc_eq (rfl : ((τ.2.1 18 oN)).toInt = ((τ.2.1 18 oN)).toInt) (show (2 : Int32).toInt = 2 from by decide)).mp c) (by omega))
        refine lv_aload_n C.1 C.2.1 dX8_does_238 rfl (lv_at hl 1 rfl) ?_
        refine lv_dup C.1 C.2.1 dX8_does_239 rfl ?_
        refine mG_minute C hW (v := (τ.1 10)) rfl dX8_does_240 ?_
        refine lv_iload_n C.1 C.2.1 dX8_does_243 rfl (lv_at hl 0 rfl) ?_
        refine lv_iadd C.1 C.2.1 dX8_does_244 ?_
        refine mP_minute C hW dX8_does_245 (fun H locs hW => ?_)
        refine lv_iload_n C.1 C.2.1 dX8_does_248 rfl (lv_at hl 2 rfl) ?_
        refine lv_iconst C.1 C.2.1 (v := 1) dX8_does_249 (by decide) ?_
        refine lv_iadd C.1 C.2.1 dX8_does_250 ?_
        subst hQ
        exact r_iret ((sg (sg (sg τ 13 ((τ.1 13) + 1)) 16 (τ.1 16)) 10 ((τ.1 10) + (lenO τ oN))), ξ) C hW hr hk dX8_does_251 ⟨_, Int32.toInt_inj.mp (by rw [show dnK τ (ξ.2.1 2) oN = oN + 1 from if_neg (by omega), nI_toInt (by omega)]; exact (ti_add ho (show (1 : Int32).toInt = 1 from by decide) (by omega) (by omega)).trans (by omega)), (by congr 1; unfold dnT; (try unfold frO); (try (first | rw [if_pos (show (τ.1 10).toInt < (τ.1 16).toInt by omega)] | rw [if_neg (show ¬ (τ.1 10).toInt < (τ.1 16).toInt by omega)])); (repeat (first | rw [if_pos (by omega)] | rw [if_neg (by omega)])); first | done | rfl), (by unfold dnL; (repeat (first | rw [if_pos (by omega)] | rw [if_neg (by omega)])); first | done | rfl)⟩
      · skip
        have k_12 := (tn_le (rfl : (((τ.1 10) + (τ.2.1 19 oN))).toInt = (((τ.1 10) + (τ.2.1 19 oN))).toInt) (rfl : ((τ.1 16)).toInt = ((τ.1 16)).toInt)).mp c_12
        refine lv_aload_n C.1 C.2.1 dX8_does_97 rfl (lv_at hl 1 rfl) ?_
        refine mG_minute C hW (v := (τ.1 10)) rfl dX8_does_98 ?_
        refine lv_aload_n C.1 C.2.1 dX8_does_101 rfl (lv_at hl 1 rfl) ?_
        refine mG_first C hW dX8_does_102 ?_
        refine lv_iload_n C.1 C.2.1 dX8_does_105 rfl (lv_at hl 2 rfl) ?_
        refine mL_first C hW oN (ho.trans (by omega)) (by omega) (v := (τ.2.1 19 oN)) rfl dX8_does_106 ?_
        refine lv_iadd C.1 C.2.1 dX8_does_107 ?_
        refine lv_goto C.1 C.2.1 (tgt := 115) dX8_does_108 (by decide) ?_
        refine mP_stormEnd C hW dX8_does_115 (fun H locs hW => ?_)
        refine lv_aload_n C.1 C.2.1 dX8_does_118 rfl (lv_at hl 1 rfl) ?_
        refine mG_kinds C hW dX8_does_119 ?_
        refine lv_iload_n C.1 C.2.1 dX8_does_122 rfl (lv_at hl 2 rfl) ?_
        refine mL_kinds C hW oN (ho.trans (by omega)) (by omega) (v := (τ.2.1 18 oN)) rfl dX8_does_123 ?_
        refine lv_iconst C.1 C.2.1 (v := 1) dX8_does_124 (by decide) ?_
        refine lv_icmp_eq C.1 C.2.1 (tgt := 138) dX8_does_125 (by decide) (fun c => absurd ((tc_eq (rfl : ((τ.2.1 18 oN)).toInt = ((τ.2.1 18 oN)).toInt) (show (1 : Int32).toInt = 1 from by decide)).mp c) (by omega)) (fun _ => ?_)
        refine lv_aload_n C.1 C.2.1 dX8_does_128 rfl (lv_at hl 1 rfl) ?_
        refine mG_kinds C hW dX8_does_129 ?_
        refine lv_iload_n C.1 C.2.1 dX8_does_132 rfl (lv_at hl 2 rfl) ?_
        refine mL_kinds C hW oN (ho.trans (by omega)) (by omega) (v := (τ.2.1 18 oN)) rfl dX8_does_133 ?_
        refine lv_iconst C.1 C.2.1 (v := 5) dX8_does_134 (by decide) ?_
        refine lv_icmp_ne C.1 C.2.1 (tgt := 158) dX8_does_135 (by decide) (fun _ => ?_) (fun c => absurd ((tc_eq (rfl : ((τ.2.1 18 oN)).toInt = ((τ.2.1 18 oN)).toInt) (show (5 : Int32).toInt = 5 from by decide)).mp c) (by omega))
        refine lv_aload_n C.1 C.2.1 dX8_does_158 rfl (lv_at hl 1 rfl) ?_
        refine mG_kinds C hW dX8_does_159 ?_
        refine lv_iload_n C.1 C.2.1 dX8_does_162 rfl (lv_at hl 2 rfl) ?_
        refine mL_kinds C hW oN (ho.trans (by omega)) (by omega) (v := (τ.2.1 18 oN)) rfl dX8_does_163 ?_
        refine lv_iconst C.1 C.2.1 (v := 2) dX8_does_164 (by decide) ?_
        refine lv_icmp_ne C.1 C.2.1 (tgt := 238) dX8_does_165 (by decide) (fun _ => ?_) (fun c => absurd ((tc_eq (rfl : ((τ.2.1 18 oN)).toInt = ((τ.2.1 18 oN)).toInt) (show (2 : Int32).toInt = 2 from by decide)).mp c) (by omega))
        refine lv_aload_n C.1 C.2.1 dX8_does_238 rfl (lv_at hl 1 rfl) ?_
        refine lv_dup C.1 C.2.1 dX8_does_239 rfl ?_
        refine mG_minute C hW (v := (τ.1 10)) rfl dX8_does_240 ?_
        refine lv_iload_n C.1 C.2.1 dX8_does_243 rfl (lv_at hl 0 rfl) ?_
        refine lv_iadd C.1 C.2.1 dX8_does_244 ?_
        refine mP_minute C hW dX8_does_245 (fun H locs hW => ?_)
        refine lv_iload_n C.1 C.2.1 dX8_does_248 rfl (lv_at hl 2 rfl) ?_
        refine lv_iconst C.1 C.2.1 (v := 1) dX8_does_249 (by decide) ?_
        refine lv_iadd C.1 C.2.1 dX8_does_250 ?_
        subst hQ
        exact r_iret ((sg (sg (sg τ 13 ((τ.1 13) + 1)) 16 ((τ.1 10) + (τ.2.1 19 oN))) 10 ((τ.1 10) + (lenO τ oN))), ξ) C hW hr hk dX8_does_251 ⟨_, Int32.toInt_inj.mp (by rw [show dnK τ (ξ.2.1 2) oN = oN + 1 from if_neg (by omega), nI_toInt (by omega)]; exact (ti_add ho (show (1 : Int32).toInt = 1 from by decide) (by omega) (by omega)).trans (by omega)), (by congr 1; unfold dnT; (try unfold frO); (try (first | rw [if_pos (show (τ.1 10).toInt < (τ.1 16).toInt by omega)] | rw [if_neg (show ¬ (τ.1 10).toInt < (τ.1 16).toInt by omega)])); (repeat (first | rw [if_pos (by omega)] | rw [if_neg (by omega)])); first | done | rfl), (by unfold dnL; (repeat (first | rw [if_pos (by omega)] | rw [if_neg (by omega)])); first | done | rfl)⟩
  · skip
    have k_2 := (tc_eq (rfl : ((τ.2.1 18 oN)).toInt = ((τ.2.1 18 oN)).toInt) (show (3 : Int32).toInt = 3 from by decide)).mp c_2
    refine lv_aload_n C.1 C.2.1 dX8_does_26 rfl (lv_at hl 1 rfl) ?_
    refine mG_left C hW dX8_does_27 ?_
    refine lv_iload_n C.1 C.2.1 dX8_does_30 rfl (lv_at hl 2 rfl) ?_
    refine mL_left C hW oN (ho.trans (by omega)) (by omega) (v := (ξ.2.1 2 oN)) rfl dX8_does_31 ?_
    refine lv_if_le C.1 C.2.1 (tgt := 52) dX8_does_32 (by decide) (fun c_19 => ?_) (fun c_19 => ?_)
    · skip
      have k_19 := (tc_le (rfl : ((ξ.2.1 2 oN)).toInt = ((ξ.2.1 2 oN)).toInt) (show (0 : Int32).toInt = 0 from by decide)).mp c_19
      refine lv_aload_n C.1 C.2.1 dX8_does_52 rfl (lv_at hl 1 rfl) ?_
      refine mG_left C hW dX8_does_53 ?_
      refine lv_iload_n C.1 C.2.1 dX8_does_56 rfl (lv_at hl 2 rfl) ?_
      refine lv_aload_n C.1 C.2.1 dX8_does_57 rfl (lv_at hl 1 rfl) ?_
      refine mG_second C hW dX8_does_58 ?_
      refine lv_iload_n C.1 C.2.1 dX8_does_61 rfl (lv_at hl 2 rfl) ?_
      refine mL_second C hW oN (ho.trans (by omega)) (by omega) (v := (τ.2.1 20 oN)) rfl dX8_does_62 ?_
      refine mS_left C hW oN (ho.trans (by omega)) (by omega) dX8_does_63 (fun H locs hW => ?_)
      refine lv_iload_n C.1 C.2.1 dX8_does_64 rfl (lv_at hl 2 rfl) ?_
      refine lv_iconst C.1 C.2.1 (v := 1) dX8_does_65 (by decide) ?_
      refine lv_iadd C.1 C.2.1 dX8_does_66 ?_
      subst hQ
      exact r_iret ((sg τ 13 ((τ.1 13) + 1)), (sa ξ 2 oN (τ.2.1 20 oN))) C hW hr hk dX8_does_67 ⟨_, Int32.toInt_inj.mp (by rw [show dnK τ (ξ.2.1 2) oN = oN + 1 from if_neg (by omega), nI_toInt (by omega)]; exact (ti_add ho (show (1 : Int32).toInt = 1 from by decide) (by omega) (by omega)).trans (by omega)), (by congr 1; unfold dnT; (try unfold frO); (try (first | rw [if_pos (show (τ.1 10).toInt < (τ.1 16).toInt by omega)] | rw [if_neg (show ¬ (τ.1 10).toInt < (τ.1 16).toInt by omega)])); (repeat (first | rw [if_pos (by omega)] | rw [if_neg (by omega)])); first | done | rfl), (by unfold dnL; (repeat (first | rw [if_pos (by omega)] | rw [if_neg (by omega)])); first | done | rfl)⟩
    · skip
      have k_19 := (tn_le (rfl : ((ξ.2.1 2 oN)).toInt = ((ξ.2.1 2 oN)).toInt) (show (0 : Int32).toInt = 0 from by decide)).mp c_19
      refine lv_aload_n C.1 C.2.1 dX8_does_35 rfl (lv_at hl 1 rfl) ?_
      refine mG_left C hW dX8_does_36 ?_
      refine lv_iload_n C.1 C.2.1 dX8_does_39 rfl (lv_at hl 2 rfl) ?_
      refine lv_dup2_11 C.1 C.2.1 dX8_does_40 rfl rfl ?_
      refine mL_left C hW oN (ho.trans (by omega)) (by omega) (v := (ξ.2.1 2 oN)) rfl dX8_does_41 ?_
      refine lv_iconst C.1 C.2.1 (v := 1) dX8_does_42 (by decide) ?_
      refine lv_isub C.1 C.2.1 dX8_does_43 ?_
      refine mS_left C hW oN (ho.trans (by omega)) (by omega) dX8_does_44 (fun H locs hW => ?_)
      refine lv_aload_n C.1 C.2.1 dX8_does_45 rfl (lv_at hl 1 rfl) ?_
      refine mG_first C hW dX8_does_46 ?_
      refine lv_iload_n C.1 C.2.1 dX8_does_49 rfl (lv_at hl 2 rfl) ?_
      refine mL_first C hW oN (ho.trans (by omega)) (by omega) (v := (τ.2.1 19 oN)) rfl dX8_does_50 ?_
      subst hQ
      exact r_iret ((sg τ 13 ((τ.1 13) + 1)), (sa ξ 2 oN ((ξ.2.1 2 oN) - 1))) C hW hr hk dX8_does_51 ⟨_, Int32.toInt_inj.mp (by rw [show dnK τ (ξ.2.1 2) oN = (τ.2.1 19 oN).toInt.toNat from if_pos (by omega), nI_toInt (by omega)]; omega), (by congr 1; unfold dnT; (try unfold frO); (try (first | rw [if_pos (show (τ.1 10).toInt < (τ.1 16).toInt by omega)] | rw [if_neg (show ¬ (τ.1 10).toInt < (τ.1 16).toInt by omega)])); (repeat (first | rw [if_pos (by omega)] | rw [if_neg (by omega)])); first | done | rfl), (by unfold dnL; (repeat (first | rw [if_pos (by omega)] | rw [if_neg (by omega)])); first | done | rfl)⟩
set_option maxHeartbeats 4000000 in
set_option maxRecDepth 100000 in
theorem c_X8_night (l : Launch) (G : GG) (q : Nat → Nat) (sz : Nat) (τ ξ : ST) (last : Int32) (h_o : 0 ≤ (τ.1 9).toInt ∧ (τ.1 9).toInt ≤ 60) (h_u : ∀ z : Nat, z < 8 → 0 ≤ (τ.2.1 17 z).toInt ∧ (τ.2.1 17 z).toInt ≤ 1440) (h_okk : ∀ k : Nat, (k : Int) < (τ.1 9).toInt → okK τ k) : Met l yX8_night (WSb yX8_night cX8_night 3 (some .int)) (rmA 3 69) (va_Pc [.ref (q 0), .int last] (PW G 33 q sz (eM G q τ ξ))) (va_Qi (fun (r : Int32) (u : (ST × ST)) => sp_night τ last = (r, u.1)) (fun u => BW G 33 q (eM G q u.1 u.2)) (FA 33 q sz)) 0 0 (FA 33 q sz) := by
  refine Met_B (own := RX8) rfl (by decide) (Nat.le_of_ble_eq_true rfl) (fun p e s m args below meth c ls hsz C hW hr hk hl QQ hQ => ?_)
  subst hsz
  have hl : lv_has ls 3 [(0, .ref (q 0)), (1, .int last)] := hl
  refine lv_iload_n C.1 C.2.1 dX8_night_0 rfl (lv_at hl 1 rfl) ?_
  refine lv_i2l C.1 C.2.1 dX8_night_1 rfl ?_
  refine lv_lconst C.1 C.2.1 (v := 0) dX8_night_2 (by decide) ?_
  refine lv_ldc2 C.1 C.2.1 C.2.2.2.1 (C.2.2.2.2.1 _ bQ_X8_288) dX8_night_3 ?_
  refine go_i hW (run_S (As := [.long ((last).toInt64), .long 0, .long 100000]) (rest := []) C hW (c_X8_in l G q _ τ ξ ((last).toInt64) 0 100000 ((last).toInt) 0 100000 (ti_i2l (rfl : (last).toInt = (last).toInt)) (show (0 : Int64).toInt = 0 from by decide) (show (100000 : Int64).toInt = 100000 from by decide)) (cw_S 3 C bL_X8_121 bS_X8_in bN_X8 bC_X8_in ⟨rfl, rfl⟩ (by decide +kernel) ⟨Nat.le_of_ble_eq_true rfl, Nat.le_of_ble_eq_true rfl⟩) rfl hl.1 rfl (Nat.le_of_ble_eq_true rfl) dX8_night_6 ⟨Nat.le_refl _, Nat.le_refl _⟩) (fun r_1 u_1 H locs hp_1 hW => ?_)
  rcases hp_1 with ⟨rfl, rfl, k_1_0, k_1_1⟩ | ⟨rfl, rfl, k_1⟩
  · skip
    have hW : WB G 33 q (eM G q τ ξ) s H locs := hW
    refine lv_if_ne C.1 C.2.1 (tgt := 15) dX8_night_9 (by decide) (fun _ => ?_) (fun c => absurd c (by decide))
    refine lv_aload_n C.1 C.2.1 dX8_night_15 rfl (lv_at hl 0 rfl) ?_
    refine lv_iconst C.1 C.2.1 (v := 0) dX8_night_16 (by decide) ?_
    refine mP_minute C hW dX8_night_17 (fun H locs hW => ?_)
    refine lv_aload_n C.1 C.2.1 dX8_night_20 rfl (lv_at hl 0 rfl) ?_
    refine lv_iconst C.1 C.2.1 (v := 0) dX8_night_21 (by decide) ?_
    refine mP_azimuth C hW dX8_night_22 (fun H locs hW => ?_)
    refine lv_aload_n C.1 C.2.1 dX8_night_25 rfl (lv_at hl 0 rfl) ?_
    refine lv_iconst C.1 C.2.1 (v := 0) dX8_night_26 (by decide) ?_
    refine mP_watched C hW dX8_night_27 (fun H locs hW => ?_)
    refine lv_aload_n C.1 C.2.1 dX8_night_30 rfl (lv_at hl 0 rfl) ?_
    refine lv_iconst C.1 C.2.1 (v := 0) dX8_night_31 (by decide) ?_
    refine mP_done C hW dX8_night_32 (fun H locs hW => ?_)
    refine lv_aload_n C.1 C.2.1 dX8_night_35 rfl (lv_at hl 0 rfl) ?_
    refine lv_iconst C.1 C.2.1 (v := (-1)) dX8_night_36 (by decide) ?_
    refine mP_endedAt C hW dX8_night_37 (fun H locs hW => ?_)
    refine lv_aload_n C.1 C.2.1 dX8_night_40 rfl (lv_at hl 0 rfl) ?_
    refine lv_iconst C.1 C.2.1 (v := 0) dX8_night_41 (by decide) ?_
    refine mP_turning C hW dX8_night_42 (fun H locs hW => ?_)
    refine lv_aload_n C.1 C.2.1 dX8_night_45 rfl (lv_at hl 0 rfl) ?_
    refine lv_iconst C.1 C.2.1 (v := 0) dX8_night_46 (by decide) ?_
    refine mP_stormEnd C hW dX8_night_47 (fun H locs hW => ?_)
    refine lv_iconst C.1 C.2.1 (v := 0) dX8_night_50 (by decide) ?_
    refine lv_istore_n (lv' := [(2, .int 0), (0, .ref (q 0)), (1, .int last)]) C.1 C.2.1 dX8_night_51 rfl hl (by decide) rfl (fun ls hl => ?_)
    have L_52_3 : ∀ (fuel : Nat) (g : Nat) (x2 : Int32), 8 - g < fuel → (x2.toInt = (g : Int)) → (g ≤ 8) → ∀ (H : Heap) (locs : List Loc) (ls : Array Slot), WB G 33 q (eM G q (saF (sg (sg (sg (sg (sg (sg (sg τ 10 0) 11 0) 12 0) 13 0) 14 (-1)) 15 0) 16 0) 21 (cut g (fun _ => 0) (τ.2.1 21))) ξ) s H locs → lv_has ls 3 [(2, .int x2), (0, .ref (q 0)), (1, .int last)] → W p l e (rmA 3 69) s m args below meth c H locs 0 0 QQ (F0 m 52 ls []) := by
      intro fuel; induction fuel with
      | zero => intro g x2 hf; exact absurd hf (Nat.not_lt_zero _)
      | succ fuel ih_52 =>
        intro g x2 hf hg hgl H locs ls hW hl
        refine lv_iload_n C.1 C.2.1 dX8_night_52 rfl (lv_at hl 0 rfl) ?_
        refine lv_bipush C.1 C.2.1 (v := 8) dX8_night_53 (by decide) ?_
        refine lv_icmp_ge C.1 C.2.1 (tgt := 71) dX8_night_55 (by decide) (fun c_4 => ?_) (fun c_4 => ?_)
        · skip
          have k_4 := (tc_le (show (8 : Int32).toInt = 8 from by decide) hg).mp c_4
          refine lv_iconst C.1 C.2.1 (v := 0) dX8_night_71 (by decide) ?_
          refine lv_istore_n (lv' := [(2, .int 0), (0, .ref (q 0)), (1, .int last)]) C.1 C.2.1 dX8_night_72 rfl hl (by decide) rfl (fun ls hl => ?_)
          have L_73_5 : ∀ (fuel : Nat) (g2 : Nat) (x3 : Int32) (ξ1 : ST), (τ.1 9).toInt.toNat - g2 < fuel → (x3.toInt = (g2 : Int)) → ((g2 : Int) ≤ (τ.1 9).toInt) → (∀ j : Nat, j < g2 → ξ1.2.1 2 j = τ.2.1 20 j) → ∀ (H : Heap) (locs : List Loc) (ls : Array Slot), WB G 33 q (eM G q (ini τ) ξ1) s H locs → lv_has ls 3 [(2, .int x3), (0, .ref (q 0)), (1, .int last)] → W p l e (rmA 3 69) s m args below meth c H locs 0 0 QQ (F0 m 73 ls []) := by
            intro fuel; induction fuel with
            | zero => intro g2 x3 ξ1 hf; exact absurd hf (Nat.not_lt_zero _)
            | succ fuel ih_73 =>
              intro g2 x3 ξ1 hf hg2 hg2l hlf H locs ls hW hl
              refine lv_iload_n C.1 C.2.1 dX8_night_73 rfl (lv_at hl 0 rfl) ?_
              refine lv_aload_n C.1 C.2.1 dX8_night_74 rfl (lv_at hl 1 rfl) ?_
              refine mG_orders C hW (v := ((ini τ).1 9)) rfl dX8_night_75 ?_
              refine lv_icmp_ge C.1 C.2.1 (tgt := 99) dX8_night_78 (by decide) (fun c_6 => ?_) (fun c_6 => ?_)
              · skip
                have k_6 := (tc_le (show ((ini τ).1 9).toInt = (τ.1 9).toInt from rfl) hg2).mp c_6
                refine lv_iconst C.1 C.2.1 (v := 0) dX8_night_99 (by decide) ?_
                refine lv_istore_n (lv' := [(2, .int 0), (0, .ref (q 0)), (1, .int last)]) C.1 C.2.1 dX8_night_100 rfl hl (by decide) rfl (fun ls hl => ?_)
                have L_101_7 : ∀ (fuel : Nat) (k : Nat) (dN : Nat) (f : Nat → Int32) (x4 : Int32) (τ1 : ST) (ξ2 : ST), 2001 - dN < fuel → (x4.toInt = (k : Int)) → ((τ1.1 13).toInt = (dN : Int)) → (dN ≤ 2000) → (runN last.toInt (2001 - dN) k τ1 f = runN last.toInt 2001 0 (ini τ) (τ.2.1 20)) → (∀ j : Nat, (j : Int) < (τ.1 9).toInt → ξ2.2.1 2 j = f j) → ((k : Int) ≤ (τ.1 9).toInt) → (0 ≤ (τ1.1 11).toInt ∧ (τ1.1 11).toInt ≤ 359) → (0 ≤ (τ1.1 10).toInt ∧ (τ1.1 10).toInt ≤ 100000) → (τ1.1 9 = τ.1 9) → (τ1.2.1 15 = τ.2.1 15 ∧ τ1.2.1 16 = τ.2.1 16 ∧ τ1.2.1 17 = τ.2.1 17 ∧ τ1.2.1 18 = τ.2.1 18 ∧ τ1.2.1 19 = τ.2.1 19 ∧ τ1.2.1 20 = τ.2.1 20) → ∀ (H : Heap) (locs : List Loc) (ls : Array Slot), WB G 33 q (eM G q τ1 ξ2) s H locs → lv_has ls 3 [(2, .int x4), (0, .ref (q 0)), (1, .int last)] → W p l e (rmA 3 69) s m args below meth c H locs 0 0 QQ (F0 m 101 ls []) := by
                  intro fuel; induction fuel with
                  | zero => intro k dN f x4 τ1 ξ2 hf; exact absurd hf (Nat.not_lt_zero _)
                  | succ fuel ih_101 =>
                    intro k dN f x4 τ1 ξ2 hf hk4 hdN hdl hrun hlf2 hkl h_az1 h_mi1 h9 hpr H locs ls hW hl
                    refine lv_iload_n C.1 C.2.1 dX8_night_101 rfl (lv_at hl 0 rfl) ?_
                    refine lv_aload_n C.1 C.2.1 dX8_night_102 rfl (lv_at hl 1 rfl) ?_
                    refine mG_orders C hW (v := (τ1.1 9)) rfl dX8_night_103 ?_
                    refine lv_icmp_ge C.1 C.2.1 (tgt := 171) dX8_night_106 (by decide) (fun c_8 => ?_) (fun c_8 => ?_)
                    · skip
                      have k_8 := (tc_le (congrArg Int32.toInt h9) hk4).mp c_8
                      refine lv_aload_n C.1 C.2.1 dX8_night_171 rfl (lv_at hl 1 rfl) ?_
                      refine lv_iconst C.1 C.2.1 (v := (-1)) dX8_night_172 (by decide) ?_
                      refine mP_endedAt C hW dX8_night_173 (fun H locs hW => ?_)
                      refine lv_iconst C.1 C.2.1 (v := 0) dX8_night_176 (by decide) ?_
                      subst hQ
                      exact r_iret ((sg τ1 14 (-1)), ξ2) C hW hr hk dX8_night_177 (show sp_night τ last = (0, (sg τ1 14 (-1))) from by unfold sp_night; rw [if_pos (by omega), ← hrun, show 2001 - dN = (2000 - dN) + 1 from by omega, runN_0 (by rw [h9]; omega)])
                    · skip
                      have k_8 := (tn_le (congrArg Int32.toInt h9) hk4).mp c_8
                      have e4 : x4 = nI k := Int32.toInt_inj.mp (by rw [hk4, nI_toInt (by omega)])
                      have ok1 : okK τ1 k := by have h := h_okk k (by omega); unfold okK at h ⊢; rw [hpr.2.2.2.1, hpr.2.2.2.2.1, hpr.2.2.2.2.2]; exact h
                      have hlen := lenO_rng ok1 h_az1.1 h_az1.2
                      have h_u1 : ∀ z : Nat, z < 8 → 0 ≤ (τ1.2.1 17 z).toInt ∧ (τ1.2.1 17 z).toInt ≤ 1440 := by rw [hpr.2.2.1]; exact h_u
                      refine lv_aload_n C.1 C.2.1 dX8_night_109 rfl (lv_at hl 1 rfl) ?_
                      refine lv_iload_n C.1 C.2.1 dX8_night_110 rfl (lv_at hl 0 rfl) ?_
                      refine mP_endedAt C hW dX8_night_111 (fun H locs hW => ?_)
                      refine lv_aload_n C.1 C.2.1 dX8_night_114 rfl (lv_at hl 1 rfl) ?_
                      refine mG_done C hW (v := (τ1.1 13)) rfl dX8_night_115 ?_
                      refine lv_sipush C.1 C.2.1 (v := 2000) dX8_night_118 (by decide) ?_
                      refine lv_icmp_ne C.1 C.2.1 (tgt := 126) dX8_night_121 (by decide) (fun c_9 => ?_) (fun c_9 => ?_)
                      · skip
                        have k_9 := (tn_eq hdN (show (2000 : Int32).toInt = 2000 from by decide)).mp c_9
                        refine lv_aload_n C.1 C.2.1 dX8_night_126 rfl (lv_at hl 1 rfl) ?_
                        refine mG_minute C hW (v := (τ1.1 10)) rfl dX8_night_127 ?_
                        refine lv_aload_n C.1 C.2.1 dX8_night_130 rfl (lv_at hl 1 rfl) ?_
                        refine lv_iload_n C.1 C.2.1 dX8_night_131 rfl (lv_at hl 0 rfl) ?_
                        refine go_i hW (run_V (o := 0) (As := [.int x4]) (rest := [.int (τ1.1 10)]) C hW (by decide) rfl rfl (c_X8_lengthOf l G q _ (sg τ1 14 x4) ξ2 x4 k (hk4.trans (by omega)) (by omega) h_az1 ok1) (cw_V 1 C bL_X8_273 bI_X8_lengthOf bV_X8_lengthOf bN_X8 bC_X8_lengthOf ⟨rfl, rfl⟩ (by decide +kernel) ⟨Nat.le_of_ble_eq_true rfl, Nat.le_of_ble_eq_true rfl⟩) rfl hl.1 rfl (Nat.le_of_ble_eq_true rfl) dX8_night_132 ⟨Nat.le_refl _, Nat.le_refl _⟩) (fun r_10 u_10 H locs hp_10 hW => ?_)
                        rcases hp_10 with ⟨rfl, rfl⟩
                        have hW : WB G 33 q (eM G q (sg τ1 14 x4) ξ2) s H locs := hW
                        refine lv_iadd C.1 C.2.1 dX8_night_135 ?_
                        refine lv_iload_n C.1 C.2.1 dX8_night_136 rfl (lv_at hl 2 rfl) ?_
                        refine lv_icmp_le C.1 C.2.1 (tgt := 142) dX8_night_137 (by decide) (fun c_11 => ?_) (fun c_11 => ?_)
                        · skip
                          have k_11 := (tc_le (rfl : (((τ1.1 10) + (lenO (sg τ1 14 x4) k))).toInt = (((τ1.1 10) + (lenO (sg τ1 14 x4) k))).toInt) (rfl : (last).toInt = (last).toInt)).mp c_11
                          have hlt : ¬ last.toInt < (τ1.1 10 + lenO τ1 k).toInt := Int.not_lt.mpr k_11
                          refine lv_aload_n C.1 C.2.1 dX8_night_142 rfl (lv_at hl 1 rfl) ?_
                          refine mG_kinds C hW dX8_night_143 ?_
                          refine lv_iload_n C.1 C.2.1 dX8_night_146 rfl (lv_at hl 0 rfl) ?_
                          refine mL_kinds C hW k (hk4.trans (by omega)) (by omega) (v := (τ1.2.1 18 k)) rfl dX8_night_147 ?_
                          refine lv_iconst C.1 C.2.1 (v := 2) dX8_night_148 (by decide) ?_
                          refine lv_icmp_ne C.1 C.2.1 (tgt := 162) dX8_night_149 (by decide) (fun c_12 => ?_) (fun c_12 => ?_)
                          · skip
                            have k_12 := (tn_eq (rfl : ((τ1.2.1 18 k)).toInt = ((τ1.2.1 18 k)).toInt) (show (2 : Int32).toInt = 2 from by decide)).mp c_12
                            refine lv_aload_n C.1 C.2.1 dX8_night_162 rfl (lv_at hl 1 rfl) ?_
                            refine lv_iload_n C.1 C.2.1 dX8_night_163 rfl (lv_at hl 0 rfl) ?_
                            refine go_i hW (run_V (o := 0) (As := [.int x4]) (rest := []) C hW (by decide) rfl rfl (c_X8_does l G q _ (sg τ1 14 x4) ξ2 x4 k (hk4.trans (by omega)) (by omega) h_az1 ok1) (cw_V 1 C bL_X8_293 bI_X8_does bV_X8_does bN_X8 bC_X8_does ⟨rfl, rfl⟩ (by decide +kernel) ⟨Nat.le_of_ble_eq_true rfl, Nat.le_of_ble_eq_true rfl⟩) rfl hl.1 rfl (Nat.le_of_ble_eq_true rfl) dX8_night_164 ⟨Nat.le_refl _, Nat.le_refl _⟩) (fun r_13 u_13 H locs hp_13 hW => ?_)
                            rcases hp_13 with ⟨ξ1_13, rfl, rfl, k_13⟩
                            have hW : WB G 33 q (eM G q (dnT (sg τ1 14 x4) k) ξ1_13) s H locs := hW
                            have hLL := k_13
                            refine lv_istore_n (lv' := [(2, .int (nI (dnK (sg τ1 14 x4) (ξ2.2.1 2) k))), (0, .ref (q 0)), (1, .int last)]) C.1 C.2.1 dX8_night_167 rfl hl (by decide) rfl (fun ls hl => ?_)
                            refine lv_goto C.1 C.2.1 (tgt := 101) dX8_night_168 (by decide) ?_
                            have eK : dnK (sg τ1 14 x4) (ξ2.2.1 2) k = dnK τ1 f k := by unfold dnK; rw [show ξ2.2.1 2 k = f k from hlf2 k (by omega)]; rfl
                            have hKl := dnK_le (f := f) ok1 (show (k : Int) < (τ.1 9).toInt by omega)
                            have hPR := dnT_pr (sg τ1 14 x4) k
                            have h10 := dnT_10 (sg τ1 14 x4) k
                            have h11 := dnT_11 (sg τ1 14 x4) k
                            have hmsum := ti_add (x := τ1.1 10) (y := lenO τ1 k) rfl rfl (by omega) (by omega)
                            exact ih_101 (dnK τ1 f k) (dN + 1) (dnL τ1 f k) (nI (dnK (sg τ1 14 x4) (ξ2.2.1 2) k)) (dnT (sg τ1 14 x4) k) ξ1_13 (by omega) (by rw [eK]; exact nI_toInt (by omega)) (by rw [dnT_13]; exact (ti_add hdN (show (1 : Int32).toInt = 1 from by decide) (by omega) (by omega)).trans (by omega)) (by omega) (by rw [← hrun, show 2001 - dN = (2001 - (dN + 1)) + 1 from by omega, e4]; exact (runN_go (by rw [h9]; omega) (by omega) hlt (by first | (intro hh; exact hh.2 hup) | (intro hh; omega))).symm) (fun j hj => by rw [hLL]; exact dnL_congr (hlf2 k (by omega)) (hlf2 j hj)) hKl (by rcases h11 with h | ⟨h0, h⟩ <;> rw [h] <;> first | exact h_az1 | (have ok2 := ok1; unfold okK at ok2; have h0 : (τ1.2.1 18 k).toInt = 1 ∨ (τ1.2.1 18 k).toInt = 5 := h0; show 0 ≤ (τ1.2.1 19 k).toInt ∧ (τ1.2.1 19 k).toInt ≤ 359; omega)) (by rcases h10 with h | h <;> rw [h] <;> first | exact h_mi1 | (show 0 ≤ (τ1.1 10 + lenO τ1 k).toInt ∧ (τ1.1 10 + lenO τ1 k).toInt ≤ 100000; omega)) ((dnT_9 _ _).trans h9) ⟨hPR.1.trans hpr.1, hPR.2.1.trans hpr.2.1, hPR.2.2.1.trans hpr.2.2.1, hPR.2.2.2.1.trans hpr.2.2.2.1, hPR.2.2.2.2.1.trans hpr.2.2.2.2.1, hPR.2.2.2.2.2.trans hpr.2.2.2.2.2⟩ _ _ _ hW (lv_sub hl [0, 1, 2] rfl)
                          · skip
                            have k_12 := (tc_eq (rfl : ((τ1.2.1 18 k)).toInt = ((τ1.2.1 18 k)).toInt) (show (2 : Int32).toInt = 2 from by decide)).mp c_12
                            refine lv_aload_n C.1 C.2.1 dX8_night_152 rfl (lv_at hl 1 rfl) ?_
                            refine lv_iload_n C.1 C.2.1 dX8_night_153 rfl (lv_at hl 0 rfl) ?_
                            refine go_i hW (run_V (o := 0) (As := [.int x4]) (rest := []) C hW (by decide) rfl rfl (c_X8_isUpAll l G q _ (sg τ1 14 x4) ξ2 x4 k (hk4.trans (by omega)) (by omega) h_u1 h_mi1 (by have ok2 := ok1; unfold okK at ok2; show (τ1.2.1 19 k).toInt ≤ 600; omega) (by have ok2 := ok1; unfold okK at ok2; show 0 ≤ (τ1.2.1 20 k).toInt ∧ (τ1.2.1 20 k).toInt ≤ 7; omega)) (cw_V 1 C bL_X8_290 bI_X8_isUpAll bV_X8_isUpAll bN_X8 bC_X8_isUpAll ⟨rfl, rfl⟩ (by decide +kernel) ⟨Nat.le_of_ble_eq_true rfl, Nat.le_of_ble_eq_true rfl⟩) rfl hl.1 rfl (Nat.le_of_ble_eq_true rfl) dX8_night_154 ⟨Nat.le_refl _, Nat.le_refl _⟩) (fun r_14 u_14 H locs hp_14 hW => ?_)
                            rcases hp_14 with ⟨rfl, rfl, k_14⟩ | ⟨rfl, rfl, k_14⟩
                            · skip
                              have hW : WB G 33 q (eM G q (sg τ1 14 x4) ξ2) s H locs := hW
                              have hup : upA τ1 k := k_14
                              refine lv_if_ne C.1 C.2.1 (tgt := 162) dX8_night_157 (by decide) (fun _ => ?_) (fun c => absurd c (by decide))
                              refine lv_aload_n C.1 C.2.1 dX8_night_162 rfl (lv_at hl 1 rfl) ?_
                              refine lv_iload_n C.1 C.2.1 dX8_night_163 rfl (lv_at hl 0 rfl) ?_
                              refine go_i hW (run_V (o := 0) (As := [.int x4]) (rest := []) C hW (by decide) rfl rfl (c_X8_does l G q _ (sg τ1 14 x4) ξ2 x4 k (hk4.trans (by omega)) (by omega) h_az1 ok1) (cw_V 1 C bL_X8_293 bI_X8_does bV_X8_does bN_X8 bC_X8_does ⟨rfl, rfl⟩ (by decide +kernel) ⟨Nat.le_of_ble_eq_true rfl, Nat.le_of_ble_eq_true rfl⟩) rfl hl.1 rfl (Nat.le_of_ble_eq_true rfl) dX8_night_164 ⟨Nat.le_refl _, Nat.le_refl _⟩) (fun r_16 u_16 H locs hp_16 hW => ?_)
                              rcases hp_16 with ⟨ξ1_16, rfl, rfl, k_16⟩
                              have hW : WB G 33 q (eM G q (dnT (sg τ1 14 x4) k) ξ1_16) s H locs := hW
                              have hLL := k_16
                              refine lv_istore_n (lv' := [(2, .int (nI (dnK (sg τ1 14 x4) (ξ2.2.1 2) k))), (0, .ref (q 0)), (1, .int last)]) C.1 C.2.1 dX8_night_167 rfl hl (by decide) rfl (fun ls hl => ?_)
                              refine lv_goto C.1 C.2.1 (tgt := 101) dX8_night_168 (by decide) ?_
                              have eK : dnK (sg τ1 14 x4) (ξ2.2.1 2) k = dnK τ1 f k := by unfold dnK; rw [show ξ2.2.1 2 k = f k from hlf2 k (by omega)]; rfl
                              have hKl := dnK_le (f := f) ok1 (show (k : Int) < (τ.1 9).toInt by omega)
                              have hPR := dnT_pr (sg τ1 14 x4) k
                              have h10 := dnT_10 (sg τ1 14 x4) k
                              have h11 := dnT_11 (sg τ1 14 x4) k
                              have hmsum := ti_add (x := τ1.1 10) (y := lenO τ1 k) rfl rfl (by omega) (by omega)
                              exact ih_101 (dnK τ1 f k) (dN + 1) (dnL τ1 f k) (nI (dnK (sg τ1 14 x4) (ξ2.2.1 2) k)) (dnT (sg τ1 14 x4) k) ξ1_16 (by omega) (by rw [eK]; exact nI_toInt (by omega)) (by rw [dnT_13]; exact (ti_add hdN (show (1 : Int32).toInt = 1 from by decide) (by omega) (by omega)).trans (by omega)) (by omega) (by rw [← hrun, show 2001 - dN = (2001 - (dN + 1)) + 1 from by omega, e4]; exact (runN_go (by rw [h9]; omega) (by omega) hlt (by first | (intro hh; exact hh.2 hup) | (intro hh; omega))).symm) (fun j hj => by rw [hLL]; exact dnL_congr (hlf2 k (by omega)) (hlf2 j hj)) hKl (by rcases h11 with h | ⟨h0, h⟩ <;> rw [h] <;> first | exact h_az1 | (have ok2 := ok1; unfold okK at ok2; have h0 : (τ1.2.1 18 k).toInt = 1 ∨ (τ1.2.1 18 k).toInt = 5 := h0; show 0 ≤ (τ1.2.1 19 k).toInt ∧ (τ1.2.1 19 k).toInt ≤ 359; omega)) (by rcases h10 with h | h <;> rw [h] <;> first | exact h_mi1 | (show 0 ≤ (τ1.1 10 + lenO τ1 k).toInt ∧ (τ1.1 10 + lenO τ1 k).toInt ≤ 100000; omega)) ((dnT_9 _ _).trans h9) ⟨hPR.1.trans hpr.1, hPR.2.1.trans hpr.2.1, hPR.2.2.1.trans hpr.2.2.1, hPR.2.2.2.1.trans hpr.2.2.2.1, hPR.2.2.2.2.1.trans hpr.2.2.2.2.1, hPR.2.2.2.2.2.trans hpr.2.2.2.2.2⟩ _ _ _ hW (lv_sub hl [0, 1, 2] rfl)
                            · skip
                              have hW : WB G 33 q (eM G q (sg τ1 14 x4) ξ2) s H locs := hW
                              have hnup : ¬ upA τ1 k := k_14
                              refine lv_if_ne C.1 C.2.1 (tgt := 162) dX8_night_157 (by decide) (fun c => absurd c (by decide)) (fun _ => ?_)
                              refine lv_iconst C.1 C.2.1 (v := 1) dX8_night_160 (by decide) ?_
                              subst hQ
                              exact r_iret ((sg τ1 14 x4), ξ2) C hW hr hk dX8_night_161 (show sp_night τ last = (1, (sg τ1 14 x4)) from by unfold sp_night; rw [if_pos (by omega), ← hrun, show 2001 - dN = (2000 - dN) + 1 from by omega, runN_1 (by rw [h9]; omega) (by omega) hlt (by assumption) hnup, ← e4])
                        · skip
                          have k_11 := (tn_le (rfl : (((τ1.1 10) + (lenO (sg τ1 14 x4) k))).toInt = (((τ1.1 10) + (lenO (sg τ1 14 x4) k))).toInt) (rfl : (last).toInt = (last).toInt)).mp c_11
                          have hlt : last.toInt < (τ1.1 10 + lenO τ1 k).toInt := Int.not_le.mp k_11
                          refine lv_iconst C.1 C.2.1 (v := 2) dX8_night_140 (by decide) ?_
                          subst hQ
                          exact r_iret ((sg τ1 14 x4), ξ2) C hW hr hk dX8_night_141 (show sp_night τ last = (2, (sg τ1 14 x4)) from by unfold sp_night; rw [if_pos (by omega), ← hrun, show 2001 - dN = (2000 - dN) + 1 from by omega, runN_2 (by rw [h9]; omega) (by omega) hlt, ← e4])
                      · skip
                        have k_9 := (tc_eq hdN (show (2000 : Int32).toInt = 2000 from by decide)).mp c_9
                        refine lv_iconst C.1 C.2.1 (v := 3) dX8_night_124 (by decide) ?_
                        subst hQ
                        exact r_iret ((sg τ1 14 x4), ξ2) C hW hr hk dX8_night_125 (show sp_night τ last = (3, (sg τ1 14 x4)) from by unfold sp_night; rw [if_pos (by omega), ← hrun, show 2001 - dN = (2000 - dN) + 1 from by omega, runN_3 (by rw [h9]; omega) (by omega), ← e4])
                exact L_101_7 _ 0 0 (τ.2.1 20) 0 (ini τ) ξ1 (Nat.lt_succ_self _) (by decide) (show (0 : Int32).toInt = ((0 : Nat) : Int) from by decide) (by omega) rfl (fun j hj => hlf j (by omega)) (by omega) (show 0 ≤ (0 : Int32).toInt ∧ (0 : Int32).toInt ≤ 359 from by decide) (show 0 ≤ (0 : Int32).toInt ∧ (0 : Int32).toInt ≤ 100000 from by decide) rfl ⟨rfl, rfl, rfl, rfl, rfl, rfl⟩ _ _ _ hW (lv_sub hl [0, 1, 2] rfl)
              · skip
                have k_6 := (tn_le (show ((ini τ).1 9).toInt = (τ.1 9).toInt from rfl) hg2).mp c_6
                refine lv_aload_n C.1 C.2.1 dX8_night_81 rfl (lv_at hl 1 rfl) ?_
                refine mG_left C hW dX8_night_82 ?_
                refine lv_iload_n C.1 C.2.1 dX8_night_85 rfl (lv_at hl 0 rfl) ?_
                refine lv_aload_n C.1 C.2.1 dX8_night_86 rfl (lv_at hl 1 rfl) ?_
                refine mG_second C hW dX8_night_87 ?_
                refine lv_iload_n C.1 C.2.1 dX8_night_90 rfl (lv_at hl 0 rfl) ?_
                refine mL_second C hW g2 (hg2.trans (by omega)) (by omega) (v := ((ini τ).2.1 20 g2)) rfl dX8_night_91 ?_
                refine mS_left C hW g2 (hg2.trans (by omega)) (by omega) dX8_night_92 (fun H locs hW => ?_)
                refine lv_iinc (v := (x3 + 1)) (lv' := [(2, .int (x3 + 1)), (0, .ref (q 0)), (1, .int last)]) C.1 C.2.1 dX8_night_93 hl (k := 0) rfl rfl (by decide) rfl (fun ls hl => ?_)
                refine lv_goto C.1 C.2.1 (tgt := 73) dX8_night_96 (by decide) ?_
                exact ih_73 (g2 + 1) (x3 + 1) (sa ξ1 2 g2 ((ini τ).2.1 20 g2)) (by omega) ((ti_add hg2 (show (1 : Int32).toInt = 1 from by decide) (by omega) (by omega)).trans (by omega)) (by omega) (fun j hj => (Decidable.em (j = g2)).elim (fun e => by subst e; exact if_pos rfl) (fun e => (if_neg e).trans (hlf j (by omega)))) _ _ _ hW (lv_sub hl [0, 1, 2] rfl)
          rw [show g = 8 from by omega] at hW
          exact L_73_5 _ 0 0 ξ (Nat.lt_succ_self _) (by decide) (by omega) (fun f h => absurd h (Nat.not_lt_zero _)) _ _ _ hW (lv_sub hl [0, 1, 2] rfl)
        · skip
          have k_4 := (tn_le (show (8 : Int32).toInt = 8 from by decide) hg).mp c_4
          refine lv_aload_n C.1 C.2.1 dX8_night_58 rfl (lv_at hl 1 rfl) ?_
          refine mG_watchedOf C hW dX8_night_59 ?_
          refine lv_iload_n C.1 C.2.1 dX8_night_62 rfl (lv_at hl 0 rfl) ?_
          refine lv_iconst C.1 C.2.1 (v := 0) dX8_night_63 (by decide) ?_
          refine mS_watchedOf C hW g (hg.trans (by omega)) (by omega) dX8_night_64 (fun H locs hW => ?_)
          refine lv_iinc (v := (x2 + 1)) (lv' := [(2, .int (x2 + 1)), (0, .ref (q 0)), (1, .int last)]) C.1 C.2.1 dX8_night_65 hl (k := 0) rfl rfl (by decide) rfl (fun ls hl => ?_)
          refine lv_goto C.1 C.2.1 (tgt := 52) dX8_night_68 (by decide) ?_
          rw [saF_sa, show (0 : Int32) = (fun _ => (0 : Int32)) g from rfl, cut_sI] at hW
          exact ih_52 (g + 1) (x2 + 1) (by omega) ((ti_add hg (show (1 : Int32).toInt = 1 from by decide) (by omega) (by omega)).trans (by omega)) (by omega) _ _ _ hW (lv_sub hl [0, 1, 2] rfl)
    exact L_52_3 _ 0 0 (Nat.lt_succ_self _) (by decide) (by omega) _ _ _ (by rw [cut_0]; exact (saF_self (sg (sg (sg (sg (sg (sg (sg τ 10 0) 11 0) 12 0) 13 0) 14 (-1)) 15 0) 16 0) 21).symm ▸ hW) (lv_sub hl [0, 1, 2] rfl)
  · skip
    have hW : WB G 33 q (eM G q τ ξ) s H locs := hW
    refine lv_if_ne C.1 C.2.1 (tgt := 15) dX8_night_9 (by decide) (fun c => absurd c (by decide)) (fun _ => ?_)
    refine lv_bipush C.1 C.2.1 (v := (-2)) dX8_night_12 (by decide) ?_
    subst hQ
    exact r_iret (τ, ξ) C hW hr hk dX8_night_14 (show sp_night τ last = ((-2), τ) from by unfold sp_night; (repeat (first | rw [if_pos (by omega)] | rw [if_neg (by omega)])); first | done | rfl)
