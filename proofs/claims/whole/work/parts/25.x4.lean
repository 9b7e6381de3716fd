/-! a row's dish; spacings; points; orders; the board's small methods -/
theorem amt_abs (x : Int64) : (if 0 < x then x else -x) = amt x := by
  have h0 : (0 : Int64).toInt = 0 := by decide
  unfold amt
  by_cases h : 0 < x
  · have h1 := Int64.lt_iff_toInt_lt.mp h
    rw [if_pos h, if_neg (by omega)]
  · rw [if_neg h]
    have h1 : ¬ (0 : Int64).toInt < x.toInt := fun c => h (Int64.lt_iff_toInt_lt.mpr c)
    by_cases h2 : x.toInt < 0
    · rw [if_pos h2]
    · rw [if_neg h2]
      have e : x = 0 := Int64.toInt_inj.mp (by rw [h0]; omega)
      rw [e]; decide
section R25
variable {G : GG} {p : Program} {l : Launch} {e : Env} {R : Room} {s : State} {m : MethodId} {args : Array Value} {below : List Frame} {meth : Method} {c : Code} {H : Heap} {locs : List Loc} {cells slots : Nat} {Q : State → Prop}
variable {cc : ByteArray} {pc : Nat} {ls : Array Slot} {rest : List Value} {nL n idx : Nat} {own : String} {q : Nat → Nat} {E : Nat → va_E}
theorem r_absl (C : CX G p s m args c cc nL own n q) (hl : ls.size = nL) (hm : Cond.methodLink own idx Lib.MathLoose.abs_long.x ∈ BIG) (hf : 1 ≤ R.frames) (hlo : (rest.map fun v => v.category).sum + 13 ≤ R.locals) (hc : cells ≤ R.cells ∧ slots ≤ R.slots) {x : Int64} (hdg : decode cc pc = .ok (.invokestatic idx, 3))
    (kk : W p l e R s m args below meth c H locs cells slots Q (F0 m (pc + 3) ls (.long (amt x) :: rest))) : W p l e R s m args below meth c H locs cells slots Q (F0 m pc ls (.long x :: rest)) :=
  va_mabs_long C.1 C.2.1 (C.2.2.1.trans hl.symm) C.2.2.2.1 (C.2.2.2.2.1 _ hm) (C.2.2.2.2.1 _ bS_mabsl) (C.2.2.2.2.1 _ bN_J9) (C.2.2.2.2.1 _ bC_mabsl) hf hlo hc.1 hc.2 hdg (by rw [amt_abs]; exact kk)
end R25
def kpt (ζ : ST) (x y : Int32) : Int32 := ζ.2.1 2 (16 * (y &&& 15).toInt + (x &&& 15).toInt).toNat
set_option maxHeartbeats 4000000 in
set_option maxRecDepth 100000 in
theorem c_X4_find (l : Launch) (G : GG) (q : Nat → Nat) (nd sz : Nat) (τ ζ : ST) (ρ : RF) (d : Int32) (h_nd : nd ≤ 6) (h_n : (τ.1 0).toInt = (nd : Int)) (h_r : ∀ z : Nat, z < nd → ρ 0 z = some (q (28 + 3 * z))) : Met l yX4_find (WSb yX4_find cX4_find 2 (some (.object "DishHouse$Dish"))) (rmA 0 0) (va_Pc [.ref (q 1), .int d] (PW G (28 + 3 * nd) q sz (eX G q τ ζ ρ))) (va_Qq (fun (r : Option Nat) (u : (ST × ST × RF)) => (r = none ∧ u = (τ, ζ, ρ) ∧ (¬ (0 ≤ d.toInt ∧ d.toInt < (nd : Int)))) ∨ (r = some (q (28 + 3 * d.toInt.toNat)) ∧ u = (τ, ζ, ρ) ∧ (0 ≤ d.toInt) ∧ (d.toInt < (nd : Int)))) (fun u => BW G (28 + 3 * nd) q (eX G q u.1 u.2.1 u.2.2)) (FA (28 + 3 * nd) q sz)) 0 0 (FA (28 + 3 * nd) q sz) := by
  refine Met_B (own := RX4) rfl (by decide) (Nat.le_of_ble_eq_true rfl) (fun p e s m args below meth c ls hsz C hW hr hk hl QQ hQ => ?_)
  subst hsz
  have hl : lv_has ls 2 [(0, .ref (q 1)), (1, .int d)] := hl
  refine lv_iload_n C.1 C.2.1 dX4_find_0 rfl (lv_at hl 1 rfl) ?_
  refine lv_if_lt C.1 C.2.1 (tgt := 21) dX4_find_1 (by decide) (fun c_1 => ?_) (fun c_1 => ?_)
  · skip
    have k_1 := (tc_lt (rfl : (d).toInt = (d).toInt) (show (0 : Int32).toInt = 0 from by decide)).mp c_1
    refine lv_null C.1 C.2.1 dX4_find_21 ?_
    subst hQ
    exact r_qret (r := none) (τ, ζ, ρ) C hW hr (Or.inl ⟨_, rfl⟩) hk dX4_find_22 (by first | exact Or.inl ⟨rfl, rfl, by omega⟩ | exact Or.inr ⟨h_r _ (by omega), rfl, by omega, by omega⟩)
  · skip
    have k_1 := (tn_lt (rfl : (d).toInt = (d).toInt) (show (0 : Int32).toInt = 0 from by decide)).mp c_1
    refine lv_iload_n C.1 C.2.1 dX4_find_4 rfl (lv_at hl 1 rfl) ?_
    refine lv_aload_n C.1 C.2.1 dX4_find_5 rfl (lv_at hl 0 rfl) ?_
    refine xG_Row_size C hW bF_X4_27 (v := (τ.1 0)) rfl dX4_find_6 ?_
    refine lv_icmp_ge C.1 C.2.1 (tgt := 21) dX4_find_9 (by decide) (fun c_2 => ?_) (fun c_2 => ?_)
    · skip
      have k_2 := (tc_le (rfl : ((τ.1 0)).toInt = ((τ.1 0)).toInt) (rfl : (d).toInt = (d).toInt)).mp c_2
      refine lv_null C.1 C.2.1 dX4_find_21 ?_
      subst hQ
      exact r_qret (r := none) (τ, ζ, ρ) C hW hr (Or.inl ⟨_, rfl⟩) hk dX4_find_22 (by first | exact Or.inl ⟨rfl, rfl, by omega⟩ | exact Or.inr ⟨h_r _ (by omega), rfl, by omega, by omega⟩)
    · skip
      have k_2 := (tn_le (rfl : ((τ.1 0)).toInt = ((τ.1 0)).toInt) (rfl : (d).toInt = (d).toInt)).mp c_2
      refine lv_aload_n C.1 C.2.1 dX4_find_12 rfl (lv_at hl 0 rfl) ?_
      refine xG_Row_dishes C hW bF_X4_13 dX4_find_13 ?_
      refine lv_iload_n C.1 C.2.1 dX4_find_16 rfl (lv_at hl 1 rfl) ?_
      refine r_qald (o := 2) C hW (by omega) rfl (k := ((d).toInt).toNat) ((rfl : (d).toInt = (d).toInt).trans (by omega)) (by omega) rfl dX4_find_17 ?_
      refine lv_goto C.1 C.2.1 (tgt := 22) dX4_find_18 (by decide) ?_
      subst hQ
      exact r_qret (r := (ρ 0 (((d).toInt).toNat))) (τ, ζ, ρ) C hW hr (Or.inl ⟨_, rfl⟩) hk dX4_find_22 (by first | exact Or.inl ⟨rfl, rfl, by omega⟩ | exact Or.inr ⟨h_r _ (by omega), rfl, by omega, by omega⟩)
set_option maxHeartbeats 4000000 in
set_option maxRecDepth 100000 in
theorem c_X6_waveOf (l : Launch) (G : GG) (q : Nat → Nat) (nd sz : Nat) (τ ζ : ST) (ρ : RF) (w : Int32) (x : Int32) (y : Int32) (wN : Nat) (hw : w.toInt = (wN : Int)) (h_nd : nd ≤ 6) (hw15 : wN < 15) : Met l yX6_waveOf (WSb yX6_waveOf cX6_waveOf 4 (some .int)) (rmA 0 0) (va_Pc [.ref (q 6), .int w, .int x, .int y] (PW G (28 + 3 * nd) q sz (eX G q τ ζ ρ))) (va_Qi (fun (r : Int32) (u : (ST × ST × RF)) => r = wv ((ζ.2.1 5 wN * x + ζ.2.1 6 wN * y) &&& 15).toInt.toNat ∧ u = (τ, ζ, ρ)) (fun u => BW G (28 + 3 * nd) q (eX G q u.1 u.2.1 u.2.2)) (FA (28 + 3 * nd) q sz)) 0 0 (FA (28 + 3 * nd) q sz) := by
  refine Met_B (own := RX6) rfl (by decide) (Nat.le_of_ble_eq_true rfl) (fun p e s m args below meth c ls hsz C hW hr hk hl QQ hQ => ?_)
  subst hsz
  have hl : lv_has ls 4 [(0, .ref (q 6)), (1, .int w), (2, .int x), (3, .int y)] := hl
  have hq := and15 (ζ.2.1 5 wN * x + ζ.2.1 6 wN * y)
  refine r_wave C hW dX6_waveOf_0 ?_
  refine lv_aload_n C.1 C.2.1 dX6_waveOf_3 rfl (lv_at hl 0 rfl) ?_
  refine xG_Spacings_us C hW bF_X6_9 dX6_waveOf_4 ?_
  refine lv_iload_n C.1 C.2.1 dX6_waveOf_7 rfl (lv_at hl 1 rfl) ?_
  refine xL_7 C hW wN (hw.trans (by omega)) (by omega) (v := (ζ.2.1 5 wN)) rfl dX6_waveOf_8 ?_
  refine lv_iload_n C.1 C.2.1 dX6_waveOf_9 rfl (lv_at hl 2 rfl) ?_
  refine lv_imul C.1 C.2.1 dX6_waveOf_10 ?_
  refine lv_aload_n C.1 C.2.1 dX6_waveOf_11 rfl (lv_at hl 0 rfl) ?_
  refine xG_Spacings_vs C hW bF_X6_13 dX6_waveOf_12 ?_
  refine lv_iload_n C.1 C.2.1 dX6_waveOf_15 rfl (lv_at hl 1 rfl) ?_
  refine xL_8 C hW wN (hw.trans (by omega)) (by omega) (v := (ζ.2.1 6 wN)) rfl dX6_waveOf_16 ?_
  refine lv_iload_n C.1 C.2.1 dX6_waveOf_17 rfl (lv_at hl 3 rfl) ?_
  refine lv_imul C.1 C.2.1 dX6_waveOf_18 ?_
  refine lv_iadd C.1 C.2.1 dX6_waveOf_19 ?_
  refine lv_bipush C.1 C.2.1 (v := 15) dX6_waveOf_20 (by decide) ?_
  refine lv_iand C.1 C.2.1 dX6_waveOf_22 ?_
  refine r_wald C hW (k := (((((ζ.2.1 5 wN) * x) + ((ζ.2.1 6 wN) * y)) &&& 15).toInt).toNat) ((rfl : ((((ζ.2.1 5 wN) * x) + ((ζ.2.1 6 wN) * y)) &&& 15).toInt = _).trans (by omega)) (by omega) dX6_waveOf_23 ?_
  subst hQ
  exact r_iret (τ, ζ, ρ) C hW hr hk dX6_waveOf_24 (⟨rfl, rfl⟩)
set_option maxHeartbeats 4000000 in
set_option maxRecDepth 100000 in
theorem c_X6_beamAt (l : Launch) (G : GG) (q : Nat → Nat) (nd sz : Nat) (τ ζ : ST) (ρ : RF) (x : Int32) (y : Int32) (h_nd : nd ≤ 6) (h_x : 0 ≤ (ζ.1 0).toInt ∧ (ζ.1 0).toInt ≤ 15) : Met l yX6_beamAt (WSb yX6_beamAt cX6_beamAt 5 (some .int)) (rmA 1 23) (va_Pc [.ref (q 6), .int x, .int y] (PW G (28 + 3 * nd) q sz (eX G q τ ζ ρ))) (va_Qi (fun (r : Int32) (u : (ST × ST × RF)) => r = bmS (ζ.2.1 5) (ζ.2.1 6) x y (ζ.1 0).toInt.toNat ∧ u = (τ, ζ, ρ)) (fun u => BW G (28 + 3 * nd) q (eX G q u.1 u.2.1 u.2.2)) (FA (28 + 3 * nd) q sz)) 0 0 (FA (28 + 3 * nd) q sz) := by
  refine Met_B (own := RX6) rfl (by decide) (Nat.le_of_ble_eq_true rfl) (fun p e s m args below meth c ls hsz C hW hr hk hl QQ hQ => ?_)
  subst hsz
  have hl : lv_has ls 5 [(0, .ref (q 6)), (1, .int x), (2, .int y)] := hl
  refine lv_iconst C.1 C.2.1 (v := 0) dX6_beamAt_0 (by decide) ?_
  refine lv_istore_n (lv' := [(3, .int 0), (0, .ref (q 6)), (1, .int x), (2, .int y)]) C.1 C.2.1 dX6_beamAt_1 rfl hl (by decide) rfl (fun ls hl => ?_)
  refine lv_iconst C.1 C.2.1 (v := 0) dX6_beamAt_2 (by decide) ?_
  refine lv_istore (lv' := [(4, .int 0), (3, .int 0), (0, .ref (q 6)), (1, .int x), (2, .int y)]) C.1 C.2.1 dX6_beamAt_3 hl (by decide) rfl (fun ls hl => ?_)
  have L_5_1 : ∀ (fuel : Nat) (t : Nat) (x3 : Int32) (x4 : Int32), (ζ.1 0).toInt.toNat - t < fuel → (x4.toInt = (t : Int)) → (t ≤ (ζ.1 0).toInt.toNat) → (x3 = bmS (ζ.2.1 5) (ζ.2.1 6) x y t) → ∀ (H : Heap) (locs : List Loc) (ls : Array Slot), WB G (28 + 3 * nd) q (eX G q τ ζ ρ) s H locs → lv_has ls 5 [(4, .int x4), (3, .int x3), (0, .ref (q 6)), (1, .int x), (2, .int y)] → W p l e (rmA 1 23) s m args below meth c H locs 0 0 QQ (F0 m 5 ls []) := by
    intro fuel; induction fuel with
    | zero => intro t x3 x4 hf; exact absurd hf (Nat.not_lt_zero _)
    | succ fuel ih_5 =>
      intro t x3 x4 hf ht hle hs H locs ls hW hl
      refine lv_iload C.1 C.2.1 dX6_beamAt_5 (lv_at hl 0 rfl) ?_
      refine lv_aload_n C.1 C.2.1 dX6_beamAt_7 rfl (lv_at hl 2 rfl) ?_
      refine xG_Spacings_size C hW bF_X6_20 (v := (ζ.1 0)) rfl dX6_beamAt_8 ?_
      refine lv_icmp_ge C.1 C.2.1 (tgt := 31) dX6_beamAt_11 (by decide) (fun c_2 => ?_) (fun c_2 => ?_)
      · skip
        have k_2 := (tc_le (rfl : ((ζ.1 0)).toInt = ((ζ.1 0)).toInt) ht).mp c_2
        refine lv_iload_n C.1 C.2.1 dX6_beamAt_31 rfl (lv_at hl 1 rfl) ?_
        subst hQ
        exact r_iret (τ, ζ, ρ) C hW hr hk dX6_beamAt_32 ⟨by rw [hs, show t = (ζ.1 0).toInt.toNat from by omega], rfl⟩
      · skip
        have k_2 := (tn_le (rfl : ((ζ.1 0)).toInt = ((ζ.1 0)).toInt) ht).mp c_2
        refine lv_iload_n C.1 C.2.1 dX6_beamAt_14 rfl (lv_at hl 1 rfl) ?_
        refine lv_aload_n C.1 C.2.1 dX6_beamAt_15 rfl (lv_at hl 2 rfl) ?_
        refine lv_iload C.1 C.2.1 dX6_beamAt_16 (lv_at hl 0 rfl) ?_
        refine lv_iload_n C.1 C.2.1 dX6_beamAt_18 rfl (lv_at hl 3 rfl) ?_
        refine lv_iload_n C.1 C.2.1 dX6_beamAt_19 rfl (lv_at hl 4 rfl) ?_
        refine go_i hW (run_V (o := 6) (As := [.int x4, .int x, .int y]) (rest := [.int x3]) C hW (by omega) rfl rfl (c_X6_waveOf l G q nd _ τ ζ ρ x4 x y t (ht.trans (by omega)) h_nd (by omega)) (cw_V 3 C bL_X6_57 bI_X6_waveOf bV_X6_waveOf bN_X6 bC_X6_waveOf ⟨rfl, rfl⟩ (by decide +kernel) ⟨Nat.le_of_ble_eq_true rfl, Nat.le_of_ble_eq_true rfl⟩) rfl hl.1 rfl (Nat.le_of_ble_eq_true rfl) dX6_beamAt_20 ⟨Nat.le_refl _, Nat.le_refl _⟩) (fun r_3 u_3 H locs hp_3 hW => ?_)
        rcases hp_3 with ⟨rfl, rfl⟩
        have hW : WB G (28 + 3 * nd) q (eX G q τ ζ ρ) s H locs := hW
        refine lv_iadd C.1 C.2.1 dX6_beamAt_23 ?_
        refine lv_istore_n (lv' := [(3, .int (x3 + (wv ((ζ.2.1 5 t * x + ζ.2.1 6 t * y) &&& 15).toInt.toNat))), (4, .int x4), (0, .ref (q 6)), (1, .int x), (2, .int y)]) C.1 C.2.1 dX6_beamAt_24 rfl hl (by decide) rfl (fun ls hl => ?_)
        refine lv_iinc (v := (x4 + 1)) (lv' := [(4, .int (x4 + 1)), (3, .int (x3 + (wv ((ζ.2.1 5 t * x + ζ.2.1 6 t * y) &&& 15).toInt.toNat))), (0, .ref (q 6)), (1, .int x), (2, .int y)]) C.1 C.2.1 dX6_beamAt_25 hl (k := 1) rfl rfl (by decide) rfl (fun ls hl => ?_)
        refine lv_goto C.1 C.2.1 (tgt := 5) dX6_beamAt_28 (by decide) ?_
        exact ih_5 (t + 1) (x3 + (wv ((ζ.2.1 5 t * x + ζ.2.1 6 t * y) &&& 15).toInt.toNat)) (x4 + 1) (by omega) ((ti_add ht (show (1 : Int32).toInt = 1 from by decide) (by omega) (by omega)).trans (by omega)) (by omega) (by rw [hs]; rfl) _ _ _ hW (lv_sub hl [0, 1, 2, 3, 4] rfl)
  exact L_5_1 _ 0 0 0 (Nat.lt_succ_self _) (by decide) (by omega) rfl _ _ _ hW (lv_sub hl [0, 1, 2, 3, 4] rfl)
set_option maxHeartbeats 4000000 in
set_option maxRecDepth 100000 in
theorem c_X6_productsAt (l : Launch) (G : GG) (q : Nat → Nat) (nd sz : Nat) (τ ζ : ST) (ρ : RF) (x : Int32) (y : Int32) (h_nd : nd ≤ 6) (h_x : 0 ≤ (ζ.1 0).toInt ∧ (ζ.1 0).toInt ≤ 15) : Met l yX6_productsAt (WSb yX6_productsAt cX6_productsAt 6 (some .long)) (rmA 1 23) (va_Pc [.ref (q 6), .int x, .int y] (PW G (28 + 3 * nd) q sz (eX G q τ ζ ρ))) (va_Ql (fun (r : Int64) (u : (ST × ST × RF)) => r = cvS (ζ.2.2 0) (ζ.2.1 5) (ζ.2.1 6) x y (ζ.1 0).toInt.toNat ∧ u = (τ, ζ, ρ)) (fun u => BW G (28 + 3 * nd) q (eX G q u.1 u.2.1 u.2.2)) (FA (28 + 3 * nd) q sz)) 0 0 (FA (28 + 3 * nd) q sz) := by
  refine Met_B (own := RX6) rfl (by decide) (Nat.le_of_ble_eq_true rfl) (fun p e s m args below meth c ls hsz C hW hr hk hl QQ hQ => ?_)
  subst hsz
  have hl : lv_has ls 6 [(0, .ref (q 6)), (1, .int x), (2, .int y)] := hl
  refine lv_lconst C.1 C.2.1 (v := 0) dX6_productsAt_0 (by decide) ?_
  refine lv_lstore_n (lv' := [(3, .long 0), (0, .ref (q 6)), (1, .int x), (2, .int y)]) C.1 C.2.1 dX6_productsAt_1 rfl hl (by decide) rfl (fun ls hl => ?_)
  refine lv_iconst C.1 C.2.1 (v := 0) dX6_productsAt_2 (by decide) ?_
  refine lv_istore (lv' := [(5, .int 0), (3, .long 0), (0, .ref (q 6)), (1, .int x), (2, .int y)]) C.1 C.2.1 dX6_productsAt_3 hl (by decide) rfl (fun ls hl => ?_)
  have L_5_1 : ∀ (fuel : Nat) (t : Nat) (x3 : Int64) (x5 : Int32), (ζ.1 0).toInt.toNat - t < fuel → (x5.toInt = (t : Int)) → (t ≤ (ζ.1 0).toInt.toNat) → (x3 = cvS (ζ.2.2 0) (ζ.2.1 5) (ζ.2.1 6) x y t) → ∀ (H : Heap) (locs : List Loc) (ls : Array Slot), WB G (28 + 3 * nd) q (eX G q τ ζ ρ) s H locs → lv_has ls 6 [(5, .int x5), (3, .long x3), (0, .ref (q 6)), (1, .int x), (2, .int y)] → W p l e (rmA 1 23) s m args below meth c H locs 0 0 QQ (F0 m 5 ls []) := by
    intro fuel; induction fuel with
    | zero => intro t x3 x5 hf; exact absurd hf (Nat.not_lt_zero _)
    | succ fuel ih_5 =>
      intro t x3 x5 hf ht hle hs H locs ls hW hl
      refine lv_iload C.1 C.2.1 dX6_productsAt_5 (lv_at hl 0 rfl) ?_
      refine lv_aload_n C.1 C.2.1 dX6_productsAt_7 rfl (lv_at hl 2 rfl) ?_
      refine xG_Spacings_size C hW bF_X6_20 (v := (ζ.1 0)) rfl dX6_productsAt_8 ?_
      refine lv_icmp_ge C.1 C.2.1 (tgt := 40) dX6_productsAt_11 (by decide) (fun c_2 => ?_) (fun c_2 => ?_)
      · skip
        have k_2 := (tc_le (rfl : ((ζ.1 0)).toInt = ((ζ.1 0)).toInt) ht).mp c_2
        refine lv_lload_n C.1 C.2.1 dX6_productsAt_40 rfl (lv_at hl 1 rfl) ?_
        subst hQ
        exact r_lret (τ, ζ, ρ) C hW hr hk dX6_productsAt_41 ⟨by rw [hs, show t = (ζ.1 0).toInt.toNat from by omega], rfl⟩
      · skip
        have k_2 := (tn_le (rfl : ((ζ.1 0)).toInt = ((ζ.1 0)).toInt) ht).mp c_2
        refine lv_lload_n C.1 C.2.1 dX6_productsAt_14 rfl (lv_at hl 1 rfl) ?_
        refine lv_aload_n C.1 C.2.1 dX6_productsAt_15 rfl (lv_at hl 2 rfl) ?_
        refine xG_Spacings_products C hW bF_X6_16 dX6_productsAt_16 ?_
        refine lv_iload C.1 C.2.1 dX6_productsAt_19 (lv_at hl 0 rfl) ?_
        refine xL_9 C hW t (ht.trans (by omega)) (by omega) (v := (ζ.2.2 0 t)) rfl dX6_productsAt_21 ?_
        refine lv_aload_n C.1 C.2.1 dX6_productsAt_22 rfl (lv_at hl 2 rfl) ?_
        refine lv_iload C.1 C.2.1 dX6_productsAt_23 (lv_at hl 0 rfl) ?_
        refine lv_iload_n C.1 C.2.1 dX6_productsAt_25 rfl (lv_at hl 3 rfl) ?_
        refine lv_iload_n C.1 C.2.1 dX6_productsAt_26 rfl (lv_at hl 4 rfl) ?_
        refine go_i hW (run_V (o := 6) (As := [.int x5, .int x, .int y]) (rest := [.long (ζ.2.2 0 t), .long x3]) C hW (by omega) rfl rfl (c_X6_waveOf l G q nd _ τ ζ ρ x5 x y t (ht.trans (by omega)) h_nd (by omega)) (cw_V 3 C bL_X6_57 bI_X6_waveOf bV_X6_waveOf bN_X6 bC_X6_waveOf ⟨rfl, rfl⟩ (by decide +kernel) ⟨Nat.le_of_ble_eq_true rfl, Nat.le_of_ble_eq_true rfl⟩) rfl hl.1 rfl (Nat.le_of_ble_eq_true rfl) dX6_productsAt_27 ⟨Nat.le_refl _, Nat.le_refl _⟩) (fun r_3 u_3 H locs hp_3 hW => ?_)
        rcases hp_3 with ⟨rfl, rfl⟩
        have hW : WB G (28 + 3 * nd) q (eX G q τ ζ ρ) s H locs := hW
        refine lv_i2l C.1 C.2.1 dX6_productsAt_30 rfl ?_
        refine lv_lmul C.1 C.2.1 dX6_productsAt_31 ?_
        refine lv_ladd C.1 C.2.1 dX6_productsAt_32 ?_
        refine lv_lstore_n (lv' := [(3, .long (x3 + ((ζ.2.2 0 t) * (wv ((ζ.2.1 5 t * x + ζ.2.1 6 t * y) &&& 15).toInt.toNat).toInt64))), (5, .int x5), (0, .ref (q 6)), (1, .int x), (2, .int y)]) C.1 C.2.1 dX6_productsAt_33 rfl hl (by decide) rfl (fun ls hl => ?_)
        refine lv_iinc (v := (x5 + 1)) (lv' := [(5, .int (x5 + 1)), (3, .long (x3 + ((ζ.2.2 0 t) * (wv ((ζ.2.1 5 t * x + ζ.2.1 6 t * y) &&& 15).toInt.toNat).toInt64))), (0, .ref (q 6)), (1, .int x), (2, .int y)]) C.1 C.2.1 dX6_productsAt_34 hl (k := 1) rfl rfl (by decide) rfl (fun ls hl => ?_)
        refine lv_goto C.1 C.2.1 (tgt := 5) dX6_productsAt_37 (by decide) ?_
        exact ih_5 (t + 1) (x3 + ((ζ.2.2 0 t) * (wv ((ζ.2.1 5 t * x + ζ.2.1 6 t * y) &&& 15).toInt.toNat).toInt64)) (x5 + 1) (by omega) ((ti_add ht (show (1 : Int32).toInt = 1 from by decide) (by omega) (by omega)).trans (by omega)) (by omega) (by rw [hs]; rfl) _ _ _ hW (lv_sub hl [0, 1, 2, 3, 4] rfl)
  exact L_5_1 _ 0 0 0 (Nat.lt_succ_self _) (by decide) (by omega) rfl _ _ _ hW (lv_sub hl [0, 1, 2, 3, 4] rfl)
set_option maxHeartbeats 4000000 in
set_option maxRecDepth 100000 in
theorem c_X0_keptAt (l : Launch) (G : GG) (q : Nat → Nat) (nd sz : Nat) (τ ζ : ST) (ρ : RF) (x : Int32) (y : Int32) (h_nd : nd ≤ 6) : Met l yX0_keptAt (WSb yX0_keptAt cX0_keptAt 3 (some .int)) (rmA 0 0) (va_Pc [.ref (q 14), .int x, .int y] (PW G (28 + 3 * nd) q sz (eX G q τ ζ ρ))) (va_Qi (fun (r : Int32) (u : (ST × ST × RF)) => r = kpt ζ x y ∧ u = (τ, ζ, ρ)) (fun u => BW G (28 + 3 * nd) q (eX G q u.1 u.2.1 u.2.2)) (FA (28 + 3 * nd) q sz)) 0 0 (FA (28 + 3 * nd) q sz) := by
  refine Met_B (own := RX0) rfl (by decide) (Nat.le_of_ble_eq_true rfl) (fun p e s m args below meth c ls hsz C hW hr hk hl QQ hQ => ?_)
  subst hsz
  have hl : lv_has ls 3 [(0, .ref (q 14)), (1, .int x), (2, .int y)] := hl
  have qx := and15 x
  have qy := and15 y
  refine lv_aload_n C.1 C.2.1 dX0_keptAt_0 rfl (lv_at hl 0 rfl) ?_
  refine xG_Board_kept C hW bF_X0_15 dX0_keptAt_1 ?_
  refine lv_bipush C.1 C.2.1 (v := 16) dX0_keptAt_4 (by decide) ?_
  refine lv_iload_n C.1 C.2.1 dX0_keptAt_6 rfl (lv_at hl 2 rfl) ?_
  refine lv_bipush C.1 C.2.1 (v := 15) dX0_keptAt_7 (by decide) ?_
  refine lv_iand C.1 C.2.1 dX0_keptAt_9 ?_
  refine lv_imul C.1 C.2.1 dX0_keptAt_10 ?_
  refine lv_iload_n C.1 C.2.1 dX0_keptAt_11 rfl (lv_at hl 1 rfl) ?_
  refine lv_bipush C.1 C.2.1 (v := 15) dX0_keptAt_12 (by decide) ?_
  refine lv_iand C.1 C.2.1 dX0_keptAt_14 ?_
  refine lv_iadd C.1 C.2.1 dX0_keptAt_15 ?_
  refine xL_16 C hW ((((16 * (y &&& 15).toInt) + (x &&& 15).toInt)).toNat) ((ti_add (ti_mul (show (16 : Int32).toInt = 16 from by decide) (rfl : (y &&& 15).toInt = _) (by omega) (by omega)) (rfl : (x &&& 15).toInt = _) (by omega) (by omega)).trans (by omega)) (by omega) (v := (ζ.2.1 2 ((((16 * (y &&& 15).toInt) + (x &&& 15).toInt)).toNat))) rfl dX0_keptAt_16 ?_
  subst hQ
  exact r_iret (τ, ζ, ρ) C hW hr hk dX0_keptAt_17 (⟨rfl, rfl⟩)
set_option maxHeartbeats 4000000 in
set_option maxRecDepth 100000 in
theorem c_X0_look (l : Launch) (G : GG) (q : Nat → Nat) (nd sz : Nat) (τ ζ : ST) (ρ : RF) (x : Int32) (y : Int32) (z : Int32) (w : Int32) (h_nd : nd ≤ 6) : Met l yX0_look (WSb yX0_look cX0_look 5 none) (rmA 0 0) (va_Pc [.ref (q 14), .int x, .int y, .int z, .int w] (PW G (28 + 3 * nd) q sz (eX G q τ ζ ρ))) (va_Qv (fun (u : (ST × ST × RF)) => u = ((sg (sg (sg (sg τ 5 x) 7 y) 6 z) 8 w), ζ, ρ)) (fun u => BW G (28 + 3 * nd) q (eX G q u.1 u.2.1 u.2.2)) (FA (28 + 3 * nd) q sz)) 0 0 (FA (28 + 3 * nd) q sz) := by
  refine Met_B (own := RX0) rfl (by decide) (Nat.le_of_ble_eq_true rfl) (fun p e s m args below meth c ls hsz C hW hr hk hl QQ hQ => ?_)
  subst hsz
  have hl : lv_has ls 5 [(0, .ref (q 14)), (1, .int x), (2, .int y), (3, .int z), (4, .int w)] := hl
  refine lv_aload_n C.1 C.2.1 dX0_look_0 rfl (lv_at hl 0 rfl) ?_
  refine lv_iload_n C.1 C.2.1 dX0_look_1 rfl (lv_at hl 1 rfl) ?_
  refine xP_Board_left C hW bF_X0_25 dX0_look_2 (fun H locs hW => ?_)
  refine lv_aload_n C.1 C.2.1 dX0_look_5 rfl (lv_at hl 0 rfl) ?_
  refine lv_iload_n C.1 C.2.1 dX0_look_6 rfl (lv_at hl 2 rfl) ?_
  refine xP_Board_top C hW bF_X0_29 dX0_look_7 (fun H locs hW => ?_)
  refine lv_aload_n C.1 C.2.1 dX0_look_10 rfl (lv_at hl 0 rfl) ?_
  refine lv_iload_n C.1 C.2.1 dX0_look_11 rfl (lv_at hl 3 rfl) ?_
  refine xP_Board_right C hW bF_X0_32 dX0_look_12 (fun H locs hW => ?_)
  refine lv_aload_n C.1 C.2.1 dX0_look_15 rfl (lv_at hl 0 rfl) ?_
  refine lv_iload C.1 C.2.1 dX0_look_16 (lv_at hl 4 rfl) ?_
  refine xP_Board_bottom C hW bF_X0_35 dX0_look_18 (fun H locs hW => ?_)
  subst hQ
  exact r_vret ((sg (sg (sg (sg τ 5 x) 7 y) 6 z) 8 w), ζ, ρ) C hW hr hk dX0_look_21 (rfl)
set_option maxHeartbeats 4000000 in
set_option maxRecDepth 100000 in
theorem c_X0_windowCells (l : Launch) (G : GG) (q : Nat → Nat) (nd sz : Nat) (τ ζ : ST) (ρ : RF) (h_nd : nd ≤ 6) : Met l yX0_windowCells (WSb yX0_windowCells cX0_windowCells 1 (some .int)) (rmA 0 0) (va_Pc [.ref (q 14)] (PW G (28 + 3 * nd) q sz (eX G q τ ζ ρ))) (va_Qi (fun (r : Int32) (u : (ST × ST × RF)) => r = (τ.1 6 - τ.1 5 + 1) * (τ.1 8 - τ.1 7 + 1) ∧ u = (τ, ζ, ρ)) (fun u => BW G (28 + 3 * nd) q (eX G q u.1 u.2.1 u.2.2)) (FA (28 + 3 * nd) q sz)) 0 0 (FA (28 + 3 * nd) q sz) := by
  refine Met_B (own := RX0) rfl (by decide) (Nat.le_of_ble_eq_true rfl) (fun p e s m args below meth c ls hsz C hW hr hk hl QQ hQ => ?_)
  subst hsz
  have hl : lv_has ls 1 [(0, .ref (q 14))] := hl
  refine lv_aload_n C.1 C.2.1 dX0_windowCells_0 rfl (lv_at hl 0 rfl) ?_
  refine xG_Board_right C hW bF_X0_32 (v := (τ.1 6)) rfl dX0_windowCells_1 ?_
  refine lv_aload_n C.1 C.2.1 dX0_windowCells_4 rfl (lv_at hl 0 rfl) ?_
  refine xG_Board_left C hW bF_X0_25 (v := (τ.1 5)) rfl dX0_windowCells_5 ?_
  refine lv_isub C.1 C.2.1 dX0_windowCells_8 ?_
  refine lv_iconst C.1 C.2.1 (v := 1) dX0_windowCells_9 (by decide) ?_
  refine lv_iadd C.1 C.2.1 dX0_windowCells_10 ?_
  refine lv_aload_n C.1 C.2.1 dX0_windowCells_11 rfl (lv_at hl 0 rfl) ?_
  refine xG_Board_bottom C hW bF_X0_35 (v := (τ.1 8)) rfl dX0_windowCells_12 ?_
  refine lv_aload_n C.1 C.2.1 dX0_windowCells_15 rfl (lv_at hl 0 rfl) ?_
  refine xG_Board_top C hW bF_X0_29 (v := (τ.1 7)) rfl dX0_windowCells_16 ?_
  refine lv_isub C.1 C.2.1 dX0_windowCells_19 ?_
  refine lv_iconst C.1 C.2.1 (v := 1) dX0_windowCells_20 (by decide) ?_
  refine lv_iadd C.1 C.2.1 dX0_windowCells_21 ?_
  refine lv_imul C.1 C.2.1 dX0_windowCells_22 ?_
  subst hQ
  exact r_iret (τ, ζ, ρ) C hW hr hk dX0_windowCells_23 (⟨rfl, rfl⟩)
set_option maxHeartbeats 4000000 in
set_option maxRecDepth 100000 in
theorem c_X0_amountAt (l : Launch) (G : GG) (q : Nat → Nat) (nd sz : Nat) (τ ζ : ST) (ρ : RF) (a : Int32) (aN : Nat) (ha : a.toInt = (aN : Int)) (h_nd : nd ≤ 6) (ha256 : aN < 256) : Met l yX0_amountAt (WSb yX0_amountAt cX0_amountAt 2 (some .long)) (rmA 1 21) (va_Pc [.ref (q 14), .int a] (PW G (28 + 3 * nd) q sz (eX G q τ ζ ρ))) (va_Ql (fun (r : Int64) (u : (ST × ST × RF)) => r = amt (τ.2.2 0 aN) ∧ u = (τ, ζ, ρ)) (fun u => BW G (28 + 3 * nd) q (eX G q u.1 u.2.1 u.2.2)) (FA (28 + 3 * nd) q sz)) 0 0 (FA (28 + 3 * nd) q sz) := by
  refine Met_B (own := RX0) rfl (by decide) (Nat.le_of_ble_eq_true rfl) (fun p e s m args below meth c ls hsz C hW hr hk hl QQ hQ => ?_)
  subst hsz
  have hl : lv_has ls 2 [(0, .ref (q 14)), (1, .int a)] := hl
  refine lv_aload_n C.1 C.2.1 dX0_amountAt_0 rfl (lv_at hl 0 rfl) ?_
  refine xG_Board_cells C hW bF_X0_9 dX0_amountAt_1 ?_
  refine lv_iload_n C.1 C.2.1 dX0_amountAt_4 rfl (lv_at hl 1 rfl) ?_
  refine xL_15 C hW aN (ha.trans (by omega)) (by omega) (v := (τ.2.2 0 aN)) rfl dX0_amountAt_5 ?_
  refine r_absl (rest := []) C hl.1 bL_X0_86 (Nat.le_of_ble_eq_true rfl) (Nat.le_of_ble_eq_true rfl) ⟨Nat.le_refl _, Nat.le_refl _⟩ dX0_amountAt_6 ?_
  subst hQ
  exact r_lret (τ, ζ, ρ) C hW hr hk dX0_amountAt_9 (⟨rfl, rfl⟩)
set_option maxHeartbeats 4000000 in
set_option maxRecDepth 100000 in
theorem c_X0_greatestCell (l : Launch) (G : GG) (q : Nat → Nat) (nd sz : Nat) (τ ζ : ST) (ρ : RF) (h_nd : nd ≤ 6) (h_w : 0 ≤ (τ.1 5).toInt ∧ (τ.1 5).toInt ≤ (τ.1 6).toInt ∧ (τ.1 6).toInt ≤ 15 ∧ 0 ≤ (τ.1 7).toInt ∧ (τ.1 7).toInt ≤ (τ.1 8).toInt ∧ (τ.1 8).toInt ≤ 15) : Met l yX0_greatestCell (WSb yX0_greatestCell cX0_greatestCell 5 (some .int)) (rmA 2 42) (va_Pc [.ref (q 14)] (PW G (28 + 3 * nd) q sz (eX G q τ ζ ρ))) (va_Qi (fun (r : Int32) (u : (ST × ST × RF)) => r = nI (pk τ) ∧ u = (τ, ζ, ρ) ∧ (pk τ < 256)) (fun u => BW G (28 + 3 * nd) q (eX G q u.1 u.2.1 u.2.2)) (FA (28 + 3 * nd) q sz)) 0 0 (FA (28 + 3 * nd) q sz) := by
  refine Met_B (own := RX0) rfl (by decide) (Nat.le_of_ble_eq_true rfl) (fun p e s m args below meth c ls hsz C hW hr hk hl QQ hQ => ?_)
  subst hsz
  have hl : lv_has ls 5 [(0, .ref (q 14))] := hl
  refine lv_bipush C.1 C.2.1 (v := 16) dX0_greatestCell_0 (by decide) ?_
  refine lv_aload_n C.1 C.2.1 dX0_greatestCell_2 rfl (lv_at hl 0 rfl) ?_
  refine xG_Board_top C hW bF_X0_29 (v := (τ.1 7)) rfl dX0_greatestCell_3 ?_
  refine lv_imul C.1 C.2.1 dX0_greatestCell_6 ?_
  refine lv_aload_n C.1 C.2.1 dX0_greatestCell_7 rfl (lv_at hl 0 rfl) ?_
  refine xG_Board_left C hW bF_X0_25 (v := (τ.1 5)) rfl dX0_greatestCell_8 ?_
  refine lv_iadd C.1 C.2.1 dX0_greatestCell_11 ?_
  refine lv_istore_n (lv' := [(1, .int ((16 * (τ.1 7)) + (τ.1 5))), (0, .ref (q 14))]) C.1 C.2.1 dX0_greatestCell_12 rfl hl (by decide) rfl (fun ls hl => ?_)
  refine lv_aload_n C.1 C.2.1 dX0_greatestCell_13 rfl (lv_at hl 1 rfl) ?_
  refine xG_Board_top C hW bF_X0_29 (v := (τ.1 7)) rfl dX0_greatestCell_14 ?_
  refine lv_istore_n (lv' := [(2, .int (τ.1 7)), (1, .int ((16 * (τ.1 7)) + (τ.1 5))), (0, .ref (q 14))]) C.1 C.2.1 dX0_greatestCell_17 rfl hl (by decide) rfl (fun ls hl => ?_)
  have L_18_1 : ∀ (fuel : Nat) (a : Nat) (x1 : Int32) (x2 : Int32), ((τ.1 8).toInt.toNat + 1 - (τ.1 7).toInt.toNat) - a < fuel → (x1.toInt = (((pkA (τ.2.2 0) (τ.1 7).toInt.toNat (τ.1 5).toInt.toNat ((τ.1 6).toInt.toNat + 1 - (τ.1 5).toInt.toNat) a) : Nat) : Int)) → ((pkA (τ.2.2 0) (τ.1 7).toInt.toNat (τ.1 5).toInt.toNat ((τ.1 6).toInt.toNat + 1 - (τ.1 5).toInt.toNat) a) < 256) → (x2.toInt = (((τ.1 7).toInt.toNat + a : Nat) : Int)) → (a ≤ ((τ.1 8).toInt.toNat + 1 - (τ.1 7).toInt.toNat)) → ∀ (H : Heap) (locs : List Loc) (ls : Array Slot), WB G (28 + 3 * nd) q (eX G q τ ζ ρ) s H locs → lv_has ls 5 [(2, .int x2), (1, .int x1), (0, .ref (q 14))] → W p l e (rmA 2 42) s m args below meth c H locs 0 0 QQ (F0 m 18 ls []) := by
    intro fuel; induction fuel with
    | zero => intro a x1 x2 hf; exact absurd hf (Nat.not_lt_zero _)
    | succ fuel ih_18 =>
      intro a x1 x2 hf hb hb2 hy hal H locs ls hW hl
      refine lv_iload_n C.1 C.2.1 dX0_greatestCell_18 rfl (lv_at hl 0 rfl) ?_
      refine lv_aload_n C.1 C.2.1 dX0_greatestCell_19 rfl (lv_at hl 2 rfl) ?_
      refine xG_Board_bottom C hW bF_X0_35 (v := (τ.1 8)) rfl dX0_greatestCell_20 ?_
      refine lv_icmp_gt C.1 C.2.1 (tgt := 77) dX0_greatestCell_23 (by decide) (fun c_2 => ?_) (fun c_2 => ?_)
      · skip
        have k_2 := (tc_lt (rfl : ((τ.1 8)).toInt = ((τ.1 8)).toInt) hy).mp c_2
        refine lv_iload_n C.1 C.2.1 dX0_greatestCell_77 rfl (lv_at hl 1 rfl) ?_
        subst hQ
        exact r_iret (τ, ζ, ρ) C hW hr hk dX0_greatestCell_78 ⟨Int32.toInt_inj.mp (by rw [hb, nI_toInt (by unfold pk; rw [show ((τ.1 8).toInt.toNat + 1 - (τ.1 7).toInt.toNat) = a from by omega]; omega)]; unfold pk; rw [show ((τ.1 8).toInt.toNat + 1 - (τ.1 7).toInt.toNat) = a from by omega]), rfl, (by unfold pk; rw [show ((τ.1 8).toInt.toNat + 1 - (τ.1 7).toInt.toNat) = a from by omega]; exact hb2)⟩
      · skip
        have k_2 := (tn_lt (rfl : ((τ.1 8)).toInt = ((τ.1 8)).toInt) hy).mp c_2
        refine lv_aload_n C.1 C.2.1 dX0_greatestCell_26 rfl (lv_at hl 2 rfl) ?_
        refine xG_Board_left C hW bF_X0_25 (v := (τ.1 5)) rfl dX0_greatestCell_27 ?_
        refine lv_istore_n (lv' := [(3, .int (τ.1 5)), (2, .int x2), (1, .int x1), (0, .ref (q 14))]) C.1 C.2.1 dX0_greatestCell_30 rfl hl (by decide) rfl (fun ls hl => ?_)
        have L_31_3 : ∀ (fuel : Nat) (k2 : Nat) (x3 : Int32) (x4 : Int32), ((τ.1 6).toInt.toNat + 1 - (τ.1 5).toInt.toNat) - k2 < fuel → (x3.toInt = ((pkR (τ.2.2 0) ((τ.1 7).toInt.toNat + a) (τ.1 5).toInt.toNat (pkA (τ.2.2 0) (τ.1 7).toInt.toNat (τ.1 5).toInt.toNat ((τ.1 6).toInt.toNat + 1 - (τ.1 5).toInt.toNat) a) k2 : Nat) : Int)) → (pkR (τ.2.2 0) ((τ.1 7).toInt.toNat + a) (τ.1 5).toInt.toNat (pkA (τ.2.2 0) (τ.1 7).toInt.toNat (τ.1 5).toInt.toNat ((τ.1 6).toInt.toNat + 1 - (τ.1 5).toInt.toNat) a) k2 < 256) → (x4.toInt = (((τ.1 5).toInt.toNat + k2 : Nat) : Int)) → (k2 ≤ ((τ.1 6).toInt.toNat + 1 - (τ.1 5).toInt.toNat)) → ∀ (H : Heap) (locs : List Loc) (ls : Array Slot), WB G (28 + 3 * nd) q (eX G q τ ζ ρ) s H locs → lv_has ls 5 [(3, .int x4), (2, .int x2), (1, .int x3), (0, .ref (q 14))] → W p l e (rmA 2 42) s m args below meth c H locs 0 0 QQ (F0 m 31 ls []) := by
          intro fuel; induction fuel with
          | zero => intro k2 x3 x4 hf; exact absurd hf (Nat.not_lt_zero _)
          | succ fuel ih_31 =>
            intro k2 x3 x4 hf hc hc2 hx hcl H locs ls hW hl
            refine lv_iload_n C.1 C.2.1 dX0_greatestCell_31 rfl (lv_at hl 0 rfl) ?_
            refine lv_aload_n C.1 C.2.1 dX0_greatestCell_32 rfl (lv_at hl 3 rfl) ?_
            refine xG_Board_right C hW bF_X0_32 (v := (τ.1 6)) rfl dX0_greatestCell_33 ?_
            refine lv_icmp_gt C.1 C.2.1 (tgt := 71) dX0_greatestCell_36 (by decide) (fun c_4 => ?_) (fun c_4 => ?_)
            · skip
              have k_4 := (tc_lt (rfl : ((τ.1 6)).toInt = ((τ.1 6)).toInt) hx).mp c_4
              have ec : k2 = ((τ.1 6).toInt.toNat + 1 - (τ.1 5).toInt.toNat) := by omega
              refine lv_iinc (v := (x2 + 1)) (lv' := [(2, .int (x2 + 1)), (3, .int x4), (1, .int x3), (0, .ref (q 14))]) C.1 C.2.1 dX0_greatestCell_71 hl (k := 1) rfl rfl (by decide) rfl (fun ls hl => ?_)
              refine lv_goto C.1 C.2.1 (tgt := 18) dX0_greatestCell_74 (by decide) ?_
              exact ih_18 (a + 1) x3 (x2 + 1) (by omega) (by show x3.toInt = ((pkR (τ.2.2 0) ((τ.1 7).toInt.toNat + a) (τ.1 5).toInt.toNat (pkA (τ.2.2 0) (τ.1 7).toInt.toNat (τ.1 5).toInt.toNat ((τ.1 6).toInt.toNat + 1 - (τ.1 5).toInt.toNat) a) ((τ.1 6).toInt.toNat + 1 - (τ.1 5).toInt.toNat) : Nat) : Int); rw [ec] at hc; exact hc) (pkA_lt (by omega) (by omega) (by omega) _ (by omega)) ((ti_add hy (show (1 : Int32).toInt = 1 from by decide) (by omega) (by omega)).trans (by omega)) (by omega) _ _ _ hW (lv_sub hl [0, 2, 3] rfl)
            · skip
              have k_4 := (tn_lt (rfl : ((τ.1 6)).toInt = ((τ.1 6)).toInt) hx).mp c_4
              refine lv_bipush C.1 C.2.1 (v := 16) dX0_greatestCell_39 (by decide) ?_
              refine lv_iload_n C.1 C.2.1 dX0_greatestCell_41 rfl (lv_at hl 1 rfl) ?_
              refine lv_imul C.1 C.2.1 dX0_greatestCell_42 ?_
              refine lv_iload_n C.1 C.2.1 dX0_greatestCell_43 rfl (lv_at hl 0 rfl) ?_
              refine lv_iadd C.1 C.2.1 dX0_greatestCell_44 ?_
              refine lv_istore (lv' := [(4, .int ((16 * x2) + x4)), (3, .int x4), (2, .int x2), (1, .int x3), (0, .ref (q 14))]) C.1 C.2.1 dX0_greatestCell_45 hl (by decide) rfl (fun ls hl => ?_)
              refine lv_aload_n C.1 C.2.1 dX0_greatestCell_47 rfl (lv_at hl 4 rfl) ?_
              refine lv_iload C.1 C.2.1 dX0_greatestCell_48 (lv_at hl 0 rfl) ?_
              refine go_l hW (run_V (o := 14) (As := [.int ((16 * x2) + x4)]) (rest := []) C hW (by omega) rfl rfl (c_X0_amountAt l G q nd _ τ ζ ρ ((16 * x2) + x4) ((16 * ((τ.1 7).toInt.toNat + a)) + ((τ.1 5).toInt.toNat + k2)) ((ti_add (ti_mul (show (16 : Int32).toInt = 16 from by decide) hy (by omega) (by omega)) hx (by omega) (by omega)).trans (by omega)) h_nd (by omega)) (cw_V 1 C bL_X0_82 bI_X0_amountAt bV_X0_amountAt bN_X0 bC_X0_amountAt ⟨rfl, rfl⟩ (by decide +kernel) ⟨Nat.le_of_ble_eq_true rfl, Nat.le_of_ble_eq_true rfl⟩) rfl hl.1 rfl (Nat.le_of_ble_eq_true rfl) dX0_greatestCell_50 ⟨Nat.le_refl _, Nat.le_refl _⟩) (fun r_5 u_5 H locs hp_5 hW => ?_)
              rcases hp_5 with ⟨rfl, rfl⟩
              have hW : WB G (28 + 3 * nd) q (eX G q τ ζ ρ) s H locs := hW
              refine lv_aload_n C.1 C.2.1 dX0_greatestCell_53 rfl (lv_at hl 4 rfl) ?_
              refine lv_iload_n C.1 C.2.1 dX0_greatestCell_54 rfl (lv_at hl 3 rfl) ?_
              refine go_l hW (run_V (o := 14) (As := [.int x3]) (rest := [.long (amt (τ.2.2 0 ((16 * ((τ.1 7).toInt.toNat + a)) + ((τ.1 5).toInt.toNat + k2))))]) C hW (by omega) rfl rfl (c_X0_amountAt l G q nd _ τ ζ ρ x3 (pkR (τ.2.2 0) ((τ.1 7).toInt.toNat + a) (τ.1 5).toInt.toNat (pkA (τ.2.2 0) (τ.1 7).toInt.toNat (τ.1 5).toInt.toNat ((τ.1 6).toInt.toNat + 1 - (τ.1 5).toInt.toNat) a) k2) (hc.trans (by omega)) h_nd (by omega)) (cw_V 1 C bL_X0_82 bI_X0_amountAt bV_X0_amountAt bN_X0 bC_X0_amountAt ⟨rfl, rfl⟩ (by decide +kernel) ⟨Nat.le_of_ble_eq_true rfl, Nat.le_of_ble_eq_true rfl⟩) rfl hl.1 rfl (Nat.le_of_ble_eq_true rfl) dX0_greatestCell_55 ⟨Nat.le_refl _, Nat.le_refl _⟩) (fun r_6 u_6 H locs hp_6 hW => ?_)
              rcases hp_6 with ⟨rfl, rfl⟩
              have hW : WB G (28 + 3 * nd) q (eX G q τ ζ ρ) s H locs := hW
              refine W.lcmp C.1 C.2.1 dX0_greatestCell_58 ?_
              refine lv_if_le C.1 C.2.1 (tgt := 65) dX0_greatestCell_59 (by decide) (fun c_7 => ?_) (fun c_7 => ?_)
              · skip
                have k_7 := (lc_le (rfl : ((amt (τ.2.2 0 ((16 * ((τ.1 7).toInt.toNat + a)) + ((τ.1 5).toInt.toNat + k2))))).toInt = ((amt (τ.2.2 0 ((16 * ((τ.1 7).toInt.toNat + a)) + ((τ.1 5).toInt.toNat + k2))))).toInt) (rfl : ((amt (τ.2.2 0 (pkR (τ.2.2 0) ((τ.1 7).toInt.toNat + a) (τ.1 5).toInt.toNat (pkA (τ.2.2 0) (τ.1 7).toInt.toNat (τ.1 5).toInt.toNat ((τ.1 6).toInt.toNat + 1 - (τ.1 5).toInt.toNat) a) k2)))).toInt = ((amt (τ.2.2 0 (pkR (τ.2.2 0) ((τ.1 7).toInt.toNat + a) (τ.1 5).toInt.toNat (pkA (τ.2.2 0) (τ.1 7).toInt.toNat (τ.1 5).toInt.toNat ((τ.1 6).toInt.toNat + 1 - (τ.1 5).toInt.toNat) a) k2)))).toInt)).mp c_7
                have es : pkR (τ.2.2 0) ((τ.1 7).toInt.toNat + a) (τ.1 5).toInt.toNat (pkA (τ.2.2 0) (τ.1 7).toInt.toNat (τ.1 5).toInt.toNat ((τ.1 6).toInt.toNat + 1 - (τ.1 5).toInt.toNat) a) (k2 + 1) = pkR (τ.2.2 0) ((τ.1 7).toInt.toNat + a) (τ.1 5).toInt.toNat (pkA (τ.2.2 0) (τ.1 7).toInt.toNat (τ.1 5).toInt.toNat ((τ.1 6).toInt.toNat + 1 - (τ.1 5).toInt.toNat) a) k2 := if_neg (Int.not_lt.mpr k_7)
                have ev := hc
                refine lv_iinc (v := (x4 + 1)) (lv' := [(3, .int (x4 + 1)), (4, .int ((16 * x2) + x4)), (2, .int x2), (1, .int x3), (0, .ref (q 14))]) C.1 C.2.1 dX0_greatestCell_65 hl (k := 1) rfl rfl (by decide) rfl (fun ls hl => ?_)
                refine lv_goto C.1 C.2.1 (tgt := 31) dX0_greatestCell_68 (by decide) ?_
                exact ih_31 (k2 + 1) x3 (x4 + 1) (by omega) (by rw [es]; exact ev) (pkR_lt hb2 (by omega) _ (by omega)) ((ti_add hx (show (1 : Int32).toInt = 1 from by decide) (by omega) (by omega)).trans (by omega)) (by omega) _ _ _ hW (lv_sub hl [0, 2, 3, 4] rfl)
              · skip
                have k_7 := (ln_le (rfl : ((amt (τ.2.2 0 ((16 * ((τ.1 7).toInt.toNat + a)) + ((τ.1 5).toInt.toNat + k2))))).toInt = ((amt (τ.2.2 0 ((16 * ((τ.1 7).toInt.toNat + a)) + ((τ.1 5).toInt.toNat + k2))))).toInt) (rfl : ((amt (τ.2.2 0 (pkR (τ.2.2 0) ((τ.1 7).toInt.toNat + a) (τ.1 5).toInt.toNat (pkA (τ.2.2 0) (τ.1 7).toInt.toNat (τ.1 5).toInt.toNat ((τ.1 6).toInt.toNat + 1 - (τ.1 5).toInt.toNat) a) k2)))).toInt = ((amt (τ.2.2 0 (pkR (τ.2.2 0) ((τ.1 7).toInt.toNat + a) (τ.1 5).toInt.toNat (pkA (τ.2.2 0) (τ.1 7).toInt.toNat (τ.1 5).toInt.toNat ((τ.1 6).toInt.toNat + 1 - (τ.1 5).toInt.toNat) a) k2)))).toInt)).mp c_7
                have es : pkR (τ.2.2 0) ((τ.1 7).toInt.toNat + a) (τ.1 5).toInt.toNat (pkA (τ.2.2 0) (τ.1 7).toInt.toNat (τ.1 5).toInt.toNat ((τ.1 6).toInt.toNat + 1 - (τ.1 5).toInt.toNat) a) (k2 + 1) = 16 * ((τ.1 7).toInt.toNat + a) + ((τ.1 5).toInt.toNat + k2) := if_pos (Int.not_le.mp k_7)
                have ev : (16 * x2 + x4).toInt = ((16 * ((τ.1 7).toInt.toNat + a) + ((τ.1 5).toInt.toNat + k2) : Nat) : Int) := (ti_add (ti_mul (show (16 : Int32).toInt = 16 from by decide) hy (by omega) (by omega)) hx (by omega) (by omega)).trans (by omega)
                refine lv_iload C.1 C.2.1 dX0_greatestCell_62 (lv_at hl 0 rfl) ?_
                refine lv_istore_n (lv' := [(1, .int ((16 * x2) + x4)), (4, .int ((16 * x2) + x4)), (3, .int x4), (2, .int x2), (0, .ref (q 14))]) C.1 C.2.1 dX0_greatestCell_64 rfl hl (by decide) rfl (fun ls hl => ?_)
                refine lv_iinc (v := (x4 + 1)) (lv' := [(3, .int (x4 + 1)), (1, .int ((16 * x2) + x4)), (4, .int ((16 * x2) + x4)), (2, .int x2), (0, .ref (q 14))]) C.1 C.2.1 dX0_greatestCell_65 hl (k := 2) rfl rfl (by decide) rfl (fun ls hl => ?_)
                refine lv_goto C.1 C.2.1 (tgt := 31) dX0_greatestCell_68 (by decide) ?_
                exact ih_31 (k2 + 1) ((16 * x2) + x4) (x4 + 1) (by omega) (by rw [es]; exact ev) (pkR_lt hb2 (by omega) _ (by omega)) ((ti_add hx (show (1 : Int32).toInt = 1 from by decide) (by omega) (by omega)).trans (by omega)) (by omega) _ _ _ hW (lv_sub hl [0, 3, 1, 4] rfl)
        exact L_31_3 _ 0 x1 (τ.1 5) (Nat.lt_succ_self _) hb hb2 (by omega) (by omega) _ _ _ hW (lv_sub hl [0, 1, 2, 3] rfl)
  exact L_18_1 _ 0 ((16 * (τ.1 7)) + (τ.1 5)) (τ.1 7) (Nat.lt_succ_self _) (by rw [pkA]; exact (ti_add (ti_mul (show (16 : Int32).toInt = 16 from by decide) rfl (by omega) (by omega)) rfl (by omega) (by omega)).trans (by omega)) (by rw [pkA]; omega) (by omega) (by omega) _ _ _ hW (lv_sub hl [0, 1, 2] rfl)
set_option maxHeartbeats 4000000 in
set_option maxRecDepth 100000 in
theorem c_X2_add (l : Launch) (G : GG) (q : Nat → Nat) (nd sz : Nat) (τ ζ : ST) (ρ : RF) (x : Int32) (y : Int32) (f : Int32) (h_nd : nd ≤ 6) (h_p : 0 ≤ (τ.1 3).toInt ∧ (τ.1 3).toInt ≤ 10) : Met l yX2_add (WSb yX2_add cX2_add 4 (some .int)) (rmA 0 0) (va_Pc [.ref (q 10), .int x, .int y, .int f] (PW G (28 + 3 * nd) q sz (eX G q τ ζ ρ))) (va_Qi (fun (r : Int32) (u : (ST × ST × RF)) => (r = -3 ∧ u = (τ, ζ, ρ) ∧ ((τ.1 3).toInt = 10)) ∨ (r = τ.1 3 + 1 ∧ u = ((sg (sa (sa (sa τ 11 (τ.1 3).toInt.toNat x) 12 (τ.1 3).toInt.toNat y) 13 (τ.1 3).toInt.toNat f) 3 (τ.1 3 + 1)), ζ, ρ) ∧ (¬ (τ.1 3).toInt = 10))) (fun u => BW G (28 + 3 * nd) q (eX G q u.1 u.2.1 u.2.2)) (FA (28 + 3 * nd) q sz)) 0 0 (FA (28 + 3 * nd) q sz) := by
  refine Met_B (own := RX2) rfl (by decide) (Nat.le_of_ble_eq_true rfl) (fun p e s m args below meth c ls hsz C hW hr hk hl QQ hQ => ?_)
  subst hsz
  have hl : lv_has ls 4 [(0, .ref (q 10)), (1, .int x), (2, .int y), (3, .int f)] := hl
  refine lv_aload_n C.1 C.2.1 dX2_add_0 rfl (lv_at hl 0 rfl) ?_
  refine xG_Points_size C hW bF_X2_21 (v := (τ.1 3)) rfl dX2_add_1 ?_
  refine lv_bipush C.1 C.2.1 (v := 10) dX2_add_4 (by decide) ?_
  refine lv_icmp_lt C.1 C.2.1 (tgt := 12) dX2_add_6 (by decide) (fun c_1 => ?_) (fun c_1 => ?_)
  · skip
    have k_1 := (tc_lt (rfl : ((τ.1 3)).toInt = ((τ.1 3)).toInt) (show (10 : Int32).toInt = 10 from by decide)).mp c_1
    refine lv_aload_n C.1 C.2.1 dX2_add_12 rfl (lv_at hl 0 rfl) ?_
    refine xG_Points_xs C hW bF_X2_11 dX2_add_13 ?_
    refine lv_aload_n C.1 C.2.1 dX2_add_16 rfl (lv_at hl 0 rfl) ?_
    refine xG_Points_size C hW bF_X2_21 (v := (τ.1 3)) rfl dX2_add_17 ?_
    refine lv_iload_n C.1 C.2.1 dX2_add_20 rfl (lv_at hl 1 rfl) ?_
    refine xS_11 C hW ((((τ.1 3)).toInt).toNat) ((rfl : ((τ.1 3)).toInt = ((τ.1 3)).toInt).trans (by omega)) (by omega) dX2_add_21 (fun H locs hW => ?_)
    refine lv_aload_n C.1 C.2.1 dX2_add_22 rfl (lv_at hl 0 rfl) ?_
    refine xG_Points_ys C hW bF_X2_15 dX2_add_23 ?_
    refine lv_aload_n C.1 C.2.1 dX2_add_26 rfl (lv_at hl 0 rfl) ?_
    refine xG_Points_size C hW bF_X2_21 (v := (τ.1 3)) rfl dX2_add_27 ?_
    refine lv_iload_n C.1 C.2.1 dX2_add_30 rfl (lv_at hl 2 rfl) ?_
    refine xS_12 C hW ((((τ.1 3)).toInt).toNat) ((rfl : ((τ.1 3)).toInt = ((τ.1 3)).toInt).trans (by omega)) (by omega) dX2_add_31 (fun H locs hW => ?_)
    refine lv_aload_n C.1 C.2.1 dX2_add_32 rfl (lv_at hl 0 rfl) ?_
    refine xG_Points_fluxes C hW bF_X2_18 dX2_add_33 ?_
    refine lv_aload_n C.1 C.2.1 dX2_add_36 rfl (lv_at hl 0 rfl) ?_
    refine xG_Points_size C hW bF_X2_21 (v := (τ.1 3)) rfl dX2_add_37 ?_
    refine lv_iload_n C.1 C.2.1 dX2_add_40 rfl (lv_at hl 3 rfl) ?_
    refine xS_13 C hW ((((τ.1 3)).toInt).toNat) ((rfl : ((τ.1 3)).toInt = ((τ.1 3)).toInt).trans (by omega)) (by omega) dX2_add_41 (fun H locs hW => ?_)
    refine lv_aload_n C.1 C.2.1 dX2_add_42 rfl (lv_at hl 0 rfl) ?_
    refine lv_dup C.1 C.2.1 dX2_add_43 rfl ?_
    refine xG_Points_size C hW bF_X2_21 (v := (τ.1 3)) rfl dX2_add_44 ?_
    refine lv_iconst C.1 C.2.1 (v := 1) dX2_add_47 (by decide) ?_
    refine lv_iadd C.1 C.2.1 dX2_add_48 ?_
    refine xP_Points_size C hW bF_X2_21 dX2_add_49 (fun H locs hW => ?_)
    refine lv_aload_n C.1 C.2.1 dX2_add_52 rfl (lv_at hl 0 rfl) ?_
    refine xG_Points_size C hW bF_X2_21 (v := ((τ.1 3) + 1)) rfl dX2_add_53 ?_
    subst hQ
    exact r_iret ((sg (sa (sa (sa τ 11 ((((τ.1 3)).toInt).toNat) x) 12 ((((τ.1 3)).toInt).toNat) y) 13 ((((τ.1 3)).toInt).toNat) f) 3 ((τ.1 3) + 1)), ζ, ρ) C hW hr hk dX2_add_56 (by first | exact Or.inl ⟨rfl, rfl, (by omega)⟩ | exact Or.inr (⟨rfl, rfl, (by omega)⟩))
  · skip
    have k_1 := (tn_lt (rfl : ((τ.1 3)).toInt = ((τ.1 3)).toInt) (show (10 : Int32).toInt = 10 from by decide)).mp c_1
    refine lv_bipush C.1 C.2.1 (v := (-3)) dX2_add_9 (by decide) ?_
    subst hQ
    exact r_iret (τ, ζ, ρ) C hW hr hk dX2_add_11 (by first | exact Or.inl ⟨rfl, rfl, (by omega)⟩ | exact Or.inr (⟨rfl, rfl, (by omega)⟩))
set_option maxHeartbeats 4000000 in
set_option maxRecDepth 100000 in
theorem c_X3_add (l : Launch) (G : GG) (q : Nat → Nat) (nd sz : Nat) (τ ζ : ST) (ρ : RF) (w : Int32) (a : Int32) (b : Int32) (h_nd : nd ≤ 6) (h_o : 0 ≤ (τ.1 9).toInt ∧ (τ.1 9).toInt ≤ 60) : Met l yX3_add (WSb yX3_add cX3_add 4 (some .int)) (rmA 0 0) (va_Pc [.ref (q 19), .int w, .int a, .int b] (PW G (28 + 3 * nd) q sz (eX G q τ ζ ρ))) (va_Qi (fun (r : Int32) (u : (ST × ST × RF)) => (r = -3 ∧ u = (τ, ζ, ρ) ∧ ((τ.1 9).toInt = 60)) ∨ (r = τ.1 9 + 1 - 1 ∧ u = ((sg (sa (sa (sa τ 18 (τ.1 9).toInt.toNat w) 19 (τ.1 9).toInt.toNat a) 20 (τ.1 9).toInt.toNat b) 9 (τ.1 9 + 1)), ζ, ρ) ∧ (¬ (τ.1 9).toInt = 60))) (fun u => BW G (28 + 3 * nd) q (eX G q u.1 u.2.1 u.2.2)) (FA (28 + 3 * nd) q sz)) 0 0 (FA (28 + 3 * nd) q sz) := by
  refine Met_B (own := RX3) rfl (by decide) (Nat.le_of_ble_eq_true rfl) (fun p e s m args below meth c ls hsz C hW hr hk hl QQ hQ => ?_)
  subst hsz
  have hl : lv_has ls 4 [(0, .ref (q 19)), (1, .int w), (2, .int a), (3, .int b)] := hl
  refine lv_aload_n C.1 C.2.1 dX3_add_0 rfl (lv_at hl 0 rfl) ?_
  refine xG_Program_size C hW bF_X3_37 (v := (τ.1 9)) rfl dX3_add_1 ?_
  refine lv_bipush C.1 C.2.1 (v := 60) dX3_add_4 (by decide) ?_
  refine lv_icmp_lt C.1 C.2.1 (tgt := 12) dX3_add_6 (by decide) (fun c_1 => ?_) (fun c_1 => ?_)
  · skip
    have k_1 := (tc_lt (rfl : ((τ.1 9)).toInt = ((τ.1 9)).toInt) (show (60 : Int32).toInt = 60 from by decide)).mp c_1
    refine lv_aload_n C.1 C.2.1 dX3_add_12 rfl (lv_at hl 0 rfl) ?_
    refine xG_Program_kinds C hW bF_X3_11 dX3_add_13 ?_
    refine lv_aload_n C.1 C.2.1 dX3_add_16 rfl (lv_at hl 0 rfl) ?_
    refine xG_Program_size C hW bF_X3_37 (v := (τ.1 9)) rfl dX3_add_17 ?_
    refine lv_iload_n C.1 C.2.1 dX3_add_20 rfl (lv_at hl 1 rfl) ?_
    refine xS_20 C hW ((((τ.1 9)).toInt).toNat) ((rfl : ((τ.1 9)).toInt = ((τ.1 9)).toInt).trans (by omega)) (by omega) dX3_add_21 (fun H locs hW => ?_)
    refine lv_aload_n C.1 C.2.1 dX3_add_22 rfl (lv_at hl 0 rfl) ?_
    refine xG_Program_as C hW bF_X3_15 dX3_add_23 ?_
    refine lv_aload_n C.1 C.2.1 dX3_add_26 rfl (lv_at hl 0 rfl) ?_
    refine xG_Program_size C hW bF_X3_37 (v := (τ.1 9)) rfl dX3_add_27 ?_
    refine lv_iload_n C.1 C.2.1 dX3_add_30 rfl (lv_at hl 2 rfl) ?_
    refine xS_21 C hW ((((τ.1 9)).toInt).toNat) ((rfl : ((τ.1 9)).toInt = ((τ.1 9)).toInt).trans (by omega)) (by omega) dX3_add_31 (fun H locs hW => ?_)
    refine lv_aload_n C.1 C.2.1 dX3_add_32 rfl (lv_at hl 0 rfl) ?_
    refine xG_Program_bs C hW bF_X3_18 dX3_add_33 ?_
    refine lv_aload_n C.1 C.2.1 dX3_add_36 rfl (lv_at hl 0 rfl) ?_
    refine xG_Program_size C hW bF_X3_37 (v := (τ.1 9)) rfl dX3_add_37 ?_
    refine lv_iload_n C.1 C.2.1 dX3_add_40 rfl (lv_at hl 3 rfl) ?_
    refine xS_22 C hW ((((τ.1 9)).toInt).toNat) ((rfl : ((τ.1 9)).toInt = ((τ.1 9)).toInt).trans (by omega)) (by omega) dX3_add_41 (fun H locs hW => ?_)
    refine lv_aload_n C.1 C.2.1 dX3_add_42 rfl (lv_at hl 0 rfl) ?_
    refine lv_dup C.1 C.2.1 dX3_add_43 rfl ?_
    refine xG_Program_size C hW bF_X3_37 (v := (τ.1 9)) rfl dX3_add_44 ?_
    refine lv_iconst C.1 C.2.1 (v := 1) dX3_add_47 (by decide) ?_
    refine lv_iadd C.1 C.2.1 dX3_add_48 ?_
    refine xP_Program_size C hW bF_X3_37 dX3_add_49 (fun H locs hW => ?_)
    refine lv_aload_n C.1 C.2.1 dX3_add_52 rfl (lv_at hl 0 rfl) ?_
    refine xG_Program_size C hW bF_X3_37 (v := ((τ.1 9) + 1)) rfl dX3_add_53 ?_
    refine lv_iconst C.1 C.2.1 (v := 1) dX3_add_56 (by decide) ?_
    refine lv_isub C.1 C.2.1 dX3_add_57 ?_
    subst hQ
    exact r_iret ((sg (sa (sa (sa τ 18 ((((τ.1 9)).toInt).toNat) w) 19 ((((τ.1 9)).toInt).toNat) a) 20 ((((τ.1 9)).toInt).toNat) b) 9 ((τ.1 9) + 1)), ζ, ρ) C hW hr hk dX3_add_58 (by first | exact Or.inl ⟨rfl, rfl, (by omega)⟩ | exact Or.inr (⟨rfl, rfl, (by omega)⟩))
  · skip
    have k_1 := (tn_lt (rfl : ((τ.1 9)).toInt = ((τ.1 9)).toInt) (show (60 : Int32).toInt = 60 from by decide)).mp c_1
    refine lv_bipush C.1 C.2.1 (v := (-3)) dX3_add_9 (by decide) ?_
    subst hQ
    exact r_iret (τ, ζ, ρ) C hW hr hk dX3_add_11 (by first | exact Or.inl ⟨rfl, rfl, (by omega)⟩ | exact Or.inr (⟨rfl, rfl, (by omega)⟩))
