/-! four, copy, digest of the landed class -/
theorem mul_bd {a b A B : Int} (h1 : -A ≤ a) (h2 : a ≤ A) (h3 : -B ≤ b) (h4 : b ≤ B) : -(A * B) ≤ a * b ∧ a * b ≤ A * B := by
  have e1 := Int.mul_nonneg (show 0 ≤ A - a by omega) (show 0 ≤ B + b by omega)
  have e2 := Int.mul_nonneg (show 0 ≤ A + a by omega) (show 0 ≤ B - b by omega)
  have e3 := Int.mul_nonneg (show 0 ≤ A - a by omega) (show 0 ≤ B - b by omega)
  have e4 := Int.mul_nonneg (show 0 ≤ A + a by omega) (show 0 ≤ B + b by omega)
  simp only [Int.sub_mul, Int.add_mul, Int.mul_add, Int.mul_sub] at e1 e2 e3 e4
  omega
theorem prd_b {τ : ST} {i j : Nat} (hg : ∀ z : Nat, z < 6 → -9 ≤ (τ.2.1 3 z).toInt ∧ (τ.2.1 3 z).toInt ≤ 9) (hi : i < 6) (hj : j < 6) : -2025000000 ≤ (prd τ i j).toInt ∧ (prd τ i j).toInt ≤ 2025000000 := by
  have hm := mulS_b τ i (dl τ i) j (dl τ j) 100 (Nat.le_refl _)
  have gi := hg i hi
  have gj := hg j hj
  have b1 := mul_bd (A := 25000000) (B := 9) (a := (mulS τ i (dl τ i) j (dl τ j) 100).toInt) (b := (τ.2.1 3 i).toInt) (by omega) (by omega) (by omega) (by omega)
  have e1 : (mulS τ i (dl τ i) j (dl τ j) 100 * (τ.2.1 3 i).toInt64).toInt = (mulS τ i (dl τ i) j (dl τ j) 100).toInt * (τ.2.1 3 i).toInt := tl_mul rfl (ti_i2l rfl) (by omega) (by omega)
  have b2 := mul_bd (A := 225000000) (B := 9) (a := (mulS τ i (dl τ i) j (dl τ j) 100).toInt * (τ.2.1 3 i).toInt) (b := (τ.2.1 3 j).toInt) (by omega) (by omega) (by omega) (by omega)
  have e2 : (prd τ i j).toInt = (mulS τ i (dl τ i) j (dl τ j) 100).toInt * (τ.2.1 3 i).toInt * (τ.2.1 3 j).toInt := tl_mul e1 (ti_i2l rfl) (by omega) (by omega)
  rw [e2]; omega
theorem four_b {τ : ST} {i j o n : Nat} (hg : ∀ z : Nat, z < 6 → -9 ≤ (τ.2.1 3 z).toInt ∧ (τ.2.1 3 z).toInt ≤ 9) (hi : i < 6) (hj : j < 6) (ho : o < 6) (hn : n < 6) : -4600000000000000000 ≤ (prd τ i j * prd τ o n).toInt ∧ (prd τ i j * prd τ o n).toInt ≤ 4600000000000000000 := by
  have p1 := prd_b hg hi hj
  have p2 := prd_b hg ho hn
  have b := mul_bd p1.1 p1.2 p2.1 p2.2
  rw [tl_mul (x := prd τ i j) (y := prd τ o n) rfl rfl (by omega) (by omega)]
  omega
theorem sgn_d {x y : Int64} (hx : -4600000000000000000 ≤ x.toInt ∧ x.toInt ≤ 4600000000000000000) (hy : -4600000000000000000 ≤ y.toInt ∧ y.toInt ≤ 4600000000000000000) : sgn (x - y) = (if y.toInt < x.toInt then 1 else if x.toInt < y.toInt then -1 else 0) := by
  unfold sgn
  rw [tl_sub (x := x) (y := y) rfl rfl (by omega) (by omega)]
  by_cases h1 : y.toInt < x.toInt
  · rw [if_pos h1, if_pos (by omega)]
  · rw [if_neg h1, if_neg (by omega)]
    by_cases h2 : x.toInt < y.toInt
    · rw [if_pos h2, if_pos (by omega)]
    · rw [if_neg h2, if_neg (by omega)]
theorem r_cpy {G : GG} {p : Program} {l : Launch} {e : Env} {R : Room} {s : State} {m : MethodId} {args : Array Value} {below : List Frame} {meth : Method} {c : Code} {H : Heap} {locs : List Loc} {cells slots : Nat} {Q : State → Prop} {cc : ByteArray} {pc : Nat} {ls : Array Slot} {rest : List Value} {nL n idx : Nat} {own : String} {q : Nat → Nat} {E : Nat → va_E} (C : CX G p s m args c cc nL own n q) (hl : ls.size = nL) (hW : WB G n q E s H locs) {o o2 z0 z1 a b t : Nat} {f g : Nat → Int32} (ho : o < n) (he : E o = .inl (G.2.1.1, z0, .inl f)) (ho2 : o2 < n) (he2 : E o2 = .inl (G.2.1.1, z1, .inl g)) {x y k : Int32} (hx : x.toInt = (a : Int)) (hy : y.toInt = (b : Int)) (hk : k.toInt = (t : Int)) (ha : a + t ≤ z0) (hb : b + t ≤ z1) (hm : Cond.methodLink own idx arraycopyName ∈ BIG) (hf : 1 ≤ R.frames) (hlo : (rest.map fun v => v.category).sum + 18 ≤ R.locals) (hdg : decode cc pc = .ok (.invokestatic idx, 3)) {E' : Nat → va_E} (hE' : ∀ j, j < n → va_up E o2 (.inl (G.2.1.1, z1, .inl (va_cpy f g a b t))) j = E' j)
    (kk : ∀ (H1 : Heap) (locs1 : List Loc), WB G n q E' s H1 locs1 → W p l e R s m args below meth c H1 locs1 cells slots Q (F0 m (pc + 3) ls rest)) : W p l e R s m args below meth c H locs cells slots Q (F0 m pc ls (.int k :: .int y :: .ref (q o2) :: .int x :: .ref (q o) :: rest)) := by
  have ex : x.toNatClampNeg = a := by show x.toInt.toNat = a; rw [hx]; rfl
  have ey : y.toNatClampNeg = b := by show y.toInt.toNat = b; rw [hy]; rfl
  have ek : k.toNatClampNeg = t := by show k.toInt.toNat = t; rw [hk]; rfl
  have z32 : (0 : Int32).toInt = 0 := by decide
  refine va_copyi C.1 C.2.1 (C.2.2.1.trans hl.symm) C.2.2.2.1 (C.2.2.2.2.1 _ hm) (C.2.2.2.2.1 _ bNat_acopy) (C.2.2.2.2.1 _ bS_acopy) (C.2.2.2.2.1 _ bN_J10) C.2.2.2.2.2.1.1 hW.1 (wl_D C.2.2.2.2.2.2.1 _) hW.2 o o2 0 0 (f := f) (g := g) (n0 := z0) (n1 := z1) (ty := .int) (by rw [wl_at ho, he]) (by rw [wl_at ho2, he2]) rfl rfl rfl ((tn_lt hx z32).mpr (by omega)) ((tn_lt hy z32).mpr (by omega)) ((tn_lt hk z32).mpr (by omega)) (by rw [ex, ek]; exact ha) (by rw [ey, ek]; exact hb) (fun _ _ => rfl) hf (by rw [show nativeFrameWords "java/lang/System" "arraycopy" 5 = 7 from by decide +kernel]; exact hlo) hdg (fun H1 locs1 hP _ hS => kk H1 locs1 (WB.to ⟨?_, hS⟩ hE'))
  rw [← wl_set ho2]
  rw [ex, ey, ek] at hP
  exact hP
theorem dIt_cpy (τ : ST) (d e : Nat) {a b t : Nat} (ha : a + t ≤ 100) (hb : b + t ≤ 100) : dIt (saF τ 7 (va_cpy (τ.2.1 7) (τ.2.1 7) (100 * d + a) (100 * e + b) t)) e = va_cpy (dIt τ d) (dIt τ e) a b t := by
  funext k
  show (if k < 100 then (if 100 * e + b ≤ 100 * e + k ∧ 100 * e + k < 100 * e + b + t then τ.2.1 7 (100 * d + a + (100 * e + k - (100 * e + b))) else τ.2.1 7 (100 * e + k)) else 0) = (if b ≤ k ∧ k < b + t then (if a + (k - b) < 100 then τ.2.1 7 (100 * d + (a + (k - b))) else 0) else (if k < 100 then τ.2.1 7 (100 * e + k) else 0))
  by_cases c : b ≤ k ∧ k < b + t
  · rw [if_pos c, if_pos (by omega), if_pos (by omega), if_pos (by omega), show 100 * d + a + (100 * e + k - (100 * e + b)) = 100 * d + (a + (k - b)) from by omega]
  · rw [if_neg c]
    by_cases h : k < 100
    · rw [if_pos h, if_pos h, if_neg (by omega)]
    · rw [if_neg h, if_neg h]
theorem dIt_cpo (τ : ST) (d e z : Nat) {a b t : Nat} (hb : b + t ≤ 100) (hz : z ≠ e) : dIt τ z = dIt (saF τ 7 (va_cpy (τ.2.1 7) (τ.2.1 7) (100 * d + a) (100 * e + b) t)) z := by
  funext k
  show (if k < 100 then τ.2.1 7 (100 * z + k) else 0) = (if k < 100 then (if 100 * e + b ≤ 100 * z + k ∧ 100 * z + k < 100 * e + b + t then τ.2.1 7 (100 * d + a + (100 * z + k - (100 * e + b))) else τ.2.1 7 (100 * z + k)) else 0)
  by_cases h : k < 100
  · rw [if_pos h, if_pos h, if_neg (by omega)]
  · rw [if_neg h, if_neg h]
set_option maxHeartbeats 4000000 in
set_option maxRecDepth 100000 in
theorem c_X7_four (l : Launch) (G : GG) (q : Nat → Nat) (nd sz : Nat) (τ ζ : ST) (ρ : RF) (i : Int32) (j : Int32) (o : Int32) (n : Int32) (h_nd : nd ≤ 6) (h_z : XZ q nd τ ζ ρ) (h_f : 0 ≤ (τ.1 2).toInt ∧ (τ.1 2).toInt ≤ 40) (h_s : ∀ d : Nat, d < 6 → 0 ≤ (τ.2.1 6 d).toInt ∧ (τ.2.1 6 d).toInt ≤ 100) (h_l : ∀ d : Nat, d < 6 → 0 ≤ (τ.2.1 2 d).toInt ∧ (τ.2.1 2 d).toInt ≤ 30) (h_g : ∀ z : Nat, z < 6 → -9 ≤ (τ.2.1 3 z).toInt ∧ (τ.2.1 3 z).toInt ≤ 9) : Met l yX7_four (WSb yX7_four cX7_four 13 (some .int)) (rmA 4 90) (va_Pc [.ref (q 0), .int i, .int j, .int o, .int n] (PW G (28 + 3 * nd) q sz (eX G q τ ζ ρ))) (va_Qi (fun (r : Int32) (u : (ST × ST × RF)) => sp_four τ i j o n = (r, u.1) ∧ XZ q nd u.1 u.2.1 u.2.2) (fun u => BW G (28 + 3 * nd) q (eX G q u.1 u.2.1 u.2.2)) (FA (28 + 3 * nd) q sz)) 0 0 (FA (28 + 3 * nd) q sz) := by
  refine Met_B (own := RX7) rfl (by decide) (Nat.le_of_ble_eq_true rfl) (fun p e s m args below meth c ls hsz C hW hr hk hl QQ hQ => ?_)
  subst hsz
  have hl : lv_has ls 13 [(0, .ref (q 0)), (1, .int i), (2, .int j), (3, .int o), (4, .int n)] := hl
  have h_n : (τ.1 0).toInt = (nd : Int) := h_z.1
  have h_r := h_z.2.1
  have h_dk := XZ_dOk h_z h_nd h_f h_s h_l
  refine lv_aload_n C.1 C.2.1 dX7_four_0 rfl (lv_at hl 0 rfl) ?_
  refine xG_DishHouse_row C hW bF_X7_12 dX7_four_1 ?_
  refine lv_iload_n C.1 C.2.1 dX7_four_4 rfl (lv_at hl 1 rfl) ?_
  refine go_q hW (run_V (o := 1) (As := [.int i]) (rest := []) C hW (by omega) rfl rfl (c_X4_find l G q nd _ τ ζ ρ i  h_nd h_n h_r) (cw_V 1 C bL_X7_59 bI_X4_find bV_X4_find bN_X4 bC_X4_find ⟨rfl, rfl⟩ (by decide +kernel) ⟨Nat.le_of_ble_eq_true rfl, Nat.le_of_ble_eq_true rfl⟩) rfl hl.1 rfl (Nat.le_of_ble_eq_true rfl) dX7_four_5 ⟨Nat.le_refl _, Nat.le_refl _⟩) (fun r_1 u_1 H locs hp_1 hW => ?_)
  rcases hp_1 with ⟨rfl, rfl, k_1⟩ | ⟨rfl, rfl, k_1_0, k_1_1⟩
  · skip
    have hW : WB G (28 + 3 * nd) q (eX G q τ ζ ρ) s H locs := hW
    refine lv_astoreN (lv' := [(5, .null), (0, .ref (q 0)), (1, .int i), (2, .int j), (3, .int o), (4, .int n)]) C.1 C.2.1 dX7_four_8 hl (by decide) rfl (fun ls hl => ?_)
    refine lv_aload_n C.1 C.2.1 dX7_four_10 rfl (lv_at hl 1 rfl) ?_
    refine xG_DishHouse_row C hW bF_X7_12 dX7_four_11 ?_
    refine lv_iload_n C.1 C.2.1 dX7_four_14 rfl (lv_at hl 3 rfl) ?_
    refine go_q hW (run_V (o := 1) (As := [.int j]) (rest := []) C hW (by omega) rfl rfl (c_X4_find l G q nd _ τ ζ ρ j  h_nd h_n h_r) (cw_V 1 C bL_X7_59 bI_X4_find bV_X4_find bN_X4 bC_X4_find ⟨rfl, rfl⟩ (by decide +kernel) ⟨Nat.le_of_ble_eq_true rfl, Nat.le_of_ble_eq_true rfl⟩) rfl hl.1 rfl (Nat.le_of_ble_eq_true rfl) dX7_four_15 ⟨Nat.le_refl _, Nat.le_refl _⟩) (fun r_2 u_2 H locs hp_2 hW => ?_)
    rcases hp_2 with ⟨rfl, rfl, k_2⟩ | ⟨rfl, rfl, k_2_0, k_2_1⟩
    · skip
      have hW : WB G (28 + 3 * nd) q (eX G q τ ζ ρ) s H locs := hW
      refine lv_astoreN (lv' := [(6, .null), (5, .null), (0, .ref (q 0)), (1, .int i), (2, .int j), (3, .int o), (4, .int n)]) C.1 C.2.1 dX7_four_18 hl (by decide) rfl (fun ls hl => ?_)
      refine lv_aload_n C.1 C.2.1 dX7_four_20 rfl (lv_at hl 2 rfl) ?_
      refine xG_DishHouse_row C hW bF_X7_12 dX7_four_21 ?_
      refine lv_iload_n C.1 C.2.1 dX7_four_24 rfl (lv_at hl 5 rfl) ?_
      refine go_q hW (run_V (o := 1) (As := [.int o]) (rest := []) C hW (by omega) rfl rfl (c_X4_find l G q nd _ τ ζ ρ o  h_nd h_n h_r) (cw_V 1 C bL_X7_59 bI_X4_find bV_X4_find bN_X4 bC_X4_find ⟨rfl, rfl⟩ (by decide +kernel) ⟨Nat.le_of_ble_eq_true rfl, Nat.le_of_ble_eq_true rfl⟩) rfl hl.1 rfl (Nat.le_of_ble_eq_true rfl) dX7_four_25 ⟨Nat.le_refl _, Nat.le_refl _⟩) (fun r_3 u_3 H locs hp_3 hW => ?_)
      rcases hp_3 with ⟨rfl, rfl, k_3⟩ | ⟨rfl, rfl, k_3_0, k_3_1⟩
      · skip
        have hW : WB G (28 + 3 * nd) q (eX G q τ ζ ρ) s H locs := hW
        refine lv_astoreN (lv' := [(7, .null), (6, .null), (5, .null), (0, .ref (q 0)), (1, .int i), (2, .int j), (3, .int o), (4, .int n)]) C.1 C.2.1 dX7_four_28 hl (by decide) rfl (fun ls hl => ?_)
        refine lv_aload_n C.1 C.2.1 dX7_four_30 rfl (lv_at hl 3 rfl) ?_
        refine xG_DishHouse_row C hW bF_X7_12 dX7_four_31 ?_
        refine lv_iload C.1 C.2.1 dX7_four_34 (lv_at hl 7 rfl) ?_
        refine go_q hW (run_V (o := 1) (As := [.int n]) (rest := []) C hW (by omega) rfl rfl (c_X4_find l G q nd _ τ ζ ρ n  h_nd h_n h_r) (cw_V 1 C bL_X7_59 bI_X4_find bV_X4_find bN_X4 bC_X4_find ⟨rfl, rfl⟩ (by decide +kernel) ⟨Nat.le_of_ble_eq_true rfl, Nat.le_of_ble_eq_true rfl⟩) rfl hl.1 rfl (Nat.le_of_ble_eq_true rfl) dX7_four_36 ⟨Nat.le_refl _, Nat.le_refl _⟩) (fun r_4 u_4 H locs hp_4 hW => ?_)
        rcases hp_4 with ⟨rfl, rfl, k_4⟩ | ⟨rfl, rfl, k_4_0, k_4_1⟩
        · skip
          have hW : WB G (28 + 3 * nd) q (eX G q τ ζ ρ) s H locs := hW
          refine lv_astoreN (lv' := [(8, .null), (7, .null), (6, .null), (5, .null), (0, .ref (q 0)), (1, .int i), (2, .int j), (3, .int o), (4, .int n)]) C.1 C.2.1 dX7_four_39 hl (by decide) rfl (fun ls hl => ?_)
          refine lv_aloadN C.1 C.2.1 dX7_four_41 (lv_at hl 3 rfl) ?_
          refine lv_ifnullN C.1 C.2.1 (tgt := 61) dX7_four_43 (by decide) ?_
          refine lv_bipush C.1 C.2.1 (v := (-2)) dX7_four_61 (by decide) ?_
          subst hQ
          exact r_iret (τ, ζ, ρ) C hW hr hk dX7_four_63 ⟨(show sp_four τ i j o n = ((-2), τ) from by unfold sp_four; (repeat (first | rw [if_pos (by omega)] | rw [if_neg (by omega)])); first | done | rfl), (XZ_eq h_z rfl rfl rfl rfl rfl rfl rfl rfl rfl rfl rfl rfl rfl rfl rfl rfl rfl rfl rfl)⟩
        · skip
          have hW : WB G (28 + 3 * nd) q (eX G q τ ζ ρ) s H locs := hW
          refine lv_astore (lv' := [(8, .ref (q (28 + 3 * ((n).toInt).toNat))), (7, .null), (6, .null), (5, .null), (0, .ref (q 0)), (1, .int i), (2, .int j), (3, .int o), (4, .int n)]) C.1 C.2.1 dX7_four_39 hl (by decide) rfl (fun ls hl => ?_)
          refine lv_aloadN C.1 C.2.1 dX7_four_41 (lv_at hl 3 rfl) ?_
          refine lv_ifnullN C.1 C.2.1 (tgt := 61) dX7_four_43 (by decide) ?_
          refine lv_bipush C.1 C.2.1 (v := (-2)) dX7_four_61 (by decide) ?_
          subst hQ
          exact r_iret (τ, ζ, ρ) C hW hr hk dX7_four_63 ⟨(show sp_four τ i j o n = ((-2), τ) from by unfold sp_four; (repeat (first | rw [if_pos (by omega)] | rw [if_neg (by omega)])); first | done | rfl), (XZ_eq h_z rfl rfl rfl rfl rfl rfl rfl rfl rfl rfl rfl rfl rfl rfl rfl rfl rfl rfl rfl)⟩
      · skip
        have hW : WB G (28 + 3 * nd) q (eX G q τ ζ ρ) s H locs := hW
        refine lv_astore (lv' := [(7, .ref (q (28 + 3 * ((o).toInt).toNat))), (6, .null), (5, .null), (0, .ref (q 0)), (1, .int i), (2, .int j), (3, .int o), (4, .int n)]) C.1 C.2.1 dX7_four_28 hl (by decide) rfl (fun ls hl => ?_)
        refine lv_aload_n C.1 C.2.1 dX7_four_30 rfl (lv_at hl 3 rfl) ?_
        refine xG_DishHouse_row C hW bF_X7_12 dX7_four_31 ?_
        refine lv_iload C.1 C.2.1 dX7_four_34 (lv_at hl 7 rfl) ?_
        refine go_q hW (run_V (o := 1) (As := [.int n]) (rest := []) C hW (by omega) rfl rfl (c_X4_find l G q nd _ τ ζ ρ n  h_nd h_n h_r) (cw_V 1 C bL_X7_59 bI_X4_find bV_X4_find bN_X4 bC_X4_find ⟨rfl, rfl⟩ (by decide +kernel) ⟨Nat.le_of_ble_eq_true rfl, Nat.le_of_ble_eq_true rfl⟩) rfl hl.1 rfl (Nat.le_of_ble_eq_true rfl) dX7_four_36 ⟨Nat.le_refl _, Nat.le_refl _⟩) (fun r_5 u_5 H locs hp_5 hW => ?_)
        rcases hp_5 with ⟨rfl, rfl, k_5⟩ | ⟨rfl, rfl, k_5_0, k_5_1⟩
        · skip
          have hW : WB G (28 + 3 * nd) q (eX G q τ ζ ρ) s H locs := hW
          refine lv_astoreN (lv' := [(8, .null), (7, .ref (q (28 + 3 * ((o).toInt).toNat))), (6, .null), (5, .null), (0, .ref (q 0)), (1, .int i), (2, .int j), (3, .int o), (4, .int n)]) C.1 C.2.1 dX7_four_39 hl (by decide) rfl (fun ls hl => ?_)
          refine lv_aloadN C.1 C.2.1 dX7_four_41 (lv_at hl 3 rfl) ?_
          refine lv_ifnullN C.1 C.2.1 (tgt := 61) dX7_four_43 (by decide) ?_
          refine lv_bipush C.1 C.2.1 (v := (-2)) dX7_four_61 (by decide) ?_
          subst hQ
          exact r_iret (τ, ζ, ρ) C hW hr hk dX7_four_63 ⟨(show sp_four τ i j o n = ((-2), τ) from by unfold sp_four; (repeat (first | rw [if_pos (by omega)] | rw [if_neg (by omega)])); first | done | rfl), (XZ_eq h_z rfl rfl rfl rfl rfl rfl rfl rfl rfl rfl rfl rfl rfl rfl rfl rfl rfl rfl rfl)⟩
        · skip
          have hW : WB G (28 + 3 * nd) q (eX G q τ ζ ρ) s H locs := hW
          refine lv_astore (lv' := [(8, .ref (q (28 + 3 * ((n).toInt).toNat))), (7, .ref (q (28 + 3 * ((o).toInt).toNat))), (6, .null), (5, .null), (0, .ref (q 0)), (1, .int i), (2, .int j), (3, .int o), (4, .int n)]) C.1 C.2.1 dX7_four_39 hl (by decide) rfl (fun ls hl => ?_)
          refine lv_aloadN C.1 C.2.1 dX7_four_41 (lv_at hl 3 rfl) ?_
          refine lv_ifnullN C.1 C.2.1 (tgt := 61) dX7_four_43 (by decide) ?_
          refine lv_bipush C.1 C.2.1 (v := (-2)) dX7_four_61 (by decide) ?_
          subst hQ
          exact r_iret (τ, ζ, ρ) C hW hr hk dX7_four_63 ⟨(show sp_four τ i j o n = ((-2), τ) from by unfold sp_four; (repeat (first | rw [if_pos (by omega)] | rw [if_neg (by omega)])); first | done | rfl), (XZ_eq h_z rfl rfl rfl rfl rfl rfl rfl rfl rfl rfl rfl rfl rfl rfl rfl rfl rfl rfl rfl)⟩
    · skip
      have hW : WB G (28 + 3 * nd) q (eX G q τ ζ ρ) s H locs := hW
      refine lv_astore (lv' := [(6, .ref (q (28 + 3 * ((j).toInt).toNat))), (5, .null), (0, .ref (q 0)), (1, .int i), (2, .int j), (3, .int o), (4, .int n)]) C.1 C.2.1 dX7_four_18 hl (by decide) rfl (fun ls hl => ?_)
      refine lv_aload_n C.1 C.2.1 dX7_four_20 rfl (lv_at hl 2 rfl) ?_
      refine xG_DishHouse_row C hW bF_X7_12 dX7_four_21 ?_
      refine lv_iload_n C.1 C.2.1 dX7_four_24 rfl (lv_at hl 5 rfl) ?_
      refine go_q hW (run_V (o := 1) (As := [.int o]) (rest := []) C hW (by omega) rfl rfl (c_X4_find l G q nd _ τ ζ ρ o  h_nd h_n h_r) (cw_V 1 C bL_X7_59 bI_X4_find bV_X4_find bN_X4 bC_X4_find ⟨rfl, rfl⟩ (by decide +kernel) ⟨Nat.le_of_ble_eq_true rfl, Nat.le_of_ble_eq_true rfl⟩) rfl hl.1 rfl (Nat.le_of_ble_eq_true rfl) dX7_four_25 ⟨Nat.le_refl _, Nat.le_refl _⟩) (fun r_6 u_6 H locs hp_6 hW => ?_)
      rcases hp_6 with ⟨rfl, rfl, k_6⟩ | ⟨rfl, rfl, k_6_0, k_6_1⟩
      · skip
        have hW : WB G (28 + 3 * nd) q (eX G q τ ζ ρ) s H locs := hW
        refine lv_astoreN (lv' := [(7, .null), (6, .ref (q (28 + 3 * ((j).toInt).toNat))), (5, .null), (0, .ref (q 0)), (1, .int i), (2, .int j), (3, .int o), (4, .int n)]) C.1 C.2.1 dX7_four_28 hl (by decide) rfl (fun ls hl => ?_)
        refine lv_aload_n C.1 C.2.1 dX7_four_30 rfl (lv_at hl 3 rfl) ?_
        refine xG_DishHouse_row C hW bF_X7_12 dX7_four_31 ?_
        refine lv_iload C.1 C.2.1 dX7_four_34 (lv_at hl 7 rfl) ?_
        refine go_q hW (run_V (o := 1) (As := [.int n]) (rest := []) C hW (by omega) rfl rfl (c_X4_find l G q nd _ τ ζ ρ n  h_nd h_n h_r) (cw_V 1 C bL_X7_59 bI_X4_find bV_X4_find bN_X4 bC_X4_find ⟨rfl, rfl⟩ (by decide +kernel) ⟨Nat.le_of_ble_eq_true rfl, Nat.le_of_ble_eq_true rfl⟩) rfl hl.1 rfl (Nat.le_of_ble_eq_true rfl) dX7_four_36 ⟨Nat.le_refl _, Nat.le_refl _⟩) (fun r_7 u_7 H locs hp_7 hW => ?_)
        rcases hp_7 with ⟨rfl, rfl, k_7⟩ | ⟨rfl, rfl, k_7_0, k_7_1⟩
        · skip
          have hW : WB G (28 + 3 * nd) q (eX G q τ ζ ρ) s H locs := hW
          refine lv_astoreN (lv' := [(8, .null), (7, .null), (6, .ref (q (28 + 3 * ((j).toInt).toNat))), (5, .null), (0, .ref (q 0)), (1, .int i), (2, .int j), (3, .int o), (4, .int n)]) C.1 C.2.1 dX7_four_39 hl (by decide) rfl (fun ls hl => ?_)
          refine lv_aloadN C.1 C.2.1 dX7_four_41 (lv_at hl 3 rfl) ?_
          refine lv_ifnullN C.1 C.2.1 (tgt := 61) dX7_four_43 (by decide) ?_
          refine lv_bipush C.1 C.2.1 (v := (-2)) dX7_four_61 (by decide) ?_
          subst hQ
          exact r_iret (τ, ζ, ρ) C hW hr hk dX7_four_63 ⟨(show sp_four τ i j o n = ((-2), τ) from by unfold sp_four; (repeat (first | rw [if_pos (by omega)] | rw [if_neg (by omega)])); first | done | rfl), (XZ_eq h_z rfl rfl rfl rfl rfl rfl rfl rfl rfl rfl rfl rfl rfl rfl rfl rfl rfl rfl rfl)⟩
        · skip
          have hW : WB G (28 + 3 * nd) q (eX G q τ ζ ρ) s H locs := hW
          refine lv_astore (lv' := [(8, .ref (q (28 + 3 * ((n).toInt).toNat))), (7, .null), (6, .ref (q (28 + 3 * ((j).toInt).toNat))), (5, .null), (0, .ref (q 0)), (1, .int i), (2, .int j), (3, .int o), (4, .int n)]) C.1 C.2.1 dX7_four_39 hl (by decide) rfl (fun ls hl => ?_)
          refine lv_aloadN C.1 C.2.1 dX7_four_41 (lv_at hl 3 rfl) ?_
          refine lv_ifnullN C.1 C.2.1 (tgt := 61) dX7_four_43 (by decide) ?_
          refine lv_bipush C.1 C.2.1 (v := (-2)) dX7_four_61 (by decide) ?_
          subst hQ
          exact r_iret (τ, ζ, ρ) C hW hr hk dX7_four_63 ⟨(show sp_four τ i j o n = ((-2), τ) from by unfold sp_four; (repeat (first | rw [if_pos (by omega)] | rw [if_neg (by omega)])); first | done | rfl), (XZ_eq h_z rfl rfl rfl rfl rfl rfl rfl rfl rfl rfl rfl rfl rfl rfl rfl rfl rfl rfl rfl)⟩
      · skip
        have hW : WB G (28 + 3 * nd) q (eX G q τ ζ ρ) s H locs := hW
        refine lv_astore (lv' := [(7, .ref (q (28 + 3 * ((o).toInt).toNat))), (6, .ref (q (28 + 3 * ((j).toInt).toNat))), (5, .null), (0, .ref (q 0)), (1, .int i), (2, .int j), (3, .int o), (4, .int n)]) C.1 C.2.1 dX7_four_28 hl (by decide) rfl (fun ls hl => ?_)
        refine lv_aload_n C.1 C.2.1 dX7_four_30 rfl (lv_at hl 3 rfl) ?_
        refine xG_DishHouse_row C hW bF_X7_12 dX7_four_31 ?_
        refine lv_iload C.1 C.2.1 dX7_four_34 (lv_at hl 7 rfl) ?_
        refine go_q hW (run_V (o := 1) (As := [.int n]) (rest := []) C hW (by omega) rfl rfl (c_X4_find l G q nd _ τ ζ ρ n  h_nd h_n h_r) (cw_V 1 C bL_X7_59 bI_X4_find bV_X4_find bN_X4 bC_X4_find ⟨rfl, rfl⟩ (by decide +kernel) ⟨Nat.le_of_ble_eq_true rfl, Nat.le_of_ble_eq_true rfl⟩) rfl hl.1 rfl (Nat.le_of_ble_eq_true rfl) dX7_four_36 ⟨Nat.le_refl _, Nat.le_refl _⟩) (fun r_8 u_8 H locs hp_8 hW => ?_)
        rcases hp_8 with ⟨rfl, rfl, k_8⟩ | ⟨rfl, rfl, k_8_0, k_8_1⟩
        · skip
          have hW : WB G (28 + 3 * nd) q (eX G q τ ζ ρ) s H locs := hW
          refine lv_astoreN (lv' := [(8, .null), (7, .ref (q (28 + 3 * ((o).toInt).toNat))), (6, .ref (q (28 + 3 * ((j).toInt).toNat))), (5, .null), (0, .ref (q 0)), (1, .int i), (2, .int j), (3, .int o), (4, .int n)]) C.1 C.2.1 dX7_four_39 hl (by decide) rfl (fun ls hl => ?_)
          refine lv_aloadN C.1 C.2.1 dX7_four_41 (lv_at hl 3 rfl) ?_
          refine lv_ifnullN C.1 C.2.1 (tgt := 61) dX7_four_43 (by decide) ?_
          refine lv_bipush C.1 C.2.1 (v := (-2)) dX7_four_61 (by decide) ?_
          subst hQ
          exact r_iret (τ, ζ, ρ) C hW hr hk dX7_four_63 ⟨(show sp_four τ i j o n = ((-2), τ) from by unfold sp_four; (repeat (first | rw [if_pos (by omega)] | rw [if_neg (by omega)])); first | done | rfl), (XZ_eq h_z rfl rfl rfl rfl rfl rfl rfl rfl rfl rfl rfl rfl rfl rfl rfl rfl rfl rfl rfl)⟩
        · skip
          have hW : WB G (28 + 3 * nd) q (eX G q τ ζ ρ) s H locs := hW
          refine lv_astore (lv' := [(8, .ref (q (28 + 3 * ((n).toInt).toNat))), (7, .ref (q (28 + 3 * ((o).toInt).toNat))), (6, .ref (q (28 + 3 * ((j).toInt).toNat))), (5, .null), (0, .ref (q 0)), (1, .int i), (2, .int j), (3, .int o), (4, .int n)]) C.1 C.2.1 dX7_four_39 hl (by decide) rfl (fun ls hl => ?_)
          refine lv_aloadN C.1 C.2.1 dX7_four_41 (lv_at hl 3 rfl) ?_
          refine lv_ifnullN C.1 C.2.1 (tgt := 61) dX7_four_43 (by decide) ?_
          refine lv_bipush C.1 C.2.1 (v := (-2)) dX7_four_61 (by decide) ?_
          subst hQ
          exact r_iret (τ, ζ, ρ) C hW hr hk dX7_four_63 ⟨(show sp_four τ i j o n = ((-2), τ) from by unfold sp_four; (repeat (first | rw [if_pos (by omega)] | rw [if_neg (by omega)])); first | done | rfl), (XZ_eq h_z rfl rfl rfl rfl rfl rfl rfl rfl rfl rfl rfl rfl rfl rfl rfl rfl rfl rfl rfl)⟩
  · skip
    have hW : WB G (28 + 3 * nd) q (eX G q τ ζ ρ) s H locs := hW
    refine lv_astore (lv' := [(5, .ref (q (28 + 3 * ((i).toInt).toNat))), (0, .ref (q 0)), (1, .int i), (2, .int j), (3, .int o), (4, .int n)]) C.1 C.2.1 dX7_four_8 hl (by decide) rfl (fun ls hl => ?_)
    refine lv_aload_n C.1 C.2.1 dX7_four_10 rfl (lv_at hl 1 rfl) ?_
    refine xG_DishHouse_row C hW bF_X7_12 dX7_four_11 ?_
    refine lv_iload_n C.1 C.2.1 dX7_four_14 rfl (lv_at hl 3 rfl) ?_
    refine go_q hW (run_V (o := 1) (As := [.int j]) (rest := []) C hW (by omega) rfl rfl (c_X4_find l G q nd _ τ ζ ρ j  h_nd h_n h_r) (cw_V 1 C bL_X7_59 bI_X4_find bV_X4_find bN_X4 bC_X4_find ⟨rfl, rfl⟩ (by decide +kernel) ⟨Nat.le_of_ble_eq_true rfl, Nat.le_of_ble_eq_true rfl⟩) rfl hl.1 rfl (Nat.le_of_ble_eq_true rfl) dX7_four_15 ⟨Nat.le_refl _, Nat.le_refl _⟩) (fun r_9 u_9 H locs hp_9 hW => ?_)
    rcases hp_9 with ⟨rfl, rfl, k_9⟩ | ⟨rfl, rfl, k_9_0, k_9_1⟩
    · skip
      have hW : WB G (28 + 3 * nd) q (eX G q τ ζ ρ) s H locs := hW
      refine lv_astoreN (lv' := [(6, .null), (5, .ref (q (28 + 3 * ((i).toInt).toNat))), (0, .ref (q 0)), (1, .int i), (2, .int j), (3, .int o), (4, .int n)]) C.1 C.2.1 dX7_four_18 hl (by decide) rfl (fun ls hl => ?_)
      refine lv_aload_n C.1 C.2.1 dX7_four_20 rfl (lv_at hl 2 rfl) ?_
      refine xG_DishHouse_row C hW bF_X7_12 dX7_four_21 ?_
      refine lv_iload_n C.1 C.2.1 dX7_four_24 rfl (lv_at hl 5 rfl) ?_
      refine go_q hW (run_V (o := 1) (As := [.int o]) (rest := []) C hW (by omega) rfl rfl (c_X4_find l G q nd _ τ ζ ρ o  h_nd h_n h_r) (cw_V 1 C bL_X7_59 bI_X4_find bV_X4_find bN_X4 bC_X4_find ⟨rfl, rfl⟩ (by decide +kernel) ⟨Nat.le_of_ble_eq_true rfl, Nat.le_of_ble_eq_true rfl⟩) rfl hl.1 rfl (Nat.le_of_ble_eq_true rfl) dX7_four_25 ⟨Nat.le_refl _, Nat.le_refl _⟩) (fun r_10 u_10 H locs hp_10 hW => ?_)
      rcases hp_10 with ⟨rfl, rfl, k_10⟩ | ⟨rfl, rfl, k_10_0, k_10_1⟩
      · skip
        have hW : WB G (28 + 3 * nd) q (eX G q τ ζ ρ) s H locs := hW
        refine lv_astoreN (lv' := [(7, .null), (6, .null), (5, .ref (q (28 + 3 * ((i).toInt).toNat))), (0, .ref (q 0)), (1, .int i), (2, .int j), (3, .int o), (4, .int n)]) C.1 C.2.1 dX7_four_28 hl (by decide) rfl (fun ls hl => ?_)
        refine lv_aload_n C.1 C.2.1 dX7_four_30 rfl (lv_at hl 3 rfl) ?_
        refine xG_DishHouse_row C hW bF_X7_12 dX7_four_31 ?_
        refine lv_iload C.1 C.2.1 dX7_four_34 (lv_at hl 7 rfl) ?_
        refine go_q hW (run_V (o := 1) (As := [.int n]) (rest := []) C hW (by omega) rfl rfl (c_X4_find l G q nd _ τ ζ ρ n  h_nd h_n h_r) (cw_V 1 C bL_X7_59 bI_X4_find bV_X4_find bN_X4 bC_X4_find ⟨rfl, rfl⟩ (by decide +kernel) ⟨Nat.le_of_ble_eq_true rfl, Nat.le_of_ble_eq_true rfl⟩) rfl hl.1 rfl (Nat.le_of_ble_eq_true rfl) dX7_four_36 ⟨Nat.le_refl _, Nat.le_refl _⟩) (fun r_11 u_11 H locs hp_11 hW => ?_)
        rcases hp_11 with ⟨rfl, rfl, k_11⟩ | ⟨rfl, rfl, k_11_0, k_11_1⟩
        · skip
          have hW : WB G (28 + 3 * nd) q (eX G q τ ζ ρ) s H locs := hW
          refine lv_astoreN (lv' := [(8, .null), (7, .null), (6, .null), (5, .ref (q (28 + 3 * ((i).toInt).toNat))), (0, .ref (q 0)), (1, .int i), (2, .int j), (3, .int o), (4, .int n)]) C.1 C.2.1 dX7_four_39 hl (by decide) rfl (fun ls hl => ?_)
          refine lv_aload C.1 C.2.1 dX7_four_41 (lv_at hl 3 rfl) ?_
          refine lv_ifnull C.1 C.2.1 dX7_four_43 ?_
          refine lv_aloadN C.1 C.2.1 dX7_four_46 (lv_at hl 2 rfl) ?_
          refine lv_ifnullN C.1 C.2.1 (tgt := 61) dX7_four_48 (by decide) ?_
          refine lv_bipush C.1 C.2.1 (v := (-2)) dX7_four_61 (by decide) ?_
          subst hQ
          exact r_iret (τ, ζ, ρ) C hW hr hk dX7_four_63 ⟨(show sp_four τ i j o n = ((-2), τ) from by unfold sp_four; (repeat (first | rw [if_pos (by omega)] | rw [if_neg (by omega)])); first | done | rfl), (XZ_eq h_z rfl rfl rfl rfl rfl rfl rfl rfl rfl rfl rfl rfl rfl rfl rfl rfl rfl rfl rfl)⟩
        · skip
          have hW : WB G (28 + 3 * nd) q (eX G q τ ζ ρ) s H locs := hW
          refine lv_astore (lv' := [(8, .ref (q (28 + 3 * ((n).toInt).toNat))), (7, .null), (6, .null), (5, .ref (q (28 + 3 * ((i).toInt).toNat))), (0, .ref (q 0)), (1, .int i), (2, .int j), (3, .int o), (4, .int n)]) C.1 C.2.1 dX7_four_39 hl (by decide) rfl (fun ls hl => ?_)
          refine lv_aload C.1 C.2.1 dX7_four_41 (lv_at hl 3 rfl) ?_
          refine lv_ifnull C.1 C.2.1 dX7_four_43 ?_
          refine lv_aloadN C.1 C.2.1 dX7_four_46 (lv_at hl 2 rfl) ?_
          refine lv_ifnullN C.1 C.2.1 (tgt := 61) dX7_four_48 (by decide) ?_
          refine lv_bipush C.1 C.2.1 (v := (-2)) dX7_four_61 (by decide) ?_
          subst hQ
          exact r_iret (τ, ζ, ρ) C hW hr hk dX7_four_63 ⟨(show sp_four τ i j o n = ((-2), τ) from by unfold sp_four; (repeat (first | rw [if_pos (by omega)] | rw [if_neg (by omega)])); first | done | rfl), (XZ_eq h_z rfl rfl rfl rfl rfl rfl rfl rfl rfl rfl rfl rfl rfl rfl rfl rfl rfl rfl rfl)⟩
      · skip
        have hW : WB G (28 + 3 * nd) q (eX G q τ ζ ρ) s H locs := hW
        refine lv_astore (lv' := [(7, .ref (q (28 + 3 * ((o).toInt).toNat))), (6, .null), (5, .ref (q (28 + 3 * ((i).toInt).toNat))), (0, .ref (q 0)), (1, .int i), (2, .int j), (3, .int o), (4, .int n)]) C.1 C.2.1 dX7_four_28 hl (by decide) rfl (fun ls hl => ?_)
        refine lv_aload_n C.1 C.2.1 dX7_four_30 rfl (lv_at hl 3 rfl) ?_
        refine xG_DishHouse_row C hW bF_X7_12 dX7_four_31 ?_
        refine lv_iload C.1 C.2.1 dX7_four_34 (lv_at hl 7 rfl) ?_
        refine go_q hW (run_V (o := 1) (As := [.int n]) (rest := []) C hW (by omega) rfl rfl (c_X4_find l G q nd _ τ ζ ρ n  h_nd h_n h_r) (cw_V 1 C bL_X7_59 bI_X4_find bV_X4_find bN_X4 bC_X4_find ⟨rfl, rfl⟩ (by decide +kernel) ⟨Nat.le_of_ble_eq_true rfl, Nat.le_of_ble_eq_true rfl⟩) rfl hl.1 rfl (Nat.le_of_ble_eq_true rfl) dX7_four_36 ⟨Nat.le_refl _, Nat.le_refl _⟩) (fun r_12 u_12 H locs hp_12 hW => ?_)
        rcases hp_12 with ⟨rfl, rfl, k_12⟩ | ⟨rfl, rfl, k_12_0, k_12_1⟩
        · skip
          have hW : WB G (28 + 3 * nd) q (eX G q τ ζ ρ) s H locs := hW
          refine lv_astoreN (lv' := [(8, .null), (7, .ref (q (28 + 3 * ((o).toInt).toNat))), (6, .null), (5, .ref (q (28 + 3 * ((i).toInt).toNat))), (0, .ref (q 0)), (1, .int i), (2, .int j), (3, .int o), (4, .int n)]) C.1 C.2.1 dX7_four_39 hl (by decide) rfl (fun ls hl => ?_)
          refine lv_aload C.1 C.2.1 dX7_four_41 (lv_at hl 3 rfl) ?_
          refine lv_ifnull C.1 C.2.1 dX7_four_43 ?_
          refine lv_aloadN C.1 C.2.1 dX7_four_46 (lv_at hl 2 rfl) ?_
          refine lv_ifnullN C.1 C.2.1 (tgt := 61) dX7_four_48 (by decide) ?_
          refine lv_bipush C.1 C.2.1 (v := (-2)) dX7_four_61 (by decide) ?_
          subst hQ
          exact r_iret (τ, ζ, ρ) C hW hr hk dX7_four_63 ⟨(show sp_four τ i j o n = ((-2), τ) from by unfold sp_four; (repeat (first | rw [if_pos (by omega)] | rw [if_neg (by omega)])); first | done | rfl), (XZ_eq h_z rfl rfl rfl rfl rfl rfl rfl rfl rfl rfl rfl rfl rfl rfl rfl rfl rfl rfl rfl)⟩
        · skip
          have hW : WB G (28 + 3 * nd) q (eX G q τ ζ ρ) s H locs := hW
          refine lv_astore (lv' := [(8, .ref (q (28 + 3 * ((n).toInt).toNat))), (7, .ref (q (28 + 3 * ((o).toInt).toNat))), (6, .null), (5, .ref (q (28 + 3 * ((i).toInt).toNat))), (0, .ref (q 0)), (1, .int i), (2, .int j), (3, .int o), (4, .int n)]) C.1 C.2.1 dX7_four_39 hl (by decide) rfl (fun ls hl => ?_)
          refine lv_aload C.1 C.2.1 dX7_four_41 (lv_at hl 3 rfl) ?_
          refine lv_ifnull C.1 C.2.1 dX7_four_43 ?_
          refine lv_aloadN C.1 C.2.1 dX7_four_46 (lv_at hl 2 rfl) ?_
          refine lv_ifnullN C.1 C.2.1 (tgt := 61) dX7_four_48 (by decide) ?_
          refine lv_bipush C.1 C.2.1 (v := (-2)) dX7_four_61 (by decide) ?_
          subst hQ
          exact r_iret (τ, ζ, ρ) C hW hr hk dX7_four_63 ⟨(show sp_four τ i j o n = ((-2), τ) from by unfold sp_four; (repeat (first | rw [if_pos (by omega)] | rw [if_neg (by omega)])); first | done | rfl), (XZ_eq h_z rfl rfl rfl rfl rfl rfl rfl rfl rfl rfl rfl rfl rfl rfl rfl rfl rfl rfl rfl)⟩
    · skip
      have hW : WB G (28 + 3 * nd) q (eX G q τ ζ ρ) s H locs := hW
      refine lv_astore (lv' := [(6, .ref (q (28 + 3 * ((j).toInt).toNat))), (5, .ref (q (28 + 3 * ((i).toInt).toNat))), (0, .ref (q 0)), (1, .int i), (2, .int j), (3, .int o), (4, .int n)]) C.1 C.2.1 dX7_four_18 hl (by decide) rfl (fun ls hl => ?_)
      refine lv_aload_n C.1 C.2.1 dX7_four_20 rfl (lv_at hl 2 rfl) ?_
      refine xG_DishHouse_row C hW bF_X7_12 dX7_four_21 ?_
      refine lv_iload_n C.1 C.2.1 dX7_four_24 rfl (lv_at hl 5 rfl) ?_
      refine go_q hW (run_V (o := 1) (As := [.int o]) (rest := []) C hW (by omega) rfl rfl (c_X4_find l G q nd _ τ ζ ρ o  h_nd h_n h_r) (cw_V 1 C bL_X7_59 bI_X4_find bV_X4_find bN_X4 bC_X4_find ⟨rfl, rfl⟩ (by decide +kernel) ⟨Nat.le_of_ble_eq_true rfl, Nat.le_of_ble_eq_true rfl⟩) rfl hl.1 rfl (Nat.le_of_ble_eq_true rfl) dX7_four_25 ⟨Nat.le_refl _, Nat.le_refl _⟩) (fun r_13 u_13 H locs hp_13 hW => ?_)
      rcases hp_13 with ⟨rfl, rfl, k_13⟩ | ⟨rfl, rfl, k_13_0, k_13_1⟩
      · skip
        have hW : WB G (28 + 3 * nd) q (eX G q τ ζ ρ) s H locs := hW
        refine lv_astoreN (lv' := [(7, .null), (6, .ref (q (28 + 3 * ((j).toInt).toNat))), (5, .ref (q (28 + 3 * ((i).toInt).toNat))), (0, .ref (q 0)), (1, .int i), (2, .int j), (3, .int o), (4, .int n)]) C.1 C.2.1 dX7_four_28 hl (by decide) rfl (fun ls hl => ?_)
        refine lv_aload_n C.1 C.2.1 dX7_four_30 rfl (lv_at hl 3 rfl) ?_
        refine xG_DishHouse_row C hW bF_X7_12 dX7_four_31 ?_
        refine lv_iload C.1 C.2.1 dX7_four_34 (lv_at hl 7 rfl) ?_
        refine go_q hW (run_V (o := 1) (As := [.int n]) (rest := []) C hW (by omega) rfl rfl (c_X4_find l G q nd _ τ ζ ρ n  h_nd h_n h_r) (cw_V 1 C bL_X7_59 bI_X4_find bV_X4_find bN_X4 bC_X4_find ⟨rfl, rfl⟩ (by decide +kernel) ⟨Nat.le_of_ble_eq_true rfl, Nat.le_of_ble_eq_true rfl⟩) rfl hl.1 rfl (Nat.le_of_ble_eq_true rfl) dX7_four_36 ⟨Nat.le_refl _, Nat.le_refl _⟩) (fun r_14 u_14 H locs hp_14 hW => ?_)
        rcases hp_14 with ⟨rfl, rfl, k_14⟩ | ⟨rfl, rfl, k_14_0, k_14_1⟩
        · skip
          have hW : WB G (28 + 3 * nd) q (eX G q τ ζ ρ) s H locs := hW
          refine lv_astoreN (lv' := [(8, .null), (7, .null), (6, .ref (q (28 + 3 * ((j).toInt).toNat))), (5, .ref (q (28 + 3 * ((i).toInt).toNat))), (0, .ref (q 0)), (1, .int i), (2, .int j), (3, .int o), (4, .int n)]) C.1 C.2.1 dX7_four_39 hl (by decide) rfl (fun ls hl => ?_)
          refine lv_aload C.1 C.2.1 dX7_four_41 (lv_at hl 3 rfl) ?_
          refine lv_ifnull C.1 C.2.1 dX7_four_43 ?_
          refine lv_aload C.1 C.2.1 dX7_four_46 (lv_at hl 2 rfl) ?_
          refine lv_ifnull C.1 C.2.1 dX7_four_48 ?_
          refine lv_aloadN C.1 C.2.1 dX7_four_51 (lv_at hl 1 rfl) ?_
          refine lv_ifnullN C.1 C.2.1 (tgt := 61) dX7_four_53 (by decide) ?_
          refine lv_bipush C.1 C.2.1 (v := (-2)) dX7_four_61 (by decide) ?_
          subst hQ
          exact r_iret (τ, ζ, ρ) C hW hr hk dX7_four_63 ⟨(show sp_four τ i j o n = ((-2), τ) from by unfold sp_four; (repeat (first | rw [if_pos (by omega)] | rw [if_neg (by omega)])); first | done | rfl), (XZ_eq h_z rfl rfl rfl rfl rfl rfl rfl rfl rfl rfl rfl rfl rfl rfl rfl rfl rfl rfl rfl)⟩
        · skip
          have hW : WB G (28 + 3 * nd) q (eX G q τ ζ ρ) s H locs := hW
          refine lv_astore (lv' := [(8, .ref (q (28 + 3 * ((n).toInt).toNat))), (7, .null), (6, .ref (q (28 + 3 * ((j).toInt).toNat))), (5, .ref (q (28 + 3 * ((i).toInt).toNat))), (0, .ref (q 0)), (1, .int i), (2, .int j), (3, .int o), (4, .int n)]) C.1 C.2.1 dX7_four_39 hl (by decide) rfl (fun ls hl => ?_)
          refine lv_aload C.1 C.2.1 dX7_four_41 (lv_at hl 3 rfl) ?_
          refine lv_ifnull C.1 C.2.1 dX7_four_43 ?_
          refine lv_aload C.1 C.2.1 dX7_four_46 (lv_at hl 2 rfl) ?_
          refine lv_ifnull C.1 C.2.1 dX7_four_48 ?_
          refine lv_aloadN C.1 C.2.1 dX7_four_51 (lv_at hl 1 rfl) ?_
          refine lv_ifnullN C.1 C.2.1 (tgt := 61) dX7_four_53 (by decide) ?_
          refine lv_bipush C.1 C.2.1 (v := (-2)) dX7_four_61 (by decide) ?_
          subst hQ
          exact r_iret (τ, ζ, ρ) C hW hr hk dX7_four_63 ⟨(show sp_four τ i j o n = ((-2), τ) from by unfold sp_four; (repeat (first | rw [if_pos (by omega)] | rw [if_neg (by omega)])); first | done | rfl), (XZ_eq h_z rfl rfl rfl rfl rfl rfl rfl rfl rfl rfl rfl rfl rfl rfl rfl rfl rfl rfl rfl)⟩
      · skip
        have hW : WB G (28 + 3 * nd) q (eX G q τ ζ ρ) s H locs := hW
        refine lv_astore (lv' := [(7, .ref (q (28 + 3 * ((o).toInt).toNat))), (6, .ref (q (28 + 3 * ((j).toInt).toNat))), (5, .ref (q (28 + 3 * ((i).toInt).toNat))), (0, .ref (q 0)), (1, .int i), (2, .int j), (3, .int o), (4, .int n)]) C.1 C.2.1 dX7_four_28 hl (by decide) rfl (fun ls hl => ?_)
        refine lv_aload_n C.1 C.2.1 dX7_four_30 rfl (lv_at hl 3 rfl) ?_
        refine xG_DishHouse_row C hW bF_X7_12 dX7_four_31 ?_
        refine lv_iload C.1 C.2.1 dX7_four_34 (lv_at hl 7 rfl) ?_
        refine go_q hW (run_V (o := 1) (As := [.int n]) (rest := []) C hW (by omega) rfl rfl (c_X4_find l G q nd _ τ ζ ρ n  h_nd h_n h_r) (cw_V 1 C bL_X7_59 bI_X4_find bV_X4_find bN_X4 bC_X4_find ⟨rfl, rfl⟩ (by decide +kernel) ⟨Nat.le_of_ble_eq_true rfl, Nat.le_of_ble_eq_true rfl⟩) rfl hl.1 rfl (Nat.le_of_ble_eq_true rfl) dX7_four_36 ⟨Nat.le_refl _, Nat.le_refl _⟩) (fun r_15 u_15 H locs hp_15 hW => ?_)
        rcases hp_15 with ⟨rfl, rfl, k_15⟩ | ⟨rfl, rfl, k_15_0, k_15_1⟩
        · skip
          have hW : WB G (28 + 3 * nd) q (eX G q τ ζ ρ) s H locs := hW
          refine lv_astoreN (lv' := [(8, .null), (7, .ref (q (28 + 3 * ((o).toInt).toNat))), (6, .ref (q (28 + 3 * ((j).toInt).toNat))), (5, .ref (q (28 + 3 * ((i).toInt).toNat))), (0, .ref (q 0)), (1, .int i), (2, .int j), (3, .int o), (4, .int n)]) C.1 C.2.1 dX7_four_39 hl (by decide) rfl (fun ls hl => ?_)
          refine lv_aload C.1 C.2.1 dX7_four_41 (lv_at hl 3 rfl) ?_
          refine lv_ifnull C.1 C.2.1 dX7_four_43 ?_
          refine lv_aload C.1 C.2.1 dX7_four_46 (lv_at hl 2 rfl) ?_
          refine lv_ifnull C.1 C.2.1 dX7_four_48 ?_
          refine lv_aload C.1 C.2.1 dX7_four_51 (lv_at hl 1 rfl) ?_
          refine lv_ifnull C.1 C.2.1 dX7_four_53 ?_
          refine lv_aloadN C.1 C.2.1 dX7_four_56 (lv_at hl 0 rfl) ?_
          refine lv_ifnonnullN C.1 C.2.1 dX7_four_58 ?_
          refine lv_bipush C.1 C.2.1 (v := (-2)) dX7_four_61 (by decide) ?_
          subst hQ
          exact r_iret (τ, ζ, ρ) C hW hr hk dX7_four_63 ⟨(show sp_four τ i j o n = ((-2), τ) from by unfold sp_four; (repeat (first | rw [if_pos (by omega)] | rw [if_neg (by omega)])); first | done | rfl), (XZ_eq h_z rfl rfl rfl rfl rfl rfl rfl rfl rfl rfl rfl rfl rfl rfl rfl rfl rfl rfl rfl)⟩
        · skip
          have hW : WB G (28 + 3 * nd) q (eX G q τ ζ ρ) s H locs := hW
          refine lv_astore (lv' := [(8, .ref (q (28 + 3 * ((n).toInt).toNat))), (7, .ref (q (28 + 3 * ((o).toInt).toNat))), (6, .ref (q (28 + 3 * ((j).toInt).toNat))), (5, .ref (q (28 + 3 * ((i).toInt).toNat))), (0, .ref (q 0)), (1, .int i), (2, .int j), (3, .int o), (4, .int n)]) C.1 C.2.1 dX7_four_39 hl (by decide) rfl (fun ls hl => ?_)
          refine lv_aload C.1 C.2.1 dX7_four_41 (lv_at hl 3 rfl) ?_
          refine lv_ifnull C.1 C.2.1 dX7_four_43 ?_
          refine lv_aload C.1 C.2.1 dX7_four_46 (lv_at hl 2 rfl) ?_
          refine lv_ifnull C.1 C.2.1 dX7_four_48 ?_
          refine lv_aload C.1 C.2.1 dX7_four_51 (lv_at hl 1 rfl) ?_
          refine lv_ifnull C.1 C.2.1 dX7_four_53 ?_
          refine lv_aload C.1 C.2.1 dX7_four_56 (lv_at hl 0 rfl) ?_
          refine lv_ifnonnull C.1 C.2.1 (tgt := 64) dX7_four_58 (by decide) ?_
          refine lv_iload_n C.1 C.2.1 dX7_four_64 rfl (lv_at hl 5 rfl) ?_
          refine lv_iload_n C.1 C.2.1 dX7_four_65 rfl (lv_at hl 6 rfl) ?_
          refine lv_icmp_eq C.1 C.2.1 (tgt := 97) dX7_four_66 (by decide) (fun c_16 => ?_) (fun c_16 => ?_)
          · skip
            have k_16 := (tc_eq (rfl : (i).toInt = (i).toInt) (rfl : (j).toInt = (j).toInt)).mp c_16
            refine lv_bipush C.1 C.2.1 (v := (-2)) dX7_four_97 (by decide) ?_
            subst hQ
            exact r_iret (τ, ζ, ρ) C hW hr hk dX7_four_99 ⟨(show sp_four τ i j o n = ((-2), τ) from by unfold sp_four; (repeat (first | rw [if_pos (by omega)] | rw [if_neg (by omega)])); first | done | rfl), (XZ_eq h_z rfl rfl rfl rfl rfl rfl rfl rfl rfl rfl rfl rfl rfl rfl rfl rfl rfl rfl rfl)⟩
          · skip
            have k_16 := (tn_eq (rfl : (i).toInt = (i).toInt) (rfl : (j).toInt = (j).toInt)).mp c_16
            refine lv_iload_n C.1 C.2.1 dX7_four_69 rfl (lv_at hl 5 rfl) ?_
            refine lv_iload_n C.1 C.2.1 dX7_four_70 rfl (lv_at hl 7 rfl) ?_
            refine lv_icmp_eq C.1 C.2.1 (tgt := 97) dX7_four_71 (by decide) (fun c_17 => ?_) (fun c_17 => ?_)
            · skip
              have k_17 := (tc_eq (rfl : (i).toInt = (i).toInt) (rfl : (o).toInt = (o).toInt)).mp c_17
              refine lv_bipush C.1 C.2.1 (v := (-2)) dX7_four_97 (by decide) ?_
              subst hQ
              exact r_iret (τ, ζ, ρ) C hW hr hk dX7_four_99 ⟨(show sp_four τ i j o n = ((-2), τ) from by unfold sp_four; (repeat (first | rw [if_pos (by omega)] | rw [if_neg (by omega)])); first | done | rfl), (XZ_eq h_z rfl rfl rfl rfl rfl rfl rfl rfl rfl rfl rfl rfl rfl rfl rfl rfl rfl rfl rfl)⟩
            · skip
              have k_17 := (tn_eq (rfl : (i).toInt = (i).toInt) (rfl : (o).toInt = (o).toInt)).mp c_17
              refine lv_iload_n C.1 C.2.1 dX7_four_74 rfl (lv_at hl 5 rfl) ?_
              refine lv_iload C.1 C.2.1 dX7_four_75 (lv_at hl 8 rfl) ?_
              refine lv_icmp_eq C.1 C.2.1 (tgt := 97) dX7_four_77 (by decide) (fun c_18 => ?_) (fun c_18 => ?_)
              · skip
                have k_18 := (tc_eq (rfl : (i).toInt = (i).toInt) (rfl : (n).toInt = (n).toInt)).mp c_18
                refine lv_bipush C.1 C.2.1 (v := (-2)) dX7_four_97 (by decide) ?_
                subst hQ
                exact r_iret (τ, ζ, ρ) C hW hr hk dX7_four_99 ⟨(show sp_four τ i j o n = ((-2), τ) from by unfold sp_four; (repeat (first | rw [if_pos (by omega)] | rw [if_neg (by omega)])); first | done | rfl), (XZ_eq h_z rfl rfl rfl rfl rfl rfl rfl rfl rfl rfl rfl rfl rfl rfl rfl rfl rfl rfl rfl)⟩
              · skip
                have k_18 := (tn_eq (rfl : (i).toInt = (i).toInt) (rfl : (n).toInt = (n).toInt)).mp c_18
                refine lv_iload_n C.1 C.2.1 dX7_four_80 rfl (lv_at hl 6 rfl) ?_
                refine lv_iload_n C.1 C.2.1 dX7_four_81 rfl (lv_at hl 7 rfl) ?_
                refine lv_icmp_eq C.1 C.2.1 (tgt := 97) dX7_four_82 (by decide) (fun c_19 => ?_) (fun c_19 => ?_)
                · skip
                  have k_19 := (tc_eq (rfl : (j).toInt = (j).toInt) (rfl : (o).toInt = (o).toInt)).mp c_19
                  refine lv_bipush C.1 C.2.1 (v := (-2)) dX7_four_97 (by decide) ?_
                  subst hQ
                  exact r_iret (τ, ζ, ρ) C hW hr hk dX7_four_99 ⟨(show sp_four τ i j o n = ((-2), τ) from by unfold sp_four; (repeat (first | rw [if_pos (by omega)] | rw [if_neg (by omega)])); first | done | rfl), (XZ_eq h_z rfl rfl rfl rfl rfl rfl rfl rfl rfl rfl rfl rfl rfl rfl rfl rfl rfl rfl rfl)⟩
                · skip
                  have k_19 := (tn_eq (rfl : (j).toInt = (j).toInt) (rfl : (o).toInt = (o).toInt)).mp c_19
                  refine lv_iload_n C.1 C.2.1 dX7_four_85 rfl (lv_at hl 6 rfl) ?_
                  refine lv_iload C.1 C.2.1 dX7_four_86 (lv_at hl 8 rfl) ?_
                  refine lv_icmp_eq C.1 C.2.1 (tgt := 97) dX7_four_88 (by decide) (fun c_20 => ?_) (fun c_20 => ?_)
                  · skip
                    have k_20 := (tc_eq (rfl : (j).toInt = (j).toInt) (rfl : (n).toInt = (n).toInt)).mp c_20
                    refine lv_bipush C.1 C.2.1 (v := (-2)) dX7_four_97 (by decide) ?_
                    subst hQ
                    exact r_iret (τ, ζ, ρ) C hW hr hk dX7_four_99 ⟨(show sp_four τ i j o n = ((-2), τ) from by unfold sp_four; (repeat (first | rw [if_pos (by omega)] | rw [if_neg (by omega)])); first | done | rfl), (XZ_eq h_z rfl rfl rfl rfl rfl rfl rfl rfl rfl rfl rfl rfl rfl rfl rfl rfl rfl rfl rfl)⟩
                  · skip
                    have k_20 := (tn_eq (rfl : (j).toInt = (j).toInt) (rfl : (n).toInt = (n).toInt)).mp c_20
                    refine lv_iload_n C.1 C.2.1 dX7_four_91 rfl (lv_at hl 7 rfl) ?_
                    refine lv_iload C.1 C.2.1 dX7_four_92 (lv_at hl 8 rfl) ?_
                    refine lv_icmp_ne C.1 C.2.1 (tgt := 100) dX7_four_94 (by decide) (fun c_21 => ?_) (fun c_21 => ?_)
                    · skip
                      have k_21 := (tn_eq (rfl : (o).toInt = (o).toInt) (rfl : (n).toInt = (n).toInt)).mp c_21
                      refine lv_aload C.1 C.2.1 dX7_four_100 (lv_at hl 3 rfl) ?_
                      refine lv_aload C.1 C.2.1 dX7_four_102 (lv_at hl 2 rfl) ?_
                      refine lv_aload C.1 C.2.1 dX7_four_104 (lv_at hl 2 rfl) ?_
                      refine xG_Dish_delay C hW (((j).toInt).toNat) (by omega) bF_X7_63 (v := (τ.2.1 2 (((j).toInt).toNat))) rfl dX7_four_106 ?_
                      have := (h_dk (((j).toInt).toNat) (by omega)).2.2.2.1
                      have := (h_dk (((i).toInt).toNat) (by omega)).2.2.2.1
                      refine go_l hW (run_V (o := 28 + 3 * (((i).toInt).toNat)) (As := [.ref (q (28 + 3 * ((j).toInt).toNat)), .int (τ.2.1 2 (((j).toInt).toNat))]) (rest := []) C hW (by omega) (eX_obj _ _ _ _ _ (((i).toInt).toNat)) rfl (c_X1_productWith l G q nd _ τ ζ ρ (τ.2.1 2 (((j).toInt).toNat)) ((((τ.2.1 2 (((j).toInt).toNat))).toInt).toNat) (((i).toInt).toNat) (((j).toInt).toNat) ((rfl : ((τ.2.1 2 (((j).toInt).toNat))).toInt = ((τ.2.1 2 (((j).toInt).toNat))).toInt).trans (by omega)) h_nd (by omega) (by omega) (h_dk _ (by omega)) (h_dk _ (by omega)) (by omega)) (cw_V 2 C bL_X7_132 bI_X1_productWith bV_X1_productWith bN_X1 bC_X1_productWith ⟨rfl, rfl⟩ (by decide +kernel) ⟨Nat.le_of_ble_eq_true rfl, Nat.le_of_ble_eq_true rfl⟩) rfl hl.1 rfl (Nat.le_of_ble_eq_true rfl) dX7_four_109 ⟨Nat.le_refl _, Nat.le_refl _⟩) (fun r_22 u_22 H locs hp_22 hW => ?_)
                      rcases hp_22 with ⟨rfl, rfl⟩
                      have hW : WB G (28 + 3 * nd) q (eX G q τ ζ ρ) s H locs := hW
                      refine lv_aload C.1 C.2.1 dX7_four_112 (lv_at hl 1 rfl) ?_
                      refine lv_aload C.1 C.2.1 dX7_four_114 (lv_at hl 0 rfl) ?_
                      refine lv_aload C.1 C.2.1 dX7_four_116 (lv_at hl 0 rfl) ?_
                      refine xG_Dish_delay C hW (((n).toInt).toNat) (by omega) bF_X7_63 (v := (τ.2.1 2 (((n).toInt).toNat))) rfl dX7_four_118 ?_
                      have := (h_dk (((n).toInt).toNat) (by omega)).2.2.2.1
                      have := (h_dk (((o).toInt).toNat) (by omega)).2.2.2.1
                      refine go_l hW (run_V (o := 28 + 3 * (((o).toInt).toNat)) (As := [.ref (q (28 + 3 * ((n).toInt).toNat)), .int (τ.2.1 2 (((n).toInt).toNat))]) (rest := [.long (prdF τ (((i).toInt).toNat) (dl τ (((i).toInt).toNat)) (((j).toInt).toNat) ((((τ.2.1 2 (((j).toInt).toNat))).toInt).toNat))]) C hW (by omega) (eX_obj _ _ _ _ _ (((o).toInt).toNat)) rfl (c_X1_productWith l G q nd _ τ ζ ρ (τ.2.1 2 (((n).toInt).toNat)) ((((τ.2.1 2 (((n).toInt).toNat))).toInt).toNat) (((o).toInt).toNat) (((n).toInt).toNat) ((rfl : ((τ.2.1 2 (((n).toInt).toNat))).toInt = ((τ.2.1 2 (((n).toInt).toNat))).toInt).trans (by omega)) h_nd (by omega) (by omega) (h_dk _ (by omega)) (h_dk _ (by omega)) (by omega)) (cw_V 2 C bL_X7_132 bI_X1_productWith bV_X1_productWith bN_X1 bC_X1_productWith ⟨rfl, rfl⟩ (by decide +kernel) ⟨Nat.le_of_ble_eq_true rfl, Nat.le_of_ble_eq_true rfl⟩) rfl hl.1 rfl (Nat.le_of_ble_eq_true rfl) dX7_four_121 ⟨Nat.le_refl _, Nat.le_refl _⟩) (fun r_23 u_23 H locs hp_23 hW => ?_)
                      rcases hp_23 with ⟨rfl, rfl⟩
                      have hW : WB G (28 + 3 * nd) q (eX G q τ ζ ρ) s H locs := hW
                      refine lv_lmul C.1 C.2.1 dX7_four_124 ?_
                      refine lv_lstore (lv' := [(9, .long ((prdF τ (((i).toInt).toNat) (dl τ (((i).toInt).toNat)) (((j).toInt).toNat) ((((τ.2.1 2 (((j).toInt).toNat))).toInt).toNat)) * (prdF τ (((o).toInt).toNat) (dl τ (((o).toInt).toNat)) (((n).toInt).toNat) ((((τ.2.1 2 (((n).toInt).toNat))).toInt).toNat)))), (8, .ref (q (28 + 3 * ((n).toInt).toNat))), (7, .ref (q (28 + 3 * ((o).toInt).toNat))), (6, .ref (q (28 + 3 * ((j).toInt).toNat))), (5, .ref (q (28 + 3 * ((i).toInt).toNat))), (0, .ref (q 0)), (1, .int i), (2, .int j), (3, .int o), (4, .int n)]) C.1 C.2.1 dX7_four_125 hl (by decide) rfl (fun ls hl => ?_)
                      refine lv_aload C.1 C.2.1 dX7_four_127 (lv_at hl 4 rfl) ?_
                      refine lv_aload C.1 C.2.1 dX7_four_129 (lv_at hl 2 rfl) ?_
                      refine lv_aload C.1 C.2.1 dX7_four_131 (lv_at hl 2 rfl) ?_
                      refine xG_Dish_delay C hW (((o).toInt).toNat) (by omega) bF_X7_63 (v := (τ.2.1 2 (((o).toInt).toNat))) rfl dX7_four_133 ?_
                      have := (h_dk (((o).toInt).toNat) (by omega)).2.2.2.1
                      have := (h_dk (((i).toInt).toNat) (by omega)).2.2.2.1
                      refine go_l hW (run_V (o := 28 + 3 * (((i).toInt).toNat)) (As := [.ref (q (28 + 3 * ((o).toInt).toNat)), .int (τ.2.1 2 (((o).toInt).toNat))]) (rest := []) C hW (by omega) (eX_obj _ _ _ _ _ (((i).toInt).toNat)) rfl (c_X1_productWith l G q nd _ τ ζ ρ (τ.2.1 2 (((o).toInt).toNat)) ((((τ.2.1 2 (((o).toInt).toNat))).toInt).toNat) (((i).toInt).toNat) (((o).toInt).toNat) ((rfl : ((τ.2.1 2 (((o).toInt).toNat))).toInt = ((τ.2.1 2 (((o).toInt).toNat))).toInt).trans (by omega)) h_nd (by omega) (by omega) (h_dk _ (by omega)) (h_dk _ (by omega)) (by omega)) (cw_V 2 C bL_X7_132 bI_X1_productWith bV_X1_productWith bN_X1 bC_X1_productWith ⟨rfl, rfl⟩ (by decide +kernel) ⟨Nat.le_of_ble_eq_true rfl, Nat.le_of_ble_eq_true rfl⟩) rfl hl.1 rfl (Nat.le_of_ble_eq_true rfl) dX7_four_136 ⟨Nat.le_refl _, Nat.le_refl _⟩) (fun r_24 u_24 H locs hp_24 hW => ?_)
                      rcases hp_24 with ⟨rfl, rfl⟩
                      have hW : WB G (28 + 3 * nd) q (eX G q τ ζ ρ) s H locs := hW
                      refine lv_aload C.1 C.2.1 dX7_four_139 (lv_at hl 3 rfl) ?_
                      refine lv_aload C.1 C.2.1 dX7_four_141 (lv_at hl 1 rfl) ?_
                      refine lv_aload C.1 C.2.1 dX7_four_143 (lv_at hl 1 rfl) ?_
                      refine xG_Dish_delay C hW (((n).toInt).toNat) (by omega) bF_X7_63 (v := (τ.2.1 2 (((n).toInt).toNat))) rfl dX7_four_145 ?_
                      have := (h_dk (((n).toInt).toNat) (by omega)).2.2.2.1
                      have := (h_dk (((j).toInt).toNat) (by omega)).2.2.2.1
                      refine go_l hW (run_V (o := 28 + 3 * (((j).toInt).toNat)) (As := [.ref (q (28 + 3 * ((n).toInt).toNat)), .int (τ.2.1 2 (((n).toInt).toNat))]) (rest := [.long (prdF τ (((i).toInt).toNat) (dl τ (((i).toInt).toNat)) (((o).toInt).toNat) ((((τ.2.1 2 (((o).toInt).toNat))).toInt).toNat))]) C hW (by omega) (eX_obj _ _ _ _ _ (((j).toInt).toNat)) rfl (c_X1_productWith l G q nd _ τ ζ ρ (τ.2.1 2 (((n).toInt).toNat)) ((((τ.2.1 2 (((n).toInt).toNat))).toInt).toNat) (((j).toInt).toNat) (((n).toInt).toNat) ((rfl : ((τ.2.1 2 (((n).toInt).toNat))).toInt = ((τ.2.1 2 (((n).toInt).toNat))).toInt).trans (by omega)) h_nd (by omega) (by omega) (h_dk _ (by omega)) (h_dk _ (by omega)) (by omega)) (cw_V 2 C bL_X7_132 bI_X1_productWith bV_X1_productWith bN_X1 bC_X1_productWith ⟨rfl, rfl⟩ (by decide +kernel) ⟨Nat.le_of_ble_eq_true rfl, Nat.le_of_ble_eq_true rfl⟩) rfl hl.1 rfl (Nat.le_of_ble_eq_true rfl) dX7_four_148 ⟨Nat.le_refl _, Nat.le_refl _⟩) (fun r_25 u_25 H locs hp_25 hW => ?_)
                      rcases hp_25 with ⟨rfl, rfl⟩
                      have hW : WB G (28 + 3 * nd) q (eX G q τ ζ ρ) s H locs := hW
                      refine lv_lmul C.1 C.2.1 dX7_four_151 ?_
                      refine lv_lstore (lv' := [(11, .long ((prdF τ (((i).toInt).toNat) (dl τ (((i).toInt).toNat)) (((o).toInt).toNat) ((((τ.2.1 2 (((o).toInt).toNat))).toInt).toNat)) * (prdF τ (((j).toInt).toNat) (dl τ (((j).toInt).toNat)) (((n).toInt).toNat) ((((τ.2.1 2 (((n).toInt).toNat))).toInt).toNat)))), (9, .long ((prdF τ (((i).toInt).toNat) (dl τ (((i).toInt).toNat)) (((j).toInt).toNat) ((((τ.2.1 2 (((j).toInt).toNat))).toInt).toNat)) * (prdF τ (((o).toInt).toNat) (dl τ (((o).toInt).toNat)) (((n).toInt).toNat) ((((τ.2.1 2 (((n).toInt).toNat))).toInt).toNat)))), (8, .ref (q (28 + 3 * ((n).toInt).toNat))), (7, .ref (q (28 + 3 * ((o).toInt).toNat))), (6, .ref (q (28 + 3 * ((j).toInt).toNat))), (5, .ref (q (28 + 3 * ((i).toInt).toNat))), (0, .ref (q 0)), (1, .int i), (2, .int j), (3, .int o), (4, .int n)]) C.1 C.2.1 dX7_four_152 hl (by decide) rfl (fun ls hl => ?_)
                      refine lv_lload C.1 C.2.1 dX7_four_154 (lv_at hl 1 rfl) ?_
                      refine lv_lload C.1 C.2.1 dX7_four_156 (lv_at hl 0 rfl) ?_
                      refine go_i hW (run_S (As := [.long ((prdF τ (((i).toInt).toNat) (dl τ (((i).toInt).toNat)) (((j).toInt).toNat) ((((τ.2.1 2 (((j).toInt).toNat))).toInt).toNat)) * (prdF τ (((o).toInt).toNat) (dl τ (((o).toInt).toNat)) (((n).toInt).toNat) ((((τ.2.1 2 (((n).toInt).toNat))).toInt).toNat))), .long ((prdF τ (((i).toInt).toNat) (dl τ (((i).toInt).toNat)) (((o).toInt).toNat) ((((τ.2.1 2 (((o).toInt).toNat))).toInt).toNat)) * (prdF τ (((j).toInt).toNat) (dl τ (((j).toInt).toNat)) (((n).toInt).toNat) ((((τ.2.1 2 (((n).toInt).toNat))).toInt).toNat)))]) (rest := []) C hW (c_J13_compare_74951 l G q nd _ τ ζ ρ ((prdF τ (((i).toInt).toNat) (dl τ (((i).toInt).toNat)) (((j).toInt).toNat) ((((τ.2.1 2 (((j).toInt).toNat))).toInt).toNat)) * (prdF τ (((o).toInt).toNat) (dl τ (((o).toInt).toNat)) (((n).toInt).toNat) ((((τ.2.1 2 (((n).toInt).toNat))).toInt).toNat))) ((prdF τ (((i).toInt).toNat) (dl τ (((i).toInt).toNat)) (((o).toInt).toNat) ((((τ.2.1 2 (((o).toInt).toNat))).toInt).toNat)) * (prdF τ (((j).toInt).toNat) (dl τ (((j).toInt).toNat)) (((n).toInt).toNat) ((((τ.2.1 2 (((n).toInt).toNat))).toInt).toNat)))  h_nd) (cw_S 2 C bL_X7_143 bS_J13_compare_74951 bN_J13 bC_J13_compare_74951 ⟨rfl, rfl⟩ (by decide +kernel) ⟨Nat.le_of_ble_eq_true rfl, Nat.le_of_ble_eq_true rfl⟩) rfl hl.1 rfl (Nat.le_of_ble_eq_true rfl) dX7_four_158 ⟨Nat.le_refl _, Nat.le_refl _⟩) (fun r_26 u_26 H locs hp_26 hW => ?_)
                      rcases hp_26 with ⟨rfl, rfl, k_26⟩ | ⟨rfl, rfl, k_26⟩ | ⟨rfl, rfl, k_26⟩
                      · skip
                        have hW : WB G (28 + 3 * nd) q (eX G q τ ζ ρ) s H locs := hW
                        have hcmp := k_26
                        subst hQ
                        exact r_iret (τ, ζ, ρ) C hW hr hk dX7_four_161 ⟨(show sp_four τ i j o n = ((-1), τ) from by have hc : (prd τ i.toInt.toNat j.toInt.toNat * prd τ o.toInt.toNat n.toInt.toNat).toInt < (prd τ i.toInt.toNat o.toInt.toNat * prd τ j.toInt.toNat n.toInt.toNat).toInt := hcmp; unfold sp_four; rw [if_pos (by omega)]; exact congrArg (fun v => (v, τ)) ((sgn_d (four_b (τ := τ) h_g (by omega) (by omega) (by omega) (by omega)) (four_b (τ := τ) h_g (by omega) (by omega) (by omega) (by omega))).trans (by rw [if_neg (Int.not_lt.mpr (Int.le_of_lt hc)), if_pos hc]))), (XZ_eq h_z rfl rfl rfl rfl rfl rfl rfl rfl rfl rfl rfl rfl rfl rfl rfl rfl rfl rfl rfl)⟩
                      · skip
                        have hW : WB G (28 + 3 * nd) q (eX G q τ ζ ρ) s H locs := hW
                        have hcmp := k_26
                        subst hQ
                        exact r_iret (τ, ζ, ρ) C hW hr hk dX7_four_161 ⟨(show sp_four τ i j o n = (0, τ) from by have hc : (prd τ i.toInt.toNat j.toInt.toNat * prd τ o.toInt.toNat n.toInt.toNat).toInt = (prd τ i.toInt.toNat o.toInt.toNat * prd τ j.toInt.toNat n.toInt.toNat).toInt := hcmp; unfold sp_four; rw [if_pos (by omega)]; exact congrArg (fun v => (v, τ)) ((sgn_d (four_b (τ := τ) h_g (by omega) (by omega) (by omega) (by omega)) (four_b (τ := τ) h_g (by omega) (by omega) (by omega) (by omega))).trans (by rw [if_neg (Int.not_lt.mpr (Int.le_of_eq hc)), if_neg (Int.not_lt.mpr (Int.le_of_eq hc.symm))]))), (XZ_eq h_z rfl rfl rfl rfl rfl rfl rfl rfl rfl rfl rfl rfl rfl rfl rfl rfl rfl rfl rfl)⟩
                      · skip
                        have hW : WB G (28 + 3 * nd) q (eX G q τ ζ ρ) s H locs := hW
                        have hcmp := k_26
                        subst hQ
                        exact r_iret (τ, ζ, ρ) C hW hr hk dX7_four_161 ⟨(show sp_four τ i j o n = (1, τ) from by have hc : (prd τ i.toInt.toNat o.toInt.toNat * prd τ j.toInt.toNat n.toInt.toNat).toInt < (prd τ i.toInt.toNat j.toInt.toNat * prd τ o.toInt.toNat n.toInt.toNat).toInt := hcmp; unfold sp_four; rw [if_pos (by omega)]; exact congrArg (fun v => (v, τ)) ((sgn_d (four_b (τ := τ) h_g (by omega) (by omega) (by omega) (by omega)) (four_b (τ := τ) h_g (by omega) (by omega) (by omega) (by omega))).trans (by rw [if_pos hc]))), (XZ_eq h_z rfl rfl rfl rfl rfl rfl rfl rfl rfl rfl rfl rfl rfl rfl rfl rfl rfl rfl rfl)⟩
                    · skip
                      have k_21 := (tc_eq (rfl : (o).toInt = (o).toInt) (rfl : (n).toInt = (n).toInt)).mp c_21
                      refine lv_bipush C.1 C.2.1 (v := (-2)) dX7_four_97 (by decide) ?_
                      subst hQ
                      exact r_iret (τ, ζ, ρ) C hW hr hk dX7_four_99 ⟨(show sp_four τ i j o n = ((-2), τ) from by unfold sp_four; (repeat (first | rw [if_pos (by omega)] | rw [if_neg (by omega)])); first | done | rfl), (XZ_eq h_z rfl rfl rfl rfl rfl rfl rfl rfl rfl rfl rfl rfl rfl rfl rfl rfl rfl rfl rfl)⟩
set_option maxHeartbeats 4000000 in
set_option maxRecDepth 100000 in
theorem c_X7_copy (l : Launch) (G : GG) (q : Nat → Nat) (nd sz : Nat) (τ ζ : ST) (ρ : RF) (d : Int32) (i : Int32) (e2 : Int32) (j : Int32) (n : Int32) (h_nd : nd ≤ 6) (h_z : XZ q nd τ ζ ρ) (h_s : ∀ d : Nat, d < 6 → 0 ≤ (τ.2.1 6 d).toInt ∧ (τ.2.1 6 d).toInt ≤ 100) : Met l yX7_copy (WSb yX7_copy cX7_copy 8 (some .int)) (rmA 1 22) (va_Pc [.ref (q 0), .int d, .int i, .int e2, .int j, .int n] (PW G (28 + 3 * nd) q sz (eX G q τ ζ ρ))) (va_Qi (fun (r : Int32) (u : (ST × ST × RF)) => sp_copy τ d i e2 j n = (r, u.1) ∧ XZ q nd u.1 u.2.1 u.2.2) (fun u => BW G (28 + 3 * nd) q (eX G q u.1 u.2.1 u.2.2)) (FA (28 + 3 * nd) q sz)) 0 0 (FA (28 + 3 * nd) q sz) := by
  refine Met_B (own := RX7) rfl (by decide) (Nat.le_of_ble_eq_true rfl) (fun p e s m args below meth c ls hsz C hW hr hk hl QQ hQ => ?_)
  subst hsz
  have hl : lv_has ls 8 [(0, .ref (q 0)), (1, .int d), (2, .int i), (3, .int e2), (4, .int j), (5, .int n)] := hl
  have h_n : (τ.1 0).toInt = (nd : Int) := h_z.1
  have h_r := h_z.2.1
  refine lv_aload_n C.1 C.2.1 dX7_copy_0 rfl (lv_at hl 0 rfl) ?_
  refine xG_DishHouse_row C hW bF_X7_12 dX7_copy_1 ?_
  refine lv_iload_n C.1 C.2.1 dX7_copy_4 rfl (lv_at hl 1 rfl) ?_
  refine go_q hW (run_V (o := 1) (As := [.int d]) (rest := []) C hW (by omega) rfl rfl (c_X4_find l G q nd _ τ ζ ρ d  h_nd h_n h_r) (cw_V 1 C bL_X7_59 bI_X4_find bV_X4_find bN_X4 bC_X4_find ⟨rfl, rfl⟩ (by decide +kernel) ⟨Nat.le_of_ble_eq_true rfl, Nat.le_of_ble_eq_true rfl⟩) rfl hl.1 rfl (Nat.le_of_ble_eq_true rfl) dX7_copy_5 ⟨Nat.le_refl _, Nat.le_refl _⟩) (fun r_1 u_1 H locs hp_1 hW => ?_)
  rcases hp_1 with ⟨rfl, rfl, k_1⟩ | ⟨rfl, rfl, k_1_0, k_1_1⟩
  · skip
    have hW : WB G (28 + 3 * nd) q (eX G q τ ζ ρ) s H locs := hW
    refine lv_astoreN (lv' := [(6, .null), (0, .ref (q 0)), (1, .int d), (2, .int i), (3, .int e2), (4, .int j), (5, .int n)]) C.1 C.2.1 dX7_copy_8 hl (by decide) rfl (fun ls hl => ?_)
    refine lv_aload_n C.1 C.2.1 dX7_copy_10 rfl (lv_at hl 1 rfl) ?_
    refine xG_DishHouse_row C hW bF_X7_12 dX7_copy_11 ?_
    refine lv_iload_n C.1 C.2.1 dX7_copy_14 rfl (lv_at hl 4 rfl) ?_
    refine go_q hW (run_V (o := 1) (As := [.int e2]) (rest := []) C hW (by omega) rfl rfl (c_X4_find l G q nd _ τ ζ ρ e2  h_nd h_n h_r) (cw_V 1 C bL_X7_59 bI_X4_find bV_X4_find bN_X4 bC_X4_find ⟨rfl, rfl⟩ (by decide +kernel) ⟨Nat.le_of_ble_eq_true rfl, Nat.le_of_ble_eq_true rfl⟩) rfl hl.1 rfl (Nat.le_of_ble_eq_true rfl) dX7_copy_15 ⟨Nat.le_refl _, Nat.le_refl _⟩) (fun r_2 u_2 H locs hp_2 hW => ?_)
    rcases hp_2 with ⟨rfl, rfl, k_2⟩ | ⟨rfl, rfl, k_2_0, k_2_1⟩
    · skip
      have hW : WB G (28 + 3 * nd) q (eX G q τ ζ ρ) s H locs := hW
      refine lv_astoreN (lv' := [(7, .null), (6, .null), (0, .ref (q 0)), (1, .int d), (2, .int i), (3, .int e2), (4, .int j), (5, .int n)]) C.1 C.2.1 dX7_copy_18 hl (by decide) rfl (fun ls hl => ?_)
      refine lv_aloadN C.1 C.2.1 dX7_copy_20 (lv_at hl 1 rfl) ?_
      refine lv_ifnullN C.1 C.2.1 (tgt := 30) dX7_copy_22 (by decide) ?_
      refine lv_bipush C.1 C.2.1 (v := (-2)) dX7_copy_30 (by decide) ?_
      subst hQ
      exact r_iret (τ, ζ, ρ) C hW hr hk dX7_copy_32 ⟨(show sp_copy τ d i e2 j n = ((-2), τ) from by unfold sp_copy; (repeat (first | rw [if_pos (by omega)] | rw [if_neg (by omega)])); first | done | rfl), (XZ_eq h_z rfl rfl rfl rfl rfl rfl rfl rfl rfl rfl rfl rfl rfl rfl rfl rfl rfl rfl rfl)⟩
    · skip
      have hW : WB G (28 + 3 * nd) q (eX G q τ ζ ρ) s H locs := hW
      have hlen2 := XZ_len h_z (z := e2.toInt.toNat) (by omega)
      have hsz2 := h_s e2.toInt.toNat (by omega)
      refine lv_astore (lv' := [(7, .ref (q (28 + 3 * ((e2).toInt).toNat))), (6, .null), (0, .ref (q 0)), (1, .int d), (2, .int i), (3, .int e2), (4, .int j), (5, .int n)]) C.1 C.2.1 dX7_copy_18 hl (by decide) rfl (fun ls hl => ?_)
      refine lv_aloadN C.1 C.2.1 dX7_copy_20 (lv_at hl 1 rfl) ?_
      refine lv_ifnullN C.1 C.2.1 (tgt := 30) dX7_copy_22 (by decide) ?_
      refine lv_bipush C.1 C.2.1 (v := (-2)) dX7_copy_30 (by decide) ?_
      subst hQ
      exact r_iret (τ, ζ, ρ) C hW hr hk dX7_copy_32 ⟨(show sp_copy τ d i e2 j n = ((-2), τ) from by unfold sp_copy; (repeat (first | rw [if_pos (by omega)] | rw [if_neg (by omega)])); first | done | rfl), (XZ_eq h_z rfl rfl rfl rfl rfl rfl rfl rfl rfl rfl rfl rfl rfl rfl rfl rfl rfl rfl rfl)⟩
  · skip
    have hW : WB G (28 + 3 * nd) q (eX G q τ ζ ρ) s H locs := hW
    have hlen := XZ_len h_z (z := d.toInt.toNat) (by omega)
    have hsz := h_s d.toInt.toNat (by omega)
    refine lv_astore (lv' := [(6, .ref (q (28 + 3 * ((d).toInt).toNat))), (0, .ref (q 0)), (1, .int d), (2, .int i), (3, .int e2), (4, .int j), (5, .int n)]) C.1 C.2.1 dX7_copy_8 hl (by decide) rfl (fun ls hl => ?_)
    refine lv_aload_n C.1 C.2.1 dX7_copy_10 rfl (lv_at hl 1 rfl) ?_
    refine xG_DishHouse_row C hW bF_X7_12 dX7_copy_11 ?_
    refine lv_iload_n C.1 C.2.1 dX7_copy_14 rfl (lv_at hl 4 rfl) ?_
    refine go_q hW (run_V (o := 1) (As := [.int e2]) (rest := []) C hW (by omega) rfl rfl (c_X4_find l G q nd _ τ ζ ρ e2  h_nd h_n h_r) (cw_V 1 C bL_X7_59 bI_X4_find bV_X4_find bN_X4 bC_X4_find ⟨rfl, rfl⟩ (by decide +kernel) ⟨Nat.le_of_ble_eq_true rfl, Nat.le_of_ble_eq_true rfl⟩) rfl hl.1 rfl (Nat.le_of_ble_eq_true rfl) dX7_copy_15 ⟨Nat.le_refl _, Nat.le_refl _⟩) (fun r_3 u_3 H locs hp_3 hW => ?_)
    rcases hp_3 with ⟨rfl, rfl, k_3⟩ | ⟨rfl, rfl, k_3_0, k_3_1⟩
    · skip
      have hW : WB G (28 + 3 * nd) q (eX G q τ ζ ρ) s H locs := hW
      refine lv_astoreN (lv' := [(7, .null), (6, .ref (q (28 + 3 * ((d).toInt).toNat))), (0, .ref (q 0)), (1, .int d), (2, .int i), (3, .int e2), (4, .int j), (5, .int n)]) C.1 C.2.1 dX7_copy_18 hl (by decide) rfl (fun ls hl => ?_)
      refine lv_aload C.1 C.2.1 dX7_copy_20 (lv_at hl 1 rfl) ?_
      refine lv_ifnull C.1 C.2.1 dX7_copy_22 ?_
      refine lv_aloadN C.1 C.2.1 dX7_copy_25 (lv_at hl 0 rfl) ?_
      refine lv_ifnonnullN C.1 C.2.1 dX7_copy_27 ?_
      refine lv_bipush C.1 C.2.1 (v := (-2)) dX7_copy_30 (by decide) ?_
      subst hQ
      exact r_iret (τ, ζ, ρ) C hW hr hk dX7_copy_32 ⟨(show sp_copy τ d i e2 j n = ((-2), τ) from by unfold sp_copy; (repeat (first | rw [if_pos (by omega)] | rw [if_neg (by omega)])); first | done | rfl), (XZ_eq h_z rfl rfl rfl rfl rfl rfl rfl rfl rfl rfl rfl rfl rfl rfl rfl rfl rfl rfl rfl)⟩
    · skip
      have hW : WB G (28 + 3 * nd) q (eX G q τ ζ ρ) s H locs := hW
      have hlen2 := XZ_len h_z (z := e2.toInt.toNat) (by omega)
      have hsz2 := h_s e2.toInt.toNat (by omega)
      refine lv_astore (lv' := [(7, .ref (q (28 + 3 * ((e2).toInt).toNat))), (6, .ref (q (28 + 3 * ((d).toInt).toNat))), (0, .ref (q 0)), (1, .int d), (2, .int i), (3, .int e2), (4, .int j), (5, .int n)]) C.1 C.2.1 dX7_copy_18 hl (by decide) rfl (fun ls hl => ?_)
      refine lv_aload C.1 C.2.1 dX7_copy_20 (lv_at hl 1 rfl) ?_
      refine lv_ifnull C.1 C.2.1 dX7_copy_22 ?_
      refine lv_aload C.1 C.2.1 dX7_copy_25 (lv_at hl 0 rfl) ?_
      refine lv_ifnonnull C.1 C.2.1 (tgt := 33) dX7_copy_27 (by decide) ?_
      refine lv_aload C.1 C.2.1 dX7_copy_33 (lv_at hl 1 rfl) ?_
      refine go_i hW (run_V (o := 28 + 3 * (((d).toInt).toNat)) (As := []) (rest := []) C hW (by omega) (eX_obj _ _ _ _ _ (((d).toInt).toNat)) rfl (c_X1_isLost l G q nd _ τ ζ ρ  (((d).toInt).toNat) h_nd (by omega)) (cw_V 0 C bL_X7_84 bI_X1_isLost bV_X1_isLost bN_X1 bC_X1_isLost ⟨rfl, rfl⟩ (by decide +kernel) ⟨Nat.le_of_ble_eq_true rfl, Nat.le_of_ble_eq_true rfl⟩) rfl hl.1 rfl (Nat.le_of_ble_eq_true rfl) dX7_copy_35 ⟨Nat.le_refl _, Nat.le_refl _⟩) (fun r_4 u_4 H locs hp_4 hW => ?_)
      rcases hp_4 with ⟨rfl, rfl, k_4⟩ | ⟨rfl, rfl, k_4⟩
      · skip
        have hW : WB G (28 + 3 * nd) q (eX G q τ ζ ρ) s H locs := hW
        refine lv_if_ne C.1 C.2.1 (tgt := 49) dX7_copy_38 (by decide) (fun _ => ?_) (fun c => absurd c (by decide))
        refine lv_aload_n C.1 C.2.1 dX7_copy_49 rfl (lv_at hl 2 rfl) ?_
        refine lv_iconst C.1 C.2.1 (v := 1) dX7_copy_50 (by decide) ?_
        refine go_i hW (run_V (o := 0) (As := [.int 1]) (rest := []) C hW (by omega) rfl rfl (c_X7_foundOut l G q nd _ τ ζ ρ 1  h_nd) (cw_V 1 C bL_X7_76 bI_X7_foundOut bV_X7_foundOut bN_X7 bC_X7_foundOut ⟨rfl, rfl⟩ (by decide +kernel) ⟨Nat.le_of_ble_eq_true rfl, Nat.le_of_ble_eq_true rfl⟩) rfl hl.1 rfl (Nat.le_of_ble_eq_true rfl) dX7_copy_51 ⟨Nat.le_refl _, Nat.le_refl _⟩) (fun r_6 u_6 H locs hp_6 hW => ?_)
        rcases hp_6 with ⟨rfl, rfl⟩
        have hW : WB G (28 + 3 * nd) q (eX G q (sg τ 1 1) ζ ρ) s H locs := hW
        subst hQ
        exact r_iret ((sg τ 1 1), ζ, ρ) C hW hr hk dX7_copy_54 ⟨(show sp_copy τ d i e2 j n = (((-10 - 1)), (sg τ 1 1)) from by unfold sp_copy; (repeat (first | rw [if_pos (by omega)] | rw [if_neg (by omega)])); first | done | rfl), (XZ_eq h_z rfl rfl rfl rfl rfl rfl rfl rfl rfl rfl rfl rfl rfl rfl rfl rfl rfl rfl rfl)⟩
      · skip
        have hW : WB G (28 + 3 * nd) q (eX G q τ ζ ρ) s H locs := hW
        refine lv_if_ne C.1 C.2.1 (tgt := 49) dX7_copy_38 (by decide) (fun c => absurd c (by decide)) (fun _ => ?_)
        refine lv_aload C.1 C.2.1 dX7_copy_41 (lv_at hl 0 rfl) ?_
        refine go_i hW (run_V (o := 28 + 3 * (((e2).toInt).toNat)) (As := []) (rest := []) C hW (by omega) (eX_obj _ _ _ _ _ (((e2).toInt).toNat)) rfl (c_X1_isLost l G q nd _ τ ζ ρ  (((e2).toInt).toNat) h_nd (by omega)) (cw_V 0 C bL_X7_84 bI_X1_isLost bV_X1_isLost bN_X1 bC_X1_isLost ⟨rfl, rfl⟩ (by decide +kernel) ⟨Nat.le_of_ble_eq_true rfl, Nat.le_of_ble_eq_true rfl⟩) rfl hl.1 rfl (Nat.le_of_ble_eq_true rfl) dX7_copy_43 ⟨Nat.le_refl _, Nat.le_refl _⟩) (fun r_8 u_8 H locs hp_8 hW => ?_)
        rcases hp_8 with ⟨rfl, rfl, k_8⟩ | ⟨rfl, rfl, k_8⟩
        · skip
          have hW : WB G (28 + 3 * nd) q (eX G q τ ζ ρ) s H locs := hW
          refine lv_if_eq C.1 C.2.1 (tgt := 55) dX7_copy_46 (by decide) (fun c => absurd c (by decide)) (fun _ => ?_)
          refine lv_aload_n C.1 C.2.1 dX7_copy_49 rfl (lv_at hl 2 rfl) ?_
          refine lv_iconst C.1 C.2.1 (v := 1) dX7_copy_50 (by decide) ?_
          refine go_i hW (run_V (o := 0) (As := [.int 1]) (rest := []) C hW (by omega) rfl rfl (c_X7_foundOut l G q nd _ τ ζ ρ 1  h_nd) (cw_V 1 C bL_X7_76 bI_X7_foundOut bV_X7_foundOut bN_X7 bC_X7_foundOut ⟨rfl, rfl⟩ (by decide +kernel) ⟨Nat.le_of_ble_eq_true rfl, Nat.le_of_ble_eq_true rfl⟩) rfl hl.1 rfl (Nat.le_of_ble_eq_true rfl) dX7_copy_51 ⟨Nat.le_refl _, Nat.le_refl _⟩) (fun r_10 u_10 H locs hp_10 hW => ?_)
          rcases hp_10 with ⟨rfl, rfl⟩
          have hW : WB G (28 + 3 * nd) q (eX G q (sg τ 1 1) ζ ρ) s H locs := hW
          subst hQ
          exact r_iret ((sg τ 1 1), ζ, ρ) C hW hr hk dX7_copy_54 ⟨(show sp_copy τ d i e2 j n = (((-10 - 1)), (sg τ 1 1)) from by unfold sp_copy; (repeat (first | rw [if_pos (by omega)] | rw [if_neg (by omega)])); first | done | rfl), (XZ_eq h_z rfl rfl rfl rfl rfl rfl rfl rfl rfl rfl rfl rfl rfl rfl rfl rfl rfl rfl rfl)⟩
        · skip
          have hW : WB G (28 + 3 * nd) q (eX G q τ ζ ρ) s H locs := hW
          refine lv_if_eq C.1 C.2.1 (tgt := 55) dX7_copy_46 (by decide) (fun _ => ?_) (fun c => absurd c (by decide))
          refine lv_aload C.1 C.2.1 dX7_copy_55 (lv_at hl 1 rfl) ?_
          refine xG_Dish_form C hW (((d).toInt).toNat) (by omega) bF_X7_101 (v := (τ.2.1 5 (((d).toInt).toNat))) rfl dX7_copy_57 ?_
          refine lv_aload C.1 C.2.1 dX7_copy_60 (lv_at hl 0 rfl) ?_
          refine xG_Dish_form C hW (((e2).toInt).toNat) (by omega) bF_X7_101 (v := (τ.2.1 5 (((e2).toInt).toNat))) rfl dX7_copy_62 ?_
          refine lv_icmp_eq C.1 C.2.1 (tgt := 74) dX7_copy_65 (by decide) (fun c_12 => ?_) (fun c_12 => ?_)
          · skip
            have k_12 := (tc_eq (rfl : ((τ.2.1 5 (((d).toInt).toNat))).toInt = ((τ.2.1 5 (((d).toInt).toNat))).toInt) (rfl : ((τ.2.1 5 (((e2).toInt).toNat))).toInt = ((τ.2.1 5 (((e2).toInt).toNat))).toInt)).mp c_12
            refine lv_aload C.1 C.2.1 dX7_copy_74 (lv_at hl 1 rfl) ?_
            refine lv_iload_n C.1 C.2.1 dX7_copy_76 rfl (lv_at hl 4 rfl) ?_
            refine lv_iload C.1 C.2.1 dX7_copy_77 (lv_at hl 7 rfl) ?_
            refine go_i hW (run_V (o := 28 + 3 * (((d).toInt).toNat)) (As := [.int i, .int n]) (rest := []) C hW (by omega) (eX_obj _ _ _ _ _ (((d).toInt).toNat)) rfl (c_X1_hasSpan l G q nd _ τ ζ ρ i n (((d).toInt).toNat) h_nd (by omega)) (cw_V 2 C bL_X7_104 bI_X1_hasSpan bV_X1_hasSpan bN_X1 bC_X1_hasSpan ⟨rfl, rfl⟩ (by decide +kernel) ⟨Nat.le_of_ble_eq_true rfl, Nat.le_of_ble_eq_true rfl⟩) rfl hl.1 rfl (Nat.le_of_ble_eq_true rfl) dX7_copy_79 ⟨Nat.le_refl _, Nat.le_refl _⟩) (fun r_13 u_13 H locs hp_13 hW => ?_)
            rcases hp_13 with ⟨rfl, rfl, k_13_0, k_13_1, k_13_2⟩ | ⟨rfl, rfl, k_13⟩
            · skip
              have hW : WB G (28 + 3 * nd) q (eX G q τ ζ ρ) s H locs := hW
              refine lv_if_eq C.1 C.2.1 (tgt := 97) dX7_copy_82 (by decide) (fun c => absurd c (by decide)) (fun _ => ?_)
              refine lv_aload C.1 C.2.1 dX7_copy_85 (lv_at hl 0 rfl) ?_
              refine lv_iload C.1 C.2.1 dX7_copy_87 (lv_at hl 6 rfl) ?_
              refine lv_iload C.1 C.2.1 dX7_copy_89 (lv_at hl 7 rfl) ?_
              refine go_i hW (run_V (o := 28 + 3 * (((e2).toInt).toNat)) (As := [.int j, .int n]) (rest := []) C hW (by omega) (eX_obj _ _ _ _ _ (((e2).toInt).toNat)) rfl (c_X1_hasSpan l G q nd _ τ ζ ρ j n (((e2).toInt).toNat) h_nd (by omega)) (cw_V 2 C bL_X7_104 bI_X1_hasSpan bV_X1_hasSpan bN_X1 bC_X1_hasSpan ⟨rfl, rfl⟩ (by decide +kernel) ⟨Nat.le_of_ble_eq_true rfl, Nat.le_of_ble_eq_true rfl⟩) rfl hl.1 rfl (Nat.le_of_ble_eq_true rfl) dX7_copy_91 ⟨Nat.le_refl _, Nat.le_refl _⟩) (fun r_15 u_15 H locs hp_15 hW => ?_)
              rcases hp_15 with ⟨rfl, rfl, k_15_0, k_15_1, k_15_2⟩ | ⟨rfl, rfl, k_15⟩
              · skip
                have hW : WB G (28 + 3 * nd) q (eX G q τ ζ ρ) s H locs := hW
                refine lv_if_ne C.1 C.2.1 (tgt := 103) dX7_copy_94 (by decide) (fun _ => ?_) (fun c => absurd c (by decide))
                refine lv_aload C.1 C.2.1 dX7_copy_103 (lv_at hl 1 rfl) ?_
                refine xG_Dish_items C hW (((d).toInt).toNat) (by omega) bF_X7_108 dX7_copy_105 ?_
                refine lv_iload_n C.1 C.2.1 dX7_copy_108 rfl (lv_at hl 4 rfl) ?_
                refine lv_aload C.1 C.2.1 dX7_copy_109 (lv_at hl 0 rfl) ?_
                refine xG_Dish_items C hW (((e2).toInt).toNat) (by omega) bF_X7_108 dX7_copy_111 ?_
                refine lv_iload C.1 C.2.1 dX7_copy_114 (lv_at hl 6 rfl) ?_
                refine lv_iload C.1 C.2.1 dX7_copy_116 (lv_at hl 7 rfl) ?_
                have e_i : i.toInt = ((i.toInt.toNat : Nat) : Int) := by omega
                have e_j : j.toInt = ((j.toInt.toNat : Nat) : Int) := by omega
                have e_n : n.toInt = ((n.toInt.toNat : Nat) : Int) := by omega
                have l_1 : i.toInt.toNat + n.toInt.toNat ≤ 100 := by omega
                have l_2 : j.toInt.toNat + n.toInt.toNat ≤ 100 := by omega
                refine r_cpy (rest := []) (o := 29 + 3 * d.toInt.toNat) (o2 := 29 + 3 * e2.toInt.toNat) C hl.1 hW (by omega) (eX_it G q τ ζ ρ d.toInt.toNat) (by omega) (eX_it G q τ ζ ρ e2.toInt.toNat) e_i e_j e_n l_1 l_2 bL_X7_112 (Nat.le_of_ble_eq_true rfl) (Nat.le_of_ble_eq_true rfl) dX7_copy_118 (E' := eX G q (saF τ 7 (va_cpy (τ.2.1 7) (τ.2.1 7) (100 * d.toInt.toNat + i.toInt.toNat) (100 * e2.toInt.toNat + j.toInt.toNat) n.toInt.toNat)) ζ ρ) (eX_putI (dIt_cpy τ d.toInt.toNat e2.toInt.toNat l_1 l_2) (fun k hk => match k, hk with | 0, _ => rfl | 1, _ => rfl | 2, _ => rfl | 3, _ => rfl | 4, _ => rfl | 5, _ => rfl | 6, _ => rfl | 7, _ => rfl | 8, _ => rfl | 9, _ => rfl | 10, _ => rfl | 11, _ => rfl | 12, _ => rfl | 13, _ => rfl | 14, _ => rfl | 15, _ => rfl | 16, _ => rfl | 17, _ => rfl | 18, _ => rfl | 19, _ => rfl | 20, _ => rfl | 21, _ => rfl | 22, _ => rfl | 23, _ => rfl | 24, _ => rfl | 25, _ => rfl | 26, _ => rfl | 27, _ => rfl | k + 28, hk => absurd hk (by omega)) rfl (fun z hz _ => dIt_cpo τ d.toInt.toNat e2.toInt.toNat z l_2 hz) rfl (by omega)) (fun H locs hW => ?_)
                refine lv_iconst C.1 C.2.1 (v := 1) dX7_copy_121 (by decide) ?_
                subst hQ
                exact r_iret ((saF τ 7 (va_cpy (τ.2.1 7) (τ.2.1 7) (100 * d.toInt.toNat + i.toInt.toNat) (100 * e2.toInt.toNat + j.toInt.toNat) n.toInt.toNat)), ζ, ρ) C hW hr hk dX7_copy_122 ⟨(show sp_copy τ d i e2 j n = (1, (saF τ 7 (va_cpy (τ.2.1 7) (τ.2.1 7) (100 * d.toInt.toNat + i.toInt.toNat) (100 * e2.toInt.toNat + j.toInt.toNat) n.toInt.toNat))) from by unfold sp_copy; (repeat (first | rw [if_pos (by omega)] | rw [if_neg (by omega)])); first | done | rfl), (XZ_eq h_z rfl rfl rfl rfl rfl rfl rfl rfl rfl rfl rfl rfl rfl rfl rfl rfl rfl rfl rfl)⟩
              · skip
                have hW : WB G (28 + 3 * nd) q (eX G q τ ζ ρ) s H locs := hW
                refine lv_if_ne C.1 C.2.1 (tgt := 103) dX7_copy_94 (by decide) (fun c => absurd c (by decide)) (fun _ => ?_)
                refine lv_aload_n C.1 C.2.1 dX7_copy_97 rfl (lv_at hl 2 rfl) ?_
                refine lv_iconst C.1 C.2.1 (v := 2) dX7_copy_98 (by decide) ?_
                refine go_i hW (run_V (o := 0) (As := [.int 2]) (rest := []) C hW (by omega) rfl rfl (c_X7_foundOut l G q nd _ τ ζ ρ 2  h_nd) (cw_V 1 C bL_X7_76 bI_X7_foundOut bV_X7_foundOut bN_X7 bC_X7_foundOut ⟨rfl, rfl⟩ (by decide +kernel) ⟨Nat.le_of_ble_eq_true rfl, Nat.le_of_ble_eq_true rfl⟩) rfl hl.1 rfl (Nat.le_of_ble_eq_true rfl) dX7_copy_99 ⟨Nat.le_refl _, Nat.le_refl _⟩) (fun r_18 u_18 H locs hp_18 hW => ?_)
                rcases hp_18 with ⟨rfl, rfl⟩
                have hW : WB G (28 + 3 * nd) q (eX G q (sg τ 1 2) ζ ρ) s H locs := hW
                subst hQ
                exact r_iret ((sg τ 1 2), ζ, ρ) C hW hr hk dX7_copy_102 ⟨(show sp_copy τ d i e2 j n = (((-10 - 2)), (sg τ 1 2)) from by unfold sp_copy; (repeat (first | rw [if_pos (by omega)] | rw [if_neg (by omega)])); first | done | rfl), (XZ_eq h_z rfl rfl rfl rfl rfl rfl rfl rfl rfl rfl rfl rfl rfl rfl rfl rfl rfl rfl rfl)⟩
            · skip
              have hW : WB G (28 + 3 * nd) q (eX G q τ ζ ρ) s H locs := hW
              refine lv_if_eq C.1 C.2.1 (tgt := 97) dX7_copy_82 (by decide) (fun _ => ?_) (fun c => absurd c (by decide))
              refine lv_aload_n C.1 C.2.1 dX7_copy_97 rfl (lv_at hl 2 rfl) ?_
              refine lv_iconst C.1 C.2.1 (v := 2) dX7_copy_98 (by decide) ?_
              refine go_i hW (run_V (o := 0) (As := [.int 2]) (rest := []) C hW (by omega) rfl rfl (c_X7_foundOut l G q nd _ τ ζ ρ 2  h_nd) (cw_V 1 C bL_X7_76 bI_X7_foundOut bV_X7_foundOut bN_X7 bC_X7_foundOut ⟨rfl, rfl⟩ (by decide +kernel) ⟨Nat.le_of_ble_eq_true rfl, Nat.le_of_ble_eq_true rfl⟩) rfl hl.1 rfl (Nat.le_of_ble_eq_true rfl) dX7_copy_99 ⟨Nat.le_refl _, Nat.le_refl _⟩) (fun r_20 u_20 H locs hp_20 hW => ?_)
              rcases hp_20 with ⟨rfl, rfl⟩
              have hW : WB G (28 + 3 * nd) q (eX G q (sg τ 1 2) ζ ρ) s H locs := hW
              subst hQ
              exact r_iret ((sg τ 1 2), ζ, ρ) C hW hr hk dX7_copy_102 ⟨(show sp_copy τ d i e2 j n = (((-10 - 2)), (sg τ 1 2)) from by unfold sp_copy; (repeat (first | rw [if_pos (by omega)] | rw [if_neg (by omega)])); first | done | rfl), (XZ_eq h_z rfl rfl rfl rfl rfl rfl rfl rfl rfl rfl rfl rfl rfl rfl rfl rfl rfl rfl rfl)⟩
          · skip
            have k_12 := (tn_eq (rfl : ((τ.2.1 5 (((d).toInt).toNat))).toInt = ((τ.2.1 5 (((d).toInt).toNat))).toInt) (rfl : ((τ.2.1 5 (((e2).toInt).toNat))).toInt = ((τ.2.1 5 (((e2).toInt).toNat))).toInt)).mp c_12
            refine lv_aload_n C.1 C.2.1 dX7_copy_68 rfl (lv_at hl 2 rfl) ?_
            refine lv_iconst C.1 C.2.1 (v := 4) dX7_copy_69 (by decide) ?_
            refine go_i hW (run_V (o := 0) (As := [.int 4]) (rest := []) C hW (by omega) rfl rfl (c_X7_foundOut l G q nd _ τ ζ ρ 4  h_nd) (cw_V 1 C bL_X7_76 bI_X7_foundOut bV_X7_foundOut bN_X7 bC_X7_foundOut ⟨rfl, rfl⟩ (by decide +kernel) ⟨Nat.le_of_ble_eq_true rfl, Nat.le_of_ble_eq_true rfl⟩) rfl hl.1 rfl (Nat.le_of_ble_eq_true rfl) dX7_copy_70 ⟨Nat.le_refl _, Nat.le_refl _⟩) (fun r_21 u_21 H locs hp_21 hW => ?_)
            rcases hp_21 with ⟨rfl, rfl⟩
            have hW : WB G (28 + 3 * nd) q (eX G q (sg τ 1 4) ζ ρ) s H locs := hW
            subst hQ
            exact r_iret ((sg τ 1 4), ζ, ρ) C hW hr hk dX7_copy_73 ⟨(show sp_copy τ d i e2 j n = (((-10 - 4)), (sg τ 1 4)) from by unfold sp_copy; (repeat (first | rw [if_pos (by omega)] | rw [if_neg (by omega)])); first | done | rfl), (XZ_eq h_z rfl rfl rfl rfl rfl rfl rfl rfl rfl rfl rfl rfl rfl rfl rfl rfl rfl rfl rfl)⟩
set_option maxHeartbeats 4000000 in
set_option maxRecDepth 100000 in
theorem c_X7_digest (l : Launch) (G : GG) (q : Nat → Nat) (nd sz : Nat) (τ ζ : ST) (ρ : RF) (h_nd : nd ≤ 6) (h_z : XZ q nd τ ζ ρ) (h_f : 0 ≤ (τ.1 2).toInt ∧ (τ.1 2).toInt ≤ 40) (h_s : ∀ d : Nat, d < 6 → 0 ≤ (τ.2.1 6 d).toInt ∧ (τ.2.1 6 d).toInt ≤ 100) (h_l : ∀ d : Nat, d < 6 → 0 ≤ (τ.2.1 2 d).toInt ∧ (τ.2.1 2 d).toInt ≤ 30) : Met l yX7_digest (WSb yX7_digest cX7_digest 5 (some .long)) (rmA 5 114) (va_Pc [.ref (q 0)] (PW G (28 + 3 * nd) q sz (eX G q τ ζ ρ))) (va_Ql (fun (r : Int64) (u : (ST × ST × RF)) => sp_digest τ = (r, u.1) ∧ XZ q nd u.1 u.2.1 u.2.2) (fun u => BW G (28 + 3 * nd) q (eX G q u.1 u.2.1 u.2.2)) (FA (28 + 3 * nd) q sz)) 0 0 (FA (28 + 3 * nd) q sz) := by
  refine Met_B (own := RX7) rfl (by decide) (Nat.le_of_ble_eq_true rfl) (fun p e s m args below meth c ls hsz C hW hr hk hl QQ hQ => ?_)
  subst hsz
  have hl : lv_has ls 5 [(0, .ref (q 0))] := hl
  have h_n : (τ.1 0).toInt = (nd : Int) := h_z.1
  have h_r := h_z.2.1
  refine lv_ldc2 C.1 C.2.1 C.2.2.2.1 (C.2.2.2.2.1 _ bQ_X7_251) dX7_digest_0 ?_
  refine lv_lstore_n (lv' := [(1, .long 17), (0, .ref (q 0))]) C.1 C.2.1 dX7_digest_3 rfl hl (by decide) rfl (fun ls hl => ?_)
  refine lv_iconst C.1 C.2.1 (v := 0) dX7_digest_4 (by decide) ?_
  refine lv_istore_n (lv' := [(3, .int 0), (1, .long 17), (0, .ref (q 0))]) C.1 C.2.1 dX7_digest_5 rfl hl (by decide) rfl (fun ls hl => ?_)
  have L_6_1 : ∀ (fuel : Nat) (k : Nat) (x1 : Int64) (x3 : Int32) (ζ1 : ST) (ρ1 : RF), 6 - k < fuel → (x3.toInt = (k : Int)) → (k ≤ 6) → (x1 = dg0 τ k) → (XZ q nd τ ζ1 ρ1) → ∀ (H : Heap) (locs : List Loc) (ls : Array Slot), WB G (28 + 3 * nd) q (eX G q τ ζ1 ρ1) s H locs → lv_has ls 5 [(3, .int x3), (1, .long x1), (0, .ref (q 0))] → W p l e (rmA 5 114) s m args below meth c H locs 0 0 QQ (F0 m 6 ls []) := by
    intro fuel; induction fuel with
    | zero => intro k x1 x3 ζ1 ρ1 hf; exact absurd hf (Nat.not_lt_zero _)
    | succ fuel ih_6 =>
      intro k x1 x3 ζ1 ρ1 hf hk3 hkl hh h_z1 H locs ls hW hl
      refine lv_iload_n C.1 C.2.1 dX7_digest_6 rfl (lv_at hl 0 rfl) ?_
      refine lv_iconst C.1 C.2.1 (v := 5) dX7_digest_7 (by decide) ?_
      refine lv_icmp_gt C.1 C.2.1 (tgt := 30) dX7_digest_8 (by decide) (fun c_2 => ?_) (fun c_2 => ?_)
      · skip
        have k_2 := (tc_lt (show (5 : Int32).toInt = 5 from by decide) hk3).mp c_2
        refine lv_iconst C.1 C.2.1 (v := 0) dX7_digest_30 (by decide) ?_
        refine lv_istore_n (lv' := [(3, .int 0), (1, .long x1), (0, .ref (q 0))]) C.1 C.2.1 dX7_digest_31 rfl hl (by decide) rfl (fun ls hl => ?_)
        have L_32_3 : ∀ (fuel : Nat) (i : Nat) (x5 : Int64) (x6 : Int32) (ζ2 : ST) (ρ2 : RF), (τ.1 0).toInt.toNat - i < fuel → (x6.toInt = (i : Int)) → (i ≤ (τ.1 0).toInt.toNat) → (x5 = dgP τ (τ.1 0).toInt.toNat (dg0 τ 6) i) → (XZ q nd τ ζ2 ρ2) → ∀ (H : Heap) (locs : List Loc) (ls : Array Slot), WB G (28 + 3 * nd) q (eX G q τ ζ2 ρ2) s H locs → lv_has ls 5 [(3, .int x6), (1, .long x5), (0, .ref (q 0))] → W p l e (rmA 5 114) s m args below meth c H locs 0 0 QQ (F0 m 32 ls []) := by
          intro fuel; induction fuel with
          | zero => intro i x5 x6 ζ2 ρ2 hf; exact absurd hf (Nat.not_lt_zero _)
          | succ fuel ih_32 =>
            intro i x5 x6 ζ2 ρ2 hf hi hil hh2 h_z2 H locs ls hW hl
            refine lv_iload_n C.1 C.2.1 dX7_digest_32 rfl (lv_at hl 0 rfl) ?_
            refine lv_aload_n C.1 C.2.1 dX7_digest_33 rfl (lv_at hl 2 rfl) ?_
            refine xG_DishHouse_row C hW bF_X7_12 dX7_digest_34 ?_
            refine xG_Row_size C hW bF_X7_244 (v := (τ.1 0)) rfl dX7_digest_37 ?_
            refine lv_icmp_ge C.1 C.2.1 (tgt := 101) dX7_digest_40 (by decide) (fun c_4 => ?_) (fun c_4 => ?_)
            · skip
              have k_4 := (tc_le (rfl : ((τ.1 0)).toInt = ((τ.1 0)).toInt) hi).mp c_4
              refine lv_iconst C.1 C.2.1 (v := 0) dX7_digest_101 (by decide) ?_
              refine lv_istore_n (lv' := [(3, .int 0), (1, .long x5), (0, .ref (q 0))]) C.1 C.2.1 dX7_digest_102 rfl hl (by decide) rfl (fun ls hl => ?_)
              have L_103_5 : ∀ (fuel : Nat) (z : Nat) (x9 : Int64) (x10 : Int32), 256 - z < fuel → (x10.toInt = (z : Int)) → (z ≤ 256) → (x9 = dgC (τ.2.2 0) (dgP τ (τ.1 0).toInt.toNat (dg0 τ 6) (τ.1 0).toInt.toNat) z) → ∀ (H : Heap) (locs : List Loc) (ls : Array Slot), WB G (28 + 3 * nd) q (eX G q τ ζ2 ρ2) s H locs → lv_has ls 5 [(3, .int x10), (1, .long x9), (0, .ref (q 0))] → W p l e (rmA 5 114) s m args below meth c H locs 0 0 QQ (F0 m 103 ls []) := by
                intro fuel; induction fuel with
                | zero => intro z x9 x10 hf; exact absurd hf (Nat.not_lt_zero _)
                | succ fuel ih_103 =>
                  intro z x9 x10 hf hz hzl hh4 H locs ls hW hl
                  refine lv_iload_n C.1 C.2.1 dX7_digest_103 rfl (lv_at hl 0 rfl) ?_
                  refine lv_sipush C.1 C.2.1 (v := 256) dX7_digest_104 (by decide) ?_
                  refine lv_icmp_ge C.1 C.2.1 (tgt := 132) dX7_digest_107 (by decide) (fun c_6 => ?_) (fun c_6 => ?_)
                  · skip
                    have k_6 := (tc_le (show (256 : Int32).toInt = 256 from by decide) hz).mp c_6
                    refine lv_lload_n C.1 C.2.1 dX7_digest_132 rfl (lv_at hl 1 rfl) ?_
                    subst hQ
                    exact r_lret (τ, ζ2, ρ2) C hW hr hk dX7_digest_133 ⟨(show sp_digest τ = (x9, τ) from by unfold sp_digest; rw [hh4, show z = 256 from by omega]), h_z2⟩
                  · skip
                    have k_6 := (tn_le (show (256 : Int32).toInt = 256 from by decide) hz).mp c_6
                    refine lv_ldc2 C.1 C.2.1 C.2.2.2.1 (C.2.2.2.2.1 _ bQ_X7_253) dX7_digest_110 ?_
                    refine lv_lload_n C.1 C.2.1 dX7_digest_113 rfl (lv_at hl 1 rfl) ?_
                    refine lv_lmul C.1 C.2.1 dX7_digest_114 ?_
                    refine lv_aload_n C.1 C.2.1 dX7_digest_115 rfl (lv_at hl 2 rfl) ?_
                    refine xG_DishHouse_board C hW bF_X7_33 dX7_digest_116 ?_
                    refine xG_Board_cells C hW bF_X7_178 dX7_digest_119 ?_
                    refine lv_iload_n C.1 C.2.1 dX7_digest_122 rfl (lv_at hl 0 rfl) ?_
                    refine xL_15 C hW z (hz.trans (by omega)) (by omega) (v := (τ.2.2 0 z)) rfl dX7_digest_123 ?_
                    refine lv_ladd C.1 C.2.1 dX7_digest_124 ?_
                    refine lv_lstore_n (lv' := [(1, .long ((31 * x9) + (τ.2.2 0 z))), (3, .int x10), (0, .ref (q 0))]) C.1 C.2.1 dX7_digest_125 rfl hl (by decide) rfl (fun ls hl => ?_)
                    refine lv_iinc (v := (x10 + 1)) (lv' := [(3, .int (x10 + 1)), (1, .long ((31 * x9) + (τ.2.2 0 z))), (0, .ref (q 0))]) C.1 C.2.1 dX7_digest_126 hl (k := 1) rfl rfl (by decide) rfl (fun ls hl => ?_)
                    refine lv_goto C.1 C.2.1 (tgt := 103) dX7_digest_129 (by decide) ?_
                    exact ih_103 (z + 1) ((31 * x9) + (τ.2.2 0 z)) (x10 + 1) (by omega) ((ti_add hz (show (1 : Int32).toInt = 1 from by decide) (by omega) (by omega)).trans (by omega)) (by omega) (by rw [hh4]; rfl) _ _ _ hW (lv_sub hl [0, 1, 2] rfl)
              exact L_103_5 _ 0 x5 0 (Nat.lt_succ_self _) (by decide) (by omega) (by rw [hh2, show i = (τ.1 0).toInt.toNat from by omega]; rfl) _ _ _ hW (lv_sub hl [0, 1, 2] rfl)
            · skip
              have k_4 := (tn_le (rfl : ((τ.1 0)).toInt = ((τ.1 0)).toInt) hi).mp c_4
              refine lv_iload_n C.1 C.2.1 dX7_digest_43 rfl (lv_at hl 0 rfl) ?_
              refine lv_iconst C.1 C.2.1 (v := 1) dX7_digest_44 (by decide) ?_
              refine lv_iadd C.1 C.2.1 dX7_digest_45 ?_
              refine lv_istore (lv' := [(4, .int (x6 + 1)), (3, .int x6), (1, .long x5), (0, .ref (q 0))]) C.1 C.2.1 dX7_digest_46 hl (by decide) rfl (fun ls hl => ?_)
              have L_48_7 : ∀ (fuel : Nat) (j : Nat) (x7 : Int64) (x8 : Int32) (ζ3 : ST) (ρ3 : RF), (τ.1 0).toInt.toNat - j < fuel → (x8.toInt = ((i + 1 + j : Nat) : Int)) → (i + 1 + j ≤ (τ.1 0).toInt.toNat) → (x7 = dgR τ i (dgP τ (τ.1 0).toInt.toNat (dg0 τ 6) i) j) → (XZ q nd τ ζ3 ρ3) → ∀ (H : Heap) (locs : List Loc) (ls : Array Slot), WB G (28 + 3 * nd) q (eX G q τ ζ3 ρ3) s H locs → lv_has ls 5 [(4, .int x8), (3, .int x6), (1, .long x7), (0, .ref (q 0))] → W p l e (rmA 5 114) s m args below meth c H locs 0 0 QQ (F0 m 48 ls []) := by
                intro fuel; induction fuel with
                | zero => intro j x7 x8 ζ3 ρ3 hf; exact absurd hf (Nat.not_lt_zero _)
                | succ fuel ih_48 =>
                  intro j x7 x8 ζ3 ρ3 hf hj hjl hh3 h_z3 H locs ls hW hl
                  refine lv_iload C.1 C.2.1 dX7_digest_48 (lv_at hl 0 rfl) ?_
                  refine lv_aload_n C.1 C.2.1 dX7_digest_50 rfl (lv_at hl 3 rfl) ?_
                  refine xG_DishHouse_row C hW bF_X7_12 dX7_digest_51 ?_
                  refine xG_Row_size C hW bF_X7_244 (v := (τ.1 0)) rfl dX7_digest_54 ?_
                  refine lv_icmp_ge C.1 C.2.1 (tgt := 95) dX7_digest_57 (by decide) (fun c_8 => ?_) (fun c_8 => ?_)
                  · skip
                    have k_8 := (tc_le (rfl : ((τ.1 0)).toInt = ((τ.1 0)).toInt) hj).mp c_8
                    have ej : j = (τ.1 0).toInt.toNat - (i + 1) := by omega
                    refine lv_iinc (v := (x6 + 1)) (lv' := [(3, .int (x6 + 1)), (4, .int x8), (1, .long x7), (0, .ref (q 0))]) C.1 C.2.1 dX7_digest_95 hl (k := 1) rfl rfl (by decide) rfl (fun ls hl => ?_)
                    refine lv_goto C.1 C.2.1 (tgt := 32) dX7_digest_98 (by decide) ?_
                    exact ih_32 (i + 1) x7 (x6 + 1) ζ3 ρ3 (by omega) ((ti_add hi (show (1 : Int32).toInt = 1 from by decide) (by omega) (by omega)).trans (by omega)) (by omega) (by rw [hh3, ej]; rfl) h_z3 _ _ _ hW (lv_sub hl [0, 2, 3] rfl)
                  · skip
                    have k_8 := (tn_le (rfl : ((τ.1 0)).toInt = ((τ.1 0)).toInt) hj).mp c_8
                    refine lv_ldc2 C.1 C.2.1 C.2.2.2.1 (C.2.2.2.2.1 _ bQ_X7_253) dX7_digest_60 ?_
                    refine lv_lload_n C.1 C.2.1 dX7_digest_63 rfl (lv_at hl 2 rfl) ?_
                    refine lv_lmul C.1 C.2.1 dX7_digest_64 ?_
                    refine lv_aload_n C.1 C.2.1 dX7_digest_65 rfl (lv_at hl 3 rfl) ?_
                    refine lv_iload_n C.1 C.2.1 dX7_digest_66 rfl (lv_at hl 1 rfl) ?_
                    refine lv_iload C.1 C.2.1 dX7_digest_67 (lv_at hl 0 rfl) ?_
                    refine go_i hW (run_V (o := 0) (As := [.int x6, .int x8]) (rest := [.long (31 * x7)]) C hW (by omega) rfl rfl (c_X7_ticks l G q nd _ τ ζ3 ρ3 x6 x8  h_nd h_z3 h_f h_s h_l) (cw_V 2 C bL_X7_258 bI_X7_ticks bV_X7_ticks bN_X7 bC_X7_ticks ⟨rfl, rfl⟩ (by decide +kernel) ⟨Nat.le_of_ble_eq_true rfl, Nat.le_of_ble_eq_true rfl⟩) rfl hl.1 rfl (Nat.le_of_ble_eq_true rfl) dX7_digest_69 ⟨Nat.le_refl _, Nat.le_refl _⟩) (fun r_9 u_9 H locs hp_9 hW => ?_)
                    obtain ⟨τ_9, ζ_9, ρ_9⟩ := u_9
                    obtain ⟨hp_9, hz_9⟩ := hp_9
                    have et_9 : τ = τ_9 := (sp_ticks_2 τ x6 x8).symm.trans (congrArg Prod.snd hp_9)
                    have er_9 : r_9 = (sp_ticks τ x6 x8).1 := (congrArg Prod.fst hp_9).symm
                    have hz_9 : XZ q nd τ ζ_9 ρ_9 := by rw [et_9]; exact hz_9
                    have hW : WB G (28 + 3 * nd) q (eX G q τ ζ_9 ρ_9) s H locs := by rw [et_9]; exact hW
                    have hrt := er_9
                    refine lv_i2l C.1 C.2.1 dX7_digest_72 rfl ?_
                    refine lv_ladd C.1 C.2.1 dX7_digest_73 ?_
                    refine lv_lstore_n (lv' := [(1, .long ((31 * x7) + (r_9).toInt64)), (4, .int x8), (3, .int x6), (0, .ref (q 0))]) C.1 C.2.1 dX7_digest_74 rfl hl (by decide) rfl (fun ls hl => ?_)
                    refine lv_ldc2 C.1 C.2.1 C.2.2.2.1 (C.2.2.2.2.1 _ bQ_X7_253) dX7_digest_75 ?_
                    refine lv_lload_n C.1 C.2.1 dX7_digest_78 rfl (lv_at hl 0 rfl) ?_
                    refine lv_lmul C.1 C.2.1 dX7_digest_79 ?_
                    refine lv_aload_n C.1 C.2.1 dX7_digest_80 rfl (lv_at hl 3 rfl) ?_
                    refine lv_iload_n C.1 C.2.1 dX7_digest_81 rfl (lv_at hl 2 rfl) ?_
                    refine lv_iload C.1 C.2.1 dX7_digest_82 (lv_at hl 1 rfl) ?_
                    refine go_l hW (run_V (o := 0) (As := [.int x6, .int x8]) (rest := [.long (31 * ((31 * x7) + (r_9).toInt64))]) C hW (by omega) rfl rfl (c_X7_product l G q nd _ τ ζ_9 ρ_9 x6 x8  h_nd hz_9 h_f h_s h_l) (cw_V 2 C bL_X7_261 bI_X7_product bV_X7_product bN_X7 bC_X7_product ⟨rfl, rfl⟩ (by decide +kernel) ⟨Nat.le_of_ble_eq_true rfl, Nat.le_of_ble_eq_true rfl⟩) rfl hl.1 rfl (Nat.le_of_ble_eq_true rfl) dX7_digest_84 ⟨Nat.le_refl _, Nat.le_refl _⟩) (fun r_10 u_10 H locs hp_10 hW => ?_)
                    obtain ⟨τ_10, ζ_10, ρ_10⟩ := u_10
                    obtain ⟨hp_10, hz_10⟩ := hp_10
                    have et_10 : τ = τ_10 := (sp_product_2 τ x6 x8).symm.trans (congrArg Prod.snd hp_10)
                    have er_10 : r_10 = (sp_product τ x6 x8).1 := (congrArg Prod.fst hp_10).symm
                    have hz_10 : XZ q nd τ ζ_10 ρ_10 := by rw [et_10]; exact hz_10
                    have hW : WB G (28 + 3 * nd) q (eX G q τ ζ_10 ρ_10) s H locs := by rw [et_10]; exact hW
                    have hrp := er_10
                    have hzp := hz_10
                    have e_x6 : x6 = nI i := Int32.toInt_inj.mp (by rw [hi, nI_toInt (by omega)])
                    have e_x8 : x8 = nI (i + 1 + j) := Int32.toInt_inj.mp (by rw [hj, nI_toInt (by omega)])
                    refine lv_ladd C.1 C.2.1 dX7_digest_87 ?_
                    refine lv_lstore_n (lv' := [(1, .long ((31 * ((31 * x7) + (r_9).toInt64)) + r_10)), (4, .int x8), (3, .int x6), (0, .ref (q 0))]) C.1 C.2.1 dX7_digest_88 rfl hl (by decide) rfl (fun ls hl => ?_)
                    refine lv_iinc (v := (x8 + 1)) (lv' := [(4, .int (x8 + 1)), (1, .long ((31 * ((31 * x7) + (r_9).toInt64)) + r_10)), (3, .int x6), (0, .ref (q 0))]) C.1 C.2.1 dX7_digest_89 hl (k := 1) rfl rfl (by decide) rfl (fun ls hl => ?_)
                    refine lv_goto C.1 C.2.1 (tgt := 48) dX7_digest_92 (by decide) ?_
                    exact ih_48 (j + 1) ((31 * ((31 * x7) + (r_9).toInt64)) + r_10) (x8 + 1) ζ_10 ρ_10 (by omega) ((ti_add hj (show (1 : Int32).toInt = 1 from by decide) (by omega) (by omega)).trans (by omega)) (by omega) (by rw [hrp, hrt, hh3, e_x6, e_x8]; rfl) hzp _ _ _ hW (lv_sub hl [0, 2, 1, 3] rfl)
              exact L_48_7 _ 0 x5 (x6 + 1) ζ2 ρ2 (Nat.lt_succ_self _) ((ti_add hi (show (1 : Int32).toInt = 1 from by decide) (by omega) (by omega)).trans (by omega)) (by omega) hh2 h_z2 _ _ _ hW (lv_sub hl [0, 1, 2, 3] rfl)
        exact L_32_3 _ 0 x1 0 ζ1 ρ1 (Nat.lt_succ_self _) (by decide) (by omega) (by rw [hh, show k = 6 from by omega]; rfl) h_z1 _ _ _ hW (lv_sub hl [0, 1, 2] rfl)
      · skip
        have k_2 := (tn_lt (show (5 : Int32).toInt = 5 from by decide) hk3).mp c_2
        refine lv_ldc2 C.1 C.2.1 C.2.2.2.1 (C.2.2.2.2.1 _ bQ_X7_253) dX7_digest_11 ?_
        refine lv_lload_n C.1 C.2.1 dX7_digest_14 rfl (lv_at hl 1 rfl) ?_
        refine lv_lmul C.1 C.2.1 dX7_digest_15 ?_
        refine lv_aload_n C.1 C.2.1 dX7_digest_16 rfl (lv_at hl 2 rfl) ?_
        refine lv_iload_n C.1 C.2.1 dX7_digest_17 rfl (lv_at hl 0 rfl) ?_
        refine go_i hW (run_V (o := 0) (As := [.int x3]) (rest := [.long (31 * x1)]) C hW (by omega) rfl rfl (c_X7_count l G q nd _ τ ζ1 ρ1 x3  h_nd h_z1) (cw_V 1 C bL_X7_255 bI_X7_count bV_X7_count bN_X7 bC_X7_count ⟨rfl, rfl⟩ (by decide +kernel) ⟨Nat.le_of_ble_eq_true rfl, Nat.le_of_ble_eq_true rfl⟩) rfl hl.1 rfl (Nat.le_of_ble_eq_true rfl) dX7_digest_18 ⟨Nat.le_refl _, Nat.le_refl _⟩) (fun r_11 u_11 H locs hp_11 hW => ?_)
        obtain ⟨τ_11, ζ_11, ρ_11⟩ := u_11
        obtain ⟨hp_11, hz_11⟩ := hp_11
        have et_11 : τ = τ_11 := (sp_count_2 τ x3).symm.trans (congrArg Prod.snd hp_11)
        have er_11 : r_11 = (sp_count τ x3).1 := (congrArg Prod.fst hp_11).symm
        have hz_11 : XZ q nd τ ζ_11 ρ_11 := by rw [et_11]; exact hz_11
        have hW : WB G (28 + 3 * nd) q (eX G q τ ζ_11 ρ_11) s H locs := by rw [et_11]; exact hW
        have hrr := er_11
        have hzc := hz_11
        have e_x3 : x3 = nI k := Int32.toInt_inj.mp (by rw [hk3, nI_toInt (by omega)])
        refine lv_i2l C.1 C.2.1 dX7_digest_21 rfl ?_
        refine lv_ladd C.1 C.2.1 dX7_digest_22 ?_
        refine lv_lstore_n (lv' := [(1, .long ((31 * x1) + (r_11).toInt64)), (3, .int x3), (0, .ref (q 0))]) C.1 C.2.1 dX7_digest_23 rfl hl (by decide) rfl (fun ls hl => ?_)
        refine lv_iinc (v := (x3 + 1)) (lv' := [(3, .int (x3 + 1)), (1, .long ((31 * x1) + (r_11).toInt64)), (0, .ref (q 0))]) C.1 C.2.1 dX7_digest_24 hl (k := 1) rfl rfl (by decide) rfl (fun ls hl => ?_)
        refine lv_goto C.1 C.2.1 (tgt := 6) dX7_digest_27 (by decide) ?_
        exact ih_6 (k + 1) ((31 * x1) + (r_11).toInt64) (x3 + 1) ζ_11 ρ_11 (by omega) ((ti_add hk3 (show (1 : Int32).toInt = 1 from by decide) (by omega) (by omega)).trans (by omega)) (by omega) (by rw [hrr, hh, e_x3]; rfl) hzc _ _ _ hW (lv_sub hl [0, 1, 2] rfl)
  exact L_6_1 _ 0 17 0 ζ ρ (Nat.lt_succ_self _) (by decide) (by omega) rfl h_z _ _ _ hW (lv_sub hl [0, 1, 2] rfl)
