/-! flags of the landed class -/
theorem flcN_lt {τ τ' : ST} {i j : Nat} : ∀ k, (∀ f, f < k → τ'.2.1 8 f = τ.2.1 8 f ∧ τ'.2.1 9 f = τ.2.1 9 f ∧ τ'.2.1 10 f = τ.2.1 10 f) → flcN τ' i j k = flcN τ i j k
  | 0, _ => rfl
  | k + 1, h => by rw [flcN, flcN, flcN_lt k (fun f hf => h f (by omega)), (h k (by omega)).1, (h k (by omega)).2.1, (h k (by omega)).2.2]
theorem XZ_flag {q : Nat → Nat} {nd D F aN bN : Nat} {τ ζ : ST} {ρ : RF} {d x y : Int32} (h : XZ q nd τ ζ ρ) (hd : d.toInt = (D : Int)) (ha : x.toInt = (aN : Int)) (hb : y.toInt = (bN : Int)) (hab : aN ≤ bN) (hb9 : bN ≤ 99) (hF : (τ.1 2).toInt = (F : Int)) (hF4 : F < 40) : XZ q nd (sg (sa (sa (sa τ 8 F d) 9 F x) 10 F y) 2 (τ.1 2 + 1)) (saF ζ 1 (rgF (100 * D + aN) (100 * D + (bN + 1)) 1 (ζ.2.1 1))) (va_up ρ 1 (va_up (ρ 1) F (some (q (28 + 3 * D))))) := by
  obtain ⟨a1, a2, a3, a4, a5, a6, a7⟩ := h
  have e2 : (τ.1 2 + 1).toInt = (F : Int) + 1 := ti_add hF (show (1 : Int32).toInt = 1 from by decide) (by omega) (by omega)
  refine ⟨a1, a2, a3, fun z hz j hj => ?_, a5, a6, fun f hf => ?_⟩
  · have h4 := a4 z hz j hj
    unfold flc at h4
    rw [hF, show ((F : Int)).toNat = F from rfl] at h4
    have e3 : flcN (sg (sa (sa (sa τ 8 F d) 9 F x) 10 F y) 2 (τ.1 2 + 1)) z j F = flcN τ z j F := flcN_lt F (fun f hf => ⟨if_neg (by omega), if_neg (by omega), if_neg (by omega)⟩)
    show rgF (100 * D + aN) (100 * D + (bN + 1)) 1 (ζ.2.1 1) (100 * z + j) = nI (flcN (sg (sa (sa (sa τ 8 F d) 9 F x) 10 F y) 2 (τ.1 2 + 1)) z j (τ.1 2 + 1).toInt.toNat)
    rw [e2, show ((F : Int) + 1).toNat = F + 1 from rfl, flcN, e3, show (sg (sa (sa (sa τ 8 F d) 9 F x) 10 F y) 2 (τ.1 2 + 1)).2.1 8 F = d from if_pos rfl, show (sg (sa (sa (sa τ 8 F d) 9 F x) 10 F y) 2 (τ.1 2 + 1)).2.1 9 F = x from if_pos rfl, show (sg (sa (sa (sa τ 8 F d) 9 F x) 10 F y) 2 (τ.1 2 + 1)).2.1 10 F = y from if_pos rfl, hd, ha, hb]
    unfold rgF
    by_cases c : D = z ∧ aN ≤ j ∧ j ≤ bN
    · rw [if_pos (show 100 * D + aN ≤ 100 * z + j ∧ 100 * z + j < 100 * D + (bN + 1) by omega), if_pos (show (D : Int) = (z : Int) ∧ (aN : Int) ≤ (j : Int) ∧ (j : Int) ≤ (bN : Int) by omega), h4]
      exact (nI_succ _).symm
    · rw [if_neg (show ¬ (100 * D + aN ≤ 100 * z + j ∧ 100 * z + j < 100 * D + (bN + 1)) by omega), if_neg (show ¬ ((D : Int) = (z : Int) ∧ (aN : Int) ≤ (j : Int) ∧ (j : Int) ≤ (bN : Int)) by omega), h4, Nat.add_zero]
  · have hf2 : (f : Int) < (τ.1 2 + 1).toInt := hf
    show (if f = F then some (q (28 + 3 * D)) else ρ 1 f) = some (q (28 + 3 * ((if f = F then d else τ.2.1 8 f)).toInt.toNat))
    by_cases e : f = F
    · rw [if_pos e, if_pos e, hd]; rfl
    · rw [if_neg e, if_neg e]; exact a7 f (by omega)
theorem nI_less (n : Nat) : nI (n + 1) + -1 = nI n := by
  rw [nI_succ, Int32.add_assoc, show (1 : Int32) + -1 = 0 from by decide, Int32.add_zero]
theorem XZ_unflag {q : Nat → Nat} {nd F aN bN D : Nat} {τ ζ : ST} {ρ : RF} (h : XZ q nd τ ζ ρ) (hF : (τ.1 2).toInt = (F : Int) + 1) (hF4 : F < 40) (hd : (τ.2.1 8 F).toInt = (D : Int)) (ha : (τ.2.1 9 F).toInt = (aN : Int)) (hb : (τ.2.1 10 F).toInt = (bN : Int)) (hab : aN ≤ bN) (hb9 : bN ≤ 99) : XZ q nd (sg τ 2 (τ.1 2 - 1)) (saF ζ 1 (rgF (100 * D + aN) (100 * D + (bN + 1)) (-1) (ζ.2.1 1))) ρ := by
  obtain ⟨a1, a2, a3, a4, a5, a6, a7⟩ := h
  have e2 : (τ.1 2 - 1).toInt = (F : Int) := (ti_sub hF (show (1 : Int32).toInt = 1 from by decide) (by omega) (by omega)).trans (by omega)
  refine ⟨a1, a2, a3, fun z hz j hj => ?_, a5, a6, fun f hf => ?_⟩
  · have h4 := a4 z hz j hj
    unfold flc at h4
    rw [hF, show ((F : Int) + 1).toNat = F + 1 from rfl, flcN, hd, ha, hb] at h4
    have e3 : flcN (sg τ 2 (τ.1 2 - 1)) z j F = flcN τ z j F := flcN_eq (τ := τ) (τ' := sg τ 2 (τ.1 2 - 1)) rfl rfl rfl F
    show rgF (100 * D + aN) (100 * D + (bN + 1)) (-1) (ζ.2.1 1) (100 * z + j) = nI (flcN (sg τ 2 (τ.1 2 - 1)) z j (τ.1 2 - 1).toInt.toNat)
    rw [e2, show ((F : Int)).toNat = F from rfl, e3]
    unfold rgF
    by_cases c : D = z ∧ aN ≤ j ∧ j ≤ bN
    · rw [if_pos (show (D : Int) = (z : Int) ∧ (aN : Int) ≤ (j : Int) ∧ (j : Int) ≤ (bN : Int) by omega)] at h4
      rw [if_pos (show 100 * D + aN ≤ 100 * z + j ∧ 100 * z + j < 100 * D + (bN + 1) by omega), h4]
      exact nI_less _
    · rw [if_neg (show ¬ ((D : Int) = (z : Int) ∧ (aN : Int) ≤ (j : Int) ∧ (j : Int) ≤ (bN : Int)) by omega), Nat.add_zero] at h4
      rw [if_neg (show ¬ (100 * D + aN ≤ 100 * z + j ∧ 100 * z + j < 100 * D + (bN + 1)) by omega), h4]
  · have hf2 : (f : Int) < (τ.1 2 - 1).toInt := hf
    exact a7 f (by omega)
set_option maxHeartbeats 4000000 in
set_option maxRecDepth 100000 in
theorem c_X7_flag (l : Launch) (G : GG) (q : Nat → Nat) (nd sz : Nat) (τ ζ : ST) (ρ : RF) (d : Int32) (x : Int32) (y : Int32) (h_nd : nd ≤ 6) (h_z : XZ q nd τ ζ ρ) (h_f : 0 ≤ (τ.1 2).toInt ∧ (τ.1 2).toInt ≤ 40) : Met l yX7_flag (WSb yX7_flag cX7_flag 5 (some .int)) (rmA 3 68) (va_Pc [.ref (q 0), .int d, .int x, .int y] (PW G (28 + 3 * nd) q sz (eX G q τ ζ ρ))) (va_Qi (fun (r : Int32) (u : (ST × ST × RF)) => sp_flag τ d x y = (r, u.1) ∧ XZ q nd u.1 u.2.1 u.2.2) (fun u => BW G (28 + 3 * nd) q (eX G q u.1 u.2.1 u.2.2)) (FA (28 + 3 * nd) q sz)) 0 0 (FA (28 + 3 * nd) q sz) := by
  refine Met_B (own := RX7) rfl (by decide) (Nat.le_of_ble_eq_true rfl) (fun p e s m args below meth c ls hsz C hW hr hk hl QQ hQ => ?_)
  subst hsz
  have hl : lv_has ls 5 [(0, .ref (q 0)), (1, .int d), (2, .int x), (3, .int y)] := hl
  have h_n : (τ.1 0).toInt = (nd : Int) := h_z.1
  have h_r := h_z.2.1
  refine lv_aload_n C.1 C.2.1 dX7_flag_0 rfl (lv_at hl 0 rfl) ?_
  refine xG_DishHouse_row C hW bF_X7_12 dX7_flag_1 ?_
  refine lv_iload_n C.1 C.2.1 dX7_flag_4 rfl (lv_at hl 1 rfl) ?_
  refine go_q hW (run_V (o := 1) (As := [.int d]) (rest := []) C hW (by omega) rfl rfl (c_X4_find l G q nd _ τ ζ ρ d  h_nd h_n h_r) (cw_V 1 C bL_X7_59 bI_X4_find bV_X4_find bN_X4 bC_X4_find ⟨rfl, rfl⟩ (by decide +kernel) ⟨Nat.le_of_ble_eq_true rfl, Nat.le_of_ble_eq_true rfl⟩) rfl hl.1 rfl (Nat.le_of_ble_eq_true rfl) dX7_flag_5 ⟨Nat.le_refl _, Nat.le_refl _⟩) (fun r_1 u_1 H locs hp_1 hW => ?_)
  rcases hp_1 with ⟨rfl, rfl, k_1⟩ | ⟨rfl, rfl, k_1_0, k_1_1⟩
  · skip
    have hW : WB G (28 + 3 * nd) q (eX G q τ ζ ρ) s H locs := hW
    refine lv_astoreN (lv' := [(4, .null), (0, .ref (q 0)), (1, .int d), (2, .int x), (3, .int y)]) C.1 C.2.1 dX7_flag_8 hl (by decide) rfl (fun ls hl => ?_)
    refine lv_aloadN C.1 C.2.1 dX7_flag_10 (lv_at hl 0 rfl) ?_
    refine lv_ifnullN C.1 C.2.1 (tgt := 34) dX7_flag_12 (by decide) ?_
    refine lv_bipush C.1 C.2.1 (v := (-2)) dX7_flag_34 (by decide) ?_
    subst hQ
    exact r_iret (τ, ζ, ρ) C hW hr hk dX7_flag_36 ⟨(show sp_flag τ d x y = ((-2), τ) from by unfold sp_flag; (repeat (first | rw [if_pos (by omega)] | rw [if_neg (by omega)])); first | done | rfl), (XZ_eq h_z rfl rfl rfl rfl rfl rfl rfl rfl rfl rfl rfl rfl rfl rfl rfl rfl rfl rfl rfl)⟩
  · skip
    have hW : WB G (28 + 3 * nd) q (eX G q τ ζ ρ) s H locs := hW
    have ed : nI d.toInt.toNat = d := Int32.toInt_inj.mp (by rw [nI_toInt (by omega)]; omega)
    refine lv_astore (lv' := [(4, .ref (q (28 + 3 * ((d).toInt).toNat))), (0, .ref (q 0)), (1, .int d), (2, .int x), (3, .int y)]) C.1 C.2.1 dX7_flag_8 hl (by decide) rfl (fun ls hl => ?_)
    refine lv_aload C.1 C.2.1 dX7_flag_10 (lv_at hl 0 rfl) ?_
    refine lv_ifnull C.1 C.2.1 dX7_flag_12 ?_
    refine lv_iload_n C.1 C.2.1 dX7_flag_15 rfl (lv_at hl 4 rfl) ?_
    refine lv_iconst C.1 C.2.1 (v := 0) dX7_flag_16 (by decide) ?_
    refine lv_bipush C.1 C.2.1 (v := 99) dX7_flag_17 (by decide) ?_
    refine go_i hW (run_S (As := [.int y, .int 0, .int 99]) (rest := []) C hW (c_X7_isWithin l G q nd _ τ ζ ρ y 0 99 ((y).toInt) 0 99 (rfl : (y).toInt = (y).toInt) (show (0 : Int32).toInt = 0 from by decide) (show (99 : Int32).toInt = 99 from by decide) h_nd) (cw_S 3 C bL_X7_51 bS_X7_isWithin bN_X7 bC_X7_isWithin ⟨rfl, rfl⟩ (by decide +kernel) ⟨Nat.le_of_ble_eq_true rfl, Nat.le_of_ble_eq_true rfl⟩) rfl hl.1 rfl (Nat.le_of_ble_eq_true rfl) dX7_flag_19 ⟨Nat.le_refl _, Nat.le_refl _⟩) (fun r_2 u_2 H locs hp_2 hW => ?_)
    rcases hp_2 with ⟨rfl, rfl, k_2_0, k_2_1⟩ | ⟨rfl, rfl, k_2⟩
    · skip
      have hW : WB G (28 + 3 * nd) q (eX G q τ ζ ρ) s H locs := hW
      refine lv_if_eq C.1 C.2.1 (tgt := 34) dX7_flag_22 (by decide) (fun c => absurd c (by decide)) (fun _ => ?_)
      refine lv_iload_n C.1 C.2.1 dX7_flag_25 rfl (lv_at hl 3 rfl) ?_
      refine lv_iconst C.1 C.2.1 (v := 0) dX7_flag_26 (by decide) ?_
      refine lv_iload_n C.1 C.2.1 dX7_flag_27 rfl (lv_at hl 4 rfl) ?_
      refine go_i hW (run_S (As := [.int x, .int 0, .int y]) (rest := []) C hW (c_X7_isWithin l G q nd _ τ ζ ρ x 0 y ((x).toInt) 0 ((y).toInt) (rfl : (x).toInt = (x).toInt) (show (0 : Int32).toInt = 0 from by decide) (rfl : (y).toInt = (y).toInt) h_nd) (cw_S 3 C bL_X7_51 bS_X7_isWithin bN_X7 bC_X7_isWithin ⟨rfl, rfl⟩ (by decide +kernel) ⟨Nat.le_of_ble_eq_true rfl, Nat.le_of_ble_eq_true rfl⟩) rfl hl.1 rfl (Nat.le_of_ble_eq_true rfl) dX7_flag_28 ⟨Nat.le_refl _, Nat.le_refl _⟩) (fun r_4 u_4 H locs hp_4 hW => ?_)
      rcases hp_4 with ⟨rfl, rfl, k_4_0, k_4_1⟩ | ⟨rfl, rfl, k_4⟩
      · skip
        have hW : WB G (28 + 3 * nd) q (eX G q τ ζ ρ) s H locs := hW
        refine lv_if_ne C.1 C.2.1 (tgt := 37) dX7_flag_31 (by decide) (fun _ => ?_) (fun c => absurd c (by decide))
        refine lv_aload_n C.1 C.2.1 dX7_flag_37 rfl (lv_at hl 1 rfl) ?_
        refine xG_DishHouse_row C hW bF_X7_12 dX7_flag_38 ?_
        refine lv_aload C.1 C.2.1 dX7_flag_41 (lv_at hl 0 rfl) ?_
        refine lv_iload_n C.1 C.2.1 dX7_flag_43 rfl (lv_at hl 3 rfl) ?_
        refine lv_iload_n C.1 C.2.1 dX7_flag_44 rfl (lv_at hl 4 rfl) ?_
        refine go_i hW (run_V (o := 1) (As := [.ref (q (28 + 3 * ((d).toInt).toNat)), .int x, .int y]) (rest := []) C hW (by omega) rfl rfl (c_X4_addFlag l G q nd _ τ ζ ρ x y (((x).toInt).toNat) (((y).toInt).toNat) (((d).toInt).toNat) ((rfl : (x).toInt = (x).toInt).trans (by omega)) ((rfl : (y).toInt = (y).toInt).trans (by omega)) h_nd (by omega) (by omega) (by omega) h_f) (cw_V 3 C bL_X7_118 bI_X4_addFlag bV_X4_addFlag bN_X4 bC_X4_addFlag ⟨rfl, rfl⟩ (by decide +kernel) ⟨Nat.le_of_ble_eq_true rfl, Nat.le_of_ble_eq_true rfl⟩) rfl hl.1 rfl (Nat.le_of_ble_eq_true rfl) dX7_flag_45 ⟨Nat.le_refl _, Nat.le_refl _⟩) (fun r_6 u_6 H locs hp_6 hW => ?_)
        rcases hp_6 with ⟨rfl, rfl, k_6⟩ | ⟨rfl, rfl, k_6⟩
        · skip
          have hW : WB G (28 + 3 * nd) q (eX G q τ ζ ρ) s H locs := hW
          subst hQ
          exact r_iret (τ, ζ, ρ) C hW hr hk dX7_flag_48 ⟨(show sp_flag τ d x y = ((-3), τ) from by unfold sp_flag; (repeat (first | rw [if_pos (by omega)] | rw [if_neg (by omega)])); first | done | rfl), (XZ_eq h_z rfl rfl rfl rfl rfl rfl rfl rfl rfl rfl rfl rfl rfl rfl rfl rfl rfl rfl rfl)⟩
        · skip
          have hW : WB G (28 + 3 * nd) q (eX G q (sg (sa (sa (sa τ 8 ((τ.1 2).toInt.toNat) (nI (((d).toInt).toNat))) 9 ((τ.1 2).toInt.toNat) x) 10 ((τ.1 2).toInt.toNat) y) 2 (τ.1 2 + 1)) (saF ζ 1 (rgF (100 * (((d).toInt).toNat) + (((x).toInt).toNat)) (100 * (((d).toInt).toNat) + ((((y).toInt).toNat) + 1)) 1 (ζ.2.1 1))) (va_up ρ 1 (va_up (ρ 1) (τ.1 2).toInt.toNat (some (q (28 + 3 * (((d).toInt).toNat))))))) s H locs := hW
          subst hQ
          exact r_iret ((sg (sa (sa (sa τ 8 ((τ.1 2).toInt.toNat) (nI (((d).toInt).toNat))) 9 ((τ.1 2).toInt.toNat) x) 10 ((τ.1 2).toInt.toNat) y) 2 (τ.1 2 + 1)), (saF ζ 1 (rgF (100 * (((d).toInt).toNat) + (((x).toInt).toNat)) (100 * (((d).toInt).toNat) + ((((y).toInt).toNat) + 1)) 1 (ζ.2.1 1))), (va_up ρ 1 (va_up (ρ 1) (τ.1 2).toInt.toNat (some (q (28 + 3 * (((d).toInt).toNat))))))) C hW hr hk dX7_flag_48 ⟨(show sp_flag τ d x y = (((τ.1 2 + 1)), (sg (sa (sa (sa τ 8 ((τ.1 2).toInt.toNat) (nI (((d).toInt).toNat))) 9 ((τ.1 2).toInt.toNat) x) 10 ((τ.1 2).toInt.toNat) y) 2 (τ.1 2 + 1))) from by unfold sp_flag; rw [if_pos (by omega), if_neg (by omega), ed]), (by rw [ed]; exact XZ_flag h_z (by omega) (by omega) (by omega) (by omega) (by omega) (by omega) (by omega))⟩
      · skip
        have hW : WB G (28 + 3 * nd) q (eX G q τ ζ ρ) s H locs := hW
        refine lv_if_ne C.1 C.2.1 (tgt := 37) dX7_flag_31 (by decide) (fun c => absurd c (by decide)) (fun _ => ?_)
        refine lv_bipush C.1 C.2.1 (v := (-2)) dX7_flag_34 (by decide) ?_
        subst hQ
        exact r_iret (τ, ζ, ρ) C hW hr hk dX7_flag_36 ⟨(show sp_flag τ d x y = ((-2), τ) from by unfold sp_flag; (repeat (first | rw [if_pos (by omega)] | rw [if_neg (by omega)])); first | done | rfl), (XZ_eq h_z rfl rfl rfl rfl rfl rfl rfl rfl rfl rfl rfl rfl rfl rfl rfl rfl rfl rfl rfl)⟩
    · skip
      have hW : WB G (28 + 3 * nd) q (eX G q τ ζ ρ) s H locs := hW
      refine lv_if_eq C.1 C.2.1 (tgt := 34) dX7_flag_22 (by decide) (fun _ => ?_) (fun c => absurd c (by decide))
      refine lv_bipush C.1 C.2.1 (v := (-2)) dX7_flag_34 (by decide) ?_
      subst hQ
      exact r_iret (τ, ζ, ρ) C hW hr hk dX7_flag_36 ⟨(show sp_flag τ d x y = ((-2), τ) from by unfold sp_flag; (repeat (first | rw [if_pos (by omega)] | rw [if_neg (by omega)])); first | done | rfl), (XZ_eq h_z rfl rfl rfl rfl rfl rfl rfl rfl rfl rfl rfl rfl rfl rfl rfl rfl rfl rfl rfl)⟩
set_option maxHeartbeats 4000000 in
set_option maxRecDepth 100000 in
theorem c_X7_unflag (l : Launch) (G : GG) (q : Nat → Nat) (nd sz : Nat) (τ ζ : ST) (ρ : RF) (h_nd : nd ≤ 6) (h_z : XZ q nd τ ζ ρ) (h_f : 0 ≤ (τ.1 2).toInt ∧ (τ.1 2).toInt ≤ 40) (h_fb : ∀ f : Nat, (f : Int) < (τ.1 2).toInt → 0 ≤ (τ.2.1 8 f).toInt ∧ (τ.2.1 8 f).toInt < (τ.1 0).toInt ∧ 0 ≤ (τ.2.1 9 f).toInt ∧ (τ.2.1 9 f).toInt ≤ (τ.2.1 10 f).toInt ∧ (τ.2.1 10 f).toInt ≤ 99) : Met l yX7_unflag (WSb yX7_unflag cX7_unflag 1 (some .int)) (rmA 3 66) (va_Pc [.ref (q 0)] (PW G (28 + 3 * nd) q sz (eX G q τ ζ ρ))) (va_Qi (fun (r : Int32) (u : (ST × ST × RF)) => sp_unflag τ = (r, u.1) ∧ XZ q nd u.1 u.2.1 u.2.2) (fun u => BW G (28 + 3 * nd) q (eX G q u.1 u.2.1 u.2.2)) (FA (28 + 3 * nd) q sz)) 0 0 (FA (28 + 3 * nd) q sz) := by
  refine Met_B (own := RX7) rfl (by decide) (Nat.le_of_ble_eq_true rfl) (fun p e s m args below meth c ls hsz C hW hr hk hl QQ hQ => ?_)
  subst hsz
  have hl : lv_has ls 1 [(0, .ref (q 0))] := hl
  have h_n : (τ.1 0).toInt = (nd : Int) := h_z.1
  have h_r := h_z.2.1
  refine lv_aload_n C.1 C.2.1 dX7_unflag_0 rfl (lv_at hl 0 rfl) ?_
  refine xG_DishHouse_row C hW bF_X7_12 dX7_unflag_1 ?_
  refine go_i hW (run_V (o := 1) (As := []) (rest := []) C hW (by omega) rfl rfl (c_X4_removeFlag l G q nd _ τ ζ ρ   h_nd h_f (fun f hf => ⟨h_z.2.2.2.2.2.2 f hf, (by have := h_fb f hf; omega), (h_fb f hf).2.2.1, (h_fb f hf).2.2.2.1, (h_fb f hf).2.2.2.2⟩)) (cw_V 0 C bL_X7_122 bI_X4_removeFlag bV_X4_removeFlag bN_X4 bC_X4_removeFlag ⟨rfl, rfl⟩ (by decide +kernel) ⟨Nat.le_of_ble_eq_true rfl, Nat.le_of_ble_eq_true rfl⟩) rfl hl.1 rfl (Nat.le_of_ble_eq_true rfl) dX7_unflag_4 ⟨Nat.le_refl _, Nat.le_refl _⟩) (fun r_1 u_1 H locs hp_1 hW => ?_)
  rcases hp_1 with ⟨rfl, rfl, k_1⟩ | ⟨rfl, rfl, k_1⟩
  · skip
    have hW : WB G (28 + 3 * nd) q (eX G q τ ζ ρ) s H locs := hW
    subst hQ
    exact r_iret (τ, ζ, ρ) C hW hr hk dX7_unflag_7 ⟨(show sp_unflag τ  = ((-4), τ) from by unfold sp_unflag; (repeat (first | rw [if_pos (by omega)] | rw [if_neg (by omega)])); first | done | rfl), (XZ_eq h_z rfl rfl rfl rfl rfl rfl rfl rfl rfl rfl rfl rfl rfl rfl rfl rfl rfl rfl rfl)⟩
  · skip
    have hW : WB G (28 + 3 * nd) q (eX G q (sg τ 2 (τ.1 2 - 1)) (saF ζ 1 (rgF (100 * (τ.2.1 8 ((τ.1 2).toInt - 1).toNat).toInt.toNat + (τ.2.1 9 ((τ.1 2).toInt - 1).toNat).toInt.toNat) (100 * (τ.2.1 8 ((τ.1 2).toInt - 1).toNat).toInt.toNat + ((τ.2.1 10 ((τ.1 2).toInt - 1).toNat).toInt.toNat + 1)) (-1) (ζ.2.1 1))) ρ) s H locs := hW
    have hfb := h_fb ((τ.1 2).toInt - 1).toNat (by omega)
    subst hQ
    exact r_iret ((sg τ 2 (τ.1 2 - 1)), (saF ζ 1 (rgF (100 * (τ.2.1 8 ((τ.1 2).toInt - 1).toNat).toInt.toNat + (τ.2.1 9 ((τ.1 2).toInt - 1).toNat).toInt.toNat) (100 * (τ.2.1 8 ((τ.1 2).toInt - 1).toNat).toInt.toNat + ((τ.2.1 10 ((τ.1 2).toInt - 1).toNat).toInt.toNat + 1)) (-1) (ζ.2.1 1))), ρ) C hW hr hk dX7_unflag_7 ⟨(show sp_unflag τ = (((τ.1 2 - 1)), (sg τ 2 (τ.1 2 - 1))) from by unfold sp_unflag; rw [if_neg (by omega)]), XZ_unflag (F := ((τ.1 2).toInt - 1).toNat) h_z (by omega) (by omega) (by omega) (by omega) (by omega) (by omega) (by omega)⟩
