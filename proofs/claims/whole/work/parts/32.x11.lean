/-! more public methods of the landed class -/
theorem tkN_keep {sh : Int32} : ∀ (n : Nat) (τ : ST), (∀ j, j ≠ 4 → (tkN sh n τ).1 j = τ.1 j) ∧ ∀ r, r ≠ 14 → (tkN sh n τ).2.1 r = τ.2.1 r
  | 0, _ => ⟨fun _ _ => rfl, fun _ _ => rfl⟩
  | n + 1, τ => by
    by_cases c : (τ.1 4).toInt < 200 ∧ ¬ (tkA τ sh).toInt = 0
    · rw [tkN_go c.1 c.2]
      have h := tkN_keep (sh := sh) n (tkT τ sh)
      exact ⟨fun j hj => (h.1 j hj).trans (if_neg hj), fun r hr => (h.2 r hr).trans (if_neg hr)⟩
    · rw [tkN_stop c]
      exact ⟨fun _ _ => rfl, fun _ _ => rfl⟩
theorem XZ_src {q : Nat → Nat} {nd : Nat} {τ ζ : ST} {ρ : RF} (h : XZ q nd τ ζ ρ) {z : Nat} {a b : Int32} (h1 : 0 ≤ a.toInt) (h2 : a.toInt < b.toInt) (h3 : b.toInt ≤ 1440) : XZ q nd (sa (sa (sa τ 15 z 1) 16 z a) 17 z b) (sa (sa ζ 3 z a) 4 z b) ρ := by
  obtain ⟨a1, a2, a3, a4, a5, a6, a7⟩ := h
  refine ⟨a1, a2, a3, fun y hy j hj => ?_, a5, fun y hy => ?_, a7⟩
  · show ζ.2.1 1 (100 * y + j) = nI (flcN (sa (sa (sa τ 15 z 1) 16 z a) 17 z b) y j (τ.1 2).toInt.toNat)
    have e := flcN_eq (τ := τ) (τ' := sa (sa (sa τ 15 z 1) 16 z a) 17 z b) (i := y) (j := j) rfl rfl rfl (τ.1 2).toInt.toNat
    rw [e]; exact a4 y hy j hj
  · have h := a6 y hy
    unfold srcOk at h ⊢
    rw [show (sa (sa (sa τ 15 z 1) 16 z a) 17 z b).2.1 15 y = (if y = z then 1 else τ.2.1 15 y) from rfl, show (sa (sa (sa τ 15 z 1) 16 z a) 17 z b).2.1 16 y = (if y = z then a else τ.2.1 16 y) from rfl, show (sa (sa (sa τ 15 z 1) 16 z a) 17 z b).2.1 17 y = (if y = z then b else τ.2.1 17 y) from rfl, show (sa (sa ζ 3 z a) 4 z b).2.1 3 y = (if y = z then a else ζ.2.1 3 y) from rfl, show (sa (sa ζ 3 z a) 4 z b).2.1 4 y = (if y = z then b else ζ.2.1 4 y) from rfl]
    by_cases e : y = z
    · rw [if_pos e, if_pos e, if_pos e, if_pos e, if_pos e]
      exact Or.inr ⟨by decide, rfl, rfl, by omega, by omega, by omega⟩
    · rw [if_neg e, if_neg e, if_neg e, if_neg e, if_neg e]; exact h
set_option maxHeartbeats 4000000 in
set_option maxRecDepth 100000 in
theorem c_X7_take (l : Launch) (G : GG) (q : Nat → Nat) (nd sz : Nat) (τ ζ : ST) (ρ : RF) (sh : Int32) (t : Int32) (h_nd : nd ≤ 6) (h_z : XZ q nd τ ζ ρ) (h_pt : 0 ≤ (τ.1 4).toInt ∧ (τ.1 4).toInt ≤ 200) (h_w : 0 ≤ (τ.1 5).toInt ∧ (τ.1 5).toInt ≤ (τ.1 6).toInt ∧ (τ.1 6).toInt ≤ 15 ∧ 0 ≤ (τ.1 7).toInt ∧ (τ.1 7).toInt ≤ (τ.1 8).toInt ∧ (τ.1 8).toInt ≤ 15) : Met l yX7_take (WSb yX7_take cX7_take 3 (some .int)) (rmA 4 94) (va_Pc [.ref (q 0), .int sh, .int t] (PW G (28 + 3 * nd) q sz (eX G q τ ζ ρ))) (va_Qi (fun (r : Int32) (u : (ST × ST × RF)) => sp_take τ sh t = (r, u.1) ∧ XZ q nd u.1 u.2.1 u.2.2) (fun u => BW G (28 + 3 * nd) q (eX G q u.1 u.2.1 u.2.2)) (FA (28 + 3 * nd) q sz)) 0 0 (FA (28 + 3 * nd) q sz) := by
  refine Met_B (own := RX7) rfl (by decide) (Nat.le_of_ble_eq_true rfl) (fun p e s m args below meth c ls hsz C hW hr hk hl QQ hQ => ?_)
  subst hsz
  have hl : lv_has ls 3 [(0, .ref (q 0)), (1, .int sh), (2, .int t)] := hl
  have h_n : (τ.1 0).toInt = (nd : Int) := h_z.1
  have h_r := h_z.2.1
  have h_kt := h_z.2.2.2.2.1
  refine lv_iload_n C.1 C.2.1 dX7_take_0 rfl (lv_at hl 1 rfl) ?_
  refine lv_iconst C.1 C.2.1 (v := 1) dX7_take_1 (by decide) ?_
  refine lv_bipush C.1 C.2.1 (v := 100) dX7_take_2 (by decide) ?_
  refine go_i hW (run_S (As := [.int sh, .int 1, .int 100]) (rest := []) C hW (c_X7_isWithin l G q nd _ τ ζ ρ sh 1 100 ((sh).toInt) 1 100 (rfl : (sh).toInt = (sh).toInt) (show (1 : Int32).toInt = 1 from by decide) (show (100 : Int32).toInt = 100 from by decide) h_nd) (cw_S 3 C bL_X7_51 bS_X7_isWithin bN_X7 bC_X7_isWithin ⟨rfl, rfl⟩ (by decide +kernel) ⟨Nat.le_of_ble_eq_true rfl, Nat.le_of_ble_eq_true rfl⟩) rfl hl.1 rfl (Nat.le_of_ble_eq_true rfl) dX7_take_4 ⟨Nat.le_refl _, Nat.le_refl _⟩) (fun r_1 u_1 H locs hp_1 hW => ?_)
  rcases hp_1 with ⟨rfl, rfl, k_1_0, k_1_1⟩ | ⟨rfl, rfl, k_1⟩
  · skip
    have hW : WB G (28 + 3 * nd) q (eX G q τ ζ ρ) s H locs := hW
    refine lv_if_eq C.1 C.2.1 (tgt := 20) dX7_take_7 (by decide) (fun c => absurd c (by decide)) (fun _ => ?_)
    refine lv_iload_n C.1 C.2.1 dX7_take_10 rfl (lv_at hl 2 rfl) ?_
    refine lv_iconst C.1 C.2.1 (v := 1) dX7_take_11 (by decide) ?_
    refine lv_bipush C.1 C.2.1 (v := 50) dX7_take_12 (by decide) ?_
    refine go_i hW (run_S (As := [.int t, .int 1, .int 50]) (rest := []) C hW (c_X7_isWithin l G q nd _ τ ζ ρ t 1 50 ((t).toInt) 1 50 (rfl : (t).toInt = (t).toInt) (show (1 : Int32).toInt = 1 from by decide) (show (50 : Int32).toInt = 50 from by decide) h_nd) (cw_S 3 C bL_X7_51 bS_X7_isWithin bN_X7 bC_X7_isWithin ⟨rfl, rfl⟩ (by decide +kernel) ⟨Nat.le_of_ble_eq_true rfl, Nat.le_of_ble_eq_true rfl⟩) rfl hl.1 rfl (Nat.le_of_ble_eq_true rfl) dX7_take_14 ⟨Nat.le_refl _, Nat.le_refl _⟩) (fun r_3 u_3 H locs hp_3 hW => ?_)
    rcases hp_3 with ⟨rfl, rfl, k_3_0, k_3_1⟩ | ⟨rfl, rfl, k_3⟩
    · skip
      have hW : WB G (28 + 3 * nd) q (eX G q τ ζ ρ) s H locs := hW
      refine lv_if_ne C.1 C.2.1 (tgt := 23) dX7_take_17 (by decide) (fun _ => ?_) (fun c => absurd c (by decide))
      refine lv_aload_n C.1 C.2.1 dX7_take_23 rfl (lv_at hl 0 rfl) ?_
      refine xG_DishHouse_board C hW bF_X7_33 dX7_take_24 ?_
      refine xG_Board_parts C hW bF_X7_192 (v := (τ.1 4)) rfl dX7_take_27 ?_
      refine lv_sipush C.1 C.2.1 (v := 200) dX7_take_30 (by decide) ?_
      refine lv_icmp_lt C.1 C.2.1 (tgt := 39) dX7_take_33 (by decide) (fun c_5 => ?_) (fun c_5 => ?_)
      · skip
        have k_5 := (tc_lt (rfl : ((τ.1 4)).toInt = ((τ.1 4)).toInt) (show (200 : Int32).toInt = 200 from by decide)).mp c_5
        refine lv_aload_n C.1 C.2.1 dX7_take_39 rfl (lv_at hl 0 rfl) ?_
        refine xG_DishHouse_board C hW bF_X7_33 dX7_take_40 ?_
        refine lv_iload_n C.1 C.2.1 dX7_take_43 rfl (lv_at hl 1 rfl) ?_
        refine lv_iload_n C.1 C.2.1 dX7_take_44 rfl (lv_at hl 2 rfl) ?_
        refine go_v hW (run_V (o := 14) (As := [.int sh, .int t]) (rest := []) C hW (by omega) rfl rfl (c_X0_takeOff l G q nd _ τ ζ ρ sh t  h_nd h_pt h_w (by omega) h_kt) (cw_V 2 C bL_X7_195 bI_X0_takeOff bV_X0_takeOff bN_X0 bC_X0_takeOff ⟨rfl, rfl⟩ (by decide +kernel) ⟨Nat.le_of_ble_eq_true rfl, Nat.le_of_ble_eq_true rfl⟩) rfl hl.1 rfl (Nat.le_of_ble_eq_true rfl) dX7_take_45 ⟨Nat.le_refl _, Nat.le_refl _⟩) (fun u_6 H locs hp_6 hW => ?_)
        obtain rfl := hp_6
        have hW : WB G (28 + 3 * nd) q (eX G q (tkN sh t.toInt.toNat τ) ζ ρ) s H locs := hW
        refine lv_aload_n C.1 C.2.1 dX7_take_48 rfl (lv_at hl 0 rfl) ?_
        refine xG_DishHouse_board C hW bF_X7_33 dX7_take_49 ?_
        refine xG_Board_parts C hW bF_X7_192 (v := ((tkN sh t.toInt.toNat τ).1 4)) rfl dX7_take_52 ?_
        subst hQ
        exact r_iret ((tkN sh t.toInt.toNat τ), ζ, ρ) C hW hr hk dX7_take_55 ⟨(show sp_take τ sh t = (((tkN sh t.toInt.toNat τ).1 4), (tkN sh t.toInt.toNat τ)) from by unfold sp_take; rw [if_pos (by omega), if_neg (by omega)]), XZ_eq h_z ((tkN_keep t.toInt.toNat τ).1 0 (by decide)) ((tkN_keep t.toInt.toNat τ).1 2 (by decide)) ((tkN_keep t.toInt.toNat τ).1 17 (by decide)) ((tkN_keep t.toInt.toNat τ).2 4 (by decide)) ((tkN_keep t.toInt.toNat τ).2 6 (by decide)) ((tkN_keep t.toInt.toNat τ).2 8 (by decide)) ((tkN_keep t.toInt.toNat τ).2 9 (by decide)) ((tkN_keep t.toInt.toNat τ).2 10 (by decide)) ((tkN_keep t.toInt.toNat τ).2 15 (by decide)) ((tkN_keep t.toInt.toNat τ).2 16 (by decide)) ((tkN_keep t.toInt.toNat τ).2 17 (by decide)) ((tkN_keep t.toInt.toNat τ).2 22 (by decide)) ((tkN_keep t.toInt.toNat τ).2 23 (by decide)) rfl rfl rfl rfl rfl rfl⟩
      · skip
        have k_5 := (tn_lt (rfl : ((τ.1 4)).toInt = ((τ.1 4)).toInt) (show (200 : Int32).toInt = 200 from by decide)).mp c_5
        refine lv_bipush C.1 C.2.1 (v := (-3)) dX7_take_36 (by decide) ?_
        subst hQ
        exact r_iret (τ, ζ, ρ) C hW hr hk dX7_take_38 ⟨(show sp_take τ sh t = ((-3), τ) from by unfold sp_take; (repeat (first | rw [if_pos (by omega)] | rw [if_neg (by omega)])); first | done | rfl), (XZ_eq h_z rfl rfl rfl rfl rfl rfl rfl rfl rfl rfl rfl rfl rfl rfl rfl rfl rfl rfl rfl)⟩
    · skip
      have hW : WB G (28 + 3 * nd) q (eX G q τ ζ ρ) s H locs := hW
      refine lv_if_ne C.1 C.2.1 (tgt := 23) dX7_take_17 (by decide) (fun c => absurd c (by decide)) (fun _ => ?_)
      refine lv_bipush C.1 C.2.1 (v := (-2)) dX7_take_20 (by decide) ?_
      subst hQ
      exact r_iret (τ, ζ, ρ) C hW hr hk dX7_take_22 ⟨(show sp_take τ sh t = ((-2), τ) from by unfold sp_take; (repeat (first | rw [if_pos (by omega)] | rw [if_neg (by omega)])); first | done | rfl), (XZ_eq h_z rfl rfl rfl rfl rfl rfl rfl rfl rfl rfl rfl rfl rfl rfl rfl rfl rfl rfl rfl)⟩
  · skip
    have hW : WB G (28 + 3 * nd) q (eX G q τ ζ ρ) s H locs := hW
    refine lv_if_eq C.1 C.2.1 (tgt := 20) dX7_take_7 (by decide) (fun _ => ?_) (fun c => absurd c (by decide))
    refine lv_bipush C.1 C.2.1 (v := (-2)) dX7_take_20 (by decide) ?_
    subst hQ
    exact r_iret (τ, ζ, ρ) C hW hr hk dX7_take_22 ⟨(show sp_take τ sh t = ((-2), τ) from by unfold sp_take; (repeat (first | rw [if_pos (by omega)] | rw [if_neg (by omega)])); first | done | rfl), (XZ_eq h_z rfl rfl rfl rfl rfl rfl rfl rfl rfl rfl rfl rfl rfl rfl rfl rfl rfl rfl rfl)⟩
set_option maxHeartbeats 4000000 in
set_option maxRecDepth 100000 in
theorem c_X7_order (l : Launch) (G : GG) (q : Nat → Nat) (nd sz : Nat) (τ ζ : ST) (ρ : RF) (kd : Int32) (a : Int32) (b : Int32) (h_nd : nd ≤ 6) (h_z : XZ q nd τ ζ ρ) (h_o : 0 ≤ (τ.1 9).toInt ∧ (τ.1 9).toInt ≤ 60) : Met l yX7_order (WSb yX7_order cX7_order 4 (some .int)) (rmA 2 45) (va_Pc [.ref (q 0), .int kd, .int a, .int b] (PW G (28 + 3 * nd) q sz (eX G q τ ζ ρ))) (va_Qi (fun (r : Int32) (u : (ST × ST × RF)) => sp_order τ kd a b = (r, u.1) ∧ XZ q nd u.1 u.2.1 u.2.2) (fun u => BW G (28 + 3 * nd) q (eX G q u.1 u.2.1 u.2.2)) (FA (28 + 3 * nd) q sz)) 0 0 (FA (28 + 3 * nd) q sz) := by
  refine Met_B (own := RX7) rfl (by decide) (Nat.le_of_ble_eq_true rfl) (fun p e s m args below meth c ls hsz C hW hr hk hl QQ hQ => ?_)
  subst hsz
  have hl : lv_has ls 4 [(0, .ref (q 0)), (1, .int kd), (2, .int a), (3, .int b)] := hl
  have h_n : (τ.1 0).toInt = (nd : Int) := h_z.1
  have h_r := h_z.2.1
  refine lv_aload_n C.1 C.2.1 dX7_order_0 rfl (lv_at hl 0 rfl) ?_
  refine xG_DishHouse_program C hW bF_X7_40 dX7_order_1 ?_
  refine lv_iload_n C.1 C.2.1 dX7_order_4 rfl (lv_at hl 1 rfl) ?_
  refine lv_iload_n C.1 C.2.1 dX7_order_5 rfl (lv_at hl 2 rfl) ?_
  refine lv_iload_n C.1 C.2.1 dX7_order_6 rfl (lv_at hl 3 rfl) ?_
  refine go_i hW (run_V (o := 19) (As := [.int kd, .int a, .int b]) (rest := []) C hW (by omega) rfl rfl (c_X3_fits l G q nd _ τ ζ ρ kd a b  h_nd h_o) (cw_V 3 C bL_X7_213 bI_X3_fits bV_X3_fits bN_X3 bC_X3_fits ⟨rfl, rfl⟩ (by decide +kernel) ⟨Nat.le_of_ble_eq_true rfl, Nat.le_of_ble_eq_true rfl⟩) rfl hl.1 rfl (Nat.le_of_ble_eq_true rfl) dX7_order_7 ⟨Nat.le_refl _, Nat.le_refl _⟩) (fun r_1 u_1 H locs hp_1 hW => ?_)
  rcases hp_1 with ⟨rfl, rfl, k_1⟩ | ⟨rfl, rfl, k_1⟩
  · skip
    have hW : WB G (28 + 3 * nd) q (eX G q τ ζ ρ) s H locs := hW
    refine lv_if_ne C.1 C.2.1 (tgt := 16) dX7_order_10 (by decide) (fun _ => ?_) (fun c => absurd c (by decide))
    refine lv_aload_n C.1 C.2.1 dX7_order_16 rfl (lv_at hl 0 rfl) ?_
    refine xG_DishHouse_program C hW bF_X7_40 dX7_order_17 ?_
    refine lv_iload_n C.1 C.2.1 dX7_order_20 rfl (lv_at hl 1 rfl) ?_
    refine lv_iload_n C.1 C.2.1 dX7_order_21 rfl (lv_at hl 2 rfl) ?_
    refine lv_iload_n C.1 C.2.1 dX7_order_22 rfl (lv_at hl 3 rfl) ?_
    refine go_i hW (run_V (o := 19) (As := [.int kd, .int a, .int b]) (rest := []) C hW (by omega) rfl rfl (c_X3_add l G q nd _ τ ζ ρ kd a b  h_nd h_o) (cw_V 3 C bL_X7_216 bI_X3_add bV_X3_add bN_X3 bC_X3_add ⟨rfl, rfl⟩ (by decide +kernel) ⟨Nat.le_of_ble_eq_true rfl, Nat.le_of_ble_eq_true rfl⟩) rfl hl.1 rfl (Nat.le_of_ble_eq_true rfl) dX7_order_23 ⟨Nat.le_refl _, Nat.le_refl _⟩) (fun r_3 u_3 H locs hp_3 hW => ?_)
    rcases hp_3 with ⟨rfl, rfl, k_3⟩ | ⟨rfl, rfl, k_3⟩
    · skip
      have hW : WB G (28 + 3 * nd) q (eX G q τ ζ ρ) s H locs := hW
      subst hQ
      exact r_iret (τ, ζ, ρ) C hW hr hk dX7_order_26 ⟨(show sp_order τ kd a b = ((-3), τ) from by unfold sp_order; (first | rw [cIf_pos (show okO τ kd a b by unfold okO; assumption)] | rw [cIf_neg (show ¬ okO τ kd a b by unfold okO; assumption)]); (repeat (first | rw [if_pos (by omega)] | rw [if_neg (by omega)])); first | done | rfl), (XZ_eq h_z rfl rfl rfl rfl rfl rfl rfl rfl rfl rfl rfl rfl rfl rfl rfl rfl rfl rfl rfl)⟩
    · skip
      have hW : WB G (28 + 3 * nd) q (eX G q (sg (sa (sa (sa τ 18 ((τ.1 9).toInt.toNat) kd) 19 ((τ.1 9).toInt.toNat) a) 20 ((τ.1 9).toInt.toNat) b) 9 (τ.1 9 + 1)) ζ ρ) s H locs := hW
      subst hQ
      exact r_iret ((sg (sa (sa (sa τ 18 ((τ.1 9).toInt.toNat) kd) 19 ((τ.1 9).toInt.toNat) a) 20 ((τ.1 9).toInt.toNat) b) 9 (τ.1 9 + 1)), ζ, ρ) C hW hr hk dX7_order_26 ⟨(show sp_order τ kd a b = ((τ.1 9 + 1 - 1), (sg (sa (sa (sa τ 18 ((τ.1 9).toInt.toNat) kd) 19 ((τ.1 9).toInt.toNat) a) 20 ((τ.1 9).toInt.toNat) b) 9 (τ.1 9 + 1))) from by unfold sp_order; (first | rw [cIf_pos (show okO τ kd a b by unfold okO; assumption)] | rw [cIf_neg (show ¬ okO τ kd a b by unfold okO; assumption)]); (repeat (first | rw [if_pos (by omega)] | rw [if_neg (by omega)])); first | done | rfl), (XZ_eq h_z rfl rfl rfl rfl rfl rfl rfl rfl rfl rfl rfl rfl rfl rfl rfl rfl rfl rfl rfl)⟩
  · skip
    have hW : WB G (28 + 3 * nd) q (eX G q τ ζ ρ) s H locs := hW
    refine lv_if_ne C.1 C.2.1 (tgt := 16) dX7_order_10 (by decide) (fun c => absurd c (by decide)) (fun _ => ?_)
    refine lv_bipush C.1 C.2.1 (v := (-2)) dX7_order_13 (by decide) ?_
    subst hQ
    exact r_iret (τ, ζ, ρ) C hW hr hk dX7_order_15 ⟨(show sp_order τ kd a b = ((-2), τ) from by unfold sp_order; (first | rw [cIf_pos (show okO τ kd a b by unfold okO; assumption)] | rw [cIf_neg (show ¬ okO τ kd a b by unfold okO; assumption)]); (repeat (first | rw [if_pos (by omega)] | rw [if_neg (by omega)])); first | done | rfl), (XZ_eq h_z rfl rfl rfl rfl rfl rfl rfl rfl rfl rfl rfl rfl rfl rfl rfl rfl rfl rfl rfl)⟩
set_option maxHeartbeats 4000000 in
set_option maxRecDepth 100000 in
theorem c_X7_source (l : Launch) (G : GG) (q : Nat → Nat) (nd sz : Nat) (τ ζ : ST) (ρ : RF) (o : Int32) (a : Int32) (b : Int32) (h_nd : nd ≤ 6) (h_z : XZ q nd τ ζ ρ) : Met l yX7_source (WSb yX7_source cX7_source 4 (some .int)) (rmA 1 22) (va_Pc [.ref (q 0), .int o, .int a, .int b] (PW G (28 + 3 * nd) q sz (eX G q τ ζ ρ))) (va_Qi (fun (r : Int32) (u : (ST × ST × RF)) => sp_source τ o a b = (r, u.1) ∧ XZ q nd u.1 u.2.1 u.2.2) (fun u => BW G (28 + 3 * nd) q (eX G q u.1 u.2.1 u.2.2)) (FA (28 + 3 * nd) q sz)) 0 0 (FA (28 + 3 * nd) q sz) := by
  refine Met_B (own := RX7) rfl (by decide) (Nat.le_of_ble_eq_true rfl) (fun p e s m args below meth c ls hsz C hW hr hk hl QQ hQ => ?_)
  subst hsz
  have hl : lv_has ls 4 [(0, .ref (q 0)), (1, .int o), (2, .int a), (3, .int b)] := hl
  have h_n : (τ.1 0).toInt = (nd : Int) := h_z.1
  have h_r := h_z.2.1
  refine lv_iload_n C.1 C.2.1 dX7_source_0 rfl (lv_at hl 1 rfl) ?_
  refine lv_iconst C.1 C.2.1 (v := 0) dX7_source_1 (by decide) ?_
  refine lv_bipush C.1 C.2.1 (v := 7) dX7_source_2 (by decide) ?_
  refine go_i hW (run_S (As := [.int o, .int 0, .int 7]) (rest := []) C hW (c_X7_isWithin l G q nd _ τ ζ ρ o 0 7 ((o).toInt) 0 7 (rfl : (o).toInt = (o).toInt) (show (0 : Int32).toInt = 0 from by decide) (show (7 : Int32).toInt = 7 from by decide) h_nd) (cw_S 3 C bL_X7_51 bS_X7_isWithin bN_X7 bC_X7_isWithin ⟨rfl, rfl⟩ (by decide +kernel) ⟨Nat.le_of_ble_eq_true rfl, Nat.le_of_ble_eq_true rfl⟩) rfl hl.1 rfl (Nat.le_of_ble_eq_true rfl) dX7_source_4 ⟨Nat.le_refl _, Nat.le_refl _⟩) (fun r_1 u_1 H locs hp_1 hW => ?_)
  rcases hp_1 with ⟨rfl, rfl, k_1_0, k_1_1⟩ | ⟨rfl, rfl, k_1⟩
  · skip
    have hW : WB G (28 + 3 * nd) q (eX G q τ ζ ρ) s H locs := hW
    refine lv_if_ne C.1 C.2.1 (tgt := 13) dX7_source_7 (by decide) (fun _ => ?_) (fun c => absurd c (by decide))
    refine lv_iload_n C.1 C.2.1 dX7_source_13 rfl (lv_at hl 2 rfl) ?_
    refine lv_if_lt C.1 C.2.1 (tgt := 29) dX7_source_14 (by decide) (fun c_3 => ?_) (fun c_3 => ?_)
    · skip
      have k_3 := (tc_lt (rfl : (a).toInt = (a).toInt) (show (0 : Int32).toInt = 0 from by decide)).mp c_3
      refine lv_bipush C.1 C.2.1 (v := (-2)) dX7_source_29 (by decide) ?_
      subst hQ
      exact r_iret (τ, ζ, ρ) C hW hr hk dX7_source_31 ⟨(show sp_source τ o a b = ((-2), τ) from by unfold sp_source; (repeat (first | rw [if_pos (by omega)] | rw [if_neg (by omega)])); first | done | rfl), (XZ_eq h_z rfl rfl rfl rfl rfl rfl rfl rfl rfl rfl rfl rfl rfl rfl rfl rfl rfl rfl rfl)⟩
    · skip
      have k_3 := (tn_lt (rfl : (a).toInt = (a).toInt) (show (0 : Int32).toInt = 0 from by decide)).mp c_3
      refine lv_iload_n C.1 C.2.1 dX7_source_17 rfl (lv_at hl 3 rfl) ?_
      refine lv_sipush C.1 C.2.1 (v := 1440) dX7_source_18 (by decide) ?_
      refine lv_icmp_gt C.1 C.2.1 (tgt := 29) dX7_source_21 (by decide) (fun c_4 => ?_) (fun c_4 => ?_)
      · skip
        have k_4 := (tc_lt (show (1440 : Int32).toInt = 1440 from by decide) (rfl : (b).toInt = (b).toInt)).mp c_4
        refine lv_bipush C.1 C.2.1 (v := (-2)) dX7_source_29 (by decide) ?_
        subst hQ
        exact r_iret (τ, ζ, ρ) C hW hr hk dX7_source_31 ⟨(show sp_source τ o a b = ((-2), τ) from by unfold sp_source; (repeat (first | rw [if_pos (by omega)] | rw [if_neg (by omega)])); first | done | rfl), (XZ_eq h_z rfl rfl rfl rfl rfl rfl rfl rfl rfl rfl rfl rfl rfl rfl rfl rfl rfl rfl rfl)⟩
      · skip
        have k_4 := (tn_lt (show (1440 : Int32).toInt = 1440 from by decide) (rfl : (b).toInt = (b).toInt)).mp c_4
        refine lv_iload_n C.1 C.2.1 dX7_source_24 rfl (lv_at hl 2 rfl) ?_
        refine lv_iload_n C.1 C.2.1 dX7_source_25 rfl (lv_at hl 3 rfl) ?_
        refine lv_icmp_lt C.1 C.2.1 (tgt := 32) dX7_source_26 (by decide) (fun c_5 => ?_) (fun c_5 => ?_)
        · skip
          have k_5 := (tc_lt (rfl : (a).toInt = (a).toInt) (rfl : (b).toInt = (b).toInt)).mp c_5
          refine lv_aload_n C.1 C.2.1 dX7_source_32 rfl (lv_at hl 0 rfl) ?_
          refine xG_DishHouse_program C hW bF_X7_40 dX7_source_33 ?_
          refine xG_Program_rises C hW bF_X7_207 dX7_source_36 ?_
          refine lv_iload_n C.1 C.2.1 dX7_source_39 rfl (lv_at hl 1 rfl) ?_
          refine lv_iload_n C.1 C.2.1 dX7_source_40 rfl (lv_at hl 2 rfl) ?_
          refine xS_23 C hW (((o).toInt).toNat) ((rfl : (o).toInt = (o).toInt).trans (by omega)) (by omega) dX7_source_41 (fun H locs hW => ?_)
          refine lv_aload_n C.1 C.2.1 dX7_source_42 rfl (lv_at hl 0 rfl) ?_
          refine xG_DishHouse_program C hW bF_X7_40 dX7_source_43 ?_
          refine xG_Program_sets C hW bF_X7_210 dX7_source_46 ?_
          refine lv_iload_n C.1 C.2.1 dX7_source_49 rfl (lv_at hl 1 rfl) ?_
          refine lv_iload_n C.1 C.2.1 dX7_source_50 rfl (lv_at hl 3 rfl) ?_
          refine xS_24 C hW (((o).toInt).toNat) ((rfl : (o).toInt = (o).toInt).trans (by omega)) (by omega) dX7_source_51 (fun H locs hW => ?_)
          have hW : WB G (28 + 3 * nd) q (eX G q (sa (sa (sa τ 15 o.toInt.toNat 1) 16 o.toInt.toNat a) 17 o.toInt.toNat b) (sa (sa ζ 3 (((o).toInt).toNat) a) 4 (((o).toInt).toNat) b) ρ) s H locs := WB.to hW (fun j hj => match j, hj with
            | 0, _ => rfl
            | 1, _ => rfl
            | 2, _ => rfl
            | 3, _ => rfl
            | 4, _ => rfl
            | 5, _ => rfl
            | 6, _ => rfl
            | 7, _ => rfl
            | 8, _ => rfl
            | 9, _ => rfl
            | 10, _ => rfl
            | 11, _ => rfl
            | 12, _ => rfl
            | 13, _ => rfl
            | 14, _ => rfl
            | 15, _ => rfl
            | 16, _ => rfl
            | 17, _ => rfl
            | 18, _ => rfl
            | 19, _ => rfl
            | 20, _ => rfl
            | 21, _ => rfl
            | 22, _ => rfl
            | 23, _ => rfl
            | 24, _ => rfl
            | 25, _ => rfl
            | 26, _ => rfl
            | 27, _ => rfl
            | j + 28, hj => rfl)
          refine lv_iconst C.1 C.2.1 (v := 1) dX7_source_52 (by decide) ?_
          subst hQ
          exact r_iret ((sa (sa (sa τ 15 o.toInt.toNat 1) 16 o.toInt.toNat a) 17 o.toInt.toNat b), (sa (sa ζ 3 (((o).toInt).toNat) a) 4 (((o).toInt).toNat) b), ρ) C hW hr hk dX7_source_53 ⟨(show sp_source τ o a b = (1, (sa (sa (sa τ 15 o.toInt.toNat 1) 16 o.toInt.toNat a) 17 o.toInt.toNat b)) from by unfold sp_source; rw [if_pos (by omega)]), XZ_src h_z (by omega) (by omega) (by omega)⟩
        · skip
          have k_5 := (tn_lt (rfl : (a).toInt = (a).toInt) (rfl : (b).toInt = (b).toInt)).mp c_5
          refine lv_bipush C.1 C.2.1 (v := (-2)) dX7_source_29 (by decide) ?_
          subst hQ
          exact r_iret (τ, ζ, ρ) C hW hr hk dX7_source_31 ⟨(show sp_source τ o a b = ((-2), τ) from by unfold sp_source; (repeat (first | rw [if_pos (by omega)] | rw [if_neg (by omega)])); first | done | rfl), (XZ_eq h_z rfl rfl rfl rfl rfl rfl rfl rfl rfl rfl rfl rfl rfl rfl rfl rfl rfl rfl rfl)⟩
  · skip
    have hW : WB G (28 + 3 * nd) q (eX G q τ ζ ρ) s H locs := hW
    refine lv_if_ne C.1 C.2.1 (tgt := 13) dX7_source_7 (by decide) (fun c => absurd c (by decide)) (fun _ => ?_)
    refine lv_bipush C.1 C.2.1 (v := (-2)) dX7_source_10 (by decide) ?_
    subst hQ
    exact r_iret (τ, ζ, ρ) C hW hr hk dX7_source_12 ⟨(show sp_source τ o a b = ((-2), τ) from by unfold sp_source; (repeat (first | rw [if_pos (by omega)] | rw [if_neg (by omega)])); first | done | rfl), (XZ_eq h_z rfl rfl rfl rfl rfl rfl rfl rfl rfl rfl rfl rfl rfl rfl rfl rfl rfl rfl rfl)⟩
set_option maxHeartbeats 4000000 in
set_option maxRecDepth 100000 in
theorem c_X7_beam (l : Launch) (G : GG) (q : Nat → Nat) (nd sz : Nat) (τ ζ : ST) (ρ : RF) (x : Int32) (y : Int32) (h_nd : nd ≤ 6) (h_z : XZ q nd τ ζ ρ) (h_f : 0 ≤ (τ.1 2).toInt ∧ (τ.1 2).toInt ≤ 40) (h_s : ∀ d : Nat, d < 6 → 0 ≤ (τ.2.1 6 d).toInt ∧ (τ.2.1 6 d).toInt ≤ 100) (h_l : ∀ d : Nat, d < 6 → 0 ≤ (τ.2.1 2 d).toInt ∧ (τ.2.1 2 d).toInt ≤ 30) : Met l yX7_beam (WSb yX7_beam cX7_beam 3 (some .int)) (rmA 6 135) (va_Pc [.ref (q 0), .int x, .int y] (PW G (28 + 3 * nd) q sz (eX G q τ ζ ρ))) (va_Qi (fun (r : Int32) (u : (ST × ST × RF)) => sp_beam τ x y = (r, u.1) ∧ XZ q nd u.1 u.2.1 u.2.2) (fun u => BW G (28 + 3 * nd) q (eX G q u.1 u.2.1 u.2.2)) (FA (28 + 3 * nd) q sz)) 0 0 (FA (28 + 3 * nd) q sz) := by
  refine Met_B (own := RX7) rfl (by decide) (Nat.le_of_ble_eq_true rfl) (fun p e s m args below meth c ls hsz C hW hr hk hl QQ hQ => ?_)
  subst hsz
  have hl : lv_has ls 3 [(0, .ref (q 0)), (1, .int x), (2, .int y)] := hl
  have h_n : (τ.1 0).toInt = (nd : Int) := h_z.1
  have h_r := h_z.2.1
  have h_dk := XZ_dOk h_z h_nd h_f h_s h_l
  refine lv_iload_n C.1 C.2.1 dX7_beam_0 rfl (lv_at hl 1 rfl) ?_
  refine lv_sipush C.1 C.2.1 (v := (-1000)) dX7_beam_1 (by decide) ?_
  refine lv_sipush C.1 C.2.1 (v := 1000) dX7_beam_4 (by decide) ?_
  refine go_i hW (run_S (As := [.int x, .int (-1000), .int 1000]) (rest := []) C hW (c_X7_isWithin l G q nd _ τ ζ ρ x (-1000) 1000 ((x).toInt) (-1000) 1000 (rfl : (x).toInt = (x).toInt) (show (-1000 : Int32).toInt = -1000 from by decide) (show (1000 : Int32).toInt = 1000 from by decide) h_nd) (cw_S 3 C bL_X7_51 bS_X7_isWithin bN_X7 bC_X7_isWithin ⟨rfl, rfl⟩ (by decide +kernel) ⟨Nat.le_of_ble_eq_true rfl, Nat.le_of_ble_eq_true rfl⟩) rfl hl.1 rfl (Nat.le_of_ble_eq_true rfl) dX7_beam_7 ⟨Nat.le_refl _, Nat.le_refl _⟩) (fun r_1 u_1 H locs hp_1 hW => ?_)
  rcases hp_1 with ⟨rfl, rfl, k_1_0, k_1_1⟩ | ⟨rfl, rfl, k_1⟩
  · skip
    have hW : WB G (28 + 3 * nd) q (eX G q τ ζ ρ) s H locs := hW
    refine lv_if_eq C.1 C.2.1 (tgt := 26) dX7_beam_10 (by decide) (fun c => absurd c (by decide)) (fun _ => ?_)
    refine lv_iload_n C.1 C.2.1 dX7_beam_13 rfl (lv_at hl 2 rfl) ?_
    refine lv_sipush C.1 C.2.1 (v := (-1000)) dX7_beam_14 (by decide) ?_
    refine lv_sipush C.1 C.2.1 (v := 1000) dX7_beam_17 (by decide) ?_
    refine go_i hW (run_S (As := [.int y, .int (-1000), .int 1000]) (rest := []) C hW (c_X7_isWithin l G q nd _ τ ζ ρ y (-1000) 1000 ((y).toInt) (-1000) 1000 (rfl : (y).toInt = (y).toInt) (show (-1000 : Int32).toInt = -1000 from by decide) (show (1000 : Int32).toInt = 1000 from by decide) h_nd) (cw_S 3 C bL_X7_51 bS_X7_isWithin bN_X7 bC_X7_isWithin ⟨rfl, rfl⟩ (by decide +kernel) ⟨Nat.le_of_ble_eq_true rfl, Nat.le_of_ble_eq_true rfl⟩) rfl hl.1 rfl (Nat.le_of_ble_eq_true rfl) dX7_beam_20 ⟨Nat.le_refl _, Nat.le_refl _⟩) (fun r_3 u_3 H locs hp_3 hW => ?_)
    rcases hp_3 with ⟨rfl, rfl, k_3_0, k_3_1⟩ | ⟨rfl, rfl, k_3⟩
    · skip
      have hW : WB G (28 + 3 * nd) q (eX G q τ ζ ρ) s H locs := hW
      refine lv_if_ne C.1 C.2.1 (tgt := 29) dX7_beam_23 (by decide) (fun _ => ?_) (fun c => absurd c (by decide))
      refine lv_aload_n C.1 C.2.1 dX7_beam_29 rfl (lv_at hl 0 rfl) ?_
      refine xG_DishHouse_spacings C hW bF_X7_19 dX7_beam_30 ?_
      refine lv_aload_n C.1 C.2.1 dX7_beam_33 rfl (lv_at hl 0 rfl) ?_
      refine xG_DishHouse_row C hW bF_X7_12 dX7_beam_34 ?_
      refine go_v hW (run_V (o := 6) (As := [.ref (q 1)]) (rest := []) C hW (by omega) rfl rfl (c_X6_gather l G q nd _ τ ζ ρ   h_nd h_n h_r h_dk) (cw_V 1 C bL_X7_149 bI_X6_gather bV_X6_gather bN_X6 bC_X6_gather ⟨rfl, rfl⟩ (by decide +kernel) ⟨Nat.le_of_ble_eq_true rfl, Nat.le_of_ble_eq_true rfl⟩) rfl hl.1 rfl (Nat.le_of_ble_eq_true rfl) dX7_beam_37 ⟨Nat.le_refl _, Nat.le_refl _⟩) (fun u_5 H locs hp_5 hW => ?_)
      rcases hp_5 with ⟨ζ1_5, rfl, k_5_0, k_5_1, k_5_2⟩
      have hW : WB G (28 + 3 * nd) q (eX G q τ ζ1_5 ρ) s H locs := hW
      have h15 : spN τ ≤ 15 := spL_len τ (by omega)
      have en : (ζ1_5.1 0).toInt.toNat = spN τ := by rw [k_5_0, nI_toInt (by omega)]; omega
      have h_x : 0 ≤ (ζ1_5.1 0).toInt ∧ (ζ1_5.1 0).toInt ≤ 15 := by rw [k_5_0, nI_toInt (by omega)]; omega
      have hU : ∀ k, k < spN τ → ζ1_5.2.1 5 k = spU τ k ∧ ζ1_5.2.1 6 k = spV τ k := fun k hk => ⟨(k_5_1 k hk).1, (k_5_1 k hk).2.1⟩
      have hUP : ∀ k, k < spN τ → ζ1_5.2.1 5 k = spU τ k ∧ ζ1_5.2.1 6 k = spV τ k ∧ ζ1_5.2.2 0 k = spP τ k := fun k hk => k_5_1 k hk
      have hzk := k_5_2
      refine lv_aload_n C.1 C.2.1 dX7_beam_40 rfl (lv_at hl 0 rfl) ?_
      refine xG_DishHouse_spacings C hW bF_X7_19 dX7_beam_41 ?_
      refine lv_iload_n C.1 C.2.1 dX7_beam_44 rfl (lv_at hl 1 rfl) ?_
      refine lv_iload_n C.1 C.2.1 dX7_beam_45 rfl (lv_at hl 2 rfl) ?_
      refine go_i hW (run_V (o := 6) (As := [.int x, .int y]) (rest := []) C hW (by omega) rfl rfl (c_X6_beamAt l G q nd _ τ ζ1_5 ρ x y  h_nd h_x) (cw_V 2 C bL_X7_153 bI_X6_beamAt bV_X6_beamAt bN_X6 bC_X6_beamAt ⟨rfl, rfl⟩ (by decide +kernel) ⟨Nat.le_of_ble_eq_true rfl, Nat.le_of_ble_eq_true rfl⟩) rfl hl.1 rfl (Nat.le_of_ble_eq_true rfl) dX7_beam_46 ⟨Nat.le_refl _, Nat.le_refl _⟩) (fun r_6 u_6 H locs hp_6 hW => ?_)
      rcases hp_6 with ⟨rfl, rfl⟩
      have hW : WB G (28 + 3 * nd) q (eX G q τ ζ1_5 ρ) s H locs := hW
      subst hQ
      exact r_iret (τ, ζ1_5, ρ) C hW hr hk dX7_beam_49 ⟨(show sp_beam τ x y = ((bmS (ζ1_5.2.1 5) (ζ1_5.2.1 6) x y (ζ1_5.1 0).toInt.toNat), τ) from by unfold sp_beam; rw [if_pos (by omega), en, bmS_congr hU]), XZ_eq h_z rfl rfl rfl rfl rfl rfl rfl rfl rfl rfl rfl rfl rfl (hzk 0 (by decide) (by decide)) (hzk 1 (by decide) (by decide)) (hzk 2 (by decide) (by decide)) (hzk 3 (by decide) (by decide)) (hzk 4 (by decide) (by decide)) rfl⟩
    · skip
      have hW : WB G (28 + 3 * nd) q (eX G q τ ζ ρ) s H locs := hW
      refine lv_if_ne C.1 C.2.1 (tgt := 29) dX7_beam_23 (by decide) (fun c => absurd c (by decide)) (fun _ => ?_)
      refine lv_ldc C.1 C.2.1 C.2.2.2.1 (C.2.2.2.2.1 _ bQ_X7_97) dX7_beam_26 ?_
      subst hQ
      exact r_iret (τ, ζ, ρ) C hW hr hk dX7_beam_28 ⟨(show sp_beam τ x y = ((-2147483648), τ) from by unfold sp_beam; (repeat (first | rw [if_pos (by omega)] | rw [if_neg (by omega)])); first | done | rfl), (XZ_eq h_z rfl rfl rfl rfl rfl rfl rfl rfl rfl rfl rfl rfl rfl rfl rfl rfl rfl rfl rfl)⟩
  · skip
    have hW : WB G (28 + 3 * nd) q (eX G q τ ζ ρ) s H locs := hW
    refine lv_if_eq C.1 C.2.1 (tgt := 26) dX7_beam_10 (by decide) (fun _ => ?_) (fun c => absurd c (by decide))
    refine lv_ldc C.1 C.2.1 C.2.2.2.1 (C.2.2.2.2.1 _ bQ_X7_97) dX7_beam_26 ?_
    subst hQ
    exact r_iret (τ, ζ, ρ) C hW hr hk dX7_beam_28 ⟨(show sp_beam τ x y = ((-2147483648), τ) from by unfold sp_beam; (repeat (first | rw [if_pos (by omega)] | rw [if_neg (by omega)])); first | done | rfl), (XZ_eq h_z rfl rfl rfl rfl rfl rfl rfl rfl rfl rfl rfl rfl rfl rfl rfl rfl rfl rfl rfl)⟩
