/-! reels and parts of the landed class -/
theorem XZ_len {q : Nat → Nat} {nd z : Nat} {τ ζ : ST} {ρ : RF} (h : XZ q nd τ ζ ρ) (hz : z < nd) : ((τ.2.1 4 z).toInt = 0 ∧ (ζ.2.1 0 z).toInt = -1) ∨ (¬ (τ.2.1 4 z).toInt = 0 ∧ (ζ.2.1 0 z).toInt = (τ.2.1 6 z).toInt) := by
  have h1 := h.2.2.1 z hz
  by_cases c : (τ.2.1 4 z).toInt = 0
  · exact Or.inl ⟨c, by rw [h1, if_pos c]; decide⟩
  · exact Or.inr ⟨c, by rw [h1, if_neg c]⟩
theorem XZ_lose {q : Nat → Nat} {nd z : Nat} {τ ζ : ST} {ρ : RF} (h : XZ q nd τ ζ ρ) : XZ q nd (sa τ 4 z 0) (sa ζ 0 z (-1)) ρ := by
  obtain ⟨a1, a2, a3, a4, a5, a6, a7⟩ := h
  refine ⟨a1, a2, fun y hy => ?_, fun y hy j hj => ?_, a5, a6, a7⟩
  · have h := a3 y hy
    show (if y = z then (-1 : Int32) else ζ.2.1 0 y) = (if ((if y = z then (0 : Int32) else τ.2.1 4 y)).toInt = 0 then -1 else τ.2.1 6 y)
    by_cases e : y = z
    · rw [if_pos e, if_pos e, if_pos (by decide)]
    · rw [if_neg e, if_neg e]; exact h
  · have e := flcN_eq (τ := τ) (τ' := sa τ 4 z 0) (i := y) (j := j) rfl rfl rfl (τ.1 2).toInt.toNat
    show ζ.2.1 1 (100 * y + j) = nI (flcN (sa τ 4 z 0) y j (τ.1 2).toInt.toNat)
    rw [e]; exact a4 y hy j hj
theorem XZ_reel {q : Nat → Nat} {nd z : Nat} {τ ζ : ST} {ρ : RF} {f n : Int32} {g : Nat → Int32} (h : XZ q nd τ ζ ρ) : XZ q nd (saF (sa (sa (sa τ 4 z 1) 5 z f) 6 z n) 7 g) (sa ζ 0 z n) ρ := by
  obtain ⟨a1, a2, a3, a4, a5, a6, a7⟩ := h
  refine ⟨a1, a2, fun y hy => ?_, fun y hy j hj => ?_, a5, a6, a7⟩
  · have h := a3 y hy
    show (if y = z then n else ζ.2.1 0 y) = (if ((if y = z then (1 : Int32) else τ.2.1 4 y)).toInt = 0 then -1 else (if y = z then n else τ.2.1 6 y))
    by_cases e : y = z
    · rw [if_pos e, if_pos e, if_pos e, if_neg (by decide)]
    · rw [if_neg e, if_neg e, if_neg e]; exact h
  · have e := flcN_eq (τ := τ) (τ' := saF (sa (sa (sa τ 4 z 1) 5 z f) 6 z n) 7 g) (i := y) (j := j) rfl rfl rfl (τ.1 2).toInt.toNat
    show ζ.2.1 1 (100 * y + j) = nI (flcN (saF (sa (sa (sa τ 4 z 1) 5 z f) 6 z n) 7 g) y j (τ.1 2).toInt.toNat)
    rw [e]; exact a4 y hy j hj
set_option maxHeartbeats 4000000 in
set_option maxRecDepth 100000 in
theorem c_X7_lose (l : Launch) (G : GG) (q : Nat → Nat) (nd sz : Nat) (τ ζ : ST) (ρ : RF) (d : Int32) (h_nd : nd ≤ 6) (h_z : XZ q nd τ ζ ρ) (h_s : ∀ d : Nat, d < 6 → 0 ≤ (τ.2.1 6 d).toInt ∧ (τ.2.1 6 d).toInt ≤ 100) : Met l yX7_lose (WSb yX7_lose cX7_lose 4 (some .int)) (rmA 1 21) (va_Pc [.ref (q 0), .int d] (PW G (28 + 3 * nd) q sz (eX G q τ ζ ρ))) (va_Qi (fun (r : Int32) (u : (ST × ST × RF)) => sp_lose τ d = (r, u.1) ∧ XZ q nd u.1 u.2.1 u.2.2) (fun u => BW G (28 + 3 * nd) q (eX G q u.1 u.2.1 u.2.2)) (FA (28 + 3 * nd) q sz)) 0 0 (FA (28 + 3 * nd) q sz) := by
  refine Met_B (own := RX7) rfl (by decide) (Nat.le_of_ble_eq_true rfl) (fun p e s m args below meth c ls hsz C hW hr hk hl QQ hQ => ?_)
  subst hsz
  have hl : lv_has ls 4 [(0, .ref (q 0)), (1, .int d)] := hl
  have h_n : (τ.1 0).toInt = (nd : Int) := h_z.1
  have h_r := h_z.2.1
  refine lv_aload_n C.1 C.2.1 dX7_lose_0 rfl (lv_at hl 0 rfl) ?_
  refine xG_DishHouse_row C hW bF_X7_12 dX7_lose_1 ?_
  refine lv_iload_n C.1 C.2.1 dX7_lose_4 rfl (lv_at hl 1 rfl) ?_
  refine go_q hW (run_V (o := 1) (As := [.int d]) (rest := []) C hW (by omega) rfl rfl (c_X4_find l G q nd _ τ ζ ρ d  h_nd h_n h_r) (cw_V 1 C bL_X7_59 bI_X4_find bV_X4_find bN_X4 bC_X4_find ⟨rfl, rfl⟩ (by decide +kernel) ⟨Nat.le_of_ble_eq_true rfl, Nat.le_of_ble_eq_true rfl⟩) rfl hl.1 rfl (Nat.le_of_ble_eq_true rfl) dX7_lose_5 ⟨Nat.le_refl _, Nat.le_refl _⟩) (fun r_1 u_1 H locs hp_1 hW => ?_)
  rcases hp_1 with ⟨rfl, rfl, k_1⟩ | ⟨rfl, rfl, k_1_0, k_1_1⟩
  · skip
    have hW : WB G (28 + 3 * nd) q (eX G q τ ζ ρ) s H locs := hW
    refine lv_astore_nN (lv' := [(2, .null), (0, .ref (q 0)), (1, .int d)]) C.1 C.2.1 dX7_lose_8 rfl hl (by decide) rfl (fun ls hl => ?_)
    refine lv_aload_nN C.1 C.2.1 dX7_lose_9 rfl (lv_at hl 0 rfl) ?_
    refine lv_ifnonnullN C.1 C.2.1 dX7_lose_10 ?_
    refine lv_bipush C.1 C.2.1 (v := (-2)) dX7_lose_13 (by decide) ?_
    subst hQ
    exact r_iret (τ, ζ, ρ) C hW hr hk dX7_lose_15 ⟨(show sp_lose τ d = ((-2), τ) from by unfold sp_lose; (repeat (first | rw [if_pos (by omega)] | rw [if_neg (by omega)])); first | done | rfl), (XZ_eq h_z rfl rfl rfl rfl rfl rfl rfl rfl rfl rfl rfl rfl rfl rfl rfl rfl rfl rfl rfl)⟩
  · skip
    have hW : WB G (28 + 3 * nd) q (eX G q τ ζ ρ) s H locs := hW
    have hlen := XZ_len h_z (z := d.toInt.toNat) (by omega)
    have hsz := h_s d.toInt.toNat (by omega)
    refine lv_astore_n (lv' := [(2, .ref (q (28 + 3 * ((d).toInt).toNat))), (0, .ref (q 0)), (1, .int d)]) C.1 C.2.1 dX7_lose_8 rfl hl (by decide) rfl (fun ls hl => ?_)
    refine lv_aload_n C.1 C.2.1 dX7_lose_9 rfl (lv_at hl 0 rfl) ?_
    refine lv_ifnonnull C.1 C.2.1 (tgt := 16) dX7_lose_10 (by decide) ?_
    refine lv_aload_n C.1 C.2.1 dX7_lose_16 rfl (lv_at hl 0 rfl) ?_
    refine go_i hW (run_V (o := 28 + 3 * (((d).toInt).toNat)) (As := []) (rest := []) C hW (by omega) (eX_obj _ _ _ _ _ (((d).toInt).toNat)) rfl (c_X1_isLost l G q nd _ τ ζ ρ  (((d).toInt).toNat) h_nd (by omega)) (cw_V 0 C bL_X7_84 bI_X1_isLost bV_X1_isLost bN_X1 bC_X1_isLost ⟨rfl, rfl⟩ (by decide +kernel) ⟨Nat.le_of_ble_eq_true rfl, Nat.le_of_ble_eq_true rfl⟩) rfl hl.1 rfl (Nat.le_of_ble_eq_true rfl) dX7_lose_17 ⟨Nat.le_refl _, Nat.le_refl _⟩) (fun r_2 u_2 H locs hp_2 hW => ?_)
    rcases hp_2 with ⟨rfl, rfl, k_2⟩ | ⟨rfl, rfl, k_2⟩
    · skip
      have hW : WB G (28 + 3 * nd) q (eX G q τ ζ ρ) s H locs := hW
      refine lv_if_eq C.1 C.2.1 (tgt := 29) dX7_lose_20 (by decide) (fun c => absurd c (by decide)) (fun _ => ?_)
      refine lv_aload_n C.1 C.2.1 dX7_lose_23 rfl (lv_at hl 1 rfl) ?_
      refine lv_iconst C.1 C.2.1 (v := 1) dX7_lose_24 (by decide) ?_
      refine go_i hW (run_V (o := 0) (As := [.int 1]) (rest := []) C hW (by omega) rfl rfl (c_X7_foundOut l G q nd _ τ ζ ρ 1  h_nd) (cw_V 1 C bL_X7_76 bI_X7_foundOut bV_X7_foundOut bN_X7 bC_X7_foundOut ⟨rfl, rfl⟩ (by decide +kernel) ⟨Nat.le_of_ble_eq_true rfl, Nat.le_of_ble_eq_true rfl⟩) rfl hl.1 rfl (Nat.le_of_ble_eq_true rfl) dX7_lose_25 ⟨Nat.le_refl _, Nat.le_refl _⟩) (fun r_4 u_4 H locs hp_4 hW => ?_)
      rcases hp_4 with ⟨rfl, rfl⟩
      have hW : WB G (28 + 3 * nd) q (eX G q (sg τ 1 1) ζ ρ) s H locs := hW
      subst hQ
      exact r_iret ((sg τ 1 1), ζ, ρ) C hW hr hk dX7_lose_28 ⟨(show sp_lose τ d = (((-10 - 1)), (sg τ 1 1)) from by unfold sp_lose; (repeat (first | rw [if_pos (by omega)] | rw [if_neg (by omega)])); first | done | rfl), (XZ_eq h_z rfl rfl rfl rfl rfl rfl rfl rfl rfl rfl rfl rfl rfl rfl rfl rfl rfl rfl rfl)⟩
    · skip
      have hW : WB G (28 + 3 * nd) q (eX G q τ ζ ρ) s H locs := hW
      refine lv_if_eq C.1 C.2.1 (tgt := 29) dX7_lose_20 (by decide) (fun _ => ?_) (fun c => absurd c (by decide))
      refine lv_aload_n C.1 C.2.1 dX7_lose_29 rfl (lv_at hl 0 rfl) ?_
      refine xG_Dish_length C hW (((d).toInt).toNat) (by omega) bF_X7_88 (v := (ζ.2.1 0 (((d).toInt).toNat))) rfl dX7_lose_30 ?_
      refine lv_istore_n (lv' := [(3, .int (ζ.2.1 0 (((d).toInt).toNat))), (2, .ref (q (28 + 3 * ((d).toInt).toNat))), (0, .ref (q 0)), (1, .int d)]) C.1 C.2.1 dX7_lose_33 rfl hl (by decide) rfl (fun ls hl => ?_)
      refine lv_aload_n C.1 C.2.1 dX7_lose_34 rfl (lv_at hl 1 rfl) ?_
      refine lv_iconst C.1 C.2.1 (v := (-1)) dX7_lose_35 (by decide) ?_
      refine xP_Dish_length C hW (((d).toInt).toNat) (by omega) bF_X7_88 dX7_lose_36 (fun H locs hW => ?_)
      have hW : WB G (28 + 3 * nd) q (eX G q (sa τ 4 d.toInt.toNat 0) (sa ζ 0 (((d).toInt).toNat) (-1)) ρ) s H locs := WB.to hW (fun j hj => match j, hj with
        | 0, _ => rfl
        | 1, _ => rfl
        | 2, _ => rfl
        | 3, _ => rfl
        | 4, _ => rfl
        | 5, _ => rfl
        | 6, _ => rfl
        | 7, _ => rfl
        | 8, _ => rfl
        | 9, _ => rfl
        | 10, _ => rfl
        | 11, _ => rfl
        | 12, _ => rfl
        | 13, _ => rfl
        | 14, _ => rfl
        | 15, _ => rfl
        | 16, _ => rfl
        | 17, _ => rfl
        | 18, _ => rfl
        | 19, _ => rfl
        | 20, _ => rfl
        | 21, _ => rfl
        | 22, _ => rfl
        | 23, _ => rfl
        | 24, _ => rfl
        | 25, _ => rfl
        | 26, _ => rfl
        | 27, _ => rfl
        | j + 28, hj => rfl)
      refine lv_iload_n C.1 C.2.1 dX7_lose_39 rfl (lv_at hl 0 rfl) ?_
      subst hQ
      exact r_iret ((sa τ 4 d.toInt.toNat 0), (sa ζ 0 (((d).toInt).toNat) (-1)), ρ) C hW hr hk dX7_lose_40 ⟨(show sp_lose τ d = ((ζ.2.1 0 (((d).toInt).toNat)), (sa τ 4 d.toInt.toNat 0)) from by unfold sp_lose; rw [if_pos (by omega), if_neg (by omega), (h_z.2.2.1 d.toInt.toNat (by omega)).trans (if_neg (by omega))]), XZ_lose h_z⟩
set_option maxHeartbeats 4000000 in
set_option maxRecDepth 100000 in
theorem c_X7_reel (l : Launch) (G : GG) (q : Nat → Nat) (nd sz : Nat) (τ ζ : ST) (ρ : RF) (d : Int32) (f : Int32) (n : Int32) (h_nd : nd ≤ 6) (h_z : XZ q nd τ ζ ρ) : Met l yX7_reel (WSb yX7_reel cX7_reel 5 (some .int)) (rmA 2 45) (va_Pc [.ref (q 0), .int d, .int f, .int n] (PW G (28 + 3 * nd) q sz (eX G q τ ζ ρ))) (va_Qi (fun (r : Int32) (u : (ST × ST × RF)) => sp_reel τ d f n = (r, u.1) ∧ XZ q nd u.1 u.2.1 u.2.2) (fun u => BW G (28 + 3 * nd) q (eX G q u.1 u.2.1 u.2.2)) (FA (28 + 3 * nd) q sz)) 0 0 (FA (28 + 3 * nd) q sz) := by
  refine Met_B (own := RX7) rfl (by decide) (Nat.le_of_ble_eq_true rfl) (fun p e s m args below meth c ls hsz C hW hr hk hl QQ hQ => ?_)
  subst hsz
  have hl : lv_has ls 5 [(0, .ref (q 0)), (1, .int d), (2, .int f), (3, .int n)] := hl
  have h_n : (τ.1 0).toInt = (nd : Int) := h_z.1
  have h_r := h_z.2.1
  refine lv_aload_n C.1 C.2.1 dX7_reel_0 rfl (lv_at hl 0 rfl) ?_
  refine xG_DishHouse_row C hW bF_X7_12 dX7_reel_1 ?_
  refine lv_iload_n C.1 C.2.1 dX7_reel_4 rfl (lv_at hl 1 rfl) ?_
  refine go_q hW (run_V (o := 1) (As := [.int d]) (rest := []) C hW (by omega) rfl rfl (c_X4_find l G q nd _ τ ζ ρ d  h_nd h_n h_r) (cw_V 1 C bL_X7_59 bI_X4_find bV_X4_find bN_X4 bC_X4_find ⟨rfl, rfl⟩ (by decide +kernel) ⟨Nat.le_of_ble_eq_true rfl, Nat.le_of_ble_eq_true rfl⟩) rfl hl.1 rfl (Nat.le_of_ble_eq_true rfl) dX7_reel_5 ⟨Nat.le_refl _, Nat.le_refl _⟩) (fun r_1 u_1 H locs hp_1 hW => ?_)
  rcases hp_1 with ⟨rfl, rfl, k_1⟩ | ⟨rfl, rfl, k_1_0, k_1_1⟩
  · skip
    have hW : WB G (28 + 3 * nd) q (eX G q τ ζ ρ) s H locs := hW
    refine lv_astoreN (lv' := [(4, .null), (0, .ref (q 0)), (1, .int d), (2, .int f), (3, .int n)]) C.1 C.2.1 dX7_reel_8 hl (by decide) rfl (fun ls hl => ?_)
    refine lv_aloadN C.1 C.2.1 dX7_reel_10 (lv_at hl 0 rfl) ?_
    refine lv_ifnullN C.1 C.2.1 (tgt := 28) dX7_reel_12 (by decide) ?_
    refine lv_bipush C.1 C.2.1 (v := (-2)) dX7_reel_28 (by decide) ?_
    subst hQ
    exact r_iret (τ, ζ, ρ) C hW hr hk dX7_reel_30 ⟨(show sp_reel τ d f n = ((-2), τ) from by unfold sp_reel; (repeat (first | rw [if_pos (by omega)] | rw [if_neg (by omega)])); first | done | rfl), (XZ_eq h_z rfl rfl rfl rfl rfl rfl rfl rfl rfl rfl rfl rfl rfl rfl rfl rfl rfl rfl rfl)⟩
  · skip
    have hW : WB G (28 + 3 * nd) q (eX G q τ ζ ρ) s H locs := hW
    refine lv_astore (lv' := [(4, .ref (q (28 + 3 * ((d).toInt).toNat))), (0, .ref (q 0)), (1, .int d), (2, .int f), (3, .int n)]) C.1 C.2.1 dX7_reel_8 hl (by decide) rfl (fun ls hl => ?_)
    refine lv_aload C.1 C.2.1 dX7_reel_10 (lv_at hl 0 rfl) ?_
    refine lv_ifnull C.1 C.2.1 dX7_reel_12 ?_
    refine lv_iload_n C.1 C.2.1 dX7_reel_15 rfl (lv_at hl 3 rfl) ?_
    refine go_i hW (run_S (As := [.int f]) (rest := []) C hW (c_X7_isForm l G q nd _ τ ζ ρ f  h_nd) (cw_S 1 C bL_X7_72 bS_X7_isForm bN_X7 bC_X7_isForm ⟨rfl, rfl⟩ (by decide +kernel) ⟨Nat.le_of_ble_eq_true rfl, Nat.le_of_ble_eq_true rfl⟩) rfl hl.1 rfl (Nat.le_of_ble_eq_true rfl) dX7_reel_16 ⟨Nat.le_refl _, Nat.le_refl _⟩) (fun r_2 u_2 H locs hp_2 hW => ?_)
    rcases hp_2 with ⟨rfl, rfl, k_2_0, k_2_1⟩ | ⟨rfl, rfl, k_2⟩
    · skip
      have hW : WB G (28 + 3 * nd) q (eX G q τ ζ ρ) s H locs := hW
      refine lv_if_eq C.1 C.2.1 (tgt := 28) dX7_reel_19 (by decide) (fun c => absurd c (by decide)) (fun _ => ?_)
      refine lv_iload_n C.1 C.2.1 dX7_reel_22 rfl (lv_at hl 4 rfl) ?_
      refine lv_bipush C.1 C.2.1 (v := 100) dX7_reel_23 (by decide) ?_
      refine lv_icmp_le C.1 C.2.1 (tgt := 31) dX7_reel_25 (by decide) (fun c_4 => ?_) (fun c_4 => ?_)
      · skip
        have k_4 := (tc_le (rfl : (n).toInt = (n).toInt) (show (100 : Int32).toInt = 100 from by decide)).mp c_4
        refine lv_iload_n C.1 C.2.1 dX7_reel_31 rfl (lv_at hl 4 rfl) ?_
        refine lv_if_ge C.1 C.2.1 (tgt := 41) dX7_reel_32 (by decide) (fun c_5 => ?_) (fun c_5 => ?_)
        · skip
          have k_5 := (tc_le (show (0 : Int32).toInt = 0 from by decide) (rfl : (n).toInt = (n).toInt)).mp c_5
          refine lv_aload C.1 C.2.1 dX7_reel_41 (lv_at hl 0 rfl) ?_
          refine lv_iload_n C.1 C.2.1 dX7_reel_43 rfl (lv_at hl 3 rfl) ?_
          refine lv_iload_n C.1 C.2.1 dX7_reel_44 rfl (lv_at hl 4 rfl) ?_
          refine go_v hW (run_V (o := 28 + 3 * (((d).toInt).toNat)) (As := [.int f, .int n]) (rest := []) C hW (by omega) (eX_obj _ _ _ _ _ (((d).toInt).toNat)) rfl (c_X1_renew l G q nd _ τ ζ ρ f n (((d).toInt).toNat) h_nd (by omega)) (cw_V 2 C bL_X7_80 bI_X1_renew bV_X1_renew bN_X1 bC_X1_renew ⟨rfl, rfl⟩ (by decide +kernel) ⟨Nat.le_of_ble_eq_true rfl, Nat.le_of_ble_eq_true rfl⟩) rfl hl.1 rfl (Nat.le_of_ble_eq_true rfl) dX7_reel_45 ⟨Nat.le_refl _, Nat.le_refl _⟩) (fun u_6 H locs hp_6 hW => ?_)
          obtain rfl := hp_6
          have hW : WB G (28 + 3 * nd) q (eX G q (saF (sa τ 5 (((d).toInt).toNat) f) 7 (zrow (τ.2.1 7) (((d).toInt).toNat) 100)) (sa ζ 0 (((d).toInt).toNat) n) ρ) s H locs := hW
          have hW : WB G (28 + 3 * nd) q (eX G q (saF (sa (sa (sa τ 4 d.toInt.toNat 1) 5 d.toInt.toNat f) 6 d.toInt.toNat n) 7 (zrow (τ.2.1 7) d.toInt.toNat 100)) (sa ζ 0 (((d).toInt).toNat) n) ρ) s H locs := WB.to hW (fun j hj => match j, hj with
            | 0, _ => rfl
            | 1, _ => rfl
            | 2, _ => rfl
            | 3, _ => rfl
            | 4, _ => rfl
            | 5, _ => rfl
            | 6, _ => rfl
            | 7, _ => rfl
            | 8, _ => rfl
            | 9, _ => rfl
            | 10, _ => rfl
            | 11, _ => rfl
            | 12, _ => rfl
            | 13, _ => rfl
            | 14, _ => rfl
            | 15, _ => rfl
            | 16, _ => rfl
            | 17, _ => rfl
            | 18, _ => rfl
            | 19, _ => rfl
            | 20, _ => rfl
            | 21, _ => rfl
            | 22, _ => rfl
            | 23, _ => rfl
            | 24, _ => rfl
            | 25, _ => rfl
            | 26, _ => rfl
            | 27, _ => rfl
            | j + 28, hj => rfl)
          refine lv_iload_n C.1 C.2.1 dX7_reel_48 rfl (lv_at hl 4 rfl) ?_
          subst hQ
          exact r_iret ((saF (sa (sa (sa τ 4 d.toInt.toNat 1) 5 d.toInt.toNat f) 6 d.toInt.toNat n) 7 (zrow (τ.2.1 7) d.toInt.toNat 100)), (sa ζ 0 (((d).toInt).toNat) n), ρ) C hW hr hk dX7_reel_49 ⟨(show sp_reel τ d f n = (n, (saF (sa (sa (sa τ 4 d.toInt.toNat 1) 5 d.toInt.toNat f) 6 d.toInt.toNat n) 7 (zrow (τ.2.1 7) d.toInt.toNat 100))) from by unfold sp_reel; rw [if_pos (by omega), if_neg (by omega)]), XZ_reel h_z⟩
        · skip
          have k_5 := (tn_le (show (0 : Int32).toInt = 0 from by decide) (rfl : (n).toInt = (n).toInt)).mp c_5
          refine lv_aload_n C.1 C.2.1 dX7_reel_35 rfl (lv_at hl 1 rfl) ?_
          refine lv_iconst C.1 C.2.1 (v := 5) dX7_reel_36 (by decide) ?_
          refine go_i hW (run_V (o := 0) (As := [.int 5]) (rest := []) C hW (by omega) rfl rfl (c_X7_foundOut l G q nd _ τ ζ ρ 5  h_nd) (cw_V 1 C bL_X7_76 bI_X7_foundOut bV_X7_foundOut bN_X7 bC_X7_foundOut ⟨rfl, rfl⟩ (by decide +kernel) ⟨Nat.le_of_ble_eq_true rfl, Nat.le_of_ble_eq_true rfl⟩) rfl hl.1 rfl (Nat.le_of_ble_eq_true rfl) dX7_reel_37 ⟨Nat.le_refl _, Nat.le_refl _⟩) (fun r_7 u_7 H locs hp_7 hW => ?_)
          rcases hp_7 with ⟨rfl, rfl⟩
          have hW : WB G (28 + 3 * nd) q (eX G q (sg τ 1 5) ζ ρ) s H locs := hW
          subst hQ
          exact r_iret ((sg τ 1 5), ζ, ρ) C hW hr hk dX7_reel_40 ⟨(show sp_reel τ d f n = (((-10 - 5)), (sg τ 1 5)) from by unfold sp_reel; (repeat (first | rw [if_pos (by omega)] | rw [if_neg (by omega)])); first | done | rfl), (XZ_eq h_z rfl rfl rfl rfl rfl rfl rfl rfl rfl rfl rfl rfl rfl rfl rfl rfl rfl rfl rfl)⟩
      · skip
        have k_4 := (tn_le (rfl : (n).toInt = (n).toInt) (show (100 : Int32).toInt = 100 from by decide)).mp c_4
        refine lv_bipush C.1 C.2.1 (v := (-2)) dX7_reel_28 (by decide) ?_
        subst hQ
        exact r_iret (τ, ζ, ρ) C hW hr hk dX7_reel_30 ⟨(show sp_reel τ d f n = ((-2), τ) from by unfold sp_reel; (repeat (first | rw [if_pos (by omega)] | rw [if_neg (by omega)])); first | done | rfl), (XZ_eq h_z rfl rfl rfl rfl rfl rfl rfl rfl rfl rfl rfl rfl rfl rfl rfl rfl rfl rfl rfl)⟩
    · skip
      have hW : WB G (28 + 3 * nd) q (eX G q τ ζ ρ) s H locs := hW
      refine lv_if_eq C.1 C.2.1 (tgt := 28) dX7_reel_19 (by decide) (fun _ => ?_) (fun c => absurd c (by decide))
      refine lv_bipush C.1 C.2.1 (v := (-2)) dX7_reel_28 (by decide) ?_
      subst hQ
      exact r_iret (τ, ζ, ρ) C hW hr hk dX7_reel_30 ⟨(show sp_reel τ d f n = ((-2), τ) from by unfold sp_reel; (repeat (first | rw [if_pos (by omega)] | rw [if_neg (by omega)])); first | done | rfl), (XZ_eq h_z rfl rfl rfl rfl rfl rfl rfl rfl rfl rfl rfl rfl rfl rfl rfl rfl rfl rfl rfl)⟩
set_option maxHeartbeats 4000000 in
set_option maxRecDepth 100000 in
theorem c_X7_three (l : Launch) (G : GG) (q : Nat → Nat) (nd sz : Nat) (τ ζ : ST) (ρ : RF) (i : Int32) (j : Int32) (o : Int32) (h_nd : nd ≤ 6) (h_z : XZ q nd τ ζ ρ) (h_f : 0 ≤ (τ.1 2).toInt ∧ (τ.1 2).toInt ≤ 40) (h_s : ∀ d : Nat, d < 6 → 0 ≤ (τ.2.1 6 d).toInt ∧ (τ.2.1 6 d).toInt ≤ 100) (h_l : ∀ d : Nat, d < 6 → 0 ≤ (τ.2.1 2 d).toInt ∧ (τ.2.1 2 d).toInt ≤ 30) : Met l yX7_three (WSb yX7_three cX7_three 7 (some .int)) (rmA 5 111) (va_Pc [.ref (q 0), .int i, .int j, .int o] (PW G (28 + 3 * nd) q sz (eX G q τ ζ ρ))) (va_Qi (fun (r : Int32) (u : (ST × ST × RF)) => sp_three τ i j o = (r, u.1) ∧ XZ q nd u.1 u.2.1 u.2.2) (fun u => BW G (28 + 3 * nd) q (eX G q u.1 u.2.1 u.2.2)) (FA (28 + 3 * nd) q sz)) 0 0 (FA (28 + 3 * nd) q sz) := by
  refine Met_B (own := RX7) rfl (by decide) (Nat.le_of_ble_eq_true rfl) (fun p e s m args below meth c ls hsz C hW hr hk hl QQ hQ => ?_)
  subst hsz
  have hl : lv_has ls 7 [(0, .ref (q 0)), (1, .int i), (2, .int j), (3, .int o)] := hl
  have h_n : (τ.1 0).toInt = (nd : Int) := h_z.1
  have h_r := h_z.2.1
  have h_dk := XZ_dOk h_z h_nd h_f h_s h_l
  refine lv_aload_n C.1 C.2.1 dX7_three_0 rfl (lv_at hl 0 rfl) ?_
  refine xG_DishHouse_row C hW bF_X7_12 dX7_three_1 ?_
  refine lv_iload_n C.1 C.2.1 dX7_three_4 rfl (lv_at hl 1 rfl) ?_
  refine go_q hW (run_V (o := 1) (As := [.int i]) (rest := []) C hW (by omega) rfl rfl (c_X4_find l G q nd _ τ ζ ρ i  h_nd h_n h_r) (cw_V 1 C bL_X7_59 bI_X4_find bV_X4_find bN_X4 bC_X4_find ⟨rfl, rfl⟩ (by decide +kernel) ⟨Nat.le_of_ble_eq_true rfl, Nat.le_of_ble_eq_true rfl⟩) rfl hl.1 rfl (Nat.le_of_ble_eq_true rfl) dX7_three_5 ⟨Nat.le_refl _, Nat.le_refl _⟩) (fun r_1 u_1 H locs hp_1 hW => ?_)
  rcases hp_1 with ⟨rfl, rfl, k_1⟩ | ⟨rfl, rfl, k_1_0, k_1_1⟩
  · skip
    have hW : WB G (28 + 3 * nd) q (eX G q τ ζ ρ) s H locs := hW
    refine lv_astoreN (lv' := [(4, .null), (0, .ref (q 0)), (1, .int i), (2, .int j), (3, .int o)]) C.1 C.2.1 dX7_three_8 hl (by decide) rfl (fun ls hl => ?_)
    refine lv_aload_n C.1 C.2.1 dX7_three_10 rfl (lv_at hl 1 rfl) ?_
    refine xG_DishHouse_row C hW bF_X7_12 dX7_three_11 ?_
    refine lv_iload_n C.1 C.2.1 dX7_three_14 rfl (lv_at hl 3 rfl) ?_
    refine go_q hW (run_V (o := 1) (As := [.int j]) (rest := []) C hW (by omega) rfl rfl (c_X4_find l G q nd _ τ ζ ρ j  h_nd h_n h_r) (cw_V 1 C bL_X7_59 bI_X4_find bV_X4_find bN_X4 bC_X4_find ⟨rfl, rfl⟩ (by decide +kernel) ⟨Nat.le_of_ble_eq_true rfl, Nat.le_of_ble_eq_true rfl⟩) rfl hl.1 rfl (Nat.le_of_ble_eq_true rfl) dX7_three_15 ⟨Nat.le_refl _, Nat.le_refl _⟩) (fun r_2 u_2 H locs hp_2 hW => ?_)
    rcases hp_2 with ⟨rfl, rfl, k_2⟩ | ⟨rfl, rfl, k_2_0, k_2_1⟩
    · skip
      have hW : WB G (28 + 3 * nd) q (eX G q τ ζ ρ) s H locs := hW
      refine lv_astoreN (lv' := [(5, .null), (4, .null), (0, .ref (q 0)), (1, .int i), (2, .int j), (3, .int o)]) C.1 C.2.1 dX7_three_18 hl (by decide) rfl (fun ls hl => ?_)
      refine lv_aload_n C.1 C.2.1 dX7_three_20 rfl (lv_at hl 2 rfl) ?_
      refine xG_DishHouse_row C hW bF_X7_12 dX7_three_21 ?_
      refine lv_iload_n C.1 C.2.1 dX7_three_24 rfl (lv_at hl 5 rfl) ?_
      refine go_q hW (run_V (o := 1) (As := [.int o]) (rest := []) C hW (by omega) rfl rfl (c_X4_find l G q nd _ τ ζ ρ o  h_nd h_n h_r) (cw_V 1 C bL_X7_59 bI_X4_find bV_X4_find bN_X4 bC_X4_find ⟨rfl, rfl⟩ (by decide +kernel) ⟨Nat.le_of_ble_eq_true rfl, Nat.le_of_ble_eq_true rfl⟩) rfl hl.1 rfl (Nat.le_of_ble_eq_true rfl) dX7_three_25 ⟨Nat.le_refl _, Nat.le_refl _⟩) (fun r_3 u_3 H locs hp_3 hW => ?_)
      rcases hp_3 with ⟨rfl, rfl, k_3⟩ | ⟨rfl, rfl, k_3_0, k_3_1⟩
      · skip
        have hW : WB G (28 + 3 * nd) q (eX G q τ ζ ρ) s H locs := hW
        refine lv_astoreN (lv' := [(6, .null), (5, .null), (4, .null), (0, .ref (q 0)), (1, .int i), (2, .int j), (3, .int o)]) C.1 C.2.1 dX7_three_28 hl (by decide) rfl (fun ls hl => ?_)
        refine lv_aloadN C.1 C.2.1 dX7_three_30 (lv_at hl 2 rfl) ?_
        refine lv_ifnullN C.1 C.2.1 (tgt := 45) dX7_three_32 (by decide) ?_
        refine lv_bipush C.1 C.2.1 (v := (-2)) dX7_three_45 (by decide) ?_
        subst hQ
        exact r_iret (τ, ζ, ρ) C hW hr hk dX7_three_47 ⟨(show sp_three τ i j o = ((-2), τ) from by unfold sp_three; (repeat (first | rw [if_pos (by omega)] | rw [if_neg (by omega)])); first | done | rfl), (XZ_eq h_z rfl rfl rfl rfl rfl rfl rfl rfl rfl rfl rfl rfl rfl rfl rfl rfl rfl rfl rfl)⟩
      · skip
        have hW : WB G (28 + 3 * nd) q (eX G q τ ζ ρ) s H locs := hW
        refine lv_astore (lv' := [(6, .ref (q (28 + 3 * ((o).toInt).toNat))), (5, .null), (4, .null), (0, .ref (q 0)), (1, .int i), (2, .int j), (3, .int o)]) C.1 C.2.1 dX7_three_28 hl (by decide) rfl (fun ls hl => ?_)
        refine lv_aloadN C.1 C.2.1 dX7_three_30 (lv_at hl 2 rfl) ?_
        refine lv_ifnullN C.1 C.2.1 (tgt := 45) dX7_three_32 (by decide) ?_
        refine lv_bipush C.1 C.2.1 (v := (-2)) dX7_three_45 (by decide) ?_
        subst hQ
        exact r_iret (τ, ζ, ρ) C hW hr hk dX7_three_47 ⟨(show sp_three τ i j o = ((-2), τ) from by unfold sp_three; (repeat (first | rw [if_pos (by omega)] | rw [if_neg (by omega)])); first | done | rfl), (XZ_eq h_z rfl rfl rfl rfl rfl rfl rfl rfl rfl rfl rfl rfl rfl rfl rfl rfl rfl rfl rfl)⟩
    · skip
      have hW : WB G (28 + 3 * nd) q (eX G q τ ζ ρ) s H locs := hW
      refine lv_astore (lv' := [(5, .ref (q (28 + 3 * ((j).toInt).toNat))), (4, .null), (0, .ref (q 0)), (1, .int i), (2, .int j), (3, .int o)]) C.1 C.2.1 dX7_three_18 hl (by decide) rfl (fun ls hl => ?_)
      refine lv_aload_n C.1 C.2.1 dX7_three_20 rfl (lv_at hl 2 rfl) ?_
      refine xG_DishHouse_row C hW bF_X7_12 dX7_three_21 ?_
      refine lv_iload_n C.1 C.2.1 dX7_three_24 rfl (lv_at hl 5 rfl) ?_
      refine go_q hW (run_V (o := 1) (As := [.int o]) (rest := []) C hW (by omega) rfl rfl (c_X4_find l G q nd _ τ ζ ρ o  h_nd h_n h_r) (cw_V 1 C bL_X7_59 bI_X4_find bV_X4_find bN_X4 bC_X4_find ⟨rfl, rfl⟩ (by decide +kernel) ⟨Nat.le_of_ble_eq_true rfl, Nat.le_of_ble_eq_true rfl⟩) rfl hl.1 rfl (Nat.le_of_ble_eq_true rfl) dX7_three_25 ⟨Nat.le_refl _, Nat.le_refl _⟩) (fun r_4 u_4 H locs hp_4 hW => ?_)
      rcases hp_4 with ⟨rfl, rfl, k_4⟩ | ⟨rfl, rfl, k_4_0, k_4_1⟩
      · skip
        have hW : WB G (28 + 3 * nd) q (eX G q τ ζ ρ) s H locs := hW
        refine lv_astoreN (lv' := [(6, .null), (5, .ref (q (28 + 3 * ((j).toInt).toNat))), (4, .null), (0, .ref (q 0)), (1, .int i), (2, .int j), (3, .int o)]) C.1 C.2.1 dX7_three_28 hl (by decide) rfl (fun ls hl => ?_)
        refine lv_aloadN C.1 C.2.1 dX7_three_30 (lv_at hl 2 rfl) ?_
        refine lv_ifnullN C.1 C.2.1 (tgt := 45) dX7_three_32 (by decide) ?_
        refine lv_bipush C.1 C.2.1 (v := (-2)) dX7_three_45 (by decide) ?_
        subst hQ
        exact r_iret (τ, ζ, ρ) C hW hr hk dX7_three_47 ⟨(show sp_three τ i j o = ((-2), τ) from by unfold sp_three; (repeat (first | rw [if_pos (by omega)] | rw [if_neg (by omega)])); first | done | rfl), (XZ_eq h_z rfl rfl rfl rfl rfl rfl rfl rfl rfl rfl rfl rfl rfl rfl rfl rfl rfl rfl rfl)⟩
      · skip
        have hW : WB G (28 + 3 * nd) q (eX G q τ ζ ρ) s H locs := hW
        refine lv_astore (lv' := [(6, .ref (q (28 + 3 * ((o).toInt).toNat))), (5, .ref (q (28 + 3 * ((j).toInt).toNat))), (4, .null), (0, .ref (q 0)), (1, .int i), (2, .int j), (3, .int o)]) C.1 C.2.1 dX7_three_28 hl (by decide) rfl (fun ls hl => ?_)
        refine lv_aloadN C.1 C.2.1 dX7_three_30 (lv_at hl 2 rfl) ?_
        refine lv_ifnullN C.1 C.2.1 (tgt := 45) dX7_three_32 (by decide) ?_
        refine lv_bipush C.1 C.2.1 (v := (-2)) dX7_three_45 (by decide) ?_
        subst hQ
        exact r_iret (τ, ζ, ρ) C hW hr hk dX7_three_47 ⟨(show sp_three τ i j o = ((-2), τ) from by unfold sp_three; (repeat (first | rw [if_pos (by omega)] | rw [if_neg (by omega)])); first | done | rfl), (XZ_eq h_z rfl rfl rfl rfl rfl rfl rfl rfl rfl rfl rfl rfl rfl rfl rfl rfl rfl rfl rfl)⟩
  · skip
    have hW : WB G (28 + 3 * nd) q (eX G q τ ζ ρ) s H locs := hW
    refine lv_astore (lv' := [(4, .ref (q (28 + 3 * ((i).toInt).toNat))), (0, .ref (q 0)), (1, .int i), (2, .int j), (3, .int o)]) C.1 C.2.1 dX7_three_8 hl (by decide) rfl (fun ls hl => ?_)
    refine lv_aload_n C.1 C.2.1 dX7_three_10 rfl (lv_at hl 1 rfl) ?_
    refine xG_DishHouse_row C hW bF_X7_12 dX7_three_11 ?_
    refine lv_iload_n C.1 C.2.1 dX7_three_14 rfl (lv_at hl 3 rfl) ?_
    refine go_q hW (run_V (o := 1) (As := [.int j]) (rest := []) C hW (by omega) rfl rfl (c_X4_find l G q nd _ τ ζ ρ j  h_nd h_n h_r) (cw_V 1 C bL_X7_59 bI_X4_find bV_X4_find bN_X4 bC_X4_find ⟨rfl, rfl⟩ (by decide +kernel) ⟨Nat.le_of_ble_eq_true rfl, Nat.le_of_ble_eq_true rfl⟩) rfl hl.1 rfl (Nat.le_of_ble_eq_true rfl) dX7_three_15 ⟨Nat.le_refl _, Nat.le_refl _⟩) (fun r_5 u_5 H locs hp_5 hW => ?_)
    rcases hp_5 with ⟨rfl, rfl, k_5⟩ | ⟨rfl, rfl, k_5_0, k_5_1⟩
    · skip
      have hW : WB G (28 + 3 * nd) q (eX G q τ ζ ρ) s H locs := hW
      refine lv_astoreN (lv' := [(5, .null), (4, .ref (q (28 + 3 * ((i).toInt).toNat))), (0, .ref (q 0)), (1, .int i), (2, .int j), (3, .int o)]) C.1 C.2.1 dX7_three_18 hl (by decide) rfl (fun ls hl => ?_)
      refine lv_aload_n C.1 C.2.1 dX7_three_20 rfl (lv_at hl 2 rfl) ?_
      refine xG_DishHouse_row C hW bF_X7_12 dX7_three_21 ?_
      refine lv_iload_n C.1 C.2.1 dX7_three_24 rfl (lv_at hl 5 rfl) ?_
      refine go_q hW (run_V (o := 1) (As := [.int o]) (rest := []) C hW (by omega) rfl rfl (c_X4_find l G q nd _ τ ζ ρ o  h_nd h_n h_r) (cw_V 1 C bL_X7_59 bI_X4_find bV_X4_find bN_X4 bC_X4_find ⟨rfl, rfl⟩ (by decide +kernel) ⟨Nat.le_of_ble_eq_true rfl, Nat.le_of_ble_eq_true rfl⟩) rfl hl.1 rfl (Nat.le_of_ble_eq_true rfl) dX7_three_25 ⟨Nat.le_refl _, Nat.le_refl _⟩) (fun r_6 u_6 H locs hp_6 hW => ?_)
      rcases hp_6 with ⟨rfl, rfl, k_6⟩ | ⟨rfl, rfl, k_6_0, k_6_1⟩
      · skip
        have hW : WB G (28 + 3 * nd) q (eX G q τ ζ ρ) s H locs := hW
        refine lv_astoreN (lv' := [(6, .null), (5, .null), (4, .ref (q (28 + 3 * ((i).toInt).toNat))), (0, .ref (q 0)), (1, .int i), (2, .int j), (3, .int o)]) C.1 C.2.1 dX7_three_28 hl (by decide) rfl (fun ls hl => ?_)
        refine lv_aload C.1 C.2.1 dX7_three_30 (lv_at hl 2 rfl) ?_
        refine lv_ifnull C.1 C.2.1 dX7_three_32 ?_
        refine lv_aloadN C.1 C.2.1 dX7_three_35 (lv_at hl 1 rfl) ?_
        refine lv_ifnullN C.1 C.2.1 (tgt := 45) dX7_three_37 (by decide) ?_
        refine lv_bipush C.1 C.2.1 (v := (-2)) dX7_three_45 (by decide) ?_
        subst hQ
        exact r_iret (τ, ζ, ρ) C hW hr hk dX7_three_47 ⟨(show sp_three τ i j o = ((-2), τ) from by unfold sp_three; (repeat (first | rw [if_pos (by omega)] | rw [if_neg (by omega)])); first | done | rfl), (XZ_eq h_z rfl rfl rfl rfl rfl rfl rfl rfl rfl rfl rfl rfl rfl rfl rfl rfl rfl rfl rfl)⟩
      · skip
        have hW : WB G (28 + 3 * nd) q (eX G q τ ζ ρ) s H locs := hW
        refine lv_astore (lv' := [(6, .ref (q (28 + 3 * ((o).toInt).toNat))), (5, .null), (4, .ref (q (28 + 3 * ((i).toInt).toNat))), (0, .ref (q 0)), (1, .int i), (2, .int j), (3, .int o)]) C.1 C.2.1 dX7_three_28 hl (by decide) rfl (fun ls hl => ?_)
        refine lv_aload C.1 C.2.1 dX7_three_30 (lv_at hl 2 rfl) ?_
        refine lv_ifnull C.1 C.2.1 dX7_three_32 ?_
        refine lv_aloadN C.1 C.2.1 dX7_three_35 (lv_at hl 1 rfl) ?_
        refine lv_ifnullN C.1 C.2.1 (tgt := 45) dX7_three_37 (by decide) ?_
        refine lv_bipush C.1 C.2.1 (v := (-2)) dX7_three_45 (by decide) ?_
        subst hQ
        exact r_iret (τ, ζ, ρ) C hW hr hk dX7_three_47 ⟨(show sp_three τ i j o = ((-2), τ) from by unfold sp_three; (repeat (first | rw [if_pos (by omega)] | rw [if_neg (by omega)])); first | done | rfl), (XZ_eq h_z rfl rfl rfl rfl rfl rfl rfl rfl rfl rfl rfl rfl rfl rfl rfl rfl rfl rfl rfl)⟩
    · skip
      have hW : WB G (28 + 3 * nd) q (eX G q τ ζ ρ) s H locs := hW
      refine lv_astore (lv' := [(5, .ref (q (28 + 3 * ((j).toInt).toNat))), (4, .ref (q (28 + 3 * ((i).toInt).toNat))), (0, .ref (q 0)), (1, .int i), (2, .int j), (3, .int o)]) C.1 C.2.1 dX7_three_18 hl (by decide) rfl (fun ls hl => ?_)
      refine lv_aload_n C.1 C.2.1 dX7_three_20 rfl (lv_at hl 2 rfl) ?_
      refine xG_DishHouse_row C hW bF_X7_12 dX7_three_21 ?_
      refine lv_iload_n C.1 C.2.1 dX7_three_24 rfl (lv_at hl 5 rfl) ?_
      refine go_q hW (run_V (o := 1) (As := [.int o]) (rest := []) C hW (by omega) rfl rfl (c_X4_find l G q nd _ τ ζ ρ o  h_nd h_n h_r) (cw_V 1 C bL_X7_59 bI_X4_find bV_X4_find bN_X4 bC_X4_find ⟨rfl, rfl⟩ (by decide +kernel) ⟨Nat.le_of_ble_eq_true rfl, Nat.le_of_ble_eq_true rfl⟩) rfl hl.1 rfl (Nat.le_of_ble_eq_true rfl) dX7_three_25 ⟨Nat.le_refl _, Nat.le_refl _⟩) (fun r_7 u_7 H locs hp_7 hW => ?_)
      rcases hp_7 with ⟨rfl, rfl, k_7⟩ | ⟨rfl, rfl, k_7_0, k_7_1⟩
      · skip
        have hW : WB G (28 + 3 * nd) q (eX G q τ ζ ρ) s H locs := hW
        refine lv_astoreN (lv' := [(6, .null), (5, .ref (q (28 + 3 * ((j).toInt).toNat))), (4, .ref (q (28 + 3 * ((i).toInt).toNat))), (0, .ref (q 0)), (1, .int i), (2, .int j), (3, .int o)]) C.1 C.2.1 dX7_three_28 hl (by decide) rfl (fun ls hl => ?_)
        refine lv_aload C.1 C.2.1 dX7_three_30 (lv_at hl 2 rfl) ?_
        refine lv_ifnull C.1 C.2.1 dX7_three_32 ?_
        refine lv_aload C.1 C.2.1 dX7_three_35 (lv_at hl 1 rfl) ?_
        refine lv_ifnull C.1 C.2.1 dX7_three_37 ?_
        refine lv_aloadN C.1 C.2.1 dX7_three_40 (lv_at hl 0 rfl) ?_
        refine lv_ifnonnullN C.1 C.2.1 dX7_three_42 ?_
        refine lv_bipush C.1 C.2.1 (v := (-2)) dX7_three_45 (by decide) ?_
        subst hQ
        exact r_iret (τ, ζ, ρ) C hW hr hk dX7_three_47 ⟨(show sp_three τ i j o = ((-2), τ) from by unfold sp_three; (repeat (first | rw [if_pos (by omega)] | rw [if_neg (by omega)])); first | done | rfl), (XZ_eq h_z rfl rfl rfl rfl rfl rfl rfl rfl rfl rfl rfl rfl rfl rfl rfl rfl rfl rfl rfl)⟩
      · skip
        have hW : WB G (28 + 3 * nd) q (eX G q τ ζ ρ) s H locs := hW
        refine lv_astore (lv' := [(6, .ref (q (28 + 3 * ((o).toInt).toNat))), (5, .ref (q (28 + 3 * ((j).toInt).toNat))), (4, .ref (q (28 + 3 * ((i).toInt).toNat))), (0, .ref (q 0)), (1, .int i), (2, .int j), (3, .int o)]) C.1 C.2.1 dX7_three_28 hl (by decide) rfl (fun ls hl => ?_)
        refine lv_aload C.1 C.2.1 dX7_three_30 (lv_at hl 2 rfl) ?_
        refine lv_ifnull C.1 C.2.1 dX7_three_32 ?_
        refine lv_aload C.1 C.2.1 dX7_three_35 (lv_at hl 1 rfl) ?_
        refine lv_ifnull C.1 C.2.1 dX7_three_37 ?_
        refine lv_aload C.1 C.2.1 dX7_three_40 (lv_at hl 0 rfl) ?_
        refine lv_ifnonnull C.1 C.2.1 (tgt := 48) dX7_three_42 (by decide) ?_
        refine lv_iload_n C.1 C.2.1 dX7_three_48 rfl (lv_at hl 4 rfl) ?_
        refine lv_iload_n C.1 C.2.1 dX7_three_49 rfl (lv_at hl 5 rfl) ?_
        refine lv_icmp_eq C.1 C.2.1 (tgt := 63) dX7_three_50 (by decide) (fun c_8 => ?_) (fun c_8 => ?_)
        · skip
          have k_8 := (tc_eq (rfl : (i).toInt = (i).toInt) (rfl : (j).toInt = (j).toInt)).mp c_8
          refine lv_bipush C.1 C.2.1 (v := (-2)) dX7_three_63 (by decide) ?_
          subst hQ
          exact r_iret (τ, ζ, ρ) C hW hr hk dX7_three_65 ⟨(show sp_three τ i j o = ((-2), τ) from by unfold sp_three; (repeat (first | rw [if_pos (by omega)] | rw [if_neg (by omega)])); first | done | rfl), (XZ_eq h_z rfl rfl rfl rfl rfl rfl rfl rfl rfl rfl rfl rfl rfl rfl rfl rfl rfl rfl rfl)⟩
        · skip
          have k_8 := (tn_eq (rfl : (i).toInt = (i).toInt) (rfl : (j).toInt = (j).toInt)).mp c_8
          refine lv_iload_n C.1 C.2.1 dX7_three_53 rfl (lv_at hl 5 rfl) ?_
          refine lv_iload_n C.1 C.2.1 dX7_three_54 rfl (lv_at hl 6 rfl) ?_
          refine lv_icmp_eq C.1 C.2.1 (tgt := 63) dX7_three_55 (by decide) (fun c_9 => ?_) (fun c_9 => ?_)
          · skip
            have k_9 := (tc_eq (rfl : (j).toInt = (j).toInt) (rfl : (o).toInt = (o).toInt)).mp c_9
            refine lv_bipush C.1 C.2.1 (v := (-2)) dX7_three_63 (by decide) ?_
            subst hQ
            exact r_iret (τ, ζ, ρ) C hW hr hk dX7_three_65 ⟨(show sp_three τ i j o = ((-2), τ) from by unfold sp_three; (repeat (first | rw [if_pos (by omega)] | rw [if_neg (by omega)])); first | done | rfl), (XZ_eq h_z rfl rfl rfl rfl rfl rfl rfl rfl rfl rfl rfl rfl rfl rfl rfl rfl rfl rfl rfl)⟩
          · skip
            have k_9 := (tn_eq (rfl : (j).toInt = (j).toInt) (rfl : (o).toInt = (o).toInt)).mp c_9
            refine lv_iload_n C.1 C.2.1 dX7_three_58 rfl (lv_at hl 4 rfl) ?_
            refine lv_iload_n C.1 C.2.1 dX7_three_59 rfl (lv_at hl 6 rfl) ?_
            refine lv_icmp_ne C.1 C.2.1 (tgt := 66) dX7_three_60 (by decide) (fun c_10 => ?_) (fun c_10 => ?_)
            · skip
              have k_10 := (tn_eq (rfl : (i).toInt = (i).toInt) (rfl : (o).toInt = (o).toInt)).mp c_10
              refine lv_aload C.1 C.2.1 dX7_three_66 (lv_at hl 2 rfl) ?_
              refine lv_aload C.1 C.2.1 dX7_three_68 (lv_at hl 1 rfl) ?_
              have := (h_dk (((i).toInt).toNat) (by omega)).2.2.2.1
              have := (h_dk (((j).toInt).toNat) (by omega)).2.2.2.1
              refine go_i hW (run_S (As := [.ref (q (28 + 3 * ((i).toInt).toNat)), .ref (q (28 + 3 * ((j).toInt).toNat))]) (rest := []) C hW (c_X7_signOf l G q nd _ τ ζ ρ  (((i).toInt).toNat) (((j).toInt).toNat) h_nd (by omega) (by omega) (h_dk _ (by omega)) (h_dk _ (by omega))) (cw_S 2 C bL_X7_139 bS_X7_signOf bN_X7 bC_X7_signOf ⟨rfl, rfl⟩ (by decide +kernel) ⟨Nat.le_of_ble_eq_true rfl, Nat.le_of_ble_eq_true rfl⟩) rfl hl.1 rfl (Nat.le_of_ble_eq_true rfl) dX7_three_70 ⟨Nat.le_refl _, Nat.le_refl _⟩) (fun r_11 u_11 H locs hp_11 hW => ?_)
              rcases hp_11 with ⟨rfl, rfl⟩
              have hW : WB G (28 + 3 * nd) q (eX G q τ ζ ρ) s H locs := hW
              refine lv_aload C.1 C.2.1 dX7_three_73 (lv_at hl 1 rfl) ?_
              refine lv_aload C.1 C.2.1 dX7_three_75 (lv_at hl 0 rfl) ?_
              have := (h_dk (((j).toInt).toNat) (by omega)).2.2.2.1
              have := (h_dk (((o).toInt).toNat) (by omega)).2.2.2.1
              refine go_i hW (run_S (As := [.ref (q (28 + 3 * ((j).toInt).toNat)), .ref (q (28 + 3 * ((o).toInt).toNat))]) (rest := [.int (sgn (prd τ (((i).toInt).toNat) (((j).toInt).toNat)))]) C hW (c_X7_signOf l G q nd _ τ ζ ρ  (((j).toInt).toNat) (((o).toInt).toNat) h_nd (by omega) (by omega) (h_dk _ (by omega)) (h_dk _ (by omega))) (cw_S 2 C bL_X7_139 bS_X7_signOf bN_X7 bC_X7_signOf ⟨rfl, rfl⟩ (by decide +kernel) ⟨Nat.le_of_ble_eq_true rfl, Nat.le_of_ble_eq_true rfl⟩) rfl hl.1 rfl (Nat.le_of_ble_eq_true rfl) dX7_three_77 ⟨Nat.le_refl _, Nat.le_refl _⟩) (fun r_12 u_12 H locs hp_12 hW => ?_)
              rcases hp_12 with ⟨rfl, rfl⟩
              have hW : WB G (28 + 3 * nd) q (eX G q τ ζ ρ) s H locs := hW
              refine lv_imul C.1 C.2.1 dX7_three_80 ?_
              refine lv_aload C.1 C.2.1 dX7_three_81 (lv_at hl 2 rfl) ?_
              refine lv_aload C.1 C.2.1 dX7_three_83 (lv_at hl 0 rfl) ?_
              have := (h_dk (((i).toInt).toNat) (by omega)).2.2.2.1
              have := (h_dk (((o).toInt).toNat) (by omega)).2.2.2.1
              refine go_i hW (run_S (As := [.ref (q (28 + 3 * ((i).toInt).toNat)), .ref (q (28 + 3 * ((o).toInt).toNat))]) (rest := [.int ((sgn (prd τ (((i).toInt).toNat) (((j).toInt).toNat))) * (sgn (prd τ (((j).toInt).toNat) (((o).toInt).toNat))))]) C hW (c_X7_signOf l G q nd _ τ ζ ρ  (((i).toInt).toNat) (((o).toInt).toNat) h_nd (by omega) (by omega) (h_dk _ (by omega)) (h_dk _ (by omega))) (cw_S 2 C bL_X7_139 bS_X7_signOf bN_X7 bC_X7_signOf ⟨rfl, rfl⟩ (by decide +kernel) ⟨Nat.le_of_ble_eq_true rfl, Nat.le_of_ble_eq_true rfl⟩) rfl hl.1 rfl (Nat.le_of_ble_eq_true rfl) dX7_three_85 ⟨Nat.le_refl _, Nat.le_refl _⟩) (fun r_13 u_13 H locs hp_13 hW => ?_)
              rcases hp_13 with ⟨rfl, rfl⟩
              have hW : WB G (28 + 3 * nd) q (eX G q τ ζ ρ) s H locs := hW
              refine lv_imul C.1 C.2.1 dX7_three_88 ?_
              subst hQ
              exact r_iret (τ, ζ, ρ) C hW hr hk dX7_three_89 ⟨(show sp_three τ i j o = ((((sgn (prd τ (((i).toInt).toNat) (((j).toInt).toNat))) * (sgn (prd τ (((j).toInt).toNat) (((o).toInt).toNat)))) * (sgn (prd τ (((i).toInt).toNat) (((o).toInt).toNat)))), τ) from by unfold sp_three; (repeat (first | rw [if_pos (by omega)] | rw [if_neg (by omega)])); first | done | rfl), (XZ_eq h_z rfl rfl rfl rfl rfl rfl rfl rfl rfl rfl rfl rfl rfl rfl rfl rfl rfl rfl rfl)⟩
            · skip
              have k_10 := (tc_eq (rfl : (i).toInt = (i).toInt) (rfl : (o).toInt = (o).toInt)).mp c_10
              refine lv_bipush C.1 C.2.1 (v := (-2)) dX7_three_63 (by decide) ?_
              subst hQ
              exact r_iret (τ, ζ, ρ) C hW hr hk dX7_three_65 ⟨(show sp_three τ i j o = ((-2), τ) from by unfold sp_three; (repeat (first | rw [if_pos (by omega)] | rw [if_neg (by omega)])); first | done | rfl), (XZ_eq h_z rfl rfl rfl rfl rfl rfl rfl rfl rfl rfl rfl rfl rfl rfl rfl rfl rfl rfl rfl)⟩
set_option maxHeartbeats 4000000 in
set_option maxRecDepth 100000 in
theorem c_X7_part (l : Launch) (G : GG) (q : Nat → Nat) (nd sz : Nat) (τ ζ : ST) (ρ : RF) (o : Int32) (w : Int32) (h_nd : nd ≤ 6) (h_z : XZ q nd τ ζ ρ) (h_pt : 0 ≤ (τ.1 4).toInt ∧ (τ.1 4).toInt ≤ 200) : Met l yX7_part (WSb yX7_part cX7_part 3 (some .long)) (rmA 1 22) (va_Pc [.ref (q 0), .int o, .int w] (PW G (28 + 3 * nd) q sz (eX G q τ ζ ρ))) (va_Ql (fun (r : Int64) (u : (ST × ST × RF)) => sp_part τ o w = (r, u.1) ∧ XZ q nd u.1 u.2.1 u.2.2) (fun u => BW G (28 + 3 * nd) q (eX G q u.1 u.2.1 u.2.2)) (FA (28 + 3 * nd) q sz)) 0 0 (FA (28 + 3 * nd) q sz) := by
  refine Met_B (own := RX7) rfl (by decide) (Nat.le_of_ble_eq_true rfl) (fun p e s m args below meth c ls hsz C hW hr hk hl QQ hQ => ?_)
  subst hsz
  have hl : lv_has ls 3 [(0, .ref (q 0)), (1, .int o), (2, .int w)] := hl
  have h_n : (τ.1 0).toInt = (nd : Int) := h_z.1
  have h_r := h_z.2.1
  refine lv_iload_n C.1 C.2.1 dX7_part_0 rfl (lv_at hl 1 rfl) ?_
  refine lv_iconst C.1 C.2.1 (v := 0) dX7_part_1 (by decide) ?_
  refine lv_aload_n C.1 C.2.1 dX7_part_2 rfl (lv_at hl 0 rfl) ?_
  refine xG_DishHouse_board C hW bF_X7_33 dX7_part_3 ?_
  refine xG_Board_parts C hW bF_X7_192 (v := (τ.1 4)) rfl dX7_part_6 ?_
  refine lv_iconst C.1 C.2.1 (v := 1) dX7_part_9 (by decide) ?_
  refine lv_isub C.1 C.2.1 dX7_part_10 ?_
  refine go_i hW (run_S (As := [.int o, .int 0, .int ((τ.1 4) - 1)]) (rest := []) C hW (c_X7_isWithin l G q nd _ τ ζ ρ o 0 ((τ.1 4) - 1) ((o).toInt) 0 (((τ.1 4)).toInt - 1) (rfl : (o).toInt = (o).toInt) (show (0 : Int32).toInt = 0 from by decide) (ti_sub (rfl : ((τ.1 4)).toInt = ((τ.1 4)).toInt) (show (1 : Int32).toInt = 1 from by decide) (by omega) (by omega)) h_nd) (cw_S 3 C bL_X7_51 bS_X7_isWithin bN_X7 bC_X7_isWithin ⟨rfl, rfl⟩ (by decide +kernel) ⟨Nat.le_of_ble_eq_true rfl, Nat.le_of_ble_eq_true rfl⟩) rfl hl.1 rfl (Nat.le_of_ble_eq_true rfl) dX7_part_11 ⟨Nat.le_refl _, Nat.le_refl _⟩) (fun r_1 u_1 H locs hp_1 hW => ?_)
  rcases hp_1 with ⟨rfl, rfl, k_1_0, k_1_1⟩ | ⟨rfl, rfl, k_1⟩
  · skip
    have hW : WB G (28 + 3 * nd) q (eX G q τ ζ ρ) s H locs := hW
    refine lv_if_eq C.1 C.2.1 (tgt := 26) dX7_part_14 (by decide) (fun c => absurd c (by decide)) (fun _ => ?_)
    refine lv_iload_n C.1 C.2.1 dX7_part_17 rfl (lv_at hl 2 rfl) ?_
    refine lv_iconst C.1 C.2.1 (v := 0) dX7_part_18 (by decide) ?_
    refine lv_iconst C.1 C.2.1 (v := 1) dX7_part_19 (by decide) ?_
    refine go_i hW (run_S (As := [.int w, .int 0, .int 1]) (rest := []) C hW (c_X7_isWithin l G q nd _ τ ζ ρ w 0 1 ((w).toInt) 0 1 (rfl : (w).toInt = (w).toInt) (show (0 : Int32).toInt = 0 from by decide) (show (1 : Int32).toInt = 1 from by decide) h_nd) (cw_S 3 C bL_X7_51 bS_X7_isWithin bN_X7 bC_X7_isWithin ⟨rfl, rfl⟩ (by decide +kernel) ⟨Nat.le_of_ble_eq_true rfl, Nat.le_of_ble_eq_true rfl⟩) rfl hl.1 rfl (Nat.le_of_ble_eq_true rfl) dX7_part_20 ⟨Nat.le_refl _, Nat.le_refl _⟩) (fun r_3 u_3 H locs hp_3 hW => ?_)
    rcases hp_3 with ⟨rfl, rfl, k_3_0, k_3_1⟩ | ⟨rfl, rfl, k_3⟩
    · skip
      have hW : WB G (28 + 3 * nd) q (eX G q τ ζ ρ) s H locs := hW
      refine lv_if_ne C.1 C.2.1 (tgt := 30) dX7_part_23 (by decide) (fun _ => ?_) (fun c => absurd c (by decide))
      refine lv_iload_n C.1 C.2.1 dX7_part_30 rfl (lv_at hl 2 rfl) ?_
      refine lv_if_ne C.1 C.2.1 (tgt := 47) dX7_part_31 (by decide) (fun c_5 => ?_) (fun c_5 => ?_)
      · skip
        have k_5 := (tn_eq (rfl : (w).toInt = (w).toInt) (show (0 : Int32).toInt = 0 from by decide)).mp c_5
        refine lv_aload_n C.1 C.2.1 dX7_part_47 rfl (lv_at hl 0 rfl) ?_
        refine xG_DishHouse_board C hW bF_X7_33 dX7_part_48 ?_
        refine xG_Board_partAmounts C hW bF_X7_201 dX7_part_51 ?_
        refine lv_iload_n C.1 C.2.1 dX7_part_54 rfl (lv_at hl 1 rfl) ?_
        refine xL_18 C hW (((o).toInt).toNat) ((rfl : (o).toInt = (o).toInt).trans (by omega)) (by omega) (v := (τ.2.2 1 (((o).toInt).toNat))) rfl dX7_part_55 ?_
        subst hQ
        exact r_lret (τ, ζ, ρ) C hW hr hk dX7_part_56 ⟨(show sp_part τ o w = ((τ.2.2 1 (((o).toInt).toNat)), τ) from by unfold sp_part; (repeat (first | rw [if_pos (by omega)] | rw [if_neg (by omega)])); first | done | rfl), (XZ_eq h_z rfl rfl rfl rfl rfl rfl rfl rfl rfl rfl rfl rfl rfl rfl rfl rfl rfl rfl rfl)⟩
      · skip
        have k_5 := (tc_eq (rfl : (w).toInt = (w).toInt) (show (0 : Int32).toInt = 0 from by decide)).mp c_5
        refine lv_aload_n C.1 C.2.1 dX7_part_34 rfl (lv_at hl 0 rfl) ?_
        refine xG_DishHouse_board C hW bF_X7_33 dX7_part_35 ?_
        refine xG_Board_partCells C hW bF_X7_198 dX7_part_38 ?_
        refine lv_iload_n C.1 C.2.1 dX7_part_41 rfl (lv_at hl 1 rfl) ?_
        refine xL_17 C hW (((o).toInt).toNat) ((rfl : (o).toInt = (o).toInt).trans (by omega)) (by omega) (v := (τ.2.1 14 (((o).toInt).toNat))) rfl dX7_part_42 ?_
        refine lv_i2l C.1 C.2.1 dX7_part_43 rfl ?_
        refine lv_goto C.1 C.2.1 (tgt := 56) dX7_part_44 (by decide) ?_
        subst hQ
        exact r_lret (τ, ζ, ρ) C hW hr hk dX7_part_56 ⟨(show sp_part τ o w = ((τ.2.1 14 (((o).toInt).toNat)).toInt64, τ) from by unfold sp_part; (repeat (first | rw [if_pos (by omega)] | rw [if_neg (by omega)])); first | done | rfl), (XZ_eq h_z rfl rfl rfl rfl rfl rfl rfl rfl rfl rfl rfl rfl rfl rfl rfl rfl rfl rfl rfl)⟩
    · skip
      have hW : WB G (28 + 3 * nd) q (eX G q τ ζ ρ) s H locs := hW
      refine lv_if_ne C.1 C.2.1 (tgt := 30) dX7_part_23 (by decide) (fun c => absurd c (by decide)) (fun _ => ?_)
      refine lv_ldc2 C.1 C.2.1 C.2.2.2.1 (C.2.2.2.2.1 _ bQ_X7_130) dX7_part_26 ?_
      subst hQ
      exact r_lret (τ, ζ, ρ) C hW hr hk dX7_part_29 ⟨(show sp_part τ o w = ((-9223372036854775808), τ) from by unfold sp_part; (repeat (first | rw [if_pos (by omega)] | rw [if_neg (by omega)])); first | done | rfl), (XZ_eq h_z rfl rfl rfl rfl rfl rfl rfl rfl rfl rfl rfl rfl rfl rfl rfl rfl rfl rfl rfl)⟩
  · skip
    have hW : WB G (28 + 3 * nd) q (eX G q τ ζ ρ) s H locs := hW
    refine lv_if_eq C.1 C.2.1 (tgt := 26) dX7_part_14 (by decide) (fun _ => ?_) (fun c => absurd c (by decide))
    refine lv_ldc2 C.1 C.2.1 C.2.2.2.1 (C.2.2.2.2.1 _ bQ_X7_130) dX7_part_26 ?_
    subst hQ
    exact r_lret (τ, ζ, ρ) C hW hr hk dX7_part_29 ⟨(show sp_part τ o w = ((-9223372036854775808), τ) from by unfold sp_part; (repeat (first | rw [if_pos (by omega)] | rw [if_neg (by omega)])); first | done | rfl), (XZ_eq h_z rfl rfl rfl rfl rfl rfl rfl rfl rfl rfl rfl rfl rfl rfl rfl rfl rfl rfl rfl)⟩
