/-! items of the landed class -/
theorem ix_100 {d i : Int32} (h1 : 0 ≤ d.toInt) (h2 : 0 ≤ i.toInt) : (100 * d.toInt + i.toInt).toNat = 100 * d.toInt.toNat + i.toInt.toNat := by omega
theorem nrw_eq {f g v : Int32} (h : f.toInt = g.toInt) : nrw f v = nrw g v := by rw [Int32.toInt_inj.mp h]
set_option maxHeartbeats 4000000 in
set_option maxRecDepth 100000 in
theorem c_X7_put (l : Launch) (G : GG) (q : Nat → Nat) (nd sz : Nat) (τ ζ : ST) (ρ : RF) (d : Int32) (f : Int32) (i : Int32) (v : Int32) (h_nd : nd ≤ 6) (h_z : XZ q nd τ ζ ρ) (h_s : ∀ d : Nat, d < 6 → 0 ≤ (τ.2.1 6 d).toInt ∧ (τ.2.1 6 d).toInt ≤ 100) : Met l yX7_put (WSb yX7_put cX7_put 7 (some .int)) (rmA 2 43) (va_Pc [.ref (q 0), .int d, .int f, .int i, .int v] (PW G (28 + 3 * nd) q sz (eX G q τ ζ ρ))) (va_Qi (fun (r : Int32) (u : (ST × ST × RF)) => sp_put τ d f i v = (r, u.1) ∧ XZ q nd u.1 u.2.1 u.2.2) (fun u => BW G (28 + 3 * nd) q (eX G q u.1 u.2.1 u.2.2)) (FA (28 + 3 * nd) q sz)) 0 0 (FA (28 + 3 * nd) q sz) := by
  refine Met_B (own := RX7) rfl (by decide) (Nat.le_of_ble_eq_true rfl) (fun p e s m args below meth c ls hsz C hW hr hk hl QQ hQ => ?_)
  subst hsz
  have hl : lv_has ls 7 [(0, .ref (q 0)), (1, .int d), (2, .int f), (3, .int i), (4, .int v)] := hl
  have h_n : (τ.1 0).toInt = (nd : Int) := h_z.1
  have h_r := h_z.2.1
  refine lv_aload_n C.1 C.2.1 dX7_put_0 rfl (lv_at hl 0 rfl) ?_
  refine xG_DishHouse_row C hW bF_X7_12 dX7_put_1 ?_
  refine lv_iload_n C.1 C.2.1 dX7_put_4 rfl (lv_at hl 1 rfl) ?_
  refine go_q hW (run_V (o := 1) (As := [.int d]) (rest := []) C hW (by omega) rfl rfl (c_X4_find l G q nd _ τ ζ ρ d  h_nd h_n h_r) (cw_V 1 C bL_X7_59 bI_X4_find bV_X4_find bN_X4 bC_X4_find ⟨rfl, rfl⟩ (by decide +kernel) ⟨Nat.le_of_ble_eq_true rfl, Nat.le_of_ble_eq_true rfl⟩) rfl hl.1 rfl (Nat.le_of_ble_eq_true rfl) dX7_put_5 ⟨Nat.le_refl _, Nat.le_refl _⟩) (fun r_1 u_1 H locs hp_1 hW => ?_)
  rcases hp_1 with ⟨rfl, rfl, k_1⟩ | ⟨rfl, rfl, k_1_0, k_1_1⟩
  · skip
    have hW : WB G (28 + 3 * nd) q (eX G q τ ζ ρ) s H locs := hW
    refine lv_astoreN (lv' := [(5, .null), (0, .ref (q 0)), (1, .int d), (2, .int f), (3, .int i), (4, .int v)]) C.1 C.2.1 dX7_put_8 hl (by decide) rfl (fun ls hl => ?_)
    refine lv_aloadN C.1 C.2.1 dX7_put_10 (lv_at hl 0 rfl) ?_
    refine lv_ifnullN C.1 C.2.1 (tgt := 22) dX7_put_12 (by decide) ?_
    refine lv_bipush C.1 C.2.1 (v := (-2)) dX7_put_22 (by decide) ?_
    subst hQ
    exact r_iret (τ, ζ, ρ) C hW hr hk dX7_put_24 ⟨(show sp_put τ d f i v = ((-2), τ) from by unfold sp_put; (repeat (first | rw [if_pos (by omega)] | rw [if_neg (by omega)])); first | done | rfl), (XZ_eq h_z rfl rfl rfl rfl rfl rfl rfl rfl rfl rfl rfl rfl rfl rfl rfl rfl rfl rfl rfl)⟩
  · skip
    have hW : WB G (28 + 3 * nd) q (eX G q τ ζ ρ) s H locs := hW
    have hlen := XZ_len h_z (z := d.toInt.toNat) (by omega)
    have hsz := h_s d.toInt.toNat (by omega)
    refine lv_astore (lv' := [(5, .ref (q (28 + 3 * ((d).toInt).toNat))), (0, .ref (q 0)), (1, .int d), (2, .int f), (3, .int i), (4, .int v)]) C.1 C.2.1 dX7_put_8 hl (by decide) rfl (fun ls hl => ?_)
    refine lv_aload C.1 C.2.1 dX7_put_10 (lv_at hl 0 rfl) ?_
    refine lv_ifnull C.1 C.2.1 dX7_put_12 ?_
    refine lv_iload_n C.1 C.2.1 dX7_put_15 rfl (lv_at hl 3 rfl) ?_
    refine go_i hW (run_S (As := [.int f]) (rest := []) C hW (c_X7_isForm l G q nd _ τ ζ ρ f  h_nd) (cw_S 1 C bL_X7_72 bS_X7_isForm bN_X7 bC_X7_isForm ⟨rfl, rfl⟩ (by decide +kernel) ⟨Nat.le_of_ble_eq_true rfl, Nat.le_of_ble_eq_true rfl⟩) rfl hl.1 rfl (Nat.le_of_ble_eq_true rfl) dX7_put_16 ⟨Nat.le_refl _, Nat.le_refl _⟩) (fun r_2 u_2 H locs hp_2 hW => ?_)
    rcases hp_2 with ⟨rfl, rfl, k_2_0, k_2_1⟩ | ⟨rfl, rfl, k_2⟩
    · skip
      have hW : WB G (28 + 3 * nd) q (eX G q τ ζ ρ) s H locs := hW
      refine lv_if_ne C.1 C.2.1 (tgt := 25) dX7_put_19 (by decide) (fun _ => ?_) (fun c => absurd c (by decide))
      refine lv_aload C.1 C.2.1 dX7_put_25 (lv_at hl 0 rfl) ?_
      refine lv_iload_n C.1 C.2.1 dX7_put_27 rfl (lv_at hl 3 rfl) ?_
      refine lv_iload_n C.1 C.2.1 dX7_put_28 rfl (lv_at hl 4 rfl) ?_
      refine go_i hW (run_V (o := 28 + 3 * (((d).toInt).toNat)) (As := [.int f, .int i]) (rest := []) C hW (by omega) (eX_obj _ _ _ _ _ (((d).toInt).toNat)) rfl (c_X1_faultOf l G q nd _ τ ζ ρ f i (((d).toInt).toNat) h_nd (by omega)) (cw_V 2 C bL_X7_91 bI_X1_faultOf bV_X1_faultOf bN_X1 bC_X1_faultOf ⟨rfl, rfl⟩ (by decide +kernel) ⟨Nat.le_of_ble_eq_true rfl, Nat.le_of_ble_eq_true rfl⟩) rfl hl.1 rfl (Nat.le_of_ble_eq_true rfl) dX7_put_29 ⟨Nat.le_refl _, Nat.le_refl _⟩) (fun r_4 u_4 H locs hp_4 hW => ?_)
      rcases hp_4 with ⟨rfl, rfl, k_4⟩ | ⟨rfl, rfl, k_4_0, k_4_1⟩ | ⟨rfl, rfl, k_4_0, k_4_1, k_4_2, k_4_3⟩ | ⟨rfl, rfl, k_4_0, k_4_1, k_4_2⟩
      · skip
        have hW : WB G (28 + 3 * nd) q (eX G q τ ζ ρ) s H locs := hW
        refine lv_istore (lv' := [(6, .int 1), (5, .ref (q (28 + 3 * ((d).toInt).toNat))), (0, .ref (q 0)), (1, .int d), (2, .int f), (3, .int i), (4, .int v)]) C.1 C.2.1 dX7_put_32 hl (by decide) rfl (fun ls hl => ?_)
        refine lv_iload C.1 C.2.1 dX7_put_34 (lv_at hl 0 rfl) ?_
        refine lv_if_eq C.1 C.2.1 (tgt := 46) dX7_put_36 (by decide) (fun c => absurd c (by decide)) (fun _ => ?_)
        refine lv_aload_n C.1 C.2.1 dX7_put_39 rfl (lv_at hl 2 rfl) ?_
        refine lv_iload C.1 C.2.1 dX7_put_40 (lv_at hl 0 rfl) ?_
        refine go_i hW (run_V (o := 0) (As := [.int 1]) (rest := []) C hW (by omega) rfl rfl (c_X7_foundOut l G q nd _ τ ζ ρ 1  h_nd) (cw_V 1 C bL_X7_76 bI_X7_foundOut bV_X7_foundOut bN_X7 bC_X7_foundOut ⟨rfl, rfl⟩ (by decide +kernel) ⟨Nat.le_of_ble_eq_true rfl, Nat.le_of_ble_eq_true rfl⟩) rfl hl.1 rfl (Nat.le_of_ble_eq_true rfl) dX7_put_42 ⟨Nat.le_refl _, Nat.le_refl _⟩) (fun r_6 u_6 H locs hp_6 hW => ?_)
        rcases hp_6 with ⟨rfl, rfl⟩
        have hW : WB G (28 + 3 * nd) q (eX G q (sg τ 1 1) ζ ρ) s H locs := hW
        subst hQ
        exact r_iret ((sg τ 1 1), ζ, ρ) C hW hr hk dX7_put_45 ⟨(show sp_put τ d f i v = (((-10 - 1)), (sg τ 1 1)) from by unfold sp_put; (repeat (first | rw [if_pos (by omega)] | rw [if_neg (by omega)])); first | done | rfl), (XZ_eq h_z rfl rfl rfl rfl rfl rfl rfl rfl rfl rfl rfl rfl rfl rfl rfl rfl rfl rfl rfl)⟩
      · skip
        have hW : WB G (28 + 3 * nd) q (eX G q τ ζ ρ) s H locs := hW
        refine lv_istore (lv' := [(6, .int 3), (5, .ref (q (28 + 3 * ((d).toInt).toNat))), (0, .ref (q 0)), (1, .int d), (2, .int f), (3, .int i), (4, .int v)]) C.1 C.2.1 dX7_put_32 hl (by decide) rfl (fun ls hl => ?_)
        refine lv_iload C.1 C.2.1 dX7_put_34 (lv_at hl 0 rfl) ?_
        refine lv_if_eq C.1 C.2.1 (tgt := 46) dX7_put_36 (by decide) (fun c => absurd c (by decide)) (fun _ => ?_)
        refine lv_aload_n C.1 C.2.1 dX7_put_39 rfl (lv_at hl 2 rfl) ?_
        refine lv_iload C.1 C.2.1 dX7_put_40 (lv_at hl 0 rfl) ?_
        refine go_i hW (run_V (o := 0) (As := [.int 3]) (rest := []) C hW (by omega) rfl rfl (c_X7_foundOut l G q nd _ τ ζ ρ 3  h_nd) (cw_V 1 C bL_X7_76 bI_X7_foundOut bV_X7_foundOut bN_X7 bC_X7_foundOut ⟨rfl, rfl⟩ (by decide +kernel) ⟨Nat.le_of_ble_eq_true rfl, Nat.le_of_ble_eq_true rfl⟩) rfl hl.1 rfl (Nat.le_of_ble_eq_true rfl) dX7_put_42 ⟨Nat.le_refl _, Nat.le_refl _⟩) (fun r_8 u_8 H locs hp_8 hW => ?_)
        rcases hp_8 with ⟨rfl, rfl⟩
        have hW : WB G (28 + 3 * nd) q (eX G q (sg τ 1 3) ζ ρ) s H locs := hW
        subst hQ
        exact r_iret ((sg τ 1 3), ζ, ρ) C hW hr hk dX7_put_45 ⟨(show sp_put τ d f i v = (((-10 - 3)), (sg τ 1 3)) from by unfold sp_put; (repeat (first | rw [if_pos (by omega)] | rw [if_neg (by omega)])); first | done | rfl), (XZ_eq h_z rfl rfl rfl rfl rfl rfl rfl rfl rfl rfl rfl rfl rfl rfl rfl rfl rfl rfl rfl)⟩
      · skip
        have hW : WB G (28 + 3 * nd) q (eX G q τ ζ ρ) s H locs := hW
        refine lv_istore (lv' := [(6, .int 0), (5, .ref (q (28 + 3 * ((d).toInt).toNat))), (0, .ref (q 0)), (1, .int d), (2, .int f), (3, .int i), (4, .int v)]) C.1 C.2.1 dX7_put_32 hl (by decide) rfl (fun ls hl => ?_)
        refine lv_iload C.1 C.2.1 dX7_put_34 (lv_at hl 0 rfl) ?_
        refine lv_if_eq C.1 C.2.1 (tgt := 46) dX7_put_36 (by decide) (fun _ => ?_) (fun c => absurd c (by decide))
        refine lv_aload C.1 C.2.1 dX7_put_46 (lv_at hl 1 rfl) ?_
        refine lv_iload_n C.1 C.2.1 dX7_put_48 rfl (lv_at hl 5 rfl) ?_
        refine lv_iload C.1 C.2.1 dX7_put_49 (lv_at hl 6 rfl) ?_
        refine go_v hW (run_V (o := 28 + 3 * (((d).toInt).toNat)) (As := [.int i, .int v]) (rest := []) C hW (by omega) (eX_obj _ _ _ _ _ (((d).toInt).toNat)) rfl (c_X1_store l G q nd _ τ ζ ρ i v (((i).toInt).toNat) (((d).toInt).toNat) ((rfl : (i).toInt = (i).toInt).trans (by omega)) h_nd (by omega) (by omega) (by omega)) (cw_V 2 C bL_X7_94 bI_X1_store bV_X1_store bN_X1 bC_X1_store ⟨rfl, rfl⟩ (by decide +kernel) ⟨Nat.le_of_ble_eq_true rfl, Nat.le_of_ble_eq_true rfl⟩) rfl hl.1 rfl (Nat.le_of_ble_eq_true rfl) dX7_put_51 ⟨Nat.le_refl _, Nat.le_refl _⟩) (fun u_10 H locs hp_10 hW => ?_)
        obtain rfl := hp_10
        have hW : WB G (28 + 3 * nd) q (eX G q (sa τ 7 (100 * (((d).toInt).toNat) + (((i).toInt).toNat)) (nrw (τ.2.1 5 (((d).toInt).toNat)) v)) ζ ρ) s H locs := hW
        refine lv_iconst C.1 C.2.1 (v := 1) dX7_put_54 (by decide) ?_
        subst hQ
        exact r_iret ((sa τ 7 (100 * (((d).toInt).toNat) + (((i).toInt).toNat)) (nrw (τ.2.1 5 (((d).toInt).toNat)) v)), ζ, ρ) C hW hr hk dX7_put_55 ⟨(show sp_put τ d f i v = (1, (sa τ 7 (100 * (((d).toInt).toNat) + (((i).toInt).toNat)) (nrw (τ.2.1 5 (((d).toInt).toNat)) v))) from by unfold sp_put; (repeat (first | rw [if_pos (by omega)] | rw [if_neg (by omega)])); rw [ix_100 (by omega) (by omega), nrw_eq (show f.toInt = (τ.2.1 5 d.toInt.toNat).toInt by omega)]), (XZ_eq h_z rfl rfl rfl rfl rfl rfl rfl rfl rfl rfl rfl rfl rfl rfl rfl rfl rfl rfl rfl)⟩
      · skip
        have hW : WB G (28 + 3 * nd) q (eX G q τ ζ ρ) s H locs := hW
        refine lv_istore (lv' := [(6, .int 2), (5, .ref (q (28 + 3 * ((d).toInt).toNat))), (0, .ref (q 0)), (1, .int d), (2, .int f), (3, .int i), (4, .int v)]) C.1 C.2.1 dX7_put_32 hl (by decide) rfl (fun ls hl => ?_)
        refine lv_iload C.1 C.2.1 dX7_put_34 (lv_at hl 0 rfl) ?_
        refine lv_if_eq C.1 C.2.1 (tgt := 46) dX7_put_36 (by decide) (fun c => absurd c (by decide)) (fun _ => ?_)
        refine lv_aload_n C.1 C.2.1 dX7_put_39 rfl (lv_at hl 2 rfl) ?_
        refine lv_iload C.1 C.2.1 dX7_put_40 (lv_at hl 0 rfl) ?_
        refine go_i hW (run_V (o := 0) (As := [.int 2]) (rest := []) C hW (by omega) rfl rfl (c_X7_foundOut l G q nd _ τ ζ ρ 2  h_nd) (cw_V 1 C bL_X7_76 bI_X7_foundOut bV_X7_foundOut bN_X7 bC_X7_foundOut ⟨rfl, rfl⟩ (by decide +kernel) ⟨Nat.le_of_ble_eq_true rfl, Nat.le_of_ble_eq_true rfl⟩) rfl hl.1 rfl (Nat.le_of_ble_eq_true rfl) dX7_put_42 ⟨Nat.le_refl _, Nat.le_refl _⟩) (fun r_12 u_12 H locs hp_12 hW => ?_)
        rcases hp_12 with ⟨rfl, rfl⟩
        have hW : WB G (28 + 3 * nd) q (eX G q (sg τ 1 2) ζ ρ) s H locs := hW
        subst hQ
        exact r_iret ((sg τ 1 2), ζ, ρ) C hW hr hk dX7_put_45 ⟨(show sp_put τ d f i v = (((-10 - 2)), (sg τ 1 2)) from by unfold sp_put; (repeat (first | rw [if_pos (by omega)] | rw [if_neg (by omega)])); first | done | rfl), (XZ_eq h_z rfl rfl rfl rfl rfl rfl rfl rfl rfl rfl rfl rfl rfl rfl rfl rfl rfl rfl rfl)⟩
    · skip
      have hW : WB G (28 + 3 * nd) q (eX G q τ ζ ρ) s H locs := hW
      refine lv_if_ne C.1 C.2.1 (tgt := 25) dX7_put_19 (by decide) (fun c => absurd c (by decide)) (fun _ => ?_)
      refine lv_bipush C.1 C.2.1 (v := (-2)) dX7_put_22 (by decide) ?_
      subst hQ
      exact r_iret (τ, ζ, ρ) C hW hr hk dX7_put_24 ⟨(show sp_put τ d f i v = ((-2), τ) from by unfold sp_put; (repeat (first | rw [if_pos (by omega)] | rw [if_neg (by omega)])); first | done | rfl), (XZ_eq h_z rfl rfl rfl rfl rfl rfl rfl rfl rfl rfl rfl rfl rfl rfl rfl rfl rfl rfl rfl)⟩
set_option maxHeartbeats 4000000 in
set_option maxRecDepth 100000 in
theorem c_X7_get (l : Launch) (G : GG) (q : Nat → Nat) (nd sz : Nat) (τ ζ : ST) (ρ : RF) (d : Int32) (f : Int32) (i : Int32) (h_nd : nd ≤ 6) (h_z : XZ q nd τ ζ ρ) (h_s : ∀ d : Nat, d < 6 → 0 ≤ (τ.2.1 6 d).toInt ∧ (τ.2.1 6 d).toInt ≤ 100) : Met l yX7_get (WSb yX7_get cX7_get 6 (some .int)) (rmA 2 43) (va_Pc [.ref (q 0), .int d, .int f, .int i] (PW G (28 + 3 * nd) q sz (eX G q τ ζ ρ))) (va_Qi (fun (r : Int32) (u : (ST × ST × RF)) => sp_get τ d f i = (r, u.1) ∧ XZ q nd u.1 u.2.1 u.2.2) (fun u => BW G (28 + 3 * nd) q (eX G q u.1 u.2.1 u.2.2)) (FA (28 + 3 * nd) q sz)) 0 0 (FA (28 + 3 * nd) q sz) := by
  refine Met_B (own := RX7) rfl (by decide) (Nat.le_of_ble_eq_true rfl) (fun p e s m args below meth c ls hsz C hW hr hk hl QQ hQ => ?_)
  subst hsz
  have hl : lv_has ls 6 [(0, .ref (q 0)), (1, .int d), (2, .int f), (3, .int i)] := hl
  have h_n : (τ.1 0).toInt = (nd : Int) := h_z.1
  have h_r := h_z.2.1
  refine lv_aload_n C.1 C.2.1 dX7_get_0 rfl (lv_at hl 0 rfl) ?_
  refine xG_DishHouse_row C hW bF_X7_12 dX7_get_1 ?_
  refine lv_iload_n C.1 C.2.1 dX7_get_4 rfl (lv_at hl 1 rfl) ?_
  refine go_q hW (run_V (o := 1) (As := [.int d]) (rest := []) C hW (by omega) rfl rfl (c_X4_find l G q nd _ τ ζ ρ d  h_nd h_n h_r) (cw_V 1 C bL_X7_59 bI_X4_find bV_X4_find bN_X4 bC_X4_find ⟨rfl, rfl⟩ (by decide +kernel) ⟨Nat.le_of_ble_eq_true rfl, Nat.le_of_ble_eq_true rfl⟩) rfl hl.1 rfl (Nat.le_of_ble_eq_true rfl) dX7_get_5 ⟨Nat.le_refl _, Nat.le_refl _⟩) (fun r_1 u_1 H locs hp_1 hW => ?_)
  rcases hp_1 with ⟨rfl, rfl, k_1⟩ | ⟨rfl, rfl, k_1_0, k_1_1⟩
  · skip
    have hW : WB G (28 + 3 * nd) q (eX G q τ ζ ρ) s H locs := hW
    refine lv_astoreN (lv' := [(4, .null), (0, .ref (q 0)), (1, .int d), (2, .int f), (3, .int i)]) C.1 C.2.1 dX7_get_8 hl (by decide) rfl (fun ls hl => ?_)
    refine lv_aloadN C.1 C.2.1 dX7_get_10 (lv_at hl 0 rfl) ?_
    refine lv_ifnullN C.1 C.2.1 (tgt := 22) dX7_get_12 (by decide) ?_
    refine lv_ldc C.1 C.2.1 C.2.2.2.1 (C.2.2.2.2.1 _ bQ_X7_97) dX7_get_22 ?_
    subst hQ
    exact r_iret (τ, ζ, ρ) C hW hr hk dX7_get_24 ⟨(show sp_get τ d f i = ((-2147483648), τ) from by unfold sp_get; (repeat (first | rw [if_pos (by omega)] | rw [if_neg (by omega)])); first | done | rfl), (XZ_eq h_z rfl rfl rfl rfl rfl rfl rfl rfl rfl rfl rfl rfl rfl rfl rfl rfl rfl rfl rfl)⟩
  · skip
    have hW : WB G (28 + 3 * nd) q (eX G q τ ζ ρ) s H locs := hW
    have hlen := XZ_len h_z (z := d.toInt.toNat) (by omega)
    have hsz := h_s d.toInt.toNat (by omega)
    refine lv_astore (lv' := [(4, .ref (q (28 + 3 * ((d).toInt).toNat))), (0, .ref (q 0)), (1, .int d), (2, .int f), (3, .int i)]) C.1 C.2.1 dX7_get_8 hl (by decide) rfl (fun ls hl => ?_)
    refine lv_aload C.1 C.2.1 dX7_get_10 (lv_at hl 0 rfl) ?_
    refine lv_ifnull C.1 C.2.1 dX7_get_12 ?_
    refine lv_iload_n C.1 C.2.1 dX7_get_15 rfl (lv_at hl 3 rfl) ?_
    refine go_i hW (run_S (As := [.int f]) (rest := []) C hW (c_X7_isForm l G q nd _ τ ζ ρ f  h_nd) (cw_S 1 C bL_X7_72 bS_X7_isForm bN_X7 bC_X7_isForm ⟨rfl, rfl⟩ (by decide +kernel) ⟨Nat.le_of_ble_eq_true rfl, Nat.le_of_ble_eq_true rfl⟩) rfl hl.1 rfl (Nat.le_of_ble_eq_true rfl) dX7_get_16 ⟨Nat.le_refl _, Nat.le_refl _⟩) (fun r_2 u_2 H locs hp_2 hW => ?_)
    rcases hp_2 with ⟨rfl, rfl, k_2_0, k_2_1⟩ | ⟨rfl, rfl, k_2⟩
    · skip
      have hW : WB G (28 + 3 * nd) q (eX G q τ ζ ρ) s H locs := hW
      refine lv_if_ne C.1 C.2.1 (tgt := 25) dX7_get_19 (by decide) (fun _ => ?_) (fun c => absurd c (by decide))
      refine lv_aload C.1 C.2.1 dX7_get_25 (lv_at hl 0 rfl) ?_
      refine lv_iload_n C.1 C.2.1 dX7_get_27 rfl (lv_at hl 3 rfl) ?_
      refine lv_iload_n C.1 C.2.1 dX7_get_28 rfl (lv_at hl 4 rfl) ?_
      refine go_i hW (run_V (o := 28 + 3 * (((d).toInt).toNat)) (As := [.int f, .int i]) (rest := []) C hW (by omega) (eX_obj _ _ _ _ _ (((d).toInt).toNat)) rfl (c_X1_faultOf l G q nd _ τ ζ ρ f i (((d).toInt).toNat) h_nd (by omega)) (cw_V 2 C bL_X7_91 bI_X1_faultOf bV_X1_faultOf bN_X1 bC_X1_faultOf ⟨rfl, rfl⟩ (by decide +kernel) ⟨Nat.le_of_ble_eq_true rfl, Nat.le_of_ble_eq_true rfl⟩) rfl hl.1 rfl (Nat.le_of_ble_eq_true rfl) dX7_get_29 ⟨Nat.le_refl _, Nat.le_refl _⟩) (fun r_4 u_4 H locs hp_4 hW => ?_)
      rcases hp_4 with ⟨rfl, rfl, k_4⟩ | ⟨rfl, rfl, k_4_0, k_4_1⟩ | ⟨rfl, rfl, k_4_0, k_4_1, k_4_2, k_4_3⟩ | ⟨rfl, rfl, k_4_0, k_4_1, k_4_2⟩
      · skip
        have hW : WB G (28 + 3 * nd) q (eX G q τ ζ ρ) s H locs := hW
        refine lv_istore (lv' := [(5, .int 1), (4, .ref (q (28 + 3 * ((d).toInt).toNat))), (0, .ref (q 0)), (1, .int d), (2, .int f), (3, .int i)]) C.1 C.2.1 dX7_get_32 hl (by decide) rfl (fun ls hl => ?_)
        refine lv_iload C.1 C.2.1 dX7_get_34 (lv_at hl 0 rfl) ?_
        refine lv_if_eq C.1 C.2.1 (tgt := 49) dX7_get_36 (by decide) (fun c => absurd c (by decide)) (fun _ => ?_)
        refine lv_aload_n C.1 C.2.1 dX7_get_39 rfl (lv_at hl 2 rfl) ?_
        refine lv_iload C.1 C.2.1 dX7_get_40 (lv_at hl 0 rfl) ?_
        refine go_i hW (run_V (o := 0) (As := [.int 1]) (rest := []) C hW (by omega) rfl rfl (c_X7_foundOut l G q nd _ τ ζ ρ 1  h_nd) (cw_V 1 C bL_X7_76 bI_X7_foundOut bV_X7_foundOut bN_X7 bC_X7_foundOut ⟨rfl, rfl⟩ (by decide +kernel) ⟨Nat.le_of_ble_eq_true rfl, Nat.le_of_ble_eq_true rfl⟩) rfl hl.1 rfl (Nat.le_of_ble_eq_true rfl) dX7_get_42 ⟨Nat.le_refl _, Nat.le_refl _⟩) (fun r_6 u_6 H locs hp_6 hW => ?_)
        rcases hp_6 with ⟨rfl, rfl⟩
        have hW : WB G (28 + 3 * nd) q (eX G q (sg τ 1 1) ζ ρ) s H locs := hW
        refine lv_pop C.1 C.2.1 dX7_get_45 rfl ?_
        refine lv_ldc C.1 C.2.1 C.2.2.2.1 (C.2.2.2.2.1 _ bQ_X7_97) dX7_get_46 ?_
        subst hQ
        exact r_iret ((sg τ 1 1), ζ, ρ) C hW hr hk dX7_get_48 ⟨(show sp_get τ d f i = ((-2147483648), (sg τ 1 1)) from by unfold sp_get; (repeat (first | rw [if_pos (by omega)] | rw [if_neg (by omega)])); first | done | rfl), (XZ_eq h_z rfl rfl rfl rfl rfl rfl rfl rfl rfl rfl rfl rfl rfl rfl rfl rfl rfl rfl rfl)⟩
      · skip
        have hW : WB G (28 + 3 * nd) q (eX G q τ ζ ρ) s H locs := hW
        refine lv_istore (lv' := [(5, .int 3), (4, .ref (q (28 + 3 * ((d).toInt).toNat))), (0, .ref (q 0)), (1, .int d), (2, .int f), (3, .int i)]) C.1 C.2.1 dX7_get_32 hl (by decide) rfl (fun ls hl => ?_)
        refine lv_iload C.1 C.2.1 dX7_get_34 (lv_at hl 0 rfl) ?_
        refine lv_if_eq C.1 C.2.1 (tgt := 49) dX7_get_36 (by decide) (fun c => absurd c (by decide)) (fun _ => ?_)
        refine lv_aload_n C.1 C.2.1 dX7_get_39 rfl (lv_at hl 2 rfl) ?_
        refine lv_iload C.1 C.2.1 dX7_get_40 (lv_at hl 0 rfl) ?_
        refine go_i hW (run_V (o := 0) (As := [.int 3]) (rest := []) C hW (by omega) rfl rfl (c_X7_foundOut l G q nd _ τ ζ ρ 3  h_nd) (cw_V 1 C bL_X7_76 bI_X7_foundOut bV_X7_foundOut bN_X7 bC_X7_foundOut ⟨rfl, rfl⟩ (by decide +kernel) ⟨Nat.le_of_ble_eq_true rfl, Nat.le_of_ble_eq_true rfl⟩) rfl hl.1 rfl (Nat.le_of_ble_eq_true rfl) dX7_get_42 ⟨Nat.le_refl _, Nat.le_refl _⟩) (fun r_8 u_8 H locs hp_8 hW => ?_)
        rcases hp_8 with ⟨rfl, rfl⟩
        have hW : WB G (28 + 3 * nd) q (eX G q (sg τ 1 3) ζ ρ) s H locs := hW
        refine lv_pop C.1 C.2.1 dX7_get_45 rfl ?_
        refine lv_ldc C.1 C.2.1 C.2.2.2.1 (C.2.2.2.2.1 _ bQ_X7_97) dX7_get_46 ?_
        subst hQ
        exact r_iret ((sg τ 1 3), ζ, ρ) C hW hr hk dX7_get_48 ⟨(show sp_get τ d f i = ((-2147483648), (sg τ 1 3)) from by unfold sp_get; (repeat (first | rw [if_pos (by omega)] | rw [if_neg (by omega)])); first | done | rfl), (XZ_eq h_z rfl rfl rfl rfl rfl rfl rfl rfl rfl rfl rfl rfl rfl rfl rfl rfl rfl rfl rfl)⟩
      · skip
        have hW : WB G (28 + 3 * nd) q (eX G q τ ζ ρ) s H locs := hW
        refine lv_istore (lv' := [(5, .int 0), (4, .ref (q (28 + 3 * ((d).toInt).toNat))), (0, .ref (q 0)), (1, .int d), (2, .int f), (3, .int i)]) C.1 C.2.1 dX7_get_32 hl (by decide) rfl (fun ls hl => ?_)
        refine lv_iload C.1 C.2.1 dX7_get_34 (lv_at hl 0 rfl) ?_
        refine lv_if_eq C.1 C.2.1 (tgt := 49) dX7_get_36 (by decide) (fun _ => ?_) (fun c => absurd c (by decide))
        refine lv_aload C.1 C.2.1 dX7_get_49 (lv_at hl 1 rfl) ?_
        refine lv_iload_n C.1 C.2.1 dX7_get_51 rfl (lv_at hl 5 rfl) ?_
        refine go_i hW (run_V (o := 28 + 3 * (((d).toInt).toNat)) (As := [.int i]) (rest := []) C hW (by omega) (eX_obj _ _ _ _ _ (((d).toInt).toNat)) rfl (c_X1_load l G q nd _ τ ζ ρ i (((i).toInt).toNat) (((d).toInt).toNat) ((rfl : (i).toInt = (i).toInt).trans (by omega)) h_nd (by omega) (by omega) (by omega)) (cw_V 1 C bL_X7_98 bI_X1_load bV_X1_load bN_X1 bC_X1_load ⟨rfl, rfl⟩ (by decide +kernel) ⟨Nat.le_of_ble_eq_true rfl, Nat.le_of_ble_eq_true rfl⟩) rfl hl.1 rfl (Nat.le_of_ble_eq_true rfl) dX7_get_52 ⟨Nat.le_refl _, Nat.le_refl _⟩) (fun r_10 u_10 H locs hp_10 hW => ?_)
        rcases hp_10 with ⟨rfl, rfl⟩
        have hW : WB G (28 + 3 * nd) q (eX G q τ ζ ρ) s H locs := hW
        subst hQ
        exact r_iret (τ, ζ, ρ) C hW hr hk dX7_get_55 ⟨(show sp_get τ d f i = ((τ.2.1 7 (100 * (((d).toInt).toNat) + (((i).toInt).toNat))), τ) from by unfold sp_get; (repeat (first | rw [if_pos (by omega)] | rw [if_neg (by omega)])); rw [ix_100 (by omega) (by omega)]), (XZ_eq h_z rfl rfl rfl rfl rfl rfl rfl rfl rfl rfl rfl rfl rfl rfl rfl rfl rfl rfl rfl)⟩
      · skip
        have hW : WB G (28 + 3 * nd) q (eX G q τ ζ ρ) s H locs := hW
        refine lv_istore (lv' := [(5, .int 2), (4, .ref (q (28 + 3 * ((d).toInt).toNat))), (0, .ref (q 0)), (1, .int d), (2, .int f), (3, .int i)]) C.1 C.2.1 dX7_get_32 hl (by decide) rfl (fun ls hl => ?_)
        refine lv_iload C.1 C.2.1 dX7_get_34 (lv_at hl 0 rfl) ?_
        refine lv_if_eq C.1 C.2.1 (tgt := 49) dX7_get_36 (by decide) (fun c => absurd c (by decide)) (fun _ => ?_)
        refine lv_aload_n C.1 C.2.1 dX7_get_39 rfl (lv_at hl 2 rfl) ?_
        refine lv_iload C.1 C.2.1 dX7_get_40 (lv_at hl 0 rfl) ?_
        refine go_i hW (run_V (o := 0) (As := [.int 2]) (rest := []) C hW (by omega) rfl rfl (c_X7_foundOut l G q nd _ τ ζ ρ 2  h_nd) (cw_V 1 C bL_X7_76 bI_X7_foundOut bV_X7_foundOut bN_X7 bC_X7_foundOut ⟨rfl, rfl⟩ (by decide +kernel) ⟨Nat.le_of_ble_eq_true rfl, Nat.le_of_ble_eq_true rfl⟩) rfl hl.1 rfl (Nat.le_of_ble_eq_true rfl) dX7_get_42 ⟨Nat.le_refl _, Nat.le_refl _⟩) (fun r_12 u_12 H locs hp_12 hW => ?_)
        rcases hp_12 with ⟨rfl, rfl⟩
        have hW : WB G (28 + 3 * nd) q (eX G q (sg τ 1 2) ζ ρ) s H locs := hW
        refine lv_pop C.1 C.2.1 dX7_get_45 rfl ?_
        refine lv_ldc C.1 C.2.1 C.2.2.2.1 (C.2.2.2.2.1 _ bQ_X7_97) dX7_get_46 ?_
        subst hQ
        exact r_iret ((sg τ 1 2), ζ, ρ) C hW hr hk dX7_get_48 ⟨(show sp_get τ d f i = ((-2147483648), (sg τ 1 2)) from by unfold sp_get; (repeat (first | rw [if_pos (by omega)] | rw [if_neg (by omega)])); first | done | rfl), (XZ_eq h_z rfl rfl rfl rfl rfl rfl rfl rfl rfl rfl rfl rfl rfl rfl rfl rfl rfl rfl rfl)⟩
    · skip
      have hW : WB G (28 + 3 * nd) q (eX G q τ ζ ρ) s H locs := hW
      refine lv_if_ne C.1 C.2.1 (tgt := 25) dX7_get_19 (by decide) (fun c => absurd c (by decide)) (fun _ => ?_)
      refine lv_ldc C.1 C.2.1 C.2.2.2.1 (C.2.2.2.2.1 _ bQ_X7_97) dX7_get_22 ?_
      subst hQ
      exact r_iret (τ, ζ, ρ) C hW hr hk dX7_get_24 ⟨(show sp_get τ d f i = ((-2147483648), τ) from by unfold sp_get; (repeat (first | rw [if_pos (by omega)] | rw [if_neg (by omega)])); first | done | rfl), (XZ_eq h_z rfl rfl rfl rfl rfl rfl rfl rfl rfl rfl rfl rfl rfl rfl rfl rfl rfl rfl rfl)⟩
