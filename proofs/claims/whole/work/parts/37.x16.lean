/-! board() of the landed class -/
theorem boT_sp {τ : ST} {kd : Int32} {B : Nat → Int64} (hB : B = cut 256 (newB τ kd) (τ.2.2 0)) : sbF (boT τ) 0 B = sg (sg (sg (sg (sg (saF (saF (sg (sbF τ 0 (cut 256 (newB τ kd) (τ.2.2 0))) 17 (nI (spN τ))) 22 (cut (spN τ) (spU τ) (τ.2.1 22))) 23 (cut (spN τ) (spV τ) (τ.2.1 23))) 4 0) 5 0) 6 15) 7 0) 8 15 := by
  subst hB
  refine st_g (fun j => ?_) (Prod.ext rfl (funext fun j => ?_))
  · show (if j = 17 then nI (spN τ) else if j = 8 then (15 : Int32) else if j = 6 then 15 else if j = 7 then 0 else if j = 5 then 0 else if j = 4 then 0 else τ.1 j) = (if j = 8 then (15 : Int32) else if j = 7 then 0 else if j = 6 then 15 else if j = 5 then 0 else if j = 4 then 0 else if j = 17 then nI (spN τ) else τ.1 j)
    (repeat' split) <;> first | rfl | omega
  · show (if j = 0 then cut 256 (newB τ kd) (τ.2.2 0) else (if j = 0 then cut 256 (fun _ => (0 : Int64)) (τ.2.2 0) else τ.2.2 j)) = (if j = 0 then cut 256 (newB τ kd) (τ.2.2 0) else τ.2.2 j)
    split <;> rfl
theorem XZ_board {q : Nat → Nat} {nd : Nat} {τ ζ τ' ζ' : ST} {ρ : RF} (h : XZ q nd τ ζ ρ) (h0 : τ'.1 0 = τ.1 0) (h2 : τ'.1 2 = τ.1 2) (r4 : τ'.2.1 4 = τ.2.1 4) (r6 : τ'.2.1 6 = τ.2.1 6) (r8 : τ'.2.1 8 = τ.2.1 8) (r9 : τ'.2.1 9 = τ.2.1 9) (r10 : τ'.2.1 10 = τ.2.1 10) (r15 : τ'.2.1 15 = τ.2.1 15) (r16 : τ'.2.1 16 = τ.2.1 16) (r17 : τ'.2.1 17 = τ.2.1 17) (z0 : ζ'.2.1 0 = ζ.2.1 0) (z1 : ζ'.2.1 1 = ζ.2.1 1) (z3 : ζ'.2.1 3 = ζ.2.1 3) (z4 : ζ'.2.1 4 = ζ.2.1 4) (hk : ∀ z : Nat, z < 256 → ζ'.2.1 2 z = keptB τ' (nI (z % 16)) (nI (z / 16))) : XZ q nd τ' ζ' ρ := by
  obtain ⟨a1, a2, a3, a4, a5, a6, a7⟩ := h
  refine ⟨by rw [h0]; exact a1, a2, by rw [z0, r4, r6]; exact a3, fun z hz j hj => ?_, hk, fun z hz => ?_, by rw [h2, r8]; exact a7⟩
  · rw [z1, a4 z hz j hj]; unfold flc; rw [h2, flcN_eq r8 r9 r10]
  · have h := a6 z hz
    unfold srcOk at h ⊢
    rw [r15, r16, r17, z3, z4]; exact h
set_option maxHeartbeats 4000000 in
set_option maxRecDepth 100000 in
theorem c_X7_board (l : Launch) (G : GG) (q : Nat → Nat) (nd sz : Nat) (τ ζ : ST) (ρ : RF) (kd : Int32) (h_nd : nd ≤ 6) (h_z : XZ q nd τ ζ ρ) (h_f : 0 ≤ (τ.1 2).toInt ∧ (τ.1 2).toInt ≤ 40) (h_s : ∀ d : Nat, d < 6 → 0 ≤ (τ.2.1 6 d).toInt ∧ (τ.2.1 6 d).toInt ≤ 100) (h_l : ∀ d : Nat, d < 6 → 0 ≤ (τ.2.1 2 d).toInt ∧ (τ.2.1 2 d).toInt ≤ 30) (h_p : 0 ≤ (τ.1 3).toInt ∧ (τ.1 3).toInt ≤ 10) : Met l yX7_board (WSb yX7_board cX7_board 2 (some .int)) (rmA 6 135) (va_Pc [.ref (q 0), .int kd] (PW G (28 + 3 * nd) q sz (eX G q τ ζ ρ))) (va_Qi (fun (r : Int32) (u : (ST × ST × RF)) => sp_board τ kd = (r, u.1) ∧ XZ q nd u.1 u.2.1 u.2.2) (fun u => BW G (28 + 3 * nd) q (eX G q u.1 u.2.1 u.2.2)) (FA (28 + 3 * nd) q sz)) 0 0 (FA (28 + 3 * nd) q sz) := by
  refine Met_B (own := RX7) rfl (by decide) (Nat.le_of_ble_eq_true rfl) (fun p e s m args below meth c ls hsz C hW hr hk hl QQ hQ => ?_)
  subst hsz
  have hl : lv_has ls 2 [(0, .ref (q 0)), (1, .int kd)] := hl
  have h_n : (τ.1 0).toInt = (nd : Int) := h_z.1
  have h_r := h_z.2.1
  have h_dk := XZ_dOk h_z h_nd h_f h_s h_l
  refine lv_iload_n C.1 C.2.1 dX7_board_0 rfl (lv_at hl 1 rfl) ?_
  refine lv_iconst C.1 C.2.1 (v := 0) dX7_board_1 (by decide) ?_
  refine lv_iconst C.1 C.2.1 (v := 1) dX7_board_2 (by decide) ?_
  refine go_i hW (run_S (As := [.int kd, .int 0, .int 1]) (rest := []) C hW (c_X7_isWithin l G q nd _ τ ζ ρ kd 0 1 ((kd).toInt) 0 1 (rfl : (kd).toInt = (kd).toInt) (show (0 : Int32).toInt = 0 from by decide) (show (1 : Int32).toInt = 1 from by decide) h_nd) (cw_S 3 C bL_X7_51 bS_X7_isWithin bN_X7 bC_X7_isWithin ⟨rfl, rfl⟩ (by decide +kernel) ⟨Nat.le_of_ble_eq_true rfl, Nat.le_of_ble_eq_true rfl⟩) rfl hl.1 rfl (Nat.le_of_ble_eq_true rfl) dX7_board_3 ⟨Nat.le_refl _, Nat.le_refl _⟩) (fun r_1 u_1 H locs hp_1 hW => ?_)
  rcases hp_1 with ⟨rfl, rfl, k_1_0, k_1_1⟩ | ⟨rfl, rfl, k_1⟩
  · skip
    have hW : WB G (28 + 3 * nd) q (eX G q τ ζ ρ) s H locs := hW
    refine lv_if_ne C.1 C.2.1 (tgt := 12) dX7_board_6 (by decide) (fun _ => ?_) (fun c => absurd c (by decide))
    refine lv_aload_n C.1 C.2.1 dX7_board_12 rfl (lv_at hl 0 rfl) ?_
    refine xG_DishHouse_spacings C hW bF_X7_19 dX7_board_13 ?_
    refine lv_aload_n C.1 C.2.1 dX7_board_16 rfl (lv_at hl 0 rfl) ?_
    refine xG_DishHouse_row C hW bF_X7_12 dX7_board_17 ?_
    refine go_v hW (run_V (o := 6) (As := [.ref (q 1)]) (rest := []) C hW (by omega) rfl rfl (c_X6_gather l G q nd _ τ ζ ρ   h_nd h_n h_r h_dk) (cw_V 1 C bL_X7_149 bI_X6_gather bV_X6_gather bN_X6 bC_X6_gather ⟨rfl, rfl⟩ (by decide +kernel) ⟨Nat.le_of_ble_eq_true rfl, Nat.le_of_ble_eq_true rfl⟩) rfl hl.1 rfl (Nat.le_of_ble_eq_true rfl) dX7_board_20 ⟨Nat.le_refl _, Nat.le_refl _⟩) (fun u_3 H locs hp_3 hW => ?_)
    rcases hp_3 with ⟨ζ1_3, rfl, k_3_0, k_3_1, k_3_2⟩
    have hW : WB G (28 + 3 * nd) q (eX G q τ ζ1_3 ρ) s H locs := hW
    have h15 : spN τ ≤ 15 := spL_len τ (by omega)
    have en : (ζ1_3.1 0).toInt.toNat = spN τ := by rw [k_3_0, nI_toInt (by omega)]; omega
    have h_x : 0 ≤ (ζ1_3.1 0).toInt ∧ (ζ1_3.1 0).toInt ≤ 15 := by rw [k_3_0, nI_toInt (by omega)]; omega
    have hU : ∀ k, k < spN τ → ζ1_3.2.1 5 k = spU τ k ∧ ζ1_3.2.1 6 k = spV τ k := fun k hk => ⟨(k_3_1 k hk).1, (k_3_1 k hk).2.1⟩
    have hUP : ∀ k, k < spN τ → ζ1_3.2.1 5 k = spU τ k ∧ ζ1_3.2.1 6 k = spV τ k ∧ ζ1_3.2.2 0 k = spP τ k := fun k hk => k_3_1 k hk
    have hzk := k_3_2
    have hsz0 := k_3_0
    refine lv_aload_n C.1 C.2.1 dX7_board_23 rfl (lv_at hl 0 rfl) ?_
    refine xG_DishHouse_board C hW bF_X7_33 dX7_board_24 ?_
    refine lv_aload_n C.1 C.2.1 dX7_board_27 rfl (lv_at hl 0 rfl) ?_
    refine xG_DishHouse_spacings C hW bF_X7_19 dX7_board_28 ?_
    refine go_v hW (run_V (o := 14) (As := [.ref (q 6)]) (rest := []) C hW (by omega) rfl rfl (c_X0_startWith l G q nd _ τ ζ1_3 ρ   h_nd h_x) (cw_V 1 C bL_X7_166 bI_X0_startWith bV_X0_startWith bN_X0 bC_X0_startWith ⟨rfl, rfl⟩ (by decide +kernel) ⟨Nat.le_of_ble_eq_true rfl, Nat.le_of_ble_eq_true rfl⟩) rfl hl.1 rfl (Nat.le_of_ble_eq_true rfl) dX7_board_31 ⟨Nat.le_refl _, Nat.le_refl _⟩) (fun u_4 H locs hp_4 hW => ?_)
    obtain rfl := hp_4
    have hW : WB G (28 + 3 * nd) q (eX G q (stT τ) (saF ζ1_3 2 (cut 256 (kpN ζ1_3) (ζ1_3.2.1 2))) ρ) s H locs := hW
    have hW : WB G (28 + 3 * nd) q (eX G q (boT τ) (saF ζ1_3 2 (cut 256 (kpN ζ1_3) (ζ1_3.2.1 2))) ρ) s H locs := WB.to hW (fun j hj => match j, hj with
      | 0, _ => rfl
      | 1, _ => rfl
      | 2, _ => rfl
      | 3, _ => rfl
      | 4, _ => rfl
      | 5, _ => rfl
      | 6, _ => rfl
      | 7, _ => rfl
      | 8, _ => rfl
      | 9, _ => rfl
      | 10, _ => rfl
      | 11, _ => rfl
      | 12, _ => rfl
      | 13, _ => rfl
      | 14, _ => rfl
      | 15, _ => rfl
      | 16, _ => rfl
      | 17, _ => rfl
      | 18, _ => rfl
      | 19, _ => rfl
      | 20, _ => rfl
      | 21, _ => rfl
      | 22, _ => rfl
      | 23, _ => rfl
      | 24, _ => rfl
      | 25, _ => rfl
      | 26, _ => rfl
      | 27, _ => rfl
      | j + 28, hj => rfl)
    have h_kt : ∀ z : Nat, z < 256 → (saF ζ1_3 2 (cut 256 (kpN ζ1_3) (ζ1_3.2.1 2))).2.1 2 z = keptB (boT τ) (nI (z % 16)) (nI (z / 16)) := fun z hz => (if_pos hz).trans (boT_kpN h15 hU en z)
    refine lv_iload_n C.1 C.2.1 dX7_board_34 rfl (lv_at hl 1 rfl) ?_
    refine lv_if_ne C.1 C.2.1 (tgt := 52) dX7_board_35 (by decide) (fun c_5 => ?_) (fun c_5 => ?_)
    · skip
      have k_5 := (tn_eq (rfl : (kd).toInt = (kd).toInt) (show (0 : Int32).toInt = 0 from by decide)).mp c_5
      refine lv_aload_n C.1 C.2.1 dX7_board_52 rfl (lv_at hl 0 rfl) ?_
      refine xG_DishHouse_board C hW bF_X7_33 dX7_board_53 ?_
      refine lv_aload_n C.1 C.2.1 dX7_board_56 rfl (lv_at hl 0 rfl) ?_
      refine xG_DishHouse_points C hW bF_X7_26 dX7_board_57 ?_
      refine go_v hW (run_V (o := 14) (As := [.ref (q 10)]) (rest := []) C hW (by omega) rfl rfl (c_X0_sumPoints l G q nd _ (boT τ) (saF ζ1_3 2 (cut 256 (kpN ζ1_3) (ζ1_3.2.1 2))) ρ   h_nd h_p h_kt) (cw_V 1 C bL_X7_173 bI_X0_sumPoints bV_X0_sumPoints bN_X0 bC_X0_sumPoints ⟨rfl, rfl⟩ (by decide +kernel) ⟨Nat.le_of_ble_eq_true rfl, Nat.le_of_ble_eq_true rfl⟩) rfl hl.1 rfl (Nat.le_of_ble_eq_true rfl) dX7_board_60 ⟨Nat.le_refl _, Nat.le_refl _⟩) (fun u_6 H locs hp_6 hW => ?_)
      obtain rfl := hp_6
      have hW : WB G (28 + 3 * nd) q (eX G q (sbF (boT τ) 0 (ptB (boT τ) ((boT τ).1 3).toInt.toNat)) (saF ζ1_3 2 (cut 256 (kpN ζ1_3) (ζ1_3.2.1 2))) ρ) s H locs := hW
      refine lv_aload_n C.1 C.2.1 dX7_board_63 rfl (lv_at hl 0 rfl) ?_
      refine xG_DishHouse_spacings C hW bF_X7_19 dX7_board_64 ?_
      refine xG_Spacings_size C hW bF_X7_177 (v := (ζ1_3.1 0)) rfl dX7_board_67 ?_
      subst hQ
      exact r_iret ((sbF (boT τ) 0 (ptB (boT τ) ((boT τ).1 3).toInt.toNat)), (saF ζ1_3 2 (cut 256 (kpN ζ1_3) (ζ1_3.2.1 2))), ρ) C hW hr hk dX7_board_70 ⟨(show sp_board τ kd = ((ζ1_3.1 0), (sbF (boT τ) 0 (ptB (boT τ) ((boT τ).1 3).toInt.toNat))) from by unfold sp_board; rw [if_pos (by omega), show (sbF (boT τ) 0 (ptB (boT τ) ((boT τ).1 3).toInt.toNat)) = _ from boT_sp (kd := kd) (by first | exact cut_eq (fun z hz => cvN_new (kd := kd) hUP en (by omega) z) (fun z hz => if_neg (by omega)) | exact funext (fun z => (Decidable.em (z < 256)).elim (fun c => (boT_new h15 (by omega) c).trans (if_pos c).symm) (fun c => (ptB_out (by omega) _).trans ((if_neg c).trans (if_neg c).symm))))]; first | rw [← hsz0] | exact congrArg (fun v => (v, _)) hsz0.symm), XZ_board h_z rfl rfl rfl rfl rfl rfl rfl rfl rfl rfl (hzk 0 (by decide) (by decide)) (hzk 1 (by decide) (by decide)) (hzk 3 (by decide) (by decide)) (hzk 4 (by decide) (by decide)) h_kt⟩
    · skip
      have k_5 := (tc_eq (rfl : (kd).toInt = (kd).toInt) (show (0 : Int32).toInt = 0 from by decide)).mp c_5
      refine lv_aload_n C.1 C.2.1 dX7_board_38 rfl (lv_at hl 0 rfl) ?_
      refine xG_DishHouse_board C hW bF_X7_33 dX7_board_39 ?_
      refine lv_aload_n C.1 C.2.1 dX7_board_42 rfl (lv_at hl 0 rfl) ?_
      refine xG_DishHouse_spacings C hW bF_X7_19 dX7_board_43 ?_
      refine go_v hW (run_V (o := 14) (As := [.ref (q 6)]) (rest := []) C hW (by omega) rfl rfl (c_X0_sumProducts l G q nd _ (boT τ) (saF ζ1_3 2 (cut 256 (kpN ζ1_3) (ζ1_3.2.1 2))) ρ   h_nd h_x) (cw_V 1 C bL_X7_170 bI_X0_sumProducts bV_X0_sumProducts bN_X0 bC_X0_sumProducts ⟨rfl, rfl⟩ (by decide +kernel) ⟨Nat.le_of_ble_eq_true rfl, Nat.le_of_ble_eq_true rfl⟩) rfl hl.1 rfl (Nat.le_of_ble_eq_true rfl) dX7_board_46 ⟨Nat.le_refl _, Nat.le_refl _⟩) (fun u_7 H locs hp_7 hW => ?_)
      obtain rfl := hp_7
      have hW : WB G (28 + 3 * nd) q (eX G q (sbF (boT τ) 0 (cut 256 (cvN (saF ζ1_3 2 (cut 256 (kpN ζ1_3) (ζ1_3.2.1 2)))) ((boT τ).2.2 0))) (saF ζ1_3 2 (cut 256 (kpN ζ1_3) (ζ1_3.2.1 2))) ρ) s H locs := hW
      refine lv_goto C.1 C.2.1 (tgt := 63) dX7_board_49 (by decide) ?_
      refine lv_aload_n C.1 C.2.1 dX7_board_63 rfl (lv_at hl 0 rfl) ?_
      refine xG_DishHouse_spacings C hW bF_X7_19 dX7_board_64 ?_
      refine xG_Spacings_size C hW bF_X7_177 (v := (ζ1_3.1 0)) rfl dX7_board_67 ?_
      subst hQ
      exact r_iret ((sbF (boT τ) 0 (cut 256 (cvN (saF ζ1_3 2 (cut 256 (kpN ζ1_3) (ζ1_3.2.1 2)))) ((boT τ).2.2 0))), (saF ζ1_3 2 (cut 256 (kpN ζ1_3) (ζ1_3.2.1 2))), ρ) C hW hr hk dX7_board_70 ⟨(show sp_board τ kd = ((ζ1_3.1 0), (sbF (boT τ) 0 (cut 256 (cvN (saF ζ1_3 2 (cut 256 (kpN ζ1_3) (ζ1_3.2.1 2)))) ((boT τ).2.2 0)))) from by unfold sp_board; rw [if_pos (by omega), show (sbF (boT τ) 0 (cut 256 (cvN (saF ζ1_3 2 (cut 256 (kpN ζ1_3) (ζ1_3.2.1 2)))) ((boT τ).2.2 0))) = _ from boT_sp (kd := kd) (by first | exact cut_eq (fun z hz => cvN_new (kd := kd) hUP en (by omega) z) (fun z hz => if_neg (by omega)) | exact funext (fun z => (Decidable.em (z < 256)).elim (fun c => (boT_new h15 (by omega) c).trans (if_pos c).symm) (fun c => (ptB_out (by omega) _).trans ((if_neg c).trans (if_neg c).symm))))]; first | rw [← hsz0] | exact congrArg (fun v => (v, _)) hsz0.symm), XZ_board h_z rfl rfl rfl rfl rfl rfl rfl rfl rfl rfl (hzk 0 (by decide) (by decide)) (hzk 1 (by decide) (by decide)) (hzk 3 (by decide) (by decide)) (hzk 4 (by decide) (by decide)) h_kt⟩
  · skip
    have hW : WB G (28 + 3 * nd) q (eX G q τ ζ ρ) s H locs := hW
    refine lv_if_ne C.1 C.2.1 (tgt := 12) dX7_board_6 (by decide) (fun c => absurd c (by decide)) (fun _ => ?_)
    refine lv_bipush C.1 C.2.1 (v := (-2)) dX7_board_9 (by decide) ?_
    subst hQ
    exact r_iret (τ, ζ, ρ) C hW hr hk dX7_board_11 ⟨(show sp_board τ kd = ((-2), τ) from by unfold sp_board; (repeat (first | rw [if_pos (by omega)] | rw [if_neg (by omega)])); first | done | rfl), (XZ_eq h_z rfl rfl rfl rfl rfl rfl rfl rfl rfl rfl rfl rfl rfl rfl rfl rfl rfl rfl rfl)⟩
