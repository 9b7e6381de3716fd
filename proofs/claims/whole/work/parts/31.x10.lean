/-! the public methods of the landed class -/
/-- the class's own state goes with the common one -/
def XZ (q : Nat → Nat) (nd : Nat) (τ ζ : ST) (ρ : RF) : Prop :=
  (τ.1 0).toInt = (nd : Int) ∧ (∀ z : Nat, z < nd → ρ 0 z = some (q (28 + 3 * z))) ∧ (∀ z : Nat, z < nd → ζ.2.1 0 z = (if (τ.2.1 4 z).toInt = 0 then -1 else τ.2.1 6 z)) ∧ (∀ z : Nat, z < nd → ∀ j, j < 100 → ζ.2.1 1 (100 * z + j) = nI (flc τ z j)) ∧ (∀ z : Nat, z < 256 → ζ.2.1 2 z = keptB τ (nI (z % 16)) (nI (z / 16))) ∧ (∀ z : Nat, z < 8 → srcOk τ ζ z) ∧ (∀ f : Nat, (f : Int) < (τ.1 2).toInt → ρ 1 f = some (q (28 + 3 * (τ.2.1 8 f).toInt.toNat)))
theorem flcN_eq {τ τ' : ST} {i j : Nat} (r8 : τ'.2.1 8 = τ.2.1 8) (r9 : τ'.2.1 9 = τ.2.1 9) (r10 : τ'.2.1 10 = τ.2.1 10) : ∀ k, flcN τ' i j k = flcN τ i j k
  | 0 => rfl
  | k + 1 => by rw [flcN, flcN, flcN_eq r8 r9 r10 k, r8, r9, r10]
theorem XZ_eq {q : Nat → Nat} {nd : Nat} {τ ζ τ' ζ' : ST} {ρ ρ' : RF} (h : XZ q nd τ ζ ρ) (h0 : τ'.1 0 = τ.1 0) (h2 : τ'.1 2 = τ.1 2) (h17 : τ'.1 17 = τ.1 17) (r4 : τ'.2.1 4 = τ.2.1 4) (r6 : τ'.2.1 6 = τ.2.1 6) (r8 : τ'.2.1 8 = τ.2.1 8) (r9 : τ'.2.1 9 = τ.2.1 9) (r10 : τ'.2.1 10 = τ.2.1 10) (r15 : τ'.2.1 15 = τ.2.1 15) (r16 : τ'.2.1 16 = τ.2.1 16) (r17 : τ'.2.1 17 = τ.2.1 17) (r22 : τ'.2.1 22 = τ.2.1 22) (r23 : τ'.2.1 23 = τ.2.1 23) (z0 : ζ'.2.1 0 = ζ.2.1 0) (z1 : ζ'.2.1 1 = ζ.2.1 1) (z2 : ζ'.2.1 2 = ζ.2.1 2) (z3 : ζ'.2.1 3 = ζ.2.1 3) (z4 : ζ'.2.1 4 = ζ.2.1 4) (hρ : ρ' = ρ) : XZ q nd τ' ζ' ρ' := by
  obtain ⟨a1, a2, a3, a4, a5, a6, a7⟩ := h
  refine ⟨by rw [h0]; exact a1, by rw [hρ]; exact a2, by rw [z0, r4, r6]; exact a3, fun z hz j hj => ?_, fun z hz => ?_, fun z hz => ?_, by rw [hρ, h2, r8]; exact a7⟩
  · rw [z1, a4 z hz j hj]; unfold flc; rw [h2, flcN_eq r8 r9 r10]
  · rw [z2, a5 z hz]; unfold keptB; rw [h17, r22, r23]
  · have h := a6 z hz
    unfold srcOk at h ⊢
    rw [r15, r16, r17, z3, z4]; exact h
theorem XZ_dOk {q : Nat → Nat} {nd : Nat} {τ ζ : ST} {ρ : RF} (h : XZ q nd τ ζ ρ) (hn : nd ≤ 6) (hf : 0 ≤ (τ.1 2).toInt ∧ (τ.1 2).toInt ≤ 40) (hs : ∀ d : Nat, d < 6 → 0 ≤ (τ.2.1 6 d).toInt ∧ (τ.2.1 6 d).toInt ≤ 100) (hl : ∀ d : Nat, d < 6 → 0 ≤ (τ.2.1 2 d).toInt ∧ (τ.2.1 2 d).toInt ≤ 30) : ∀ z : Nat, z < nd → dOk τ ζ z := fun z hz => ⟨h.2.2.1 z hz, hs z (by omega), hf, hl z (by omega), h.2.2.2.1 z hz⟩
theorem w10 (w : Int32) : (10 ≤ w.toInt ∧ w.toInt ≤ 17 ∧ (w - 10).toInt = w.toInt - 10) ∨ (¬ (10 ≤ w.toInt ∧ w.toInt ≤ 17) ∧ ((w - 10).toInt < 0 ∨ 8 ≤ (w - 10).toInt)) := by
  have c10 : (10 : Int32).toInt = 10 := by decide
  by_cases c : 10 ≤ w.toInt ∧ w.toInt ≤ 17
  · exact Or.inl ⟨c.1, c.2, ti_sub rfl c10 (by omega) (by omega)⟩
  · refine Or.inr ⟨c, ?_⟩
    by_cases d : 0 ≤ (w - 10).toInt ∧ (w - 10).toInt < 8
    · exfalso
      have e := ti_add (x := w - 10) (y := 10) rfl c10 (by omega) (by omega)
      rw [Int32.sub_add_cancel] at e
      omega
    · omega
theorem dnT_keep (τ : ST) (k : Nat) : (∀ j, (j < 10 ∨ 16 < j) → (dnT τ k).1 j = τ.1 j) ∧ ∀ r, r ≠ 21 → (dnT τ k).2.1 r = τ.2.1 r := by
  constructor
  · intro j hj
    unfold dnT
    (repeat' split) <;> simp only [sg, sa, upd] <;> (repeat' split) <;> first | rfl | omega
  · intro r hr
    unfold dnT
    (repeat' split) <;> first | rfl | exact if_neg hr
theorem runN_keep {last : Int} : ∀ (n k : Nat) (τ : ST) (f : Nat → Int32), (∀ j, (j < 10 ∨ 16 < j) → (runN last n k τ f).2.1 j = τ.1 j) ∧ ∀ r, r ≠ 21 → (runN last n k τ f).2.2.1 r = τ.2.1 r
  | 0, _, _, _ => ⟨fun _ _ => rfl, fun _ _ => rfl⟩
  | n + 1, k, τ, f => by
    have hs : ∀ v, (∀ j, (j < 10 ∨ 16 < j) → (sg τ 14 v).1 j = τ.1 j) ∧ ∀ r, r ≠ 21 → (sg τ 14 v).2.1 r = τ.2.1 r := fun v => ⟨fun j hj => if_neg (by omega), fun _ _ => rfl⟩
    by_cases c1 : (k : Int) < (τ.1 9).toInt
    · by_cases c2 : (τ.1 13).toInt = 2000
      · rw [runN_3 c1 c2]; exact hs _
      · by_cases c3 : last < (τ.1 10 + lenO τ k).toInt
        · rw [runN_2 c1 c2 c3]; exact hs _
        · by_cases c4 : (τ.2.1 18 k).toInt = 2 ∧ ¬ upA τ k
          · rw [runN_1 c1 c2 c3 c4.1 c4.2]; exact hs _
          · rw [runN_go c1 c2 c3 c4]
            have h1 := runN_keep (last := last) n (dnK τ f k) (dnT (sg τ 14 (nI k)) k) (dnL τ f k)
            have h2 := dnT_keep (sg τ 14 (nI k)) k
            exact ⟨fun j hj => (h1.1 j hj).trans ((h2.1 j hj).trans ((hs _).1 j hj)), fun r hr => (h1.2 r hr).trans ((h2.2 r hr).trans ((hs _).2 r hr))⟩
    · rw [runN_0 c1]; exact hs _
theorem ini_keep (τ : ST) : (∀ j, (j < 10 ∨ 16 < j) → (ini τ).1 j = τ.1 j) ∧ ∀ r, r ≠ 21 → (ini τ).2.1 r = τ.2.1 r := by
  constructor
  · intro j hj
    show (sg (sg (sg (sg (sg (sg (sg τ 10 0) 11 0) 12 0) 13 0) 14 (-1)) 15 0) 16 0).1 j = τ.1 j
    simp only [sg, upd]
    (repeat' split) <;> first | rfl | omega
  · intro r hr
    exact if_neg hr
set_option maxHeartbeats 4000000 in
set_option maxRecDepth 100000 in
theorem c_X7_tune (l : Launch) (G : GG) (q : Nat → Nat) (nd sz : Nat) (τ ζ : ST) (ρ : RF) (d : Int32) (w : Int32) (g : Int32) (h_nd : nd ≤ 6) (h_z : XZ q nd τ ζ ρ) : Met l yX7_tune (WSb yX7_tune cX7_tune 5 (some .int)) (rmA 1 22) (va_Pc [.ref (q 0), .int d, .int w, .int g] (PW G (28 + 3 * nd) q sz (eX G q τ ζ ρ))) (va_Qi (fun (r : Int32) (u : (ST × ST × RF)) => sp_tune τ d w g = (r, u.1) ∧ XZ q nd u.1 u.2.1 u.2.2) (fun u => BW G (28 + 3 * nd) q (eX G q u.1 u.2.1 u.2.2)) (FA (28 + 3 * nd) q sz)) 0 0 (FA (28 + 3 * nd) q sz) := by
  refine Met_B (own := RX7) rfl (by decide) (Nat.le_of_ble_eq_true rfl) (fun p e s m args below meth c ls hsz C hW hr hk hl QQ hQ => ?_)
  subst hsz
  have hl : lv_has ls 5 [(0, .ref (q 0)), (1, .int d), (2, .int w), (3, .int g)] := hl
  have h_n : (τ.1 0).toInt = (nd : Int) := h_z.1
  have h_r := h_z.2.1
  refine lv_aload_n C.1 C.2.1 dX7_tune_0 rfl (lv_at hl 0 rfl) ?_
  refine xG_DishHouse_row C hW bF_X7_12 dX7_tune_1 ?_
  refine lv_iload_n C.1 C.2.1 dX7_tune_4 rfl (lv_at hl 1 rfl) ?_
  refine go_q hW (run_V (o := 1) (As := [.int d]) (rest := []) C hW (by omega) rfl rfl (c_X4_find l G q nd _ τ ζ ρ d  h_nd h_n h_r) (cw_V 1 C bL_X7_59 bI_X4_find bV_X4_find bN_X4 bC_X4_find ⟨rfl, rfl⟩ (by decide +kernel) ⟨Nat.le_of_ble_eq_true rfl, Nat.le_of_ble_eq_true rfl⟩) rfl hl.1 rfl (Nat.le_of_ble_eq_true rfl) dX7_tune_5 ⟨Nat.le_refl _, Nat.le_refl _⟩) (fun r_1 u_1 H locs hp_1 hW => ?_)
  rcases hp_1 with ⟨rfl, rfl, k_1⟩ | ⟨rfl, rfl, k_1_0, k_1_1⟩
  · skip
    have hW : WB G (28 + 3 * nd) q (eX G q τ ζ ρ) s H locs := hW
    refine lv_astoreN (lv' := [(4, .null), (0, .ref (q 0)), (1, .int d), (2, .int w), (3, .int g)]) C.1 C.2.1 dX7_tune_8 hl (by decide) rfl (fun ls hl => ?_)
    refine lv_aloadN C.1 C.2.1 dX7_tune_10 (lv_at hl 0 rfl) ?_
    refine lv_ifnullN C.1 C.2.1 (tgt := 25) dX7_tune_12 (by decide) ?_
    refine lv_bipush C.1 C.2.1 (v := (-2)) dX7_tune_25 (by decide) ?_
    subst hQ
    exact r_iret (τ, ζ, ρ) C hW hr hk dX7_tune_27 ⟨(show sp_tune τ d w g = ((-2), τ) from by unfold sp_tune; (repeat (first | rw [if_pos (by omega)] | rw [if_neg (by omega)])); first | done | rfl), (XZ_eq h_z rfl rfl rfl rfl rfl rfl rfl rfl rfl rfl rfl rfl rfl rfl rfl rfl rfl rfl rfl)⟩
  · skip
    have hW : WB G (28 + 3 * nd) q (eX G q τ ζ ρ) s H locs := hW
    refine lv_astore (lv' := [(4, .ref (q (28 + 3 * ((d).toInt).toNat))), (0, .ref (q 0)), (1, .int d), (2, .int w), (3, .int g)]) C.1 C.2.1 dX7_tune_8 hl (by decide) rfl (fun ls hl => ?_)
    refine lv_aload C.1 C.2.1 dX7_tune_10 (lv_at hl 0 rfl) ?_
    refine lv_ifnull C.1 C.2.1 dX7_tune_12 ?_
    refine lv_iload_n C.1 C.2.1 dX7_tune_15 rfl (lv_at hl 3 rfl) ?_
    refine lv_iconst C.1 C.2.1 (v := 0) dX7_tune_16 (by decide) ?_
    refine lv_bipush C.1 C.2.1 (v := 30) dX7_tune_17 (by decide) ?_
    refine go_i hW (run_S (As := [.int w, .int 0, .int 30]) (rest := []) C hW (c_X7_isWithin l G q nd _ τ ζ ρ w 0 30 ((w).toInt) 0 30 (rfl : (w).toInt = (w).toInt) (show (0 : Int32).toInt = 0 from by decide) (show (30 : Int32).toInt = 30 from by decide) h_nd) (cw_S 3 C bL_X7_51 bS_X7_isWithin bN_X7 bC_X7_isWithin ⟨rfl, rfl⟩ (by decide +kernel) ⟨Nat.le_of_ble_eq_true rfl, Nat.le_of_ble_eq_true rfl⟩) rfl hl.1 rfl (Nat.le_of_ble_eq_true rfl) dX7_tune_19 ⟨Nat.le_refl _, Nat.le_refl _⟩) (fun r_2 u_2 H locs hp_2 hW => ?_)
    rcases hp_2 with ⟨rfl, rfl, k_2_0, k_2_1⟩ | ⟨rfl, rfl, k_2⟩
    · skip
      have hW : WB G (28 + 3 * nd) q (eX G q τ ζ ρ) s H locs := hW
      refine lv_if_ne C.1 C.2.1 (tgt := 28) dX7_tune_22 (by decide) (fun _ => ?_) (fun c => absurd c (by decide))
      refine lv_iload_n C.1 C.2.1 dX7_tune_28 rfl (lv_at hl 4 rfl) ?_
      refine lv_if_eq C.1 C.2.1 (tgt := 43) dX7_tune_29 (by decide) (fun c_4 => ?_) (fun c_4 => ?_)
      · skip
        have k_4 := (tc_eq (rfl : (g).toInt = (g).toInt) (show (0 : Int32).toInt = 0 from by decide)).mp c_4
        refine lv_bipush C.1 C.2.1 (v := (-2)) dX7_tune_43 (by decide) ?_
        subst hQ
        exact r_iret (τ, ζ, ρ) C hW hr hk dX7_tune_45 ⟨(show sp_tune τ d w g = ((-2), τ) from by unfold sp_tune; (repeat (first | rw [if_pos (by omega)] | rw [if_neg (by omega)])); first | done | rfl), (XZ_eq h_z rfl rfl rfl rfl rfl rfl rfl rfl rfl rfl rfl rfl rfl rfl rfl rfl rfl rfl rfl)⟩
      · skip
        have k_4 := (tn_eq (rfl : (g).toInt = (g).toInt) (show (0 : Int32).toInt = 0 from by decide)).mp c_4
        refine lv_iload_n C.1 C.2.1 dX7_tune_32 rfl (lv_at hl 4 rfl) ?_
        refine lv_bipush C.1 C.2.1 (v := (-9)) dX7_tune_33 (by decide) ?_
        refine lv_bipush C.1 C.2.1 (v := 9) dX7_tune_35 (by decide) ?_
        refine go_i hW (run_S (As := [.int g, .int (-9), .int 9]) (rest := []) C hW (c_X7_isWithin l G q nd _ τ ζ ρ g (-9) 9 ((g).toInt) (-9) 9 (rfl : (g).toInt = (g).toInt) (show (-9 : Int32).toInt = -9 from by decide) (show (9 : Int32).toInt = 9 from by decide) h_nd) (cw_S 3 C bL_X7_51 bS_X7_isWithin bN_X7 bC_X7_isWithin ⟨rfl, rfl⟩ (by decide +kernel) ⟨Nat.le_of_ble_eq_true rfl, Nat.le_of_ble_eq_true rfl⟩) rfl hl.1 rfl (Nat.le_of_ble_eq_true rfl) dX7_tune_37 ⟨Nat.le_refl _, Nat.le_refl _⟩) (fun r_5 u_5 H locs hp_5 hW => ?_)
        rcases hp_5 with ⟨rfl, rfl, k_5_0, k_5_1⟩ | ⟨rfl, rfl, k_5⟩
        · skip
          have hW : WB G (28 + 3 * nd) q (eX G q τ ζ ρ) s H locs := hW
          refine lv_if_ne C.1 C.2.1 (tgt := 46) dX7_tune_40 (by decide) (fun _ => ?_) (fun c => absurd c (by decide))
          refine lv_aload C.1 C.2.1 dX7_tune_46 (lv_at hl 0 rfl) ?_
          refine lv_iload_n C.1 C.2.1 dX7_tune_48 rfl (lv_at hl 3 rfl) ?_
          refine xP_Dish_delay C hW (((d).toInt).toNat) (by omega) bF_X7_63 dX7_tune_49 (fun H locs hW => ?_)
          refine lv_aload C.1 C.2.1 dX7_tune_52 (lv_at hl 0 rfl) ?_
          refine lv_iload_n C.1 C.2.1 dX7_tune_54 rfl (lv_at hl 4 rfl) ?_
          refine xP_Dish_gain C hW (((d).toInt).toNat) (by omega) bF_X7_69 dX7_tune_55 (fun H locs hW => ?_)
          refine lv_iconst C.1 C.2.1 (v := 1) dX7_tune_58 (by decide) ?_
          subst hQ
          exact r_iret ((sa (sa τ 2 (((d).toInt).toNat) w) 3 (((d).toInt).toNat) g), ζ, ρ) C hW hr hk dX7_tune_59 ⟨(show sp_tune τ d w g = (1, (sa (sa τ 2 (((d).toInt).toNat) w) 3 (((d).toInt).toNat) g)) from by unfold sp_tune; (repeat (first | rw [if_pos (by omega)] | rw [if_neg (by omega)])); first | done | rfl), (XZ_eq h_z rfl rfl rfl rfl rfl rfl rfl rfl rfl rfl rfl rfl rfl rfl rfl rfl rfl rfl rfl)⟩
        · skip
          have hW : WB G (28 + 3 * nd) q (eX G q τ ζ ρ) s H locs := hW
          refine lv_if_ne C.1 C.2.1 (tgt := 46) dX7_tune_40 (by decide) (fun c => absurd c (by decide)) (fun _ => ?_)
          refine lv_bipush C.1 C.2.1 (v := (-2)) dX7_tune_43 (by decide) ?_
          subst hQ
          exact r_iret (τ, ζ, ρ) C hW hr hk dX7_tune_45 ⟨(show sp_tune τ d w g = ((-2), τ) from by unfold sp_tune; (repeat (first | rw [if_pos (by omega)] | rw [if_neg (by omega)])); first | done | rfl), (XZ_eq h_z rfl rfl rfl rfl rfl rfl rfl rfl rfl rfl rfl rfl rfl rfl rfl rfl rfl rfl rfl)⟩
    · skip
      have hW : WB G (28 + 3 * nd) q (eX G q τ ζ ρ) s H locs := hW
      refine lv_if_ne C.1 C.2.1 (tgt := 28) dX7_tune_22 (by decide) (fun c => absurd c (by decide)) (fun _ => ?_)
      refine lv_bipush C.1 C.2.1 (v := (-2)) dX7_tune_25 (by decide) ?_
      subst hQ
      exact r_iret (τ, ζ, ρ) C hW hr hk dX7_tune_27 ⟨(show sp_tune τ d w g = ((-2), τ) from by unfold sp_tune; (repeat (first | rw [if_pos (by omega)] | rw [if_neg (by omega)])); first | done | rfl), (XZ_eq h_z rfl rfl rfl rfl rfl rfl rfl rfl rfl rfl rfl rfl rfl rfl rfl rfl rfl rfl rfl)⟩
set_option maxHeartbeats 4000000 in
set_option maxRecDepth 100000 in
theorem c_X7_point (l : Launch) (G : GG) (q : Nat → Nat) (nd sz : Nat) (τ ζ : ST) (ρ : RF) (x : Int32) (y : Int32) (f : Int32) (h_nd : nd ≤ 6) (h_z : XZ q nd τ ζ ρ) (h_p : 0 ≤ (τ.1 3).toInt ∧ (τ.1 3).toInt ≤ 10) : Met l yX7_point (WSb yX7_point cX7_point 4 (some .int)) (rmA 1 23) (va_Pc [.ref (q 0), .int x, .int y, .int f] (PW G (28 + 3 * nd) q sz (eX G q τ ζ ρ))) (va_Qi (fun (r : Int32) (u : (ST × ST × RF)) => sp_point τ x y f = (r, u.1) ∧ XZ q nd u.1 u.2.1 u.2.2) (fun u => BW G (28 + 3 * nd) q (eX G q u.1 u.2.1 u.2.2)) (FA (28 + 3 * nd) q sz)) 0 0 (FA (28 + 3 * nd) q sz) := by
  refine Met_B (own := RX7) rfl (by decide) (Nat.le_of_ble_eq_true rfl) (fun p e s m args below meth c ls hsz C hW hr hk hl QQ hQ => ?_)
  subst hsz
  have hl : lv_has ls 4 [(0, .ref (q 0)), (1, .int x), (2, .int y), (3, .int f)] := hl
  have h_n : (τ.1 0).toInt = (nd : Int) := h_z.1
  have h_r := h_z.2.1
  refine lv_iload_n C.1 C.2.1 dX7_point_0 rfl (lv_at hl 1 rfl) ?_
  refine lv_iload_n C.1 C.2.1 dX7_point_1 rfl (lv_at hl 2 rfl) ?_
  refine go_i hW (run_S (As := [.int x, .int y]) (rest := []) C hW (c_X7_isCell l G q nd _ τ ζ ρ x y  h_nd) (cw_S 2 C bL_X7_156 bS_X7_isCell bN_X7 bC_X7_isCell ⟨rfl, rfl⟩ (by decide +kernel) ⟨Nat.le_of_ble_eq_true rfl, Nat.le_of_ble_eq_true rfl⟩) rfl hl.1 rfl (Nat.le_of_ble_eq_true rfl) dX7_point_2 ⟨Nat.le_refl _, Nat.le_refl _⟩) (fun r_1 u_1 H locs hp_1 hW => ?_)
  rcases hp_1 with ⟨rfl, rfl, k_1_0, k_1_1, k_1_2, k_1_3⟩ | ⟨rfl, rfl, k_1⟩
  · skip
    have hW : WB G (28 + 3 * nd) q (eX G q τ ζ ρ) s H locs := hW
    refine lv_if_eq C.1 C.2.1 (tgt := 21) dX7_point_5 (by decide) (fun c => absurd c (by decide)) (fun _ => ?_)
    refine lv_iload_n C.1 C.2.1 dX7_point_8 rfl (lv_at hl 3 rfl) ?_
    refine lv_sipush C.1 C.2.1 (v := (-1000)) dX7_point_9 (by decide) ?_
    refine lv_sipush C.1 C.2.1 (v := 1000) dX7_point_12 (by decide) ?_
    refine go_i hW (run_S (As := [.int f, .int (-1000), .int 1000]) (rest := []) C hW (c_X7_isWithin l G q nd _ τ ζ ρ f (-1000) 1000 ((f).toInt) (-1000) 1000 (rfl : (f).toInt = (f).toInt) (show (-1000 : Int32).toInt = -1000 from by decide) (show (1000 : Int32).toInt = 1000 from by decide) h_nd) (cw_S 3 C bL_X7_51 bS_X7_isWithin bN_X7 bC_X7_isWithin ⟨rfl, rfl⟩ (by decide +kernel) ⟨Nat.le_of_ble_eq_true rfl, Nat.le_of_ble_eq_true rfl⟩) rfl hl.1 rfl (Nat.le_of_ble_eq_true rfl) dX7_point_15 ⟨Nat.le_refl _, Nat.le_refl _⟩) (fun r_3 u_3 H locs hp_3 hW => ?_)
    rcases hp_3 with ⟨rfl, rfl, k_3_0, k_3_1⟩ | ⟨rfl, rfl, k_3⟩
    · skip
      have hW : WB G (28 + 3 * nd) q (eX G q τ ζ ρ) s H locs := hW
      refine lv_if_ne C.1 C.2.1 (tgt := 24) dX7_point_18 (by decide) (fun _ => ?_) (fun c => absurd c (by decide))
      refine lv_aload_n C.1 C.2.1 dX7_point_24 rfl (lv_at hl 0 rfl) ?_
      refine xG_DishHouse_points C hW bF_X7_26 dX7_point_25 ?_
      refine lv_iload_n C.1 C.2.1 dX7_point_28 rfl (lv_at hl 1 rfl) ?_
      refine lv_iload_n C.1 C.2.1 dX7_point_29 rfl (lv_at hl 2 rfl) ?_
      refine lv_iload_n C.1 C.2.1 dX7_point_30 rfl (lv_at hl 3 rfl) ?_
      refine go_i hW (run_V (o := 10) (As := [.int x, .int y, .int f]) (rest := []) C hW (by omega) rfl rfl (c_X2_add l G q nd _ τ ζ ρ x y f  h_nd h_p) (cw_V 3 C bL_X7_159 bI_X2_add bV_X2_add bN_X2 bC_X2_add ⟨rfl, rfl⟩ (by decide +kernel) ⟨Nat.le_of_ble_eq_true rfl, Nat.le_of_ble_eq_true rfl⟩) rfl hl.1 rfl (Nat.le_of_ble_eq_true rfl) dX7_point_31 ⟨Nat.le_refl _, Nat.le_refl _⟩) (fun r_5 u_5 H locs hp_5 hW => ?_)
      rcases hp_5 with ⟨rfl, rfl, k_5⟩ | ⟨rfl, rfl, k_5⟩
      · skip
        have hW : WB G (28 + 3 * nd) q (eX G q τ ζ ρ) s H locs := hW
        subst hQ
        exact r_iret (τ, ζ, ρ) C hW hr hk dX7_point_34 ⟨(show sp_point τ x y f = ((-3), τ) from by unfold sp_point; (repeat (first | rw [if_pos (by omega)] | rw [if_neg (by omega)])); first | done | rfl), (XZ_eq h_z rfl rfl rfl rfl rfl rfl rfl rfl rfl rfl rfl rfl rfl rfl rfl rfl rfl rfl rfl)⟩
      · skip
        have hW : WB G (28 + 3 * nd) q (eX G q (sg (sa (sa (sa τ 11 ((τ.1 3).toInt.toNat) x) 12 ((τ.1 3).toInt.toNat) y) 13 ((τ.1 3).toInt.toNat) f) 3 (τ.1 3 + 1)) ζ ρ) s H locs := hW
        subst hQ
        exact r_iret ((sg (sa (sa (sa τ 11 ((τ.1 3).toInt.toNat) x) 12 ((τ.1 3).toInt.toNat) y) 13 ((τ.1 3).toInt.toNat) f) 3 (τ.1 3 + 1)), ζ, ρ) C hW hr hk dX7_point_34 ⟨(show sp_point τ x y f = ((τ.1 3 + 1), (sg (sa (sa (sa τ 11 ((τ.1 3).toInt.toNat) x) 12 ((τ.1 3).toInt.toNat) y) 13 ((τ.1 3).toInt.toNat) f) 3 (τ.1 3 + 1))) from by unfold sp_point; (repeat (first | rw [if_pos (by omega)] | rw [if_neg (by omega)])); first | done | rfl), (XZ_eq h_z rfl rfl rfl rfl rfl rfl rfl rfl rfl rfl rfl rfl rfl rfl rfl rfl rfl rfl rfl)⟩
    · skip
      have hW : WB G (28 + 3 * nd) q (eX G q τ ζ ρ) s H locs := hW
      refine lv_if_ne C.1 C.2.1 (tgt := 24) dX7_point_18 (by decide) (fun c => absurd c (by decide)) (fun _ => ?_)
      refine lv_bipush C.1 C.2.1 (v := (-2)) dX7_point_21 (by decide) ?_
      subst hQ
      exact r_iret (τ, ζ, ρ) C hW hr hk dX7_point_23 ⟨(show sp_point τ x y f = ((-2), τ) from by unfold sp_point; (repeat (first | rw [if_pos (by omega)] | rw [if_neg (by omega)])); first | done | rfl), (XZ_eq h_z rfl rfl rfl rfl rfl rfl rfl rfl rfl rfl rfl rfl rfl rfl rfl rfl rfl rfl rfl)⟩
  · skip
    have hW : WB G (28 + 3 * nd) q (eX G q τ ζ ρ) s H locs := hW
    refine lv_if_eq C.1 C.2.1 (tgt := 21) dX7_point_5 (by decide) (fun _ => ?_) (fun c => absurd c (by decide))
    refine lv_bipush C.1 C.2.1 (v := (-2)) dX7_point_21 (by decide) ?_
    subst hQ
    exact r_iret (τ, ζ, ρ) C hW hr hk dX7_point_23 ⟨(show sp_point τ x y f = ((-2), τ) from by unfold sp_point; (repeat (first | rw [if_pos (by omega)] | rw [if_neg (by omega)])); first | done | rfl), (XZ_eq h_z rfl rfl rfl rfl rfl rfl rfl rfl rfl rfl rfl rfl rfl rfl rfl rfl rfl rfl rfl)⟩
set_option maxHeartbeats 4000000 in
set_option maxRecDepth 100000 in
theorem c_X7_dark (l : Launch) (G : GG) (q : Nat → Nat) (nd sz : Nat) (τ ζ : ST) (ρ : RF) (h_nd : nd ≤ 6) (h_z : XZ q nd τ ζ ρ) : Met l yX7_dark (WSb yX7_dark cX7_dark 2 (some .int)) (rmA 0 0) (va_Pc [.ref (q 0)] (PW G (28 + 3 * nd) q sz (eX G q τ ζ ρ))) (va_Qi (fun (r : Int32) (u : (ST × ST × RF)) => sp_dark τ = (r, u.1) ∧ XZ q nd u.1 u.2.1 u.2.2) (fun u => BW G (28 + 3 * nd) q (eX G q u.1 u.2.1 u.2.2)) (FA (28 + 3 * nd) q sz)) 0 0 (FA (28 + 3 * nd) q sz) := by
  refine Met_B (own := RX7) rfl (by decide) (Nat.le_of_ble_eq_true rfl) (fun p e s m args below meth c ls hsz C hW hr hk hl QQ hQ => ?_)
  subst hsz
  have hl : lv_has ls 2 [(0, .ref (q 0))] := hl
  have h_n : (τ.1 0).toInt = (nd : Int) := h_z.1
  have h_r := h_z.2.1
  refine lv_aload_n C.1 C.2.1 dX7_dark_0 rfl (lv_at hl 0 rfl) ?_
  refine xG_DishHouse_points C hW bF_X7_26 dX7_dark_1 ?_
  refine xG_Points_size C hW bF_X7_163 (v := (τ.1 3)) rfl dX7_dark_4 ?_
  refine lv_istore_n (lv' := [(1, .int (τ.1 3)), (0, .ref (q 0))]) C.1 C.2.1 dX7_dark_7 rfl hl (by decide) rfl (fun ls hl => ?_)
  refine lv_aload_n C.1 C.2.1 dX7_dark_8 rfl (lv_at hl 1 rfl) ?_
  refine xG_DishHouse_points C hW bF_X7_26 dX7_dark_9 ?_
  refine lv_iconst C.1 C.2.1 (v := 0) dX7_dark_12 (by decide) ?_
  refine xP_Points_size C hW bF_X7_163 dX7_dark_13 (fun H locs hW => ?_)
  refine lv_iload_n C.1 C.2.1 dX7_dark_16 rfl (lv_at hl 0 rfl) ?_
  subst hQ
  exact r_iret ((sg τ 3 0), ζ, ρ) C hW hr hk dX7_dark_17 ⟨(show sp_dark τ  = ((τ.1 3), (sg τ 3 0)) from by unfold sp_dark; (repeat (first | rw [if_pos (by omega)] | rw [if_neg (by omega)])); first | done | rfl), (XZ_eq h_z rfl rfl rfl rfl rfl rfl rfl rfl rfl rfl rfl rfl rfl rfl rfl rfl rfl rfl rfl)⟩
set_option maxHeartbeats 4000000 in
set_option maxRecDepth 100000 in
theorem c_X7_at (l : Launch) (G : GG) (q : Nat → Nat) (nd sz : Nat) (τ ζ : ST) (ρ : RF) (x : Int32) (y : Int32) (h_nd : nd ≤ 6) (h_z : XZ q nd τ ζ ρ) : Met l yX7_at (WSb yX7_at cX7_at 3 (some .long)) (rmA 1 21) (va_Pc [.ref (q 0), .int x, .int y] (PW G (28 + 3 * nd) q sz (eX G q τ ζ ρ))) (va_Ql (fun (r : Int64) (u : (ST × ST × RF)) => sp_at τ x y = (r, u.1) ∧ XZ q nd u.1 u.2.1 u.2.2) (fun u => BW G (28 + 3 * nd) q (eX G q u.1 u.2.1 u.2.2)) (FA (28 + 3 * nd) q sz)) 0 0 (FA (28 + 3 * nd) q sz) := by
  refine Met_B (own := RX7) rfl (by decide) (Nat.le_of_ble_eq_true rfl) (fun p e s m args below meth c ls hsz C hW hr hk hl QQ hQ => ?_)
  subst hsz
  have hl : lv_has ls 3 [(0, .ref (q 0)), (1, .int x), (2, .int y)] := hl
  have h_n : (τ.1 0).toInt = (nd : Int) := h_z.1
  have h_r := h_z.2.1
  refine lv_iload_n C.1 C.2.1 dX7_at_0 rfl (lv_at hl 1 rfl) ?_
  refine lv_iload_n C.1 C.2.1 dX7_at_1 rfl (lv_at hl 2 rfl) ?_
  refine go_i hW (run_S (As := [.int x, .int y]) (rest := []) C hW (c_X7_isCell l G q nd _ τ ζ ρ x y  h_nd) (cw_S 2 C bL_X7_156 bS_X7_isCell bN_X7 bC_X7_isCell ⟨rfl, rfl⟩ (by decide +kernel) ⟨Nat.le_of_ble_eq_true rfl, Nat.le_of_ble_eq_true rfl⟩) rfl hl.1 rfl (Nat.le_of_ble_eq_true rfl) dX7_at_2 ⟨Nat.le_refl _, Nat.le_refl _⟩) (fun r_1 u_1 H locs hp_1 hW => ?_)
  rcases hp_1 with ⟨rfl, rfl, k_1_0, k_1_1, k_1_2, k_1_3⟩ | ⟨rfl, rfl, k_1⟩
  · skip
    have hW : WB G (28 + 3 * nd) q (eX G q τ ζ ρ) s H locs := hW
    refine lv_if_ne C.1 C.2.1 (tgt := 12) dX7_at_5 (by decide) (fun _ => ?_) (fun c => absurd c (by decide))
    refine lv_aload_n C.1 C.2.1 dX7_at_12 rfl (lv_at hl 0 rfl) ?_
    refine xG_DishHouse_board C hW bF_X7_33 dX7_at_13 ?_
    refine xG_Board_cells C hW bF_X7_178 dX7_at_16 ?_
    refine lv_bipush C.1 C.2.1 (v := 16) dX7_at_19 (by decide) ?_
    refine lv_iload_n C.1 C.2.1 dX7_at_21 rfl (lv_at hl 2 rfl) ?_
    refine lv_imul C.1 C.2.1 dX7_at_22 ?_
    refine lv_iload_n C.1 C.2.1 dX7_at_23 rfl (lv_at hl 1 rfl) ?_
    refine lv_iadd C.1 C.2.1 dX7_at_24 ?_
    refine xL_15 C hW ((((16 * (y).toInt) + (x).toInt)).toNat) ((ti_add (ti_mul (show (16 : Int32).toInt = 16 from by decide) (rfl : (y).toInt = (y).toInt) (by omega) (by omega)) (rfl : (x).toInt = (x).toInt) (by omega) (by omega)).trans (by omega)) (by omega) (v := (τ.2.2 0 ((((16 * (y).toInt) + (x).toInt)).toNat))) rfl dX7_at_25 ?_
    subst hQ
    exact r_lret (τ, ζ, ρ) C hW hr hk dX7_at_26 ⟨(show sp_at τ x y = ((τ.2.2 0 ((((16 * (y).toInt) + (x).toInt)).toNat)), τ) from by unfold sp_at; (repeat (first | rw [if_pos (by omega)] | rw [if_neg (by omega)])); first | done | rfl), (XZ_eq h_z rfl rfl rfl rfl rfl rfl rfl rfl rfl rfl rfl rfl rfl rfl rfl rfl rfl rfl rfl)⟩
  · skip
    have hW : WB G (28 + 3 * nd) q (eX G q τ ζ ρ) s H locs := hW
    refine lv_if_ne C.1 C.2.1 (tgt := 12) dX7_at_5 (by decide) (fun c => absurd c (by decide)) (fun _ => ?_)
    refine lv_ldc2 C.1 C.2.1 C.2.2.2.1 (C.2.2.2.2.1 _ bQ_X7_130) dX7_at_8 ?_
    subst hQ
    exact r_lret (τ, ζ, ρ) C hW hr hk dX7_at_11 ⟨(show sp_at τ x y = ((-9223372036854775808), τ) from by unfold sp_at; (repeat (first | rw [if_pos (by omega)] | rw [if_neg (by omega)])); first | done | rfl), (XZ_eq h_z rfl rfl rfl rfl rfl rfl rfl rfl rfl rfl rfl rfl rfl rfl rfl rfl rfl rfl rfl)⟩
set_option maxHeartbeats 4000000 in
set_option maxRecDepth 100000 in
theorem c_X7_window (l : Launch) (G : GG) (q : Nat → Nat) (nd sz : Nat) (τ ζ : ST) (ρ : RF) (x : Int32) (y : Int32) (z : Int32) (w : Int32) (h_nd : nd ≤ 6) (h_z : XZ q nd τ ζ ρ) : Met l yX7_window (WSb yX7_window cX7_window 5 (some .int)) (rmA 1 24) (va_Pc [.ref (q 0), .int x, .int y, .int z, .int w] (PW G (28 + 3 * nd) q sz (eX G q τ ζ ρ))) (va_Qi (fun (r : Int32) (u : (ST × ST × RF)) => sp_window τ x y z w = (r, u.1) ∧ XZ q nd u.1 u.2.1 u.2.2) (fun u => BW G (28 + 3 * nd) q (eX G q u.1 u.2.1 u.2.2)) (FA (28 + 3 * nd) q sz)) 0 0 (FA (28 + 3 * nd) q sz) := by
  refine Met_B (own := RX7) rfl (by decide) (Nat.le_of_ble_eq_true rfl) (fun p e s m args below meth c ls hsz C hW hr hk hl QQ hQ => ?_)
  subst hsz
  have hl : lv_has ls 5 [(0, .ref (q 0)), (1, .int x), (2, .int y), (3, .int z), (4, .int w)] := hl
  have h_n : (τ.1 0).toInt = (nd : Int) := h_z.1
  have h_r := h_z.2.1
  refine lv_iload_n C.1 C.2.1 dX7_window_0 rfl (lv_at hl 1 rfl) ?_
  refine lv_iload_n C.1 C.2.1 dX7_window_1 rfl (lv_at hl 2 rfl) ?_
  refine go_i hW (run_S (As := [.int x, .int y]) (rest := []) C hW (c_X7_isCell l G q nd _ τ ζ ρ x y  h_nd) (cw_S 2 C bL_X7_156 bS_X7_isCell bN_X7 bC_X7_isCell ⟨rfl, rfl⟩ (by decide +kernel) ⟨Nat.le_of_ble_eq_true rfl, Nat.le_of_ble_eq_true rfl⟩) rfl hl.1 rfl (Nat.le_of_ble_eq_true rfl) dX7_window_2 ⟨Nat.le_refl _, Nat.le_refl _⟩) (fun r_1 u_1 H locs hp_1 hW => ?_)
  rcases hp_1 with ⟨rfl, rfl, k_1_0, k_1_1, k_1_2, k_1_3⟩ | ⟨rfl, rfl, k_1⟩
  · skip
    have hW : WB G (28 + 3 * nd) q (eX G q τ ζ ρ) s H locs := hW
    refine lv_if_eq C.1 C.2.1 (tgt := 17) dX7_window_5 (by decide) (fun c => absurd c (by decide)) (fun _ => ?_)
    refine lv_iload_n C.1 C.2.1 dX7_window_8 rfl (lv_at hl 3 rfl) ?_
    refine lv_iload C.1 C.2.1 dX7_window_9 (lv_at hl 4 rfl) ?_
    refine go_i hW (run_S (As := [.int z, .int w]) (rest := []) C hW (c_X7_isCell l G q nd _ τ ζ ρ z w  h_nd) (cw_S 2 C bL_X7_156 bS_X7_isCell bN_X7 bC_X7_isCell ⟨rfl, rfl⟩ (by decide +kernel) ⟨Nat.le_of_ble_eq_true rfl, Nat.le_of_ble_eq_true rfl⟩) rfl hl.1 rfl (Nat.le_of_ble_eq_true rfl) dX7_window_11 ⟨Nat.le_refl _, Nat.le_refl _⟩) (fun r_3 u_3 H locs hp_3 hW => ?_)
    rcases hp_3 with ⟨rfl, rfl, k_3_0, k_3_1, k_3_2, k_3_3⟩ | ⟨rfl, rfl, k_3⟩
    · skip
      have hW : WB G (28 + 3 * nd) q (eX G q τ ζ ρ) s H locs := hW
      refine lv_if_ne C.1 C.2.1 (tgt := 20) dX7_window_14 (by decide) (fun _ => ?_) (fun c => absurd c (by decide))
      refine lv_iload_n C.1 C.2.1 dX7_window_20 rfl (lv_at hl 1 rfl) ?_
      refine lv_iload_n C.1 C.2.1 dX7_window_21 rfl (lv_at hl 3 rfl) ?_
      refine lv_icmp_gt C.1 C.2.1 (tgt := 31) dX7_window_22 (by decide) (fun c_5 => ?_) (fun c_5 => ?_)
      · skip
        have k_5 := (tc_lt (rfl : (z).toInt = (z).toInt) (rfl : (x).toInt = (x).toInt)).mp c_5
        refine lv_bipush C.1 C.2.1 (v := (-2)) dX7_window_31 (by decide) ?_
        subst hQ
        exact r_iret (τ, ζ, ρ) C hW hr hk dX7_window_33 ⟨(show sp_window τ x y z w = ((-2), τ) from by unfold sp_window; (repeat (first | rw [if_pos (by omega)] | rw [if_neg (by omega)])); first | done | rfl | exact Prod.ext rfl (st_g (fun j => by simp only [sg, upd]; (repeat' split) <;> first | rfl | omega) rfl)), (XZ_eq h_z rfl rfl rfl rfl rfl rfl rfl rfl rfl rfl rfl rfl rfl rfl rfl rfl rfl rfl rfl)⟩
      · skip
        have k_5 := (tn_lt (rfl : (z).toInt = (z).toInt) (rfl : (x).toInt = (x).toInt)).mp c_5
        refine lv_iload_n C.1 C.2.1 dX7_window_25 rfl (lv_at hl 2 rfl) ?_
        refine lv_iload C.1 C.2.1 dX7_window_26 (lv_at hl 4 rfl) ?_
        refine lv_icmp_le C.1 C.2.1 (tgt := 34) dX7_window_28 (by decide) (fun c_6 => ?_) (fun c_6 => ?_)
        · skip
          have k_6 := (tc_le (rfl : (y).toInt = (y).toInt) (rfl : (w).toInt = (w).toInt)).mp c_6
          refine lv_aload_n C.1 C.2.1 dX7_window_34 rfl (lv_at hl 0 rfl) ?_
          refine xG_DishHouse_board C hW bF_X7_33 dX7_window_35 ?_
          refine lv_iload_n C.1 C.2.1 dX7_window_38 rfl (lv_at hl 1 rfl) ?_
          refine lv_iload_n C.1 C.2.1 dX7_window_39 rfl (lv_at hl 2 rfl) ?_
          refine lv_iload_n C.1 C.2.1 dX7_window_40 rfl (lv_at hl 3 rfl) ?_
          refine lv_iload C.1 C.2.1 dX7_window_41 (lv_at hl 4 rfl) ?_
          refine go_v hW (run_V (o := 14) (As := [.int x, .int y, .int z, .int w]) (rest := []) C hW (by omega) rfl rfl (c_X0_look l G q nd _ τ ζ ρ x y z w  h_nd) (cw_V 4 C bL_X7_182 bI_X0_look bV_X0_look bN_X0 bC_X0_look ⟨rfl, rfl⟩ (by decide +kernel) ⟨Nat.le_of_ble_eq_true rfl, Nat.le_of_ble_eq_true rfl⟩) rfl hl.1 rfl (Nat.le_of_ble_eq_true rfl) dX7_window_43 ⟨Nat.le_refl _, Nat.le_refl _⟩) (fun u_7 H locs hp_7 hW => ?_)
          obtain rfl := hp_7
          have hW : WB G (28 + 3 * nd) q (eX G q (sg (sg (sg (sg τ 5 x) 7 y) 6 z) 8 w) ζ ρ) s H locs := hW
          refine lv_aload_n C.1 C.2.1 dX7_window_46 rfl (lv_at hl 0 rfl) ?_
          refine xG_DishHouse_board C hW bF_X7_33 dX7_window_47 ?_
          refine go_i hW (run_V (o := 14) (As := []) (rest := []) C hW (by omega) rfl rfl (c_X0_windowCells l G q nd _ (sg (sg (sg (sg τ 5 x) 7 y) 6 z) 8 w) ζ ρ   h_nd) (cw_V 0 C bL_X7_186 bI_X0_windowCells bV_X0_windowCells bN_X0 bC_X0_windowCells ⟨rfl, rfl⟩ (by decide +kernel) ⟨Nat.le_of_ble_eq_true rfl, Nat.le_of_ble_eq_true rfl⟩) rfl hl.1 rfl (Nat.le_of_ble_eq_true rfl) dX7_window_50 ⟨Nat.le_refl _, Nat.le_refl _⟩) (fun r_8 u_8 H locs hp_8 hW => ?_)
          rcases hp_8 with ⟨rfl, rfl⟩
          have hW : WB G (28 + 3 * nd) q (eX G q (sg (sg (sg (sg τ 5 x) 7 y) 6 z) 8 w) ζ ρ) s H locs := hW
          subst hQ
          exact r_iret ((sg (sg (sg (sg τ 5 x) 7 y) 6 z) 8 w), ζ, ρ) C hW hr hk dX7_window_53 ⟨(show sp_window τ x y z w = ((((sg (sg (sg (sg τ 5 x) 7 y) 6 z) 8 w).1 6 - (sg (sg (sg (sg τ 5 x) 7 y) 6 z) 8 w).1 5 + 1) * ((sg (sg (sg (sg τ 5 x) 7 y) 6 z) 8 w).1 8 - (sg (sg (sg (sg τ 5 x) 7 y) 6 z) 8 w).1 7 + 1)), (sg (sg (sg (sg τ 5 x) 7 y) 6 z) 8 w)) from by unfold sp_window; (repeat (first | rw [if_pos (by omega)] | rw [if_neg (by omega)])); first | done | rfl | exact Prod.ext rfl (st_g (fun j => by simp only [sg, upd]; (repeat' split) <;> first | rfl | omega) rfl)), (XZ_eq h_z rfl rfl rfl rfl rfl rfl rfl rfl rfl rfl rfl rfl rfl rfl rfl rfl rfl rfl rfl)⟩
        · skip
          have k_6 := (tn_le (rfl : (y).toInt = (y).toInt) (rfl : (w).toInt = (w).toInt)).mp c_6
          refine lv_bipush C.1 C.2.1 (v := (-2)) dX7_window_31 (by decide) ?_
          subst hQ
          exact r_iret (τ, ζ, ρ) C hW hr hk dX7_window_33 ⟨(show sp_window τ x y z w = ((-2), τ) from by unfold sp_window; (repeat (first | rw [if_pos (by omega)] | rw [if_neg (by omega)])); first | done | rfl | exact Prod.ext rfl (st_g (fun j => by simp only [sg, upd]; (repeat' split) <;> first | rfl | omega) rfl)), (XZ_eq h_z rfl rfl rfl rfl rfl rfl rfl rfl rfl rfl rfl rfl rfl rfl rfl rfl rfl rfl rfl)⟩
    · skip
      have hW : WB G (28 + 3 * nd) q (eX G q τ ζ ρ) s H locs := hW
      refine lv_if_ne C.1 C.2.1 (tgt := 20) dX7_window_14 (by decide) (fun c => absurd c (by decide)) (fun _ => ?_)
      refine lv_bipush C.1 C.2.1 (v := (-2)) dX7_window_17 (by decide) ?_
      subst hQ
      exact r_iret (τ, ζ, ρ) C hW hr hk dX7_window_19 ⟨(show sp_window τ x y z w = ((-2), τ) from by unfold sp_window; (repeat (first | rw [if_pos (by omega)] | rw [if_neg (by omega)])); first | done | rfl | exact Prod.ext rfl (st_g (fun j => by simp only [sg, upd]; (repeat' split) <;> first | rfl | omega) rfl)), (XZ_eq h_z rfl rfl rfl rfl rfl rfl rfl rfl rfl rfl rfl rfl rfl rfl rfl rfl rfl rfl rfl)⟩
  · skip
    have hW : WB G (28 + 3 * nd) q (eX G q τ ζ ρ) s H locs := hW
    refine lv_if_eq C.1 C.2.1 (tgt := 17) dX7_window_5 (by decide) (fun _ => ?_) (fun c => absurd c (by decide))
    refine lv_bipush C.1 C.2.1 (v := (-2)) dX7_window_17 (by decide) ?_
    subst hQ
    exact r_iret (τ, ζ, ρ) C hW hr hk dX7_window_19 ⟨(show sp_window τ x y z w = ((-2), τ) from by unfold sp_window; (repeat (first | rw [if_pos (by omega)] | rw [if_neg (by omega)])); first | done | rfl | exact Prod.ext rfl (st_g (fun j => by simp only [sg, upd]; (repeat' split) <;> first | rfl | omega) rfl)), (XZ_eq h_z rfl rfl rfl rfl rfl rfl rfl rfl rfl rfl rfl rfl rfl rfl rfl rfl rfl rfl rfl)⟩
set_option maxHeartbeats 4000000 in
set_option maxRecDepth 100000 in
theorem c_X7_peak (l : Launch) (G : GG) (q : Nat → Nat) (nd sz : Nat) (τ ζ : ST) (ρ : RF) (h_nd : nd ≤ 6) (h_z : XZ q nd τ ζ ρ) (h_w : 0 ≤ (τ.1 5).toInt ∧ (τ.1 5).toInt ≤ (τ.1 6).toInt ∧ (τ.1 6).toInt ≤ 15 ∧ 0 ≤ (τ.1 7).toInt ∧ (τ.1 7).toInt ≤ (τ.1 8).toInt ∧ (τ.1 8).toInt ≤ 15) : Met l yX7_peak (WSb yX7_peak cX7_peak 1 (some .int)) (rmA 3 66) (va_Pc [.ref (q 0)] (PW G (28 + 3 * nd) q sz (eX G q τ ζ ρ))) (va_Qi (fun (r : Int32) (u : (ST × ST × RF)) => sp_peak τ = (r, u.1) ∧ XZ q nd u.1 u.2.1 u.2.2) (fun u => BW G (28 + 3 * nd) q (eX G q u.1 u.2.1 u.2.2)) (FA (28 + 3 * nd) q sz)) 0 0 (FA (28 + 3 * nd) q sz) := by
  refine Met_B (own := RX7) rfl (by decide) (Nat.le_of_ble_eq_true rfl) (fun p e s m args below meth c ls hsz C hW hr hk hl QQ hQ => ?_)
  subst hsz
  have hl : lv_has ls 1 [(0, .ref (q 0))] := hl
  have h_n : (τ.1 0).toInt = (nd : Int) := h_z.1
  have h_r := h_z.2.1
  refine lv_aload_n C.1 C.2.1 dX7_peak_0 rfl (lv_at hl 0 rfl) ?_
  refine xG_DishHouse_board C hW bF_X7_33 dX7_peak_1 ?_
  refine go_i hW (run_V (o := 14) (As := []) (rest := []) C hW (by omega) rfl rfl (c_X0_greatestCell l G q nd _ τ ζ ρ   h_nd h_w) (cw_V 0 C bL_X7_189 bI_X0_greatestCell bV_X0_greatestCell bN_X0 bC_X0_greatestCell ⟨rfl, rfl⟩ (by decide +kernel) ⟨Nat.le_of_ble_eq_true rfl, Nat.le_of_ble_eq_true rfl⟩) rfl hl.1 rfl (Nat.le_of_ble_eq_true rfl) dX7_peak_4 ⟨Nat.le_refl _, Nat.le_refl _⟩) (fun r_1 u_1 H locs hp_1 hW => ?_)
  rcases hp_1 with ⟨rfl, rfl, k_1⟩
  have hW : WB G (28 + 3 * nd) q (eX G q τ ζ ρ) s H locs := hW
  subst hQ
  exact r_iret (τ, ζ, ρ) C hW hr hk dX7_peak_7 ⟨(show sp_peak τ  = ((nI (pk τ)), τ) from by unfold sp_peak; (repeat (first | rw [if_pos (by omega)] | rw [if_neg (by omega)])); first | done | rfl), (XZ_eq h_z rfl rfl rfl rfl rfl rfl rfl rfl rfl rfl rfl rfl rfl rfl rfl rfl rfl rfl rfl)⟩
set_option maxHeartbeats 4000000 in
set_option maxRecDepth 100000 in
theorem c_X7_wipe (l : Launch) (G : GG) (q : Nat → Nat) (nd sz : Nat) (τ ζ : ST) (ρ : RF) (h_nd : nd ≤ 6) (h_z : XZ q nd τ ζ ρ) (h_o : 0 ≤ (τ.1 9).toInt ∧ (τ.1 9).toInt ≤ 60) : Met l yX7_wipe (WSb yX7_wipe cX7_wipe 2 (some .int)) (rmA 0 0) (va_Pc [.ref (q 0)] (PW G (28 + 3 * nd) q sz (eX G q τ ζ ρ))) (va_Qi (fun (r : Int32) (u : (ST × ST × RF)) => sp_wipe τ = (r, u.1) ∧ XZ q nd u.1 u.2.1 u.2.2) (fun u => BW G (28 + 3 * nd) q (eX G q u.1 u.2.1 u.2.2)) (FA (28 + 3 * nd) q sz)) 0 0 (FA (28 + 3 * nd) q sz) := by
  refine Met_B (own := RX7) rfl (by decide) (Nat.le_of_ble_eq_true rfl) (fun p e s m args below meth c ls hsz C hW hr hk hl QQ hQ => ?_)
  subst hsz
  have hl : lv_has ls 2 [(0, .ref (q 0))] := hl
  have h_n : (τ.1 0).toInt = (nd : Int) := h_z.1
  have h_r := h_z.2.1
  refine lv_aload_n C.1 C.2.1 dX7_wipe_0 rfl (lv_at hl 0 rfl) ?_
  refine xG_DishHouse_program C hW bF_X7_40 dX7_wipe_1 ?_
  refine xG_Program_size C hW bF_X7_217 (v := (τ.1 9)) rfl dX7_wipe_4 ?_
  refine lv_istore_n (lv' := [(1, .int (τ.1 9)), (0, .ref (q 0))]) C.1 C.2.1 dX7_wipe_7 rfl hl (by decide) rfl (fun ls hl => ?_)
  refine lv_aload_n C.1 C.2.1 dX7_wipe_8 rfl (lv_at hl 1 rfl) ?_
  refine xG_DishHouse_program C hW bF_X7_40 dX7_wipe_9 ?_
  refine lv_iconst C.1 C.2.1 (v := 0) dX7_wipe_12 (by decide) ?_
  refine xP_Program_size C hW bF_X7_217 dX7_wipe_13 (fun H locs hW => ?_)
  refine lv_iload_n C.1 C.2.1 dX7_wipe_16 rfl (lv_at hl 0 rfl) ?_
  subst hQ
  exact r_iret ((sg τ 9 0), ζ, ρ) C hW hr hk dX7_wipe_17 ⟨(show sp_wipe τ  = ((τ.1 9), (sg τ 9 0)) from by unfold sp_wipe; (repeat (first | rw [if_pos (by omega)] | rw [if_neg (by omega)])); first | done | rfl), (XZ_eq h_z rfl rfl rfl rfl rfl rfl rfl rfl rfl rfl rfl rfl rfl rfl rfl rfl rfl rfl rfl)⟩
set_option maxHeartbeats 4000000 in
set_option maxRecDepth 100000 in
theorem c_X7_told (l : Launch) (G : GG) (q : Nat → Nat) (nd sz : Nat) (τ ζ : ST) (ρ : RF) (w : Int32) (h_nd : nd ≤ 6) (h_z : XZ q nd τ ζ ρ) : Met l yX7_told (WSb yX7_told cX7_told 3 (some .int)) (rmA 0 0) (va_Pc [.ref (q 0), .int w] (PW G (28 + 3 * nd) q sz (eX G q τ ζ ρ))) (va_Qi (fun (r : Int32) (u : (ST × ST × RF)) => sp_told τ w = (r, u.1) ∧ XZ q nd u.1 u.2.1 u.2.2) (fun u => BW G (28 + 3 * nd) q (eX G q u.1 u.2.1 u.2.2)) (FA (28 + 3 * nd) q sz)) 0 0 (FA (28 + 3 * nd) q sz) := by
  refine Met_B (own := RX7) rfl (by decide) (Nat.le_of_ble_eq_true rfl) (fun p e s m args below meth c ls hsz C hW hr hk hl QQ hQ => ?_)
  subst hsz
  have hl : lv_has ls 3 [(0, .ref (q 0)), (1, .int w)] := hl
  have h_n : (τ.1 0).toInt = (nd : Int) := h_z.1
  have h_r := h_z.2.1
  have hw10 := w10 w
  refine lv_iload_n C.1 C.2.1 dX7_told_0 rfl (lv_at hl 1 rfl) ?_
  refine lv_bipush C.1 C.2.1 (v := 10) dX7_told_1 (by decide) ?_
  refine lv_isub C.1 C.2.1 dX7_told_3 ?_
  refine lv_istore_n (lv' := [(2, .int (w - 10)), (0, .ref (q 0)), (1, .int w)]) C.1 C.2.1 dX7_told_4 rfl hl (by decide) rfl (fun ls hl => ?_)
  refine lv_iload_n C.1 C.2.1 dX7_told_5 rfl (lv_at hl 0 rfl) ?_
  refine lv_if_lt C.1 C.2.1 (tgt := 25) dX7_told_6 (by decide) (fun c_1 => ?_) (fun c_1 => ?_)
  · skip
    have k_1 := (tc_lt (rfl : ((w - 10)).toInt = ((w - 10)).toInt) (show (0 : Int32).toInt = 0 from by decide)).mp c_1
    refine lv_iload_n C.1 C.2.1 dX7_told_25 rfl (lv_at hl 2 rfl) ?_
    have e_2 : (w).toInt = (w).toInt := (rfl : (w).toInt = (w).toInt)
    by_cases c_2_0 : (w).toInt = 0
    · skip
      refine lv_tableIn C.1 C.2.1 dX7_told_26 (off := 38) (tgt := 64) (by omega) (by omega) (by rw [show (w).toInt = 0 by omega]; rfl) (by decide) ?_
      refine lv_aload_n C.1 C.2.1 dX7_told_64 rfl (lv_at hl 1 rfl) ?_
      refine xG_DishHouse_run C hW bF_X7_47 dX7_told_65 ?_
      refine xG_Run_minute C hW bF_X7_226 (v := (τ.1 10)) rfl dX7_told_68 ?_
      subst hQ
      exact r_iret (τ, ζ, ρ) C hW hr hk dX7_told_71 ⟨(show sp_told τ w = ((τ.1 10), τ) from by unfold sp_told; (repeat (first | rw [if_pos (by omega)] | rw [if_neg (by omega)])); first | done | rfl), (XZ_eq h_z rfl rfl rfl rfl rfl rfl rfl rfl rfl rfl rfl rfl rfl rfl rfl rfl rfl rfl rfl)⟩
    by_cases c_2_1 : (w).toInt = 1
    · skip
      refine lv_tableIn C.1 C.2.1 dX7_told_26 (off := 46) (tgt := 72) (by omega) (by omega) (by rw [show (w).toInt = 1 by omega]; rfl) (by decide) ?_
      refine lv_aload_n C.1 C.2.1 dX7_told_72 rfl (lv_at hl 1 rfl) ?_
      refine xG_DishHouse_run C hW bF_X7_47 dX7_told_73 ?_
      refine xG_Run_azimuth C hW bF_X7_229 (v := (τ.1 11)) rfl dX7_told_76 ?_
      subst hQ
      exact r_iret (τ, ζ, ρ) C hW hr hk dX7_told_79 ⟨(show sp_told τ w = ((τ.1 11), τ) from by unfold sp_told; (repeat (first | rw [if_pos (by omega)] | rw [if_neg (by omega)])); first | done | rfl), (XZ_eq h_z rfl rfl rfl rfl rfl rfl rfl rfl rfl rfl rfl rfl rfl rfl rfl rfl rfl rfl rfl)⟩
    by_cases c_2_2 : (w).toInt = 2
    · skip
      refine lv_tableIn C.1 C.2.1 dX7_told_26 (off := 54) (tgt := 80) (by omega) (by omega) (by rw [show (w).toInt = 2 by omega]; rfl) (by decide) ?_
      refine lv_aload_n C.1 C.2.1 dX7_told_80 rfl (lv_at hl 1 rfl) ?_
      refine xG_DishHouse_run C hW bF_X7_47 dX7_told_81 ?_
      refine xG_Run_watched C hW bF_X7_232 (v := (τ.1 12)) rfl dX7_told_84 ?_
      subst hQ
      exact r_iret (τ, ζ, ρ) C hW hr hk dX7_told_87 ⟨(show sp_told τ w = ((τ.1 12), τ) from by unfold sp_told; (repeat (first | rw [if_pos (by omega)] | rw [if_neg (by omega)])); first | done | rfl), (XZ_eq h_z rfl rfl rfl rfl rfl rfl rfl rfl rfl rfl rfl rfl rfl rfl rfl rfl rfl rfl rfl)⟩
    by_cases c_2_3 : (w).toInt = 3
    · skip
      refine lv_tableIn C.1 C.2.1 dX7_told_26 (off := 62) (tgt := 88) (by omega) (by omega) (by rw [show (w).toInt = 3 by omega]; rfl) (by decide) ?_
      refine lv_aload_n C.1 C.2.1 dX7_told_88 rfl (lv_at hl 1 rfl) ?_
      refine xG_DishHouse_run C hW bF_X7_47 dX7_told_89 ?_
      refine xG_Run_finished C hW bF_X7_235 (v := (τ.1 13)) rfl dX7_told_92 ?_
      subst hQ
      exact r_iret (τ, ζ, ρ) C hW hr hk dX7_told_95 ⟨(show sp_told τ w = ((τ.1 13), τ) from by unfold sp_told; (repeat (first | rw [if_pos (by omega)] | rw [if_neg (by omega)])); first | done | rfl), (XZ_eq h_z rfl rfl rfl rfl rfl rfl rfl rfl rfl rfl rfl rfl rfl rfl rfl rfl rfl rfl rfl)⟩
    by_cases c_2_4 : (w).toInt = 4
    · skip
      refine lv_tableIn C.1 C.2.1 dX7_told_26 (off := 70) (tgt := 96) (by omega) (by omega) (by rw [show (w).toInt = 4 by omega]; rfl) (by decide) ?_
      refine lv_aload_n C.1 C.2.1 dX7_told_96 rfl (lv_at hl 1 rfl) ?_
      refine xG_DishHouse_run C hW bF_X7_47 dX7_told_97 ?_
      refine xG_Run_endedAt C hW bF_X7_238 (v := (τ.1 14)) rfl dX7_told_100 ?_
      subst hQ
      exact r_iret (τ, ζ, ρ) C hW hr hk dX7_told_103 ⟨(show sp_told τ w = ((τ.1 14), τ) from by unfold sp_told; (repeat (first | rw [if_pos (by omega)] | rw [if_neg (by omega)])); first | done | rfl), (XZ_eq h_z rfl rfl rfl rfl rfl rfl rfl rfl rfl rfl rfl rfl rfl rfl rfl rfl rfl rfl rfl)⟩
    by_cases c_2_5 : (w).toInt = 5
    · skip
      refine lv_tableIn C.1 C.2.1 dX7_told_26 (off := 78) (tgt := 104) (by omega) (by omega) (by rw [show (w).toInt = 5 by omega]; rfl) (by decide) ?_
      refine lv_aload_n C.1 C.2.1 dX7_told_104 rfl (lv_at hl 1 rfl) ?_
      refine xG_DishHouse_run C hW bF_X7_47 dX7_told_105 ?_
      refine xG_Run_turning C hW bF_X7_241 (v := (τ.1 15)) rfl dX7_told_108 ?_
      subst hQ
      exact r_iret (τ, ζ, ρ) C hW hr hk dX7_told_111 ⟨(show sp_told τ w = ((τ.1 15), τ) from by unfold sp_told; (repeat (first | rw [if_pos (by omega)] | rw [if_neg (by omega)])); first | done | rfl), (XZ_eq h_z rfl rfl rfl rfl rfl rfl rfl rfl rfl rfl rfl rfl rfl rfl rfl rfl rfl rfl rfl)⟩
    refine lv_tableOut C.1 C.2.1 dX7_told_26 (tgt := 112) (by omega) (by decide) ?_
    refine lv_bipush C.1 C.2.1 (v := (-2)) dX7_told_112 (by decide) ?_
    subst hQ
    exact r_iret (τ, ζ, ρ) C hW hr hk dX7_told_114 ⟨(show sp_told τ w = ((-2), τ) from by unfold sp_told; (repeat (first | rw [if_pos (by omega)] | rw [if_neg (by omega)])); first | done | rfl), (XZ_eq h_z rfl rfl rfl rfl rfl rfl rfl rfl rfl rfl rfl rfl rfl rfl rfl rfl rfl rfl rfl)⟩
  · skip
    have k_1 := (tn_lt (rfl : ((w - 10)).toInt = ((w - 10)).toInt) (show (0 : Int32).toInt = 0 from by decide)).mp c_1
    refine lv_iload_n C.1 C.2.1 dX7_told_9 rfl (lv_at hl 0 rfl) ?_
    refine lv_bipush C.1 C.2.1 (v := 8) dX7_told_10 (by decide) ?_
    refine lv_icmp_ge C.1 C.2.1 (tgt := 25) dX7_told_12 (by decide) (fun c_3 => ?_) (fun c_3 => ?_)
    · skip
      have k_3 := (tc_le (show (8 : Int32).toInt = 8 from by decide) (rfl : ((w - 10)).toInt = ((w - 10)).toInt)).mp c_3
      refine lv_iload_n C.1 C.2.1 dX7_told_25 rfl (lv_at hl 2 rfl) ?_
      have e_4 : (w).toInt = (w).toInt := (rfl : (w).toInt = (w).toInt)
      by_cases c_4_0 : (w).toInt = 0
      · skip
        refine lv_tableIn C.1 C.2.1 dX7_told_26 (off := 38) (tgt := 64) (by omega) (by omega) (by rw [show (w).toInt = 0 by omega]; rfl) (by decide) ?_
        refine lv_aload_n C.1 C.2.1 dX7_told_64 rfl (lv_at hl 1 rfl) ?_
        refine xG_DishHouse_run C hW bF_X7_47 dX7_told_65 ?_
        refine xG_Run_minute C hW bF_X7_226 (v := (τ.1 10)) rfl dX7_told_68 ?_
        subst hQ
        exact r_iret (τ, ζ, ρ) C hW hr hk dX7_told_71 ⟨(show sp_told τ w = ((τ.1 10), τ) from by unfold sp_told; (repeat (first | rw [if_pos (by omega)] | rw [if_neg (by omega)])); first | done | rfl), (XZ_eq h_z rfl rfl rfl rfl rfl rfl rfl rfl rfl rfl rfl rfl rfl rfl rfl rfl rfl rfl rfl)⟩
      by_cases c_4_1 : (w).toInt = 1
      · skip
        refine lv_tableIn C.1 C.2.1 dX7_told_26 (off := 46) (tgt := 72) (by omega) (by omega) (by rw [show (w).toInt = 1 by omega]; rfl) (by decide) ?_
        refine lv_aload_n C.1 C.2.1 dX7_told_72 rfl (lv_at hl 1 rfl) ?_
        refine xG_DishHouse_run C hW bF_X7_47 dX7_told_73 ?_
        refine xG_Run_azimuth C hW bF_X7_229 (v := (τ.1 11)) rfl dX7_told_76 ?_
        subst hQ
        exact r_iret (τ, ζ, ρ) C hW hr hk dX7_told_79 ⟨(show sp_told τ w = ((τ.1 11), τ) from by unfold sp_told; (repeat (first | rw [if_pos (by omega)] | rw [if_neg (by omega)])); first | done | rfl), (XZ_eq h_z rfl rfl rfl rfl rfl rfl rfl rfl rfl rfl rfl rfl rfl rfl rfl rfl rfl rfl rfl)⟩
      by_cases c_4_2 : (w).toInt = 2
      · skip
        refine lv_tableIn C.1 C.2.1 dX7_told_26 (off := 54) (tgt := 80) (by omega) (by omega) (by rw [show (w).toInt = 2 by omega]; rfl) (by decide) ?_
        refine lv_aload_n C.1 C.2.1 dX7_told_80 rfl (lv_at hl 1 rfl) ?_
        refine xG_DishHouse_run C hW bF_X7_47 dX7_told_81 ?_
        refine xG_Run_watched C hW bF_X7_232 (v := (τ.1 12)) rfl dX7_told_84 ?_
        subst hQ
        exact r_iret (τ, ζ, ρ) C hW hr hk dX7_told_87 ⟨(show sp_told τ w = ((τ.1 12), τ) from by unfold sp_told; (repeat (first | rw [if_pos (by omega)] | rw [if_neg (by omega)])); first | done | rfl), (XZ_eq h_z rfl rfl rfl rfl rfl rfl rfl rfl rfl rfl rfl rfl rfl rfl rfl rfl rfl rfl rfl)⟩
      by_cases c_4_3 : (w).toInt = 3
      · skip
        refine lv_tableIn C.1 C.2.1 dX7_told_26 (off := 62) (tgt := 88) (by omega) (by omega) (by rw [show (w).toInt = 3 by omega]; rfl) (by decide) ?_
        refine lv_aload_n C.1 C.2.1 dX7_told_88 rfl (lv_at hl 1 rfl) ?_
        refine xG_DishHouse_run C hW bF_X7_47 dX7_told_89 ?_
        refine xG_Run_finished C hW bF_X7_235 (v := (τ.1 13)) rfl dX7_told_92 ?_
        subst hQ
        exact r_iret (τ, ζ, ρ) C hW hr hk dX7_told_95 ⟨(show sp_told τ w = ((τ.1 13), τ) from by unfold sp_told; (repeat (first | rw [if_pos (by omega)] | rw [if_neg (by omega)])); first | done | rfl), (XZ_eq h_z rfl rfl rfl rfl rfl rfl rfl rfl rfl rfl rfl rfl rfl rfl rfl rfl rfl rfl rfl)⟩
      by_cases c_4_4 : (w).toInt = 4
      · skip
        refine lv_tableIn C.1 C.2.1 dX7_told_26 (off := 70) (tgt := 96) (by omega) (by omega) (by rw [show (w).toInt = 4 by omega]; rfl) (by decide) ?_
        refine lv_aload_n C.1 C.2.1 dX7_told_96 rfl (lv_at hl 1 rfl) ?_
        refine xG_DishHouse_run C hW bF_X7_47 dX7_told_97 ?_
        refine xG_Run_endedAt C hW bF_X7_238 (v := (τ.1 14)) rfl dX7_told_100 ?_
        subst hQ
        exact r_iret (τ, ζ, ρ) C hW hr hk dX7_told_103 ⟨(show sp_told τ w = ((τ.1 14), τ) from by unfold sp_told; (repeat (first | rw [if_pos (by omega)] | rw [if_neg (by omega)])); first | done | rfl), (XZ_eq h_z rfl rfl rfl rfl rfl rfl rfl rfl rfl rfl rfl rfl rfl rfl rfl rfl rfl rfl rfl)⟩
      by_cases c_4_5 : (w).toInt = 5
      · skip
        refine lv_tableIn C.1 C.2.1 dX7_told_26 (off := 78) (tgt := 104) (by omega) (by omega) (by rw [show (w).toInt = 5 by omega]; rfl) (by decide) ?_
        refine lv_aload_n C.1 C.2.1 dX7_told_104 rfl (lv_at hl 1 rfl) ?_
        refine xG_DishHouse_run C hW bF_X7_47 dX7_told_105 ?_
        refine xG_Run_turning C hW bF_X7_241 (v := (τ.1 15)) rfl dX7_told_108 ?_
        subst hQ
        exact r_iret (τ, ζ, ρ) C hW hr hk dX7_told_111 ⟨(show sp_told τ w = ((τ.1 15), τ) from by unfold sp_told; (repeat (first | rw [if_pos (by omega)] | rw [if_neg (by omega)])); first | done | rfl), (XZ_eq h_z rfl rfl rfl rfl rfl rfl rfl rfl rfl rfl rfl rfl rfl rfl rfl rfl rfl rfl rfl)⟩
      refine lv_tableOut C.1 C.2.1 dX7_told_26 (tgt := 112) (by omega) (by decide) ?_
      refine lv_bipush C.1 C.2.1 (v := (-2)) dX7_told_112 (by decide) ?_
      subst hQ
      exact r_iret (τ, ζ, ρ) C hW hr hk dX7_told_114 ⟨(show sp_told τ w = ((-2), τ) from by unfold sp_told; (repeat (first | rw [if_pos (by omega)] | rw [if_neg (by omega)])); first | done | rfl), (XZ_eq h_z rfl rfl rfl rfl rfl rfl rfl rfl rfl rfl rfl rfl rfl rfl rfl rfl rfl rfl rfl)⟩
    · skip
      have k_3 := (tn_le (show (8 : Int32).toInt = 8 from by decide) (rfl : ((w - 10)).toInt = ((w - 10)).toInt)).mp c_3
      refine lv_aload_n C.1 C.2.1 dX7_told_15 rfl (lv_at hl 1 rfl) ?_
      refine xG_DishHouse_run C hW bF_X7_47 dX7_told_16 ?_
      refine xG_Run_watchedOf C hW bF_X7_223 dX7_told_19 ?_
      refine lv_iload_n C.1 C.2.1 dX7_told_22 rfl (lv_at hl 0 rfl) ?_
      refine xL_27 C hW ((((w - 10)).toInt).toNat) ((rfl : ((w - 10)).toInt = ((w - 10)).toInt).trans (by omega)) (by omega) (v := (τ.2.1 21 ((((w - 10)).toInt).toNat))) rfl dX7_told_23 ?_
      subst hQ
      exact r_iret (τ, ζ, ρ) C hW hr hk dX7_told_24 ⟨(show sp_told τ w = ((τ.2.1 21 ((((w - 10)).toInt).toNat)), τ) from by unfold sp_told; rw [show (w - 10).toInt = w.toInt - 10 by omega]; (repeat (first | rw [if_pos (by omega)] | rw [if_neg (by omega)])); first | done | rfl), (XZ_eq h_z rfl rfl rfl rfl rfl rfl rfl rfl rfl rfl rfl rfl rfl rfl rfl rfl rfl rfl rfl)⟩
set_option maxHeartbeats 4000000 in
set_option maxRecDepth 100000 in
theorem c_X7_count (l : Launch) (G : GG) (q : Nat → Nat) (nd sz : Nat) (τ ζ : ST) (ρ : RF) (w : Int32) (h_nd : nd ≤ 6) (h_z : XZ q nd τ ζ ρ) : Met l yX7_count (WSb yX7_count cX7_count 2 (some .int)) (rmA 1 20) (va_Pc [.ref (q 0), .int w] (PW G (28 + 3 * nd) q sz (eX G q τ ζ ρ))) (va_Qi (fun (r : Int32) (u : (ST × ST × RF)) => sp_count τ w = (r, u.1) ∧ XZ q nd u.1 u.2.1 u.2.2) (fun u => BW G (28 + 3 * nd) q (eX G q u.1 u.2.1 u.2.2)) (FA (28 + 3 * nd) q sz)) 0 0 (FA (28 + 3 * nd) q sz) := by
  refine Met_B (own := RX7) rfl (by decide) (Nat.le_of_ble_eq_true rfl) (fun p e s m args below meth c ls hsz C hW hr hk hl QQ hQ => ?_)
  subst hsz
  have hl : lv_has ls 2 [(0, .ref (q 0)), (1, .int w)] := hl
  have h_n : (τ.1 0).toInt = (nd : Int) := h_z.1
  have h_r := h_z.2.1
  refine lv_iload_n C.1 C.2.1 dX7_count_0 rfl (lv_at hl 1 rfl) ?_
  have e_1 : (w).toInt = (w).toInt := (rfl : (w).toInt = (w).toInt)
  by_cases c_1_0 : (w).toInt = 0
  · skip
    refine lv_tableIn C.1 C.2.1 dX7_count_1 (off := 43) (tgt := 44) (by omega) (by omega) (by rw [show (w).toInt = 0 by omega]; rfl) (by decide) ?_
    refine lv_aload_n C.1 C.2.1 dX7_count_44 rfl (lv_at hl 0 rfl) ?_
    refine xG_DishHouse_row C hW bF_X7_12 dX7_count_45 ?_
    refine xG_Row_size C hW bF_X7_244 (v := (τ.1 0)) rfl dX7_count_48 ?_
    subst hQ
    exact r_iret (τ, ζ, ρ) C hW hr hk dX7_count_51 ⟨(show sp_count τ w = ((τ.1 0), τ) from by unfold sp_count; (repeat (first | rw [if_pos (by omega)] | rw [if_neg (by omega)])); first | done | rfl), (XZ_eq h_z rfl rfl rfl rfl rfl rfl rfl rfl rfl rfl rfl rfl rfl rfl rfl rfl rfl rfl rfl)⟩
  by_cases c_1_1 : (w).toInt = 1
  · skip
    refine lv_tableIn C.1 C.2.1 dX7_count_1 (off := 51) (tgt := 52) (by omega) (by omega) (by rw [show (w).toInt = 1 by omega]; rfl) (by decide) ?_
    refine lv_aload_n C.1 C.2.1 dX7_count_52 rfl (lv_at hl 0 rfl) ?_
    refine xG_DishHouse_row C hW bF_X7_12 dX7_count_53 ?_
    refine xG_Row_flags C hW bF_X7_245 (v := (τ.1 2)) rfl dX7_count_56 ?_
    subst hQ
    exact r_iret (τ, ζ, ρ) C hW hr hk dX7_count_59 ⟨(show sp_count τ w = ((τ.1 2), τ) from by unfold sp_count; (repeat (first | rw [if_pos (by omega)] | rw [if_neg (by omega)])); first | done | rfl), (XZ_eq h_z rfl rfl rfl rfl rfl rfl rfl rfl rfl rfl rfl rfl rfl rfl rfl rfl rfl rfl rfl)⟩
  by_cases c_1_2 : (w).toInt = 2
  · skip
    refine lv_tableIn C.1 C.2.1 dX7_count_1 (off := 59) (tgt := 60) (by omega) (by omega) (by rw [show (w).toInt = 2 by omega]; rfl) (by decide) ?_
    refine lv_aload_n C.1 C.2.1 dX7_count_60 rfl (lv_at hl 0 rfl) ?_
    refine xG_DishHouse_points C hW bF_X7_26 dX7_count_61 ?_
    refine xG_Points_size C hW bF_X7_163 (v := (τ.1 3)) rfl dX7_count_64 ?_
    subst hQ
    exact r_iret (τ, ζ, ρ) C hW hr hk dX7_count_67 ⟨(show sp_count τ w = ((τ.1 3), τ) from by unfold sp_count; (repeat (first | rw [if_pos (by omega)] | rw [if_neg (by omega)])); first | done | rfl), (XZ_eq h_z rfl rfl rfl rfl rfl rfl rfl rfl rfl rfl rfl rfl rfl rfl rfl rfl rfl rfl rfl)⟩
  by_cases c_1_3 : (w).toInt = 3
  · skip
    refine lv_tableIn C.1 C.2.1 dX7_count_1 (off := 67) (tgt := 68) (by omega) (by omega) (by rw [show (w).toInt = 3 by omega]; rfl) (by decide) ?_
    refine lv_aload_n C.1 C.2.1 dX7_count_68 rfl (lv_at hl 0 rfl) ?_
    refine xG_DishHouse_board C hW bF_X7_33 dX7_count_69 ?_
    refine xG_Board_parts C hW bF_X7_192 (v := (τ.1 4)) rfl dX7_count_72 ?_
    subst hQ
    exact r_iret (τ, ζ, ρ) C hW hr hk dX7_count_75 ⟨(show sp_count τ w = ((τ.1 4), τ) from by unfold sp_count; (repeat (first | rw [if_pos (by omega)] | rw [if_neg (by omega)])); first | done | rfl), (XZ_eq h_z rfl rfl rfl rfl rfl rfl rfl rfl rfl rfl rfl rfl rfl rfl rfl rfl rfl rfl rfl)⟩
  by_cases c_1_4 : (w).toInt = 4
  · skip
    refine lv_tableIn C.1 C.2.1 dX7_count_1 (off := 75) (tgt := 76) (by omega) (by omega) (by rw [show (w).toInt = 4 by omega]; rfl) (by decide) ?_
    refine lv_aload_n C.1 C.2.1 dX7_count_76 rfl (lv_at hl 0 rfl) ?_
    refine xG_DishHouse_program C hW bF_X7_40 dX7_count_77 ?_
    refine xG_Program_size C hW bF_X7_217 (v := (τ.1 9)) rfl dX7_count_80 ?_
    subst hQ
    exact r_iret (τ, ζ, ρ) C hW hr hk dX7_count_83 ⟨(show sp_count τ w = ((τ.1 9), τ) from by unfold sp_count; (repeat (first | rw [if_pos (by omega)] | rw [if_neg (by omega)])); first | done | rfl), (XZ_eq h_z rfl rfl rfl rfl rfl rfl rfl rfl rfl rfl rfl rfl rfl rfl rfl rfl rfl rfl rfl)⟩
  by_cases c_1_5 : (w).toInt = 5
  · skip
    refine lv_tableIn C.1 C.2.1 dX7_count_1 (off := 83) (tgt := 84) (by omega) (by omega) (by rw [show (w).toInt = 5 by omega]; rfl) (by decide) ?_
    refine lv_aload_n C.1 C.2.1 dX7_count_84 rfl (lv_at hl 0 rfl) ?_
    refine xG_DishHouse_board C hW bF_X7_33 dX7_count_85 ?_
    refine go_i hW (run_V (o := 14) (As := []) (rest := []) C hW (by omega) rfl rfl (c_X0_windowCells l G q nd _ τ ζ ρ   h_nd) (cw_V 0 C bL_X7_186 bI_X0_windowCells bV_X0_windowCells bN_X0 bC_X0_windowCells ⟨rfl, rfl⟩ (by decide +kernel) ⟨Nat.le_of_ble_eq_true rfl, Nat.le_of_ble_eq_true rfl⟩) rfl hl.1 rfl (Nat.le_of_ble_eq_true rfl) dX7_count_88 ⟨Nat.le_refl _, Nat.le_refl _⟩) (fun r_2 u_2 H locs hp_2 hW => ?_)
    rcases hp_2 with ⟨rfl, rfl⟩
    have hW : WB G (28 + 3 * nd) q (eX G q τ ζ ρ) s H locs := hW
    subst hQ
    exact r_iret (τ, ζ, ρ) C hW hr hk dX7_count_91 ⟨(show sp_count τ w = (((τ.1 6 - τ.1 5 + 1) * (τ.1 8 - τ.1 7 + 1)), τ) from by unfold sp_count; (repeat (first | rw [if_pos (by omega)] | rw [if_neg (by omega)])); first | done | rfl), (XZ_eq h_z rfl rfl rfl rfl rfl rfl rfl rfl rfl rfl rfl rfl rfl rfl rfl rfl rfl rfl rfl)⟩
  by_cases c_1_6 : (w).toInt = 6
  · skip
    refine lv_tableIn C.1 C.2.1 dX7_count_1 (off := 91) (tgt := 92) (by omega) (by omega) (by rw [show (w).toInt = 6 by omega]; rfl) (by decide) ?_
    refine lv_aload_n C.1 C.2.1 dX7_count_92 rfl (lv_at hl 0 rfl) ?_
    refine xG_DishHouse_finding C hW bF_X7_248 (v := (τ.1 1)) rfl dX7_count_93 ?_
    subst hQ
    exact r_iret (τ, ζ, ρ) C hW hr hk dX7_count_96 ⟨(show sp_count τ w = ((τ.1 1), τ) from by unfold sp_count; (repeat (first | rw [if_pos (by omega)] | rw [if_neg (by omega)])); first | done | rfl), (XZ_eq h_z rfl rfl rfl rfl rfl rfl rfl rfl rfl rfl rfl rfl rfl rfl rfl rfl rfl rfl rfl)⟩
  refine lv_tableOut C.1 C.2.1 dX7_count_1 (tgt := 97) (by omega) (by decide) ?_
  refine lv_bipush C.1 C.2.1 (v := (-2)) dX7_count_97 (by decide) ?_
  subst hQ
  exact r_iret (τ, ζ, ρ) C hW hr hk dX7_count_99 ⟨(show sp_count τ w = ((-2), τ) from by unfold sp_count; (repeat (first | rw [if_pos (by omega)] | rw [if_neg (by omega)])); first | done | rfl), (XZ_eq h_z rfl rfl rfl rfl rfl rfl rfl rfl rfl rfl rfl rfl rfl rfl rfl rfl rfl rfl rfl)⟩
set_option maxHeartbeats 4000000 in
set_option maxRecDepth 100000 in
theorem c_X7_back (l : Launch) (G : GG) (q : Nat → Nat) (nd sz : Nat) (τ ζ : ST) (ρ : RF) (h_nd : nd ≤ 6) (h_z : XZ q nd τ ζ ρ) (h_pt : 0 ≤ (τ.1 4).toInt ∧ (τ.1 4).toInt ≤ 200) : Met l yX7_back (WSb yX7_back cX7_back 1 (some .int)) (rmA 3 68) (va_Pc [.ref (q 0)] (PW G (28 + 3 * nd) q sz (eX G q τ ζ ρ))) (va_Qi (fun (r : Int32) (u : (ST × ST × RF)) => sp_back τ = (r, u.1) ∧ XZ q nd u.1 u.2.1 u.2.2) (fun u => BW G (28 + 3 * nd) q (eX G q u.1 u.2.1 u.2.2)) (FA (28 + 3 * nd) q sz)) 0 0 (FA (28 + 3 * nd) q sz) := by
  refine Met_B (own := RX7) rfl (by decide) (Nat.le_of_ble_eq_true rfl) (fun p e s m args below meth c ls hsz C hW hr hk hl QQ hQ => ?_)
  subst hsz
  have hl : lv_has ls 1 [(0, .ref (q 0))] := hl
  have h_n : (τ.1 0).toInt = (nd : Int) := h_z.1
  have h_r := h_z.2.1
  have h_kt := h_z.2.2.2.2.1
  refine lv_aload_n C.1 C.2.1 dX7_back_0 rfl (lv_at hl 0 rfl) ?_
  refine xG_DishHouse_board C hW bF_X7_33 dX7_back_1 ?_
  refine xG_Board_parts C hW bF_X7_192 (v := (τ.1 4)) rfl dX7_back_4 ?_
  refine lv_if_gt C.1 C.2.1 (tgt := 13) dX7_back_7 (by decide) (fun c_1 => ?_) (fun c_1 => ?_)
  · skip
    have k_1 := (tc_lt (show (0 : Int32).toInt = 0 from by decide) (rfl : ((τ.1 4)).toInt = ((τ.1 4)).toInt)).mp c_1
    refine lv_aload_n C.1 C.2.1 dX7_back_13 rfl (lv_at hl 0 rfl) ?_
    refine xG_DishHouse_board C hW bF_X7_33 dX7_back_14 ?_
    refine go_v hW (run_V (o := 14) (As := []) (rest := []) C hW (by omega) rfl rfl (c_X0_putBack l G q nd _ τ ζ ρ   h_nd h_pt (by omega) h_kt) (cw_V 0 C bL_X7_204 bI_X0_putBack bV_X0_putBack bN_X0 bC_X0_putBack ⟨rfl, rfl⟩ (by decide +kernel) ⟨Nat.le_of_ble_eq_true rfl, Nat.le_of_ble_eq_true rfl⟩) rfl hl.1 rfl (Nat.le_of_ble_eq_true rfl) dX7_back_17 ⟨Nat.le_refl _, Nat.le_refl _⟩) (fun u_2 H locs hp_2 hW => ?_)
    obtain rfl := hp_2
    have hW : WB G (28 + 3 * nd) q (eX G q (lay (sg τ 4 (τ.1 4 - 1)) (τ.2.1 14 ((τ.1 4).toInt - 1).toNat) (τ.2.2 1 ((τ.1 4).toInt - 1).toNat)) ζ ρ) s H locs := hW
    refine lv_aload_n C.1 C.2.1 dX7_back_20 rfl (lv_at hl 0 rfl) ?_
    refine xG_DishHouse_board C hW bF_X7_33 dX7_back_21 ?_
    refine xG_Board_parts C hW bF_X7_192 (v := ((lay (sg τ 4 (τ.1 4 - 1)) (τ.2.1 14 ((τ.1 4).toInt - 1).toNat) (τ.2.2 1 ((τ.1 4).toInt - 1).toNat)).1 4)) rfl dX7_back_24 ?_
    subst hQ
    exact r_iret ((lay (sg τ 4 (τ.1 4 - 1)) (τ.2.1 14 ((τ.1 4).toInt - 1).toNat) (τ.2.2 1 ((τ.1 4).toInt - 1).toNat)), ζ, ρ) C hW hr hk dX7_back_27 ⟨(show sp_back τ  = (((lay (sg τ 4 (τ.1 4 - 1)) (τ.2.1 14 ((τ.1 4).toInt - 1).toNat) (τ.2.2 1 ((τ.1 4).toInt - 1).toNat)).1 4), (lay (sg τ 4 (τ.1 4 - 1)) (τ.2.1 14 ((τ.1 4).toInt - 1).toNat) (τ.2.2 1 ((τ.1 4).toInt - 1).toNat))) from by unfold sp_back; (repeat (first | rw [if_pos (by omega)] | rw [if_neg (by omega)])); first | done | rfl), (XZ_eq h_z rfl rfl rfl rfl rfl rfl rfl rfl rfl rfl rfl rfl rfl rfl rfl rfl rfl rfl rfl)⟩
  · skip
    have k_1 := (tn_lt (show (0 : Int32).toInt = 0 from by decide) (rfl : ((τ.1 4)).toInt = ((τ.1 4)).toInt)).mp c_1
    refine lv_bipush C.1 C.2.1 (v := (-4)) dX7_back_10 (by decide) ?_
    subst hQ
    exact r_iret (τ, ζ, ρ) C hW hr hk dX7_back_12 ⟨(show sp_back τ  = ((-4), τ) from by unfold sp_back; (repeat (first | rw [if_pos (by omega)] | rw [if_neg (by omega)])); first | done | rfl), (XZ_eq h_z rfl rfl rfl rfl rfl rfl rfl rfl rfl rfl rfl rfl rfl rfl rfl rfl rfl rfl rfl)⟩
set_option maxHeartbeats 4000000 in
set_option maxRecDepth 100000 in
theorem c_X7_ticks (l : Launch) (G : GG) (q : Nat → Nat) (nd sz : Nat) (τ ζ : ST) (ρ : RF) (i : Int32) (j : Int32) (h_nd : nd ≤ 6) (h_z : XZ q nd τ ζ ρ) (h_f : 0 ≤ (τ.1 2).toInt ∧ (τ.1 2).toInt ≤ 40) (h_s : ∀ d : Nat, d < 6 → 0 ≤ (τ.2.1 6 d).toInt ∧ (τ.2.1 6 d).toInt ≤ 100) (h_l : ∀ d : Nat, d < 6 → 0 ≤ (τ.2.1 2 d).toInt ∧ (τ.2.1 2 d).toInt ≤ 30) : Met l yX7_ticks (WSb yX7_ticks cX7_ticks 5 (some .int)) (rmA 3 65) (va_Pc [.ref (q 0), .int i, .int j] (PW G (28 + 3 * nd) q sz (eX G q τ ζ ρ))) (va_Qi (fun (r : Int32) (u : (ST × ST × RF)) => sp_ticks τ i j = (r, u.1) ∧ XZ q nd u.1 u.2.1 u.2.2) (fun u => BW G (28 + 3 * nd) q (eX G q u.1 u.2.1 u.2.2)) (FA (28 + 3 * nd) q sz)) 0 0 (FA (28 + 3 * nd) q sz) := by
  refine Met_B (own := RX7) rfl (by decide) (Nat.le_of_ble_eq_true rfl) (fun p e s m args below meth c ls hsz C hW hr hk hl QQ hQ => ?_)
  subst hsz
  have hl : lv_has ls 5 [(0, .ref (q 0)), (1, .int i), (2, .int j)] := hl
  have h_n : (τ.1 0).toInt = (nd : Int) := h_z.1
  have h_r := h_z.2.1
  have h_dk := XZ_dOk h_z h_nd h_f h_s h_l
  refine lv_aload_n C.1 C.2.1 dX7_ticks_0 rfl (lv_at hl 0 rfl) ?_
  refine xG_DishHouse_row C hW bF_X7_12 dX7_ticks_1 ?_
  refine lv_iload_n C.1 C.2.1 dX7_ticks_4 rfl (lv_at hl 1 rfl) ?_
  refine go_q hW (run_V (o := 1) (As := [.int i]) (rest := []) C hW (by omega) rfl rfl (c_X4_find l G q nd _ τ ζ ρ i  h_nd h_n h_r) (cw_V 1 C bL_X7_59 bI_X4_find bV_X4_find bN_X4 bC_X4_find ⟨rfl, rfl⟩ (by decide +kernel) ⟨Nat.le_of_ble_eq_true rfl, Nat.le_of_ble_eq_true rfl⟩) rfl hl.1 rfl (Nat.le_of_ble_eq_true rfl) dX7_ticks_5 ⟨Nat.le_refl _, Nat.le_refl _⟩) (fun r_1 u_1 H locs hp_1 hW => ?_)
  rcases hp_1 with ⟨rfl, rfl, k_1⟩ | ⟨rfl, rfl, k_1_0, k_1_1⟩
  · skip
    have hW : WB G (28 + 3 * nd) q (eX G q τ ζ ρ) s H locs := hW
    refine lv_astore_nN (lv' := [(3, .null), (0, .ref (q 0)), (1, .int i), (2, .int j)]) C.1 C.2.1 dX7_ticks_8 rfl hl (by decide) rfl (fun ls hl => ?_)
    refine lv_aload_n C.1 C.2.1 dX7_ticks_9 rfl (lv_at hl 1 rfl) ?_
    refine xG_DishHouse_row C hW bF_X7_12 dX7_ticks_10 ?_
    refine lv_iload_n C.1 C.2.1 dX7_ticks_13 rfl (lv_at hl 3 rfl) ?_
    refine go_q hW (run_V (o := 1) (As := [.int j]) (rest := []) C hW (by omega) rfl rfl (c_X4_find l G q nd _ τ ζ ρ j  h_nd h_n h_r) (cw_V 1 C bL_X7_59 bI_X4_find bV_X4_find bN_X4 bC_X4_find ⟨rfl, rfl⟩ (by decide +kernel) ⟨Nat.le_of_ble_eq_true rfl, Nat.le_of_ble_eq_true rfl⟩) rfl hl.1 rfl (Nat.le_of_ble_eq_true rfl) dX7_ticks_14 ⟨Nat.le_refl _, Nat.le_refl _⟩) (fun r_2 u_2 H locs hp_2 hW => ?_)
    rcases hp_2 with ⟨rfl, rfl, k_2⟩ | ⟨rfl, rfl, k_2_0, k_2_1⟩
    · skip
      have hW : WB G (28 + 3 * nd) q (eX G q τ ζ ρ) s H locs := hW
      refine lv_astoreN (lv' := [(4, .null), (3, .null), (0, .ref (q 0)), (1, .int i), (2, .int j)]) C.1 C.2.1 dX7_ticks_17 hl (by decide) rfl (fun ls hl => ?_)
      refine lv_aload_nN C.1 C.2.1 dX7_ticks_19 rfl (lv_at hl 1 rfl) ?_
      refine lv_ifnullN C.1 C.2.1 (tgt := 28) dX7_ticks_20 (by decide) ?_
      refine lv_bipush C.1 C.2.1 (v := (-2)) dX7_ticks_28 (by decide) ?_
      subst hQ
      exact r_iret (τ, ζ, ρ) C hW hr hk dX7_ticks_30 ⟨(show sp_ticks τ i j = ((-2), τ) from by unfold sp_ticks; (repeat (first | rw [if_pos (by omega)] | rw [if_neg (by omega)])); first | done | rfl), (XZ_eq h_z rfl rfl rfl rfl rfl rfl rfl rfl rfl rfl rfl rfl rfl rfl rfl rfl rfl rfl rfl)⟩
    · skip
      have hW : WB G (28 + 3 * nd) q (eX G q τ ζ ρ) s H locs := hW
      refine lv_astore (lv' := [(4, .ref (q (28 + 3 * ((j).toInt).toNat))), (3, .null), (0, .ref (q 0)), (1, .int i), (2, .int j)]) C.1 C.2.1 dX7_ticks_17 hl (by decide) rfl (fun ls hl => ?_)
      refine lv_aload_nN C.1 C.2.1 dX7_ticks_19 rfl (lv_at hl 1 rfl) ?_
      refine lv_ifnullN C.1 C.2.1 (tgt := 28) dX7_ticks_20 (by decide) ?_
      refine lv_bipush C.1 C.2.1 (v := (-2)) dX7_ticks_28 (by decide) ?_
      subst hQ
      exact r_iret (τ, ζ, ρ) C hW hr hk dX7_ticks_30 ⟨(show sp_ticks τ i j = ((-2), τ) from by unfold sp_ticks; (repeat (first | rw [if_pos (by omega)] | rw [if_neg (by omega)])); first | done | rfl), (XZ_eq h_z rfl rfl rfl rfl rfl rfl rfl rfl rfl rfl rfl rfl rfl rfl rfl rfl rfl rfl rfl)⟩
  · skip
    have hW : WB G (28 + 3 * nd) q (eX G q τ ζ ρ) s H locs := hW
    refine lv_astore_n (lv' := [(3, .ref (q (28 + 3 * ((i).toInt).toNat))), (0, .ref (q 0)), (1, .int i), (2, .int j)]) C.1 C.2.1 dX7_ticks_8 rfl hl (by decide) rfl (fun ls hl => ?_)
    refine lv_aload_n C.1 C.2.1 dX7_ticks_9 rfl (lv_at hl 1 rfl) ?_
    refine xG_DishHouse_row C hW bF_X7_12 dX7_ticks_10 ?_
    refine lv_iload_n C.1 C.2.1 dX7_ticks_13 rfl (lv_at hl 3 rfl) ?_
    refine go_q hW (run_V (o := 1) (As := [.int j]) (rest := []) C hW (by omega) rfl rfl (c_X4_find l G q nd _ τ ζ ρ j  h_nd h_n h_r) (cw_V 1 C bL_X7_59 bI_X4_find bV_X4_find bN_X4 bC_X4_find ⟨rfl, rfl⟩ (by decide +kernel) ⟨Nat.le_of_ble_eq_true rfl, Nat.le_of_ble_eq_true rfl⟩) rfl hl.1 rfl (Nat.le_of_ble_eq_true rfl) dX7_ticks_14 ⟨Nat.le_refl _, Nat.le_refl _⟩) (fun r_3 u_3 H locs hp_3 hW => ?_)
    rcases hp_3 with ⟨rfl, rfl, k_3⟩ | ⟨rfl, rfl, k_3_0, k_3_1⟩
    · skip
      have hW : WB G (28 + 3 * nd) q (eX G q τ ζ ρ) s H locs := hW
      refine lv_astoreN (lv' := [(4, .null), (3, .ref (q (28 + 3 * ((i).toInt).toNat))), (0, .ref (q 0)), (1, .int i), (2, .int j)]) C.1 C.2.1 dX7_ticks_17 hl (by decide) rfl (fun ls hl => ?_)
      refine lv_aload_n C.1 C.2.1 dX7_ticks_19 rfl (lv_at hl 1 rfl) ?_
      refine lv_ifnull C.1 C.2.1 dX7_ticks_20 ?_
      refine lv_aloadN C.1 C.2.1 dX7_ticks_23 (lv_at hl 0 rfl) ?_
      refine lv_ifnonnullN C.1 C.2.1 dX7_ticks_25 ?_
      refine lv_bipush C.1 C.2.1 (v := (-2)) dX7_ticks_28 (by decide) ?_
      subst hQ
      exact r_iret (τ, ζ, ρ) C hW hr hk dX7_ticks_30 ⟨(show sp_ticks τ i j = ((-2), τ) from by unfold sp_ticks; (repeat (first | rw [if_pos (by omega)] | rw [if_neg (by omega)])); first | done | rfl), (XZ_eq h_z rfl rfl rfl rfl rfl rfl rfl rfl rfl rfl rfl rfl rfl rfl rfl rfl rfl rfl rfl)⟩
    · skip
      have hW : WB G (28 + 3 * nd) q (eX G q τ ζ ρ) s H locs := hW
      refine lv_astore (lv' := [(4, .ref (q (28 + 3 * ((j).toInt).toNat))), (3, .ref (q (28 + 3 * ((i).toInt).toNat))), (0, .ref (q 0)), (1, .int i), (2, .int j)]) C.1 C.2.1 dX7_ticks_17 hl (by decide) rfl (fun ls hl => ?_)
      refine lv_aload_n C.1 C.2.1 dX7_ticks_19 rfl (lv_at hl 1 rfl) ?_
      refine lv_ifnull C.1 C.2.1 dX7_ticks_20 ?_
      refine lv_aload C.1 C.2.1 dX7_ticks_23 (lv_at hl 0 rfl) ?_
      refine lv_ifnonnull C.1 C.2.1 (tgt := 31) dX7_ticks_25 (by decide) ?_
      refine lv_aload_n C.1 C.2.1 dX7_ticks_31 rfl (lv_at hl 1 rfl) ?_
      refine lv_aload C.1 C.2.1 dX7_ticks_32 (lv_at hl 0 rfl) ?_
      have := (h_dk (((j).toInt).toNat) (by omega)).2.2.2.1
      refine go_i hW (run_V (o := 28 + 3 * (((i).toInt).toNat)) (As := [.ref (q (28 + 3 * ((j).toInt).toNat))]) (rest := []) C hW (by omega) (eX_obj _ _ _ _ _ (((i).toInt).toNat)) rfl (c_X1_ticksWith l G q nd _ τ ζ ρ  (((i).toInt).toNat) (((j).toInt).toNat) h_nd (by omega) (by omega) (h_dk _ (by omega)) (h_dk _ (by omega))) (cw_V 1 C bL_X7_126 bI_X1_ticksWith bV_X1_ticksWith bN_X1 bC_X1_ticksWith ⟨rfl, rfl⟩ (by decide +kernel) ⟨Nat.le_of_ble_eq_true rfl, Nat.le_of_ble_eq_true rfl⟩) rfl hl.1 rfl (Nat.le_of_ble_eq_true rfl) dX7_ticks_34 ⟨Nat.le_refl _, Nat.le_refl _⟩) (fun r_4 u_4 H locs hp_4 hW => ?_)
      rcases hp_4 with ⟨rfl, rfl⟩
      have hW : WB G (28 + 3 * nd) q (eX G q τ ζ ρ) s H locs := hW
      subst hQ
      exact r_iret (τ, ζ, ρ) C hW hr hk dX7_ticks_37 ⟨(show sp_ticks τ i j = ((nI (tck τ (((i).toInt).toNat) (((j).toInt).toNat))), τ) from by unfold sp_ticks; (repeat (first | rw [if_pos (by omega)] | rw [if_neg (by omega)])); first | done | rfl), (XZ_eq h_z rfl rfl rfl rfl rfl rfl rfl rfl rfl rfl rfl rfl rfl rfl rfl rfl rfl rfl rfl)⟩
set_option maxHeartbeats 4000000 in
set_option maxRecDepth 100000 in
theorem c_X7_product (l : Launch) (G : GG) (q : Nat → Nat) (nd sz : Nat) (τ ζ : ST) (ρ : RF) (i : Int32) (j : Int32) (h_nd : nd ≤ 6) (h_z : XZ q nd τ ζ ρ) (h_f : 0 ≤ (τ.1 2).toInt ∧ (τ.1 2).toInt ≤ 40) (h_s : ∀ d : Nat, d < 6 → 0 ≤ (τ.2.1 6 d).toInt ∧ (τ.2.1 6 d).toInt ≤ 100) (h_l : ∀ d : Nat, d < 6 → 0 ≤ (τ.2.1 2 d).toInt ∧ (τ.2.1 2 d).toInt ≤ 30) : Met l yX7_product (WSb yX7_product cX7_product 5 (some .long)) (rmA 4 90) (va_Pc [.ref (q 0), .int i, .int j] (PW G (28 + 3 * nd) q sz (eX G q τ ζ ρ))) (va_Ql (fun (r : Int64) (u : (ST × ST × RF)) => sp_product τ i j = (r, u.1) ∧ XZ q nd u.1 u.2.1 u.2.2) (fun u => BW G (28 + 3 * nd) q (eX G q u.1 u.2.1 u.2.2)) (FA (28 + 3 * nd) q sz)) 0 0 (FA (28 + 3 * nd) q sz) := by
  refine Met_B (own := RX7) rfl (by decide) (Nat.le_of_ble_eq_true rfl) (fun p e s m args below meth c ls hsz C hW hr hk hl QQ hQ => ?_)
  subst hsz
  have hl : lv_has ls 5 [(0, .ref (q 0)), (1, .int i), (2, .int j)] := hl
  have h_n : (τ.1 0).toInt = (nd : Int) := h_z.1
  have h_r := h_z.2.1
  have h_dk := XZ_dOk h_z h_nd h_f h_s h_l
  refine lv_aload_n C.1 C.2.1 dX7_product_0 rfl (lv_at hl 0 rfl) ?_
  refine xG_DishHouse_row C hW bF_X7_12 dX7_product_1 ?_
  refine lv_iload_n C.1 C.2.1 dX7_product_4 rfl (lv_at hl 1 rfl) ?_
  refine go_q hW (run_V (o := 1) (As := [.int i]) (rest := []) C hW (by omega) rfl rfl (c_X4_find l G q nd _ τ ζ ρ i  h_nd h_n h_r) (cw_V 1 C bL_X7_59 bI_X4_find bV_X4_find bN_X4 bC_X4_find ⟨rfl, rfl⟩ (by decide +kernel) ⟨Nat.le_of_ble_eq_true rfl, Nat.le_of_ble_eq_true rfl⟩) rfl hl.1 rfl (Nat.le_of_ble_eq_true rfl) dX7_product_5 ⟨Nat.le_refl _, Nat.le_refl _⟩) (fun r_1 u_1 H locs hp_1 hW => ?_)
  rcases hp_1 with ⟨rfl, rfl, k_1⟩ | ⟨rfl, rfl, k_1_0, k_1_1⟩
  · skip
    have hW : WB G (28 + 3 * nd) q (eX G q τ ζ ρ) s H locs := hW
    refine lv_astore_nN (lv' := [(3, .null), (0, .ref (q 0)), (1, .int i), (2, .int j)]) C.1 C.2.1 dX7_product_8 rfl hl (by decide) rfl (fun ls hl => ?_)
    refine lv_aload_n C.1 C.2.1 dX7_product_9 rfl (lv_at hl 1 rfl) ?_
    refine xG_DishHouse_row C hW bF_X7_12 dX7_product_10 ?_
    refine lv_iload_n C.1 C.2.1 dX7_product_13 rfl (lv_at hl 3 rfl) ?_
    refine go_q hW (run_V (o := 1) (As := [.int j]) (rest := []) C hW (by omega) rfl rfl (c_X4_find l G q nd _ τ ζ ρ j  h_nd h_n h_r) (cw_V 1 C bL_X7_59 bI_X4_find bV_X4_find bN_X4 bC_X4_find ⟨rfl, rfl⟩ (by decide +kernel) ⟨Nat.le_of_ble_eq_true rfl, Nat.le_of_ble_eq_true rfl⟩) rfl hl.1 rfl (Nat.le_of_ble_eq_true rfl) dX7_product_14 ⟨Nat.le_refl _, Nat.le_refl _⟩) (fun r_2 u_2 H locs hp_2 hW => ?_)
    rcases hp_2 with ⟨rfl, rfl, k_2⟩ | ⟨rfl, rfl, k_2_0, k_2_1⟩
    · skip
      have hW : WB G (28 + 3 * nd) q (eX G q τ ζ ρ) s H locs := hW
      refine lv_astoreN (lv' := [(4, .null), (3, .null), (0, .ref (q 0)), (1, .int i), (2, .int j)]) C.1 C.2.1 dX7_product_17 hl (by decide) rfl (fun ls hl => ?_)
      refine lv_aload_nN C.1 C.2.1 dX7_product_19 rfl (lv_at hl 1 rfl) ?_
      refine lv_ifnullN C.1 C.2.1 (tgt := 28) dX7_product_20 (by decide) ?_
      refine lv_ldc2 C.1 C.2.1 C.2.2.2.1 (C.2.2.2.2.1 _ bQ_X7_130) dX7_product_28 ?_
      subst hQ
      exact r_lret (τ, ζ, ρ) C hW hr hk dX7_product_31 ⟨(show sp_product τ i j = ((-9223372036854775808), τ) from by unfold sp_product; (repeat (first | rw [if_pos (by omega)] | rw [if_neg (by omega)])); first | done | rfl), (XZ_eq h_z rfl rfl rfl rfl rfl rfl rfl rfl rfl rfl rfl rfl rfl rfl rfl rfl rfl rfl rfl)⟩
    · skip
      have hW : WB G (28 + 3 * nd) q (eX G q τ ζ ρ) s H locs := hW
      refine lv_astore (lv' := [(4, .ref (q (28 + 3 * ((j).toInt).toNat))), (3, .null), (0, .ref (q 0)), (1, .int i), (2, .int j)]) C.1 C.2.1 dX7_product_17 hl (by decide) rfl (fun ls hl => ?_)
      refine lv_aload_nN C.1 C.2.1 dX7_product_19 rfl (lv_at hl 1 rfl) ?_
      refine lv_ifnullN C.1 C.2.1 (tgt := 28) dX7_product_20 (by decide) ?_
      refine lv_ldc2 C.1 C.2.1 C.2.2.2.1 (C.2.2.2.2.1 _ bQ_X7_130) dX7_product_28 ?_
      subst hQ
      exact r_lret (τ, ζ, ρ) C hW hr hk dX7_product_31 ⟨(show sp_product τ i j = ((-9223372036854775808), τ) from by unfold sp_product; (repeat (first | rw [if_pos (by omega)] | rw [if_neg (by omega)])); first | done | rfl), (XZ_eq h_z rfl rfl rfl rfl rfl rfl rfl rfl rfl rfl rfl rfl rfl rfl rfl rfl rfl rfl rfl)⟩
  · skip
    have hW : WB G (28 + 3 * nd) q (eX G q τ ζ ρ) s H locs := hW
    refine lv_astore_n (lv' := [(3, .ref (q (28 + 3 * ((i).toInt).toNat))), (0, .ref (q 0)), (1, .int i), (2, .int j)]) C.1 C.2.1 dX7_product_8 rfl hl (by decide) rfl (fun ls hl => ?_)
    refine lv_aload_n C.1 C.2.1 dX7_product_9 rfl (lv_at hl 1 rfl) ?_
    refine xG_DishHouse_row C hW bF_X7_12 dX7_product_10 ?_
    refine lv_iload_n C.1 C.2.1 dX7_product_13 rfl (lv_at hl 3 rfl) ?_
    refine go_q hW (run_V (o := 1) (As := [.int j]) (rest := []) C hW (by omega) rfl rfl (c_X4_find l G q nd _ τ ζ ρ j  h_nd h_n h_r) (cw_V 1 C bL_X7_59 bI_X4_find bV_X4_find bN_X4 bC_X4_find ⟨rfl, rfl⟩ (by decide +kernel) ⟨Nat.le_of_ble_eq_true rfl, Nat.le_of_ble_eq_true rfl⟩) rfl hl.1 rfl (Nat.le_of_ble_eq_true rfl) dX7_product_14 ⟨Nat.le_refl _, Nat.le_refl _⟩) (fun r_3 u_3 H locs hp_3 hW => ?_)
    rcases hp_3 with ⟨rfl, rfl, k_3⟩ | ⟨rfl, rfl, k_3_0, k_3_1⟩
    · skip
      have hW : WB G (28 + 3 * nd) q (eX G q τ ζ ρ) s H locs := hW
      refine lv_astoreN (lv' := [(4, .null), (3, .ref (q (28 + 3 * ((i).toInt).toNat))), (0, .ref (q 0)), (1, .int i), (2, .int j)]) C.1 C.2.1 dX7_product_17 hl (by decide) rfl (fun ls hl => ?_)
      refine lv_aload_n C.1 C.2.1 dX7_product_19 rfl (lv_at hl 1 rfl) ?_
      refine lv_ifnull C.1 C.2.1 dX7_product_20 ?_
      refine lv_aloadN C.1 C.2.1 dX7_product_23 (lv_at hl 0 rfl) ?_
      refine lv_ifnonnullN C.1 C.2.1 dX7_product_25 ?_
      refine lv_ldc2 C.1 C.2.1 C.2.2.2.1 (C.2.2.2.2.1 _ bQ_X7_130) dX7_product_28 ?_
      subst hQ
      exact r_lret (τ, ζ, ρ) C hW hr hk dX7_product_31 ⟨(show sp_product τ i j = ((-9223372036854775808), τ) from by unfold sp_product; (repeat (first | rw [if_pos (by omega)] | rw [if_neg (by omega)])); first | done | rfl), (XZ_eq h_z rfl rfl rfl rfl rfl rfl rfl rfl rfl rfl rfl rfl rfl rfl rfl rfl rfl rfl rfl)⟩
    · skip
      have hW : WB G (28 + 3 * nd) q (eX G q τ ζ ρ) s H locs := hW
      refine lv_astore (lv' := [(4, .ref (q (28 + 3 * ((j).toInt).toNat))), (3, .ref (q (28 + 3 * ((i).toInt).toNat))), (0, .ref (q 0)), (1, .int i), (2, .int j)]) C.1 C.2.1 dX7_product_17 hl (by decide) rfl (fun ls hl => ?_)
      refine lv_aload_n C.1 C.2.1 dX7_product_19 rfl (lv_at hl 1 rfl) ?_
      refine lv_ifnull C.1 C.2.1 dX7_product_20 ?_
      refine lv_aload C.1 C.2.1 dX7_product_23 (lv_at hl 0 rfl) ?_
      refine lv_ifnonnull C.1 C.2.1 (tgt := 32) dX7_product_25 (by decide) ?_
      refine lv_aload_n C.1 C.2.1 dX7_product_32 rfl (lv_at hl 1 rfl) ?_
      refine lv_aload C.1 C.2.1 dX7_product_33 (lv_at hl 0 rfl) ?_
      refine lv_aload C.1 C.2.1 dX7_product_35 (lv_at hl 0 rfl) ?_
      refine xG_Dish_delay C hW (((j).toInt).toNat) (by omega) bF_X7_63 (v := (τ.2.1 2 (((j).toInt).toNat))) rfl dX7_product_37 ?_
      have := (h_dk (((j).toInt).toNat) (by omega)).2.2.2.1
      refine go_l hW (run_V (o := 28 + 3 * (((i).toInt).toNat)) (As := [.ref (q (28 + 3 * ((j).toInt).toNat)), .int (τ.2.1 2 (((j).toInt).toNat))]) (rest := []) C hW (by omega) (eX_obj _ _ _ _ _ (((i).toInt).toNat)) rfl (c_X1_productWith l G q nd _ τ ζ ρ (τ.2.1 2 (((j).toInt).toNat)) ((((τ.2.1 2 (((j).toInt).toNat))).toInt).toNat) (((i).toInt).toNat) (((j).toInt).toNat) ((rfl : ((τ.2.1 2 (((j).toInt).toNat))).toInt = ((τ.2.1 2 (((j).toInt).toNat))).toInt).trans (by omega)) h_nd (by omega) (by omega) (h_dk _ (by omega)) (h_dk _ (by omega)) (by omega)) (cw_V 2 C bL_X7_132 bI_X1_productWith bV_X1_productWith bN_X1 bC_X1_productWith ⟨rfl, rfl⟩ (by decide +kernel) ⟨Nat.le_of_ble_eq_true rfl, Nat.le_of_ble_eq_true rfl⟩) rfl hl.1 rfl (Nat.le_of_ble_eq_true rfl) dX7_product_40 ⟨Nat.le_refl _, Nat.le_refl _⟩) (fun r_4 u_4 H locs hp_4 hW => ?_)
      rcases hp_4 with ⟨rfl, rfl⟩
      have hW : WB G (28 + 3 * nd) q (eX G q τ ζ ρ) s H locs := hW
      subst hQ
      exact r_lret (τ, ζ, ρ) C hW hr hk dX7_product_43 ⟨(show sp_product τ i j = ((prdF τ (((i).toInt).toNat) (dl τ (((i).toInt).toNat)) (((j).toInt).toNat) ((((τ.2.1 2 (((j).toInt).toNat))).toInt).toNat)), τ) from by unfold sp_product; (repeat (first | rw [if_pos (by omega)] | rw [if_neg (by omega)])); first | done | rfl), (XZ_eq h_z rfl rfl rfl rfl rfl rfl rfl rfl rfl rfl rfl rfl rfl rfl rfl rfl rfl rfl rfl)⟩
set_option maxHeartbeats 4000000 in
set_option maxRecDepth 100000 in
theorem c_X7_delay (l : Launch) (G : GG) (q : Nat → Nat) (nd sz : Nat) (τ ζ : ST) (ρ : RF) (i : Int32) (j : Int32) (h_nd : nd ≤ 6) (h_z : XZ q nd τ ζ ρ) (h_f : 0 ≤ (τ.1 2).toInt ∧ (τ.1 2).toInt ≤ 40) (h_s : ∀ d : Nat, d < 6 → 0 ≤ (τ.2.1 6 d).toInt ∧ (τ.2.1 6 d).toInt ≤ 100) (h_l : ∀ d : Nat, d < 6 → 0 ≤ (τ.2.1 2 d).toInt ∧ (τ.2.1 2 d).toInt ≤ 30) : Met l yX7_delay (WSb yX7_delay cX7_delay 5 (some .int)) (rmA 5 117) (va_Pc [.ref (q 0), .int i, .int j] (PW G (28 + 3 * nd) q sz (eX G q τ ζ ρ))) (va_Qi (fun (r : Int32) (u : (ST × ST × RF)) => sp_delay τ i j = (r, u.1) ∧ XZ q nd u.1 u.2.1 u.2.2) (fun u => BW G (28 + 3 * nd) q (eX G q u.1 u.2.1 u.2.2)) (FA (28 + 3 * nd) q sz)) 0 0 (FA (28 + 3 * nd) q sz) := by
  refine Met_B (own := RX7) rfl (by decide) (Nat.le_of_ble_eq_true rfl) (fun p e s m args below meth c ls hsz C hW hr hk hl QQ hQ => ?_)
  subst hsz
  have hl : lv_has ls 5 [(0, .ref (q 0)), (1, .int i), (2, .int j)] := hl
  have h_n : (τ.1 0).toInt = (nd : Int) := h_z.1
  have h_r := h_z.2.1
  have h_dk := XZ_dOk h_z h_nd h_f h_s h_l
  refine lv_aload_n C.1 C.2.1 dX7_delay_0 rfl (lv_at hl 0 rfl) ?_
  refine xG_DishHouse_row C hW bF_X7_12 dX7_delay_1 ?_
  refine lv_iload_n C.1 C.2.1 dX7_delay_4 rfl (lv_at hl 1 rfl) ?_
  refine go_q hW (run_V (o := 1) (As := [.int i]) (rest := []) C hW (by omega) rfl rfl (c_X4_find l G q nd _ τ ζ ρ i  h_nd h_n h_r) (cw_V 1 C bL_X7_59 bI_X4_find bV_X4_find bN_X4 bC_X4_find ⟨rfl, rfl⟩ (by decide +kernel) ⟨Nat.le_of_ble_eq_true rfl, Nat.le_of_ble_eq_true rfl⟩) rfl hl.1 rfl (Nat.le_of_ble_eq_true rfl) dX7_delay_5 ⟨Nat.le_refl _, Nat.le_refl _⟩) (fun r_1 u_1 H locs hp_1 hW => ?_)
  rcases hp_1 with ⟨rfl, rfl, k_1⟩ | ⟨rfl, rfl, k_1_0, k_1_1⟩
  · skip
    have hW : WB G (28 + 3 * nd) q (eX G q τ ζ ρ) s H locs := hW
    refine lv_astore_nN (lv' := [(3, .null), (0, .ref (q 0)), (1, .int i), (2, .int j)]) C.1 C.2.1 dX7_delay_8 rfl hl (by decide) rfl (fun ls hl => ?_)
    refine lv_aload_n C.1 C.2.1 dX7_delay_9 rfl (lv_at hl 1 rfl) ?_
    refine xG_DishHouse_row C hW bF_X7_12 dX7_delay_10 ?_
    refine lv_iload_n C.1 C.2.1 dX7_delay_13 rfl (lv_at hl 3 rfl) ?_
    refine go_q hW (run_V (o := 1) (As := [.int j]) (rest := []) C hW (by omega) rfl rfl (c_X4_find l G q nd _ τ ζ ρ j  h_nd h_n h_r) (cw_V 1 C bL_X7_59 bI_X4_find bV_X4_find bN_X4 bC_X4_find ⟨rfl, rfl⟩ (by decide +kernel) ⟨Nat.le_of_ble_eq_true rfl, Nat.le_of_ble_eq_true rfl⟩) rfl hl.1 rfl (Nat.le_of_ble_eq_true rfl) dX7_delay_14 ⟨Nat.le_refl _, Nat.le_refl _⟩) (fun r_2 u_2 H locs hp_2 hW => ?_)
    rcases hp_2 with ⟨rfl, rfl, k_2⟩ | ⟨rfl, rfl, k_2_0, k_2_1⟩
    · skip
      have hW : WB G (28 + 3 * nd) q (eX G q τ ζ ρ) s H locs := hW
      refine lv_astoreN (lv' := [(4, .null), (3, .null), (0, .ref (q 0)), (1, .int i), (2, .int j)]) C.1 C.2.1 dX7_delay_17 hl (by decide) rfl (fun ls hl => ?_)
      refine lv_aload_nN C.1 C.2.1 dX7_delay_19 rfl (lv_at hl 1 rfl) ?_
      refine lv_ifnullN C.1 C.2.1 (tgt := 28) dX7_delay_20 (by decide) ?_
      refine lv_bipush C.1 C.2.1 (v := (-2)) dX7_delay_28 (by decide) ?_
      subst hQ
      exact r_iret (τ, ζ, ρ) C hW hr hk dX7_delay_30 ⟨(show sp_delay τ i j = ((-2), τ) from by unfold sp_delay; (repeat (first | rw [if_pos (by omega)] | rw [if_neg (by omega)])); first | done | rfl), (XZ_eq h_z rfl rfl rfl rfl rfl rfl rfl rfl rfl rfl rfl rfl rfl rfl rfl rfl rfl rfl rfl)⟩
    · skip
      have hW : WB G (28 + 3 * nd) q (eX G q τ ζ ρ) s H locs := hW
      refine lv_astore (lv' := [(4, .ref (q (28 + 3 * ((j).toInt).toNat))), (3, .null), (0, .ref (q 0)), (1, .int i), (2, .int j)]) C.1 C.2.1 dX7_delay_17 hl (by decide) rfl (fun ls hl => ?_)
      refine lv_aload_nN C.1 C.2.1 dX7_delay_19 rfl (lv_at hl 1 rfl) ?_
      refine lv_ifnullN C.1 C.2.1 (tgt := 28) dX7_delay_20 (by decide) ?_
      refine lv_bipush C.1 C.2.1 (v := (-2)) dX7_delay_28 (by decide) ?_
      subst hQ
      exact r_iret (τ, ζ, ρ) C hW hr hk dX7_delay_30 ⟨(show sp_delay τ i j = ((-2), τ) from by unfold sp_delay; (repeat (first | rw [if_pos (by omega)] | rw [if_neg (by omega)])); first | done | rfl), (XZ_eq h_z rfl rfl rfl rfl rfl rfl rfl rfl rfl rfl rfl rfl rfl rfl rfl rfl rfl rfl rfl)⟩
  · skip
    have hW : WB G (28 + 3 * nd) q (eX G q τ ζ ρ) s H locs := hW
    refine lv_astore_n (lv' := [(3, .ref (q (28 + 3 * ((i).toInt).toNat))), (0, .ref (q 0)), (1, .int i), (2, .int j)]) C.1 C.2.1 dX7_delay_8 rfl hl (by decide) rfl (fun ls hl => ?_)
    refine lv_aload_n C.1 C.2.1 dX7_delay_9 rfl (lv_at hl 1 rfl) ?_
    refine xG_DishHouse_row C hW bF_X7_12 dX7_delay_10 ?_
    refine lv_iload_n C.1 C.2.1 dX7_delay_13 rfl (lv_at hl 3 rfl) ?_
    refine go_q hW (run_V (o := 1) (As := [.int j]) (rest := []) C hW (by omega) rfl rfl (c_X4_find l G q nd _ τ ζ ρ j  h_nd h_n h_r) (cw_V 1 C bL_X7_59 bI_X4_find bV_X4_find bN_X4 bC_X4_find ⟨rfl, rfl⟩ (by decide +kernel) ⟨Nat.le_of_ble_eq_true rfl, Nat.le_of_ble_eq_true rfl⟩) rfl hl.1 rfl (Nat.le_of_ble_eq_true rfl) dX7_delay_14 ⟨Nat.le_refl _, Nat.le_refl _⟩) (fun r_3 u_3 H locs hp_3 hW => ?_)
    rcases hp_3 with ⟨rfl, rfl, k_3⟩ | ⟨rfl, rfl, k_3_0, k_3_1⟩
    · skip
      have hW : WB G (28 + 3 * nd) q (eX G q τ ζ ρ) s H locs := hW
      refine lv_astoreN (lv' := [(4, .null), (3, .ref (q (28 + 3 * ((i).toInt).toNat))), (0, .ref (q 0)), (1, .int i), (2, .int j)]) C.1 C.2.1 dX7_delay_17 hl (by decide) rfl (fun ls hl => ?_)
      refine lv_aload_n C.1 C.2.1 dX7_delay_19 rfl (lv_at hl 1 rfl) ?_
      refine lv_ifnull C.1 C.2.1 dX7_delay_20 ?_
      refine lv_aloadN C.1 C.2.1 dX7_delay_23 (lv_at hl 0 rfl) ?_
      refine lv_ifnonnullN C.1 C.2.1 dX7_delay_25 ?_
      refine lv_bipush C.1 C.2.1 (v := (-2)) dX7_delay_28 (by decide) ?_
      subst hQ
      exact r_iret (τ, ζ, ρ) C hW hr hk dX7_delay_30 ⟨(show sp_delay τ i j = ((-2), τ) from by unfold sp_delay; (repeat (first | rw [if_pos (by omega)] | rw [if_neg (by omega)])); first | done | rfl), (XZ_eq h_z rfl rfl rfl rfl rfl rfl rfl rfl rfl rfl rfl rfl rfl rfl rfl rfl rfl rfl rfl)⟩
    · skip
      have hW : WB G (28 + 3 * nd) q (eX G q τ ζ ρ) s H locs := hW
      refine lv_astore (lv' := [(4, .ref (q (28 + 3 * ((j).toInt).toNat))), (3, .ref (q (28 + 3 * ((i).toInt).toNat))), (0, .ref (q 0)), (1, .int i), (2, .int j)]) C.1 C.2.1 dX7_delay_17 hl (by decide) rfl (fun ls hl => ?_)
      refine lv_aload_n C.1 C.2.1 dX7_delay_19 rfl (lv_at hl 1 rfl) ?_
      refine lv_ifnull C.1 C.2.1 dX7_delay_20 ?_
      refine lv_aload C.1 C.2.1 dX7_delay_23 (lv_at hl 0 rfl) ?_
      refine lv_ifnonnull C.1 C.2.1 (tgt := 31) dX7_delay_25 (by decide) ?_
      refine lv_aload_n C.1 C.2.1 dX7_delay_31 rfl (lv_at hl 1 rfl) ?_
      refine lv_aload C.1 C.2.1 dX7_delay_32 (lv_at hl 0 rfl) ?_
      have := (h_dk (((j).toInt).toNat) (by omega)).2.2.2.1
      refine go_i hW (run_V (o := 28 + 3 * (((i).toInt).toNat)) (As := [.ref (q (28 + 3 * ((j).toInt).toNat))]) (rest := []) C hW (by omega) (eX_obj _ _ _ _ _ (((i).toInt).toNat)) rfl (c_X1_bestDelayOf l G q nd _ τ ζ ρ  (((i).toInt).toNat) (((j).toInt).toNat) h_nd (by omega) (by omega) (h_dk _ (by omega)) (h_dk _ (by omega))) (cw_V 1 C bL_X7_136 bI_X1_bestDelayOf bV_X1_bestDelayOf bN_X1 bC_X1_bestDelayOf ⟨rfl, rfl⟩ (by decide +kernel) ⟨Nat.le_of_ble_eq_true rfl, Nat.le_of_ble_eq_true rfl⟩) rfl hl.1 rfl (Nat.le_of_ble_eq_true rfl) dX7_delay_34 ⟨Nat.le_refl _, Nat.le_refl _⟩) (fun r_4 u_4 H locs hp_4 hW => ?_)
      rcases hp_4 with ⟨rfl, rfl⟩
      have hW : WB G (28 + 3 * nd) q (eX G q τ ζ ρ) s H locs := hW
      subst hQ
      exact r_iret (τ, ζ, ρ) C hW hr hk dX7_delay_37 ⟨(show sp_delay τ i j = ((nI (bstD τ (((i).toInt).toNat) (((j).toInt).toNat) 30)), τ) from by unfold sp_delay; (repeat (first | rw [if_pos (by omega)] | rw [if_neg (by omega)])); first | done | rfl), (XZ_eq h_z rfl rfl rfl rfl rfl rfl rfl rfl rfl rfl rfl rfl rfl rfl rfl rfl rfl rfl rfl)⟩
set_option maxHeartbeats 4000000 in
set_option maxRecDepth 100000 in
theorem c_X7_night (l : Launch) (G : GG) (q : Nat → Nat) (nd sz : Nat) (τ ζ : ST) (ρ : RF) (last : Int32) (h_nd : nd ≤ 6) (h_z : XZ q nd τ ζ ρ) (h_o : 0 ≤ (τ.1 9).toInt ∧ (τ.1 9).toInt ≤ 60) (h_okk : ∀ k : Nat, (k : Int) < (τ.1 9).toInt → okK τ k) : Met l yX7_night (WSb yX7_night cX7_night 2 (some .int)) (rmA 5 115) (va_Pc [.ref (q 0), .int last] (PW G (28 + 3 * nd) q sz (eX G q τ ζ ρ))) (va_Qi (fun (r : Int32) (u : (ST × ST × RF)) => sp_night τ last = (r, u.1) ∧ XZ q nd u.1 u.2.1 u.2.2) (fun u => BW G (28 + 3 * nd) q (eX G q u.1 u.2.1 u.2.2)) (FA (28 + 3 * nd) q sz)) 0 0 (FA (28 + 3 * nd) q sz) := by
  refine Met_B (own := RX7) rfl (by decide) (Nat.le_of_ble_eq_true rfl) (fun p e s m args below meth c ls hsz C hW hr hk hl QQ hQ => ?_)
  subst hsz
  have hl : lv_has ls 2 [(0, .ref (q 0)), (1, .int last)] := hl
  have h_n : (τ.1 0).toInt = (nd : Int) := h_z.1
  have h_r := h_z.2.1
  have h_src := h_z.2.2.2.2.2.1
  refine lv_iload_n C.1 C.2.1 dX7_night_0 rfl (lv_at hl 1 rfl) ?_
  refine lv_iconst C.1 C.2.1 (v := 0) dX7_night_1 (by decide) ?_
  refine lv_ldc C.1 C.2.1 C.2.2.2.1 (C.2.2.2.2.1 _ bQ_X7_218) dX7_night_2 ?_
  refine go_i hW (run_S (As := [.int last, .int 0, .int 100000]) (rest := []) C hW (c_X7_isWithin l G q nd _ τ ζ ρ last 0 100000 ((last).toInt) 0 100000 (rfl : (last).toInt = (last).toInt) (show (0 : Int32).toInt = 0 from by decide) (show (100000 : Int32).toInt = 100000 from by decide) h_nd) (cw_S 3 C bL_X7_51 bS_X7_isWithin bN_X7 bC_X7_isWithin ⟨rfl, rfl⟩ (by decide +kernel) ⟨Nat.le_of_ble_eq_true rfl, Nat.le_of_ble_eq_true rfl⟩) rfl hl.1 rfl (Nat.le_of_ble_eq_true rfl) dX7_night_4 ⟨Nat.le_refl _, Nat.le_refl _⟩) (fun r_1 u_1 H locs hp_1 hW => ?_)
  rcases hp_1 with ⟨rfl, rfl, k_1_0, k_1_1⟩ | ⟨rfl, rfl, k_1⟩
  · skip
    have hW : WB G (28 + 3 * nd) q (eX G q τ ζ ρ) s H locs := hW
    refine lv_if_ne C.1 C.2.1 (tgt := 13) dX7_night_7 (by decide) (fun _ => ?_) (fun c => absurd c (by decide))
    refine lv_aload_n C.1 C.2.1 dX7_night_13 rfl (lv_at hl 0 rfl) ?_
    refine xG_DishHouse_run C hW bF_X7_47 dX7_night_14 ?_
    refine lv_aload_n C.1 C.2.1 dX7_night_17 rfl (lv_at hl 0 rfl) ?_
    refine xG_DishHouse_program C hW bF_X7_40 dX7_night_18 ?_
    refine lv_iload_n C.1 C.2.1 dX7_night_21 rfl (lv_at hl 1 rfl) ?_
    refine go_i hW (run_V (o := 25) (As := [.ref (q 19), .int last]) (rest := []) C hW (by omega) rfl rfl (c_X5_follow l G q nd _ τ ζ ρ last  h_nd h_o h_okk h_src (by omega)) (cw_V 2 C bL_X7_219 bI_X5_follow bV_X5_follow bN_X5 bC_X5_follow ⟨rfl, rfl⟩ (by decide +kernel) ⟨Nat.le_of_ble_eq_true rfl, Nat.le_of_ble_eq_true rfl⟩) rfl hl.1 rfl (Nat.le_of_ble_eq_true rfl) dX7_night_22 ⟨Nat.le_refl _, Nat.le_refl _⟩) (fun r_3 u_3 H locs hp_3 hW => ?_)
    rcases hp_3 with ⟨f1_3, rfl, rfl⟩
    have hW : WB G (28 + 3 * nd) q (eX G q (runN last.toInt 2001 0 (ini τ) (τ.2.1 20)).2 (saF ζ 7 f1_3) ρ) s H locs := hW
    subst hQ
    exact r_iret ((runN last.toInt 2001 0 (ini τ) (τ.2.1 20)).2, (saF ζ 7 f1_3), ρ) C hW hr hk dX7_night_25 ⟨(show sp_night τ last = (((runN last.toInt 2001 0 (ini τ) (τ.2.1 20)).1), (runN last.toInt 2001 0 (ini τ) (τ.2.1 20)).2) from by unfold sp_night; rw [if_pos (by omega)]), XZ_eq h_z (((runN_keep 2001 0 (ini τ) (τ.2.1 20)).1 0 (by decide)).trans ((ini_keep τ).1 0 (by decide))) (((runN_keep 2001 0 (ini τ) (τ.2.1 20)).1 2 (by decide)).trans ((ini_keep τ).1 2 (by decide))) (((runN_keep 2001 0 (ini τ) (τ.2.1 20)).1 17 (by decide)).trans ((ini_keep τ).1 17 (by decide))) (((runN_keep 2001 0 (ini τ) (τ.2.1 20)).2 4 (by decide)).trans ((ini_keep τ).2 4 (by decide))) (((runN_keep 2001 0 (ini τ) (τ.2.1 20)).2 6 (by decide)).trans ((ini_keep τ).2 6 (by decide))) (((runN_keep 2001 0 (ini τ) (τ.2.1 20)).2 8 (by decide)).trans ((ini_keep τ).2 8 (by decide))) (((runN_keep 2001 0 (ini τ) (τ.2.1 20)).2 9 (by decide)).trans ((ini_keep τ).2 9 (by decide))) (((runN_keep 2001 0 (ini τ) (τ.2.1 20)).2 10 (by decide)).trans ((ini_keep τ).2 10 (by decide))) (((runN_keep 2001 0 (ini τ) (τ.2.1 20)).2 15 (by decide)).trans ((ini_keep τ).2 15 (by decide))) (((runN_keep 2001 0 (ini τ) (τ.2.1 20)).2 16 (by decide)).trans ((ini_keep τ).2 16 (by decide))) (((runN_keep 2001 0 (ini τ) (τ.2.1 20)).2 17 (by decide)).trans ((ini_keep τ).2 17 (by decide))) (((runN_keep 2001 0 (ini τ) (τ.2.1 20)).2 22 (by decide)).trans ((ini_keep τ).2 22 (by decide))) (((runN_keep 2001 0 (ini τ) (τ.2.1 20)).2 23 (by decide)).trans ((ini_keep τ).2 23 (by decide))) rfl rfl rfl rfl rfl rfl⟩
  · skip
    have hW : WB G (28 + 3 * nd) q (eX G q τ ζ ρ) s H locs := hW
    refine lv_if_ne C.1 C.2.1 (tgt := 13) dX7_night_7 (by decide) (fun c => absurd c (by decide)) (fun _ => ?_)
    refine lv_bipush C.1 C.2.1 (v := (-2)) dX7_night_10 (by decide) ?_
    subst hQ
    exact r_iret (τ, ζ, ρ) C hW hr hk dX7_night_12 ⟨(show sp_night τ last = ((-2), τ) from by unfold sp_night; (repeat (first | rw [if_pos (by omega)] | rw [if_neg (by omega)])); first | done | rfl), (XZ_eq h_z rfl rfl rfl rfl rfl rfl rfl rfl rfl rfl rfl rfl rfl rfl rfl rfl rfl rfl rfl)⟩
