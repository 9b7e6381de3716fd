/-! the reference's small methods -/
theorem sg_sg {τ : ST} {k : Nat} {a b : Int32} : sg (sg τ k a) k b = sg τ k b := by
  unfold sg
  congr 1
  funext j
  simp only [upd]
  split <;> rfl
theorem st_g {a b : ST} (h : ∀ j, a.1 j = b.1 j) (h2 : a.2 = b.2) : a = b := Prod.ext (funext h) h2
def smp (τ : ST) (d i : Nat) : Prop := ¬ (τ.2.1 4 d).toInt = 0 ∧ (i : Int) < (τ.2.1 6 d).toInt ∧ ∀ f : Nat, (f : Int) < (τ.1 2).toInt → ¬ ((τ.2.1 8 f).toInt = d ∧ (τ.2.1 9 f).toInt ≤ i ∧ (i : Int) ≤ (τ.2.1 10 f).toInt)
def smpV (τ : ST) (d i : Nat) : Int64 := if 500 < (τ.2.1 7 (100 * d + i)).toInt then 500 else if (τ.2.1 7 (100 * d + i)).toInt < -500 then -500 else (τ.2.1 7 (100 * d + i)).toInt64
def sgn (v : Int64) : Int32 := if 0 < v.toInt then 1 else if v.toInt < 0 then -1 else 0
def amt (v : Int64) : Int64 := if v.toInt < 0 then -v else v
theorem and15 (x : Int32) : 0 ≤ (x &&& 15).toInt ∧ (x &&& 15).toInt < 16 := by
  obtain ⟨j, hj, e⟩ := pk_andE x (m := 15) 4 (by decide)
  rw [e, nI_toInt (by omega)]; omega
set_option maxHeartbeats 4000000 in
set_option maxRecDepth 100000 in
theorem c_X8_in (l : Launch) (G : GG) (q : Nat → Nat) (sz : Nat) (τ ξ : ST) (v : Int64) (lo : Int64) (hi : Int64) (vZ : Int) (loZ : Int) (hiZ : Int) (hv : v.toInt = vZ) (hlo : lo.toInt = loZ) (hhi : hi.toInt = hiZ) : Met l yX8_in (WSb yX8_in cX8_in 6 (some .boolean)) (rmA 0 0) (va_Pc [.long v, .long lo, .long hi] (PW G 33 q sz (eM G q τ ξ))) (va_Qi (fun (r : Int32) (u : (ST × ST)) => (r = 1 ∧ u = (τ, ξ) ∧ (loZ ≤ vZ) ∧ (vZ ≤ hiZ)) ∨ (r = 0 ∧ u = (τ, ξ) ∧ (¬ (loZ ≤ vZ ∧ vZ ≤ hiZ)))) (fun u => BW G 33 q (eM G q u.1 u.2)) (FA 33 q sz)) 0 0 (FA 33 q sz) := by
  refine Met_B (own := RX8) rfl (by decide) (Nat.le_of_ble_eq_true rfl) (fun p e s m args below meth c ls hsz C hW hr hk hl QQ hQ => ?_)
  subst hsz
  have hl : lv_has ls 6 [(0, .long v), (2, .long lo), (4, .long hi)] := hl
  refine lv_lload_n C.1 C.2.1 dX8_in_0 rfl (lv_at hl 0 rfl) ?_
  refine lv_lload_n C.1 C.2.1 dX8_in_1 rfl (lv_at hl 1 rfl) ?_
  refine W.lcmp C.1 C.2.1 dX8_in_2 ?_
  refine lv_if_lt C.1 C.2.1 (tgt := 17) dX8_in_3 (by decide) (fun c_1 => ?_) (fun c_1 => ?_)
  · skip
    have k_1 := (lc_lt hv hlo).mp c_1
    refine lv_iconst C.1 C.2.1 (v := 0) dX8_in_17 (by decide) ?_
    subst hQ
    exact r_zret (τ, ξ) C hW hr rfl hk dX8_in_18 (by first | exact Or.inl ⟨rfl, rfl, (by omega), (by omega)⟩ | exact Or.inr (⟨rfl, rfl, (by omega)⟩))
  · skip
    have k_1 := (ln_lt hv hlo).mp c_1
    refine lv_lload_n C.1 C.2.1 dX8_in_6 rfl (lv_at hl 0 rfl) ?_
    refine lv_lload C.1 C.2.1 dX8_in_7 (lv_at hl 2 rfl) ?_
    refine W.lcmp C.1 C.2.1 dX8_in_9 ?_
    refine lv_if_gt C.1 C.2.1 (tgt := 17) dX8_in_10 (by decide) (fun c_2 => ?_) (fun c_2 => ?_)
    · skip
      have k_2 := (lc_gt hv hhi).mp c_2
      refine lv_iconst C.1 C.2.1 (v := 0) dX8_in_17 (by decide) ?_
      subst hQ
      exact r_zret (τ, ξ) C hW hr rfl hk dX8_in_18 (by first | exact Or.inl ⟨rfl, rfl, (by omega), (by omega)⟩ | exact Or.inr (⟨rfl, rfl, (by omega)⟩))
    · skip
      have k_2 := (ln_gt hv hhi).mp c_2
      refine lv_iconst C.1 C.2.1 (v := 1) dX8_in_13 (by decide) ?_
      refine lv_goto C.1 C.2.1 (tgt := 18) dX8_in_14 (by decide) ?_
      subst hQ
      exact r_zret (τ, ξ) C hW hr rfl hk dX8_in_18 (by first | exact Or.inl ⟨rfl, rfl, (by omega), (by omega)⟩ | exact Or.inr (⟨rfl, rfl, (by omega)⟩))
set_option maxHeartbeats 4000000 in
set_option maxRecDepth 100000 in
theorem c_X8_meets (l : Launch) (G : GG) (q : Nat → Nat) (sz : Nat) (τ ξ : ST) (x1 : Int32) : Met l yX8_meets (WSb yX8_meets cX8_meets 2 (some .int)) (rmA 0 0) (va_Pc [.ref (q 0), .int x1] (PW G 33 q sz (eM G q τ ξ))) (va_Qi (fun (r : Int32) (u : (ST × ST)) => r = -10 - x1 ∧ u = ((sg τ 1 x1), ξ)) (fun u => BW G 33 q (eM G q u.1 u.2)) (FA 33 q sz)) 0 0 (FA 33 q sz) := by
  refine Met_B (own := RX8) rfl (by decide) (Nat.le_of_ble_eq_true rfl) (fun p e s m args below meth c ls hsz C hW hr hk hl QQ hQ => ?_)
  subst hsz
  have hl : lv_has ls 2 [(0, .ref (q 0)), (1, .int x1)] := hl
  refine lv_aload_n C.1 C.2.1 dX8_meets_0 rfl (lv_at hl 0 rfl) ?_
  refine lv_iload_n C.1 C.2.1 dX8_meets_1 rfl (lv_at hl 1 rfl) ?_
  refine mP_finding C hW dX8_meets_2 (fun H locs hW => ?_)
  refine lv_bipush C.1 C.2.1 (v := (-10)) dX8_meets_5 (by decide) ?_
  refine lv_iload_n C.1 C.2.1 dX8_meets_7 rfl (lv_at hl 1 rfl) ?_
  refine lv_isub C.1 C.2.1 dX8_meets_8 ?_
  subst hQ
  exact r_iret ((sg τ 1 x1), ξ) C hW hr hk dX8_meets_9 (⟨rfl, rfl⟩)
set_option maxHeartbeats 4000000 in
set_option maxRecDepth 100000 in
theorem c_X8_isDish (l : Launch) (G : GG) (q : Nat → Nat) (sz : Nat) (τ ξ : ST) (d : Int32) (h_d : 0 ≤ (τ.1 0).toInt ∧ (τ.1 0).toInt ≤ 6) : Met l yX8_isDish (WSb yX8_isDish cX8_isDish 2 (some .boolean)) (rmA 1 25) (va_Pc [.ref (q 0), .int d] (PW G 33 q sz (eM G q τ ξ))) (va_Qi (fun (r : Int32) (u : (ST × ST)) => (r = 1 ∧ u = (τ, ξ) ∧ (0 ≤ d.toInt) ∧ (d.toInt < (τ.1 0).toInt)) ∨ (r = 0 ∧ u = (τ, ξ) ∧ (¬ (0 ≤ d.toInt ∧ d.toInt < (τ.1 0).toInt)))) (fun u => BW G 33 q (eM G q u.1 u.2)) (FA 33 q sz)) 0 0 (FA 33 q sz) := by
  refine Met_B (own := RX8) rfl (by decide) (Nat.le_of_ble_eq_true rfl) (fun p e s m args below meth c ls hsz C hW hr hk hl QQ hQ => ?_)
  subst hsz
  have hl : lv_has ls 2 [(0, .ref (q 0)), (1, .int d)] := hl
  refine lv_iload_n C.1 C.2.1 dX8_isDish_0 rfl (lv_at hl 1 rfl) ?_
  refine lv_i2l C.1 C.2.1 dX8_isDish_1 rfl ?_
  refine lv_lconst C.1 C.2.1 (v := 0) dX8_isDish_2 (by decide) ?_
  refine lv_aload_n C.1 C.2.1 dX8_isDish_3 rfl (lv_at hl 0 rfl) ?_
  refine mG_dishes C hW (v := (τ.1 0)) rfl dX8_isDish_4 ?_
  refine lv_iconst C.1 C.2.1 (v := 1) dX8_isDish_7 (by decide) ?_
  refine lv_isub C.1 C.2.1 dX8_isDish_8 ?_
  refine lv_i2l C.1 C.2.1 dX8_isDish_9 rfl ?_
  refine go_i hW (run_S (As := [.long ((d).toInt64), .long 0, .long (((τ.1 0) - 1).toInt64)]) (rest := []) C hW (c_X8_in l G q _ τ ξ ((d).toInt64) 0 (((τ.1 0) - 1).toInt64) ((d).toInt) 0 (((τ.1 0)).toInt - 1) (ti_i2l (rfl : (d).toInt = (d).toInt)) (show (0 : Int64).toInt = 0 from by decide) (ti_i2l (ti_sub (rfl : ((τ.1 0)).toInt = ((τ.1 0)).toInt) (show (1 : Int32).toInt = 1 from by decide) (by omega) (by omega)))) (cw_S 3 C bL_X8_121 bS_X8_in bN_X8 bC_X8_in ⟨rfl, rfl⟩ (by decide +kernel) ⟨Nat.le_of_ble_eq_true rfl, Nat.le_of_ble_eq_true rfl⟩) rfl hl.1 rfl (Nat.le_of_ble_eq_true rfl) dX8_isDish_10 ⟨Nat.le_refl _, Nat.le_refl _⟩) (fun r_1 u_1 H locs hp_1 hW => ?_)
  rcases hp_1 with ⟨rfl, rfl, k_1_0, k_1_1⟩ | ⟨rfl, rfl, k_1⟩
  · skip
    have hW : WB G 33 q (eM G q τ ξ) s H locs := hW
    subst hQ
    exact r_zret (τ, ξ) C hW hr rfl hk dX8_isDish_13 (by first | exact Or.inl ⟨rfl, rfl, (by omega), (by omega)⟩ | exact Or.inr (⟨rfl, rfl, (by omega)⟩))
  · skip
    have hW : WB G 33 q (eM G q τ ξ) s H locs := hW
    subst hQ
    exact r_zret (τ, ξ) C hW hr rfl hk dX8_isDish_13 (by first | exact Or.inl ⟨rfl, rfl, (by omega), (by omega)⟩ | exact Or.inr (⟨rfl, rfl, (by omega)⟩))
set_option maxHeartbeats 4000000 in
set_option maxRecDepth 100000 in
theorem c_X8_lacks (l : Launch) (G : GG) (q : Nat → Nat) (sz : Nat) (τ ξ : ST) (d : Int32) (f : Int32) (i : Int32) (dN : Nat) (hd : d.toInt = (dN : Int)) (hdN : dN < 6) (h_s : 0 ≤ (τ.2.1 6 dN).toInt ∧ (τ.2.1 6 dN).toInt ≤ 100) : Met l yX8_lacks (WSb yX8_lacks cX8_lacks 4 (some .int)) (rmA 1 25) (va_Pc [.ref (q 0), .int d, .int f, .int i] (PW G 33 q sz (eM G q τ ξ))) (va_Qi (fun (r : Int32) (u : (ST × ST)) => (r = 1 ∧ u = (τ, ξ) ∧ ((τ.2.1 4 dN).toInt = 0)) ∨ (r = 3 ∧ u = (τ, ξ) ∧ (¬ (τ.2.1 4 dN).toInt = 0) ∧ (¬ (τ.2.1 5 dN).toInt = f.toInt)) ∨ (r = 0 ∧ u = (τ, ξ) ∧ (¬ (τ.2.1 4 dN).toInt = 0) ∧ ((τ.2.1 5 dN).toInt = f.toInt) ∧ (0 ≤ i.toInt) ∧ (i.toInt < (τ.2.1 6 dN).toInt)) ∨ (r = 2 ∧ u = (τ, ξ) ∧ (¬ (τ.2.1 4 dN).toInt = 0) ∧ ((τ.2.1 5 dN).toInt = f.toInt) ∧ (¬ (0 ≤ i.toInt ∧ i.toInt < (τ.2.1 6 dN).toInt)))) (fun u => BW G 33 q (eM G q u.1 u.2)) (FA 33 q sz)) 0 0 (FA 33 q sz) := by
  refine Met_B (own := RX8) rfl (by decide) (Nat.le_of_ble_eq_true rfl) (fun p e s m args below meth c ls hsz C hW hr hk hl QQ hQ => ?_)
  subst hsz
  have hl : lv_has ls 4 [(0, .ref (q 0)), (1, .int d), (2, .int f), (3, .int i)] := hl
  refine lv_aload_n C.1 C.2.1 dX8_lacks_0 rfl (lv_at hl 0 rfl) ?_
  refine mG_isThere C hW dX8_lacks_1 ?_
  refine lv_iload_n C.1 C.2.1 dX8_lacks_4 rfl (lv_at hl 1 rfl) ?_
  refine mL_isThere C hW dN (hd.trans (by omega)) (by omega) (v := (τ.2.1 4 dN)) rfl dX8_lacks_5 ?_
  refine lv_if_ne C.1 C.2.1 (tgt := 13) dX8_lacks_6 (by decide) (fun c_1 => ?_) (fun c_1 => ?_)
  · skip
    have k_1 := (tn_eq (rfl : ((τ.2.1 4 dN)).toInt = ((τ.2.1 4 dN)).toInt) (show (0 : Int32).toInt = 0 from by decide)).mp c_1
    refine lv_aload_n C.1 C.2.1 dX8_lacks_13 rfl (lv_at hl 0 rfl) ?_
    refine mG_forms C hW dX8_lacks_14 ?_
    refine lv_iload_n C.1 C.2.1 dX8_lacks_17 rfl (lv_at hl 1 rfl) ?_
    refine mL_forms C hW dN (hd.trans (by omega)) (by omega) (v := (τ.2.1 5 dN)) rfl dX8_lacks_18 ?_
    refine lv_iload_n C.1 C.2.1 dX8_lacks_19 rfl (lv_at hl 2 rfl) ?_
    refine lv_icmp_eq C.1 C.2.1 (tgt := 27) dX8_lacks_20 (by decide) (fun c_2 => ?_) (fun c_2 => ?_)
    · skip
      have k_2 := (tc_eq (rfl : ((τ.2.1 5 dN)).toInt = ((τ.2.1 5 dN)).toInt) (rfl : (f).toInt = (f).toInt)).mp c_2
      refine lv_iload_n C.1 C.2.1 dX8_lacks_27 rfl (lv_at hl 3 rfl) ?_
      refine lv_i2l C.1 C.2.1 dX8_lacks_28 rfl ?_
      refine lv_lconst C.1 C.2.1 (v := 0) dX8_lacks_29 (by decide) ?_
      refine lv_aload_n C.1 C.2.1 dX8_lacks_30 rfl (lv_at hl 0 rfl) ?_
      refine mG_sizes C hW dX8_lacks_31 ?_
      refine lv_iload_n C.1 C.2.1 dX8_lacks_34 rfl (lv_at hl 1 rfl) ?_
      refine mL_sizes C hW dN (hd.trans (by omega)) (by omega) (v := (τ.2.1 6 dN)) rfl dX8_lacks_35 ?_
      refine lv_iconst C.1 C.2.1 (v := 1) dX8_lacks_36 (by decide) ?_
      refine lv_isub C.1 C.2.1 dX8_lacks_37 ?_
      refine lv_i2l C.1 C.2.1 dX8_lacks_38 rfl ?_
      refine go_i hW (run_S (As := [.long ((i).toInt64), .long 0, .long (((τ.2.1 6 dN) - 1).toInt64)]) (rest := []) C hW (c_X8_in l G q _ τ ξ ((i).toInt64) 0 (((τ.2.1 6 dN) - 1).toInt64) ((i).toInt) 0 (((τ.2.1 6 dN)).toInt - 1) (ti_i2l (rfl : (i).toInt = (i).toInt)) (show (0 : Int64).toInt = 0 from by decide) (ti_i2l (ti_sub (rfl : ((τ.2.1 6 dN)).toInt = ((τ.2.1 6 dN)).toInt) (show (1 : Int32).toInt = 1 from by decide) (by omega) (by omega)))) (cw_S 3 C bL_X8_121 bS_X8_in bN_X8 bC_X8_in ⟨rfl, rfl⟩ (by decide +kernel) ⟨Nat.le_of_ble_eq_true rfl, Nat.le_of_ble_eq_true rfl⟩) rfl hl.1 rfl (Nat.le_of_ble_eq_true rfl) dX8_lacks_39 ⟨Nat.le_refl _, Nat.le_refl _⟩) (fun r_3 u_3 H locs hp_3 hW => ?_)
      rcases hp_3 with ⟨rfl, rfl, k_3_0, k_3_1⟩ | ⟨rfl, rfl, k_3⟩
      · skip
        have hW : WB G 33 q (eM G q τ ξ) s H locs := hW
        refine lv_if_eq C.1 C.2.1 (tgt := 49) dX8_lacks_42 (by decide) (fun c => absurd c (by decide)) (fun _ => ?_)
        refine lv_iconst C.1 C.2.1 (v := 0) dX8_lacks_45 (by decide) ?_
        refine lv_goto C.1 C.2.1 (tgt := 50) dX8_lacks_46 (by decide) ?_
        subst hQ
        exact r_iret (τ, ξ) C hW hr hk dX8_lacks_50 (by first | exact Or.inl ⟨rfl, rfl, (by omega)⟩ | exact Or.inr (Or.inl ⟨rfl, rfl, (by omega), (by omega)⟩) | exact Or.inr (Or.inr (Or.inl ⟨rfl, rfl, (by omega), (by omega), (by omega), (by omega)⟩)) | exact Or.inr (Or.inr (Or.inr (⟨rfl, rfl, (by omega), (by omega), (by omega)⟩))))
      · skip
        have hW : WB G 33 q (eM G q τ ξ) s H locs := hW
        refine lv_if_eq C.1 C.2.1 (tgt := 49) dX8_lacks_42 (by decide) (fun _ => ?_) (fun c => absurd c (by decide))
        refine lv_iconst C.1 C.2.1 (v := 2) dX8_lacks_49 (by decide) ?_
        subst hQ
        exact r_iret (τ, ξ) C hW hr hk dX8_lacks_50 (by first | exact Or.inl ⟨rfl, rfl, (by omega)⟩ | exact Or.inr (Or.inl ⟨rfl, rfl, (by omega), (by omega)⟩) | exact Or.inr (Or.inr (Or.inl ⟨rfl, rfl, (by omega), (by omega), (by omega), (by omega)⟩)) | exact Or.inr (Or.inr (Or.inr (⟨rfl, rfl, (by omega), (by omega), (by omega)⟩))))
    · skip
      have k_2 := (tn_eq (rfl : ((τ.2.1 5 dN)).toInt = ((τ.2.1 5 dN)).toInt) (rfl : (f).toInt = (f).toInt)).mp c_2
      refine lv_iconst C.1 C.2.1 (v := 3) dX8_lacks_23 (by decide) ?_
      refine lv_goto C.1 C.2.1 (tgt := 50) dX8_lacks_24 (by decide) ?_
      subst hQ
      exact r_iret (τ, ξ) C hW hr hk dX8_lacks_50 (by first | exact Or.inl ⟨rfl, rfl, (by omega)⟩ | exact Or.inr (Or.inl ⟨rfl, rfl, (by omega), (by omega)⟩) | exact Or.inr (Or.inr (Or.inl ⟨rfl, rfl, (by omega), (by omega), (by omega), (by omega)⟩)) | exact Or.inr (Or.inr (Or.inr (⟨rfl, rfl, (by omega), (by omega), (by omega)⟩))))
  · skip
    have k_1 := (tc_eq (rfl : ((τ.2.1 4 dN)).toInt = ((τ.2.1 4 dN)).toInt) (show (0 : Int32).toInt = 0 from by decide)).mp c_1
    refine lv_iconst C.1 C.2.1 (v := 1) dX8_lacks_9 (by decide) ?_
    refine lv_goto C.1 C.2.1 (tgt := 50) dX8_lacks_10 (by decide) ?_
    subst hQ
    exact r_iret (τ, ξ) C hW hr hk dX8_lacks_50 (by first | exact Or.inl ⟨rfl, rfl, (by omega)⟩ | exact Or.inr (Or.inl ⟨rfl, rfl, (by omega), (by omega)⟩) | exact Or.inr (Or.inr (Or.inl ⟨rfl, rfl, (by omega), (by omega), (by omega), (by omega)⟩)) | exact Or.inr (Or.inr (Or.inr (⟨rfl, rfl, (by omega), (by omega), (by omega)⟩))))
set_option maxHeartbeats 4000000 in
set_option maxRecDepth 100000 in
theorem c_X8_isSample (l : Launch) (G : GG) (q : Nat → Nat) (sz : Nat) (τ ξ : ST) (d : Int32) (i : Int32) (dN : Nat) (iN : Nat) (hd : d.toInt = (dN : Int)) (hi : i.toInt = (iN : Int)) (hdN : dN < 6) (hiN : iN < 1000) (h_f : 0 ≤ (τ.1 2).toInt ∧ (τ.1 2).toInt ≤ 40) : Met l yX8_isSample (WSb yX8_isSample cX8_isSample 4 (some .boolean)) (rmA 1 25) (va_Pc [.ref (q 0), .int d, .int i] (PW G 33 q sz (eM G q τ ξ))) (va_Qi (fun (r : Int32) (u : (ST × ST)) => (r = 1 ∧ u = (τ, ξ) ∧ (smp τ dN iN)) ∨ (r = 0 ∧ u = (τ, ξ) ∧ (¬ smp τ dN iN))) (fun u => BW G 33 q (eM G q u.1 u.2)) (FA 33 q sz)) 0 0 (FA 33 q sz) := by
  refine Met_B (own := RX8) rfl (by decide) (Nat.le_of_ble_eq_true rfl) (fun p e s m args below meth c ls hsz C hW hr hk hl QQ hQ => ?_)
  subst hsz
  have hl : lv_has ls 4 [(0, .ref (q 0)), (1, .int d), (2, .int i)] := hl
  refine lv_aload_n C.1 C.2.1 dX8_isSample_0 rfl (lv_at hl 0 rfl) ?_
  refine mG_isThere C hW dX8_isSample_1 ?_
  refine lv_iload_n C.1 C.2.1 dX8_isSample_4 rfl (lv_at hl 1 rfl) ?_
  refine mL_isThere C hW dN (hd.trans (by omega)) (by omega) (v := (τ.2.1 4 dN)) rfl dX8_isSample_5 ?_
  refine lv_if_eq C.1 C.2.1 (tgt := 19) dX8_isSample_6 (by decide) (fun c_1 => ?_) (fun c_1 => ?_)
  · skip
    have k_1 := (tc_eq (rfl : ((τ.2.1 4 dN)).toInt = ((τ.2.1 4 dN)).toInt) (show (0 : Int32).toInt = 0 from by decide)).mp c_1
    refine lv_iconst C.1 C.2.1 (v := 0) dX8_isSample_19 (by decide) ?_
    subst hQ
    exact r_zret (τ, ξ) C hW hr rfl hk dX8_isSample_20 (Or.inr ⟨rfl, rfl, (by intro h; have h1 := h.1; have h2 := h.2.1; omega)⟩)
  · skip
    have k_1 := (tn_eq (rfl : ((τ.2.1 4 dN)).toInt = ((τ.2.1 4 dN)).toInt) (show (0 : Int32).toInt = 0 from by decide)).mp c_1
    refine lv_iload_n C.1 C.2.1 dX8_isSample_9 rfl (lv_at hl 2 rfl) ?_
    refine lv_aload_n C.1 C.2.1 dX8_isSample_10 rfl (lv_at hl 0 rfl) ?_
    refine mG_sizes C hW dX8_isSample_11 ?_
    refine lv_iload_n C.1 C.2.1 dX8_isSample_14 rfl (lv_at hl 1 rfl) ?_
    refine mL_sizes C hW dN (hd.trans (by omega)) (by omega) (v := (τ.2.1 6 dN)) rfl dX8_isSample_15 ?_
    refine lv_icmp_lt C.1 C.2.1 (tgt := 21) dX8_isSample_16 (by decide) (fun c_2 => ?_) (fun c_2 => ?_)
    · skip
      have k_2 := (tc_lt hi (rfl : ((τ.2.1 6 dN)).toInt = ((τ.2.1 6 dN)).toInt)).mp c_2
      refine lv_iconst C.1 C.2.1 (v := 0) dX8_isSample_21 (by decide) ?_
      refine lv_istore_n (lv' := [(3, .int 0), (0, .ref (q 0)), (1, .int d), (2, .int i)]) C.1 C.2.1 dX8_isSample_22 rfl hl (by decide) rfl (fun ls hl => ?_)
      have L_23_3 : ∀ (fuel : Nat) (g : Nat) (x3 : Int32), (τ.1 2).toInt.toNat - g < fuel → (x3.toInt = (g : Int)) → ((g : Int) ≤ (τ.1 2).toInt) → (∀ f : Nat, f < g → ¬ ((τ.2.1 8 f).toInt = dN ∧ (τ.2.1 9 f).toInt ≤ iN ∧ (iN : Int) ≤ (τ.2.1 10 f).toInt)) → ∀ (H : Heap) (locs : List Loc) (ls : Array Slot), WB G 33 q (eM G q τ ξ) s H locs → lv_has ls 4 [(3, .int x3), (0, .ref (q 0)), (1, .int d), (2, .int i)] → W p l e (rmA 1 25) s m args below meth c H locs 0 0 QQ (F0 m 23 ls []) := by
        intro fuel; induction fuel with
        | zero => intro g x3 hf; exact absurd hf (Nat.not_lt_zero _)
        | succ fuel ih_23 =>
          intro g x3 hf hg hle hff H locs ls hW hl
          refine lv_iload_n C.1 C.2.1 dX8_isSample_23 rfl (lv_at hl 0 rfl) ?_
          refine lv_aload_n C.1 C.2.1 dX8_isSample_24 rfl (lv_at hl 1 rfl) ?_
          refine mG_flags C hW (v := (τ.1 2)) rfl dX8_isSample_25 ?_
          refine lv_icmp_ge C.1 C.2.1 (tgt := 71) dX8_isSample_28 (by decide) (fun c_4 => ?_) (fun c_4 => ?_)
          · skip
            have k_4 := (tc_le (rfl : ((τ.1 2)).toInt = ((τ.1 2)).toInt) hg).mp c_4
            refine lv_iconst C.1 C.2.1 (v := 1) dX8_isSample_71 (by decide) ?_
            subst hQ
            exact r_zret (τ, ξ) C hW hr rfl hk dX8_isSample_72 (Or.inl ⟨rfl, rfl, by omega, by omega, fun f hf => hff f (by omega)⟩)
          · skip
            have k_4 := (tn_le (rfl : ((τ.1 2)).toInt = ((τ.1 2)).toInt) hg).mp c_4
            refine lv_aload_n C.1 C.2.1 dX8_isSample_31 rfl (lv_at hl 1 rfl) ?_
            refine mG_flagDish C hW dX8_isSample_32 ?_
            refine lv_iload_n C.1 C.2.1 dX8_isSample_35 rfl (lv_at hl 0 rfl) ?_
            refine mL_flagDish C hW g (hg.trans (by omega)) (by omega) (v := (τ.2.1 8 g)) rfl dX8_isSample_36 ?_
            refine lv_iload_n C.1 C.2.1 dX8_isSample_37 rfl (lv_at hl 2 rfl) ?_
            refine lv_icmp_ne C.1 C.2.1 (tgt := 65) dX8_isSample_38 (by decide) (fun c_5 => ?_) (fun c_5 => ?_)
            · skip
              have k_5 := (tn_eq (rfl : ((τ.2.1 8 g)).toInt = ((τ.2.1 8 g)).toInt) hd).mp c_5
              refine lv_iinc (v := (x3 + 1)) (lv' := [(3, .int (x3 + 1)), (0, .ref (q 0)), (1, .int d), (2, .int i)]) C.1 C.2.1 dX8_isSample_65 hl (k := 0) rfl rfl (by decide) rfl (fun ls hl => ?_)
              refine lv_goto C.1 C.2.1 (tgt := 23) dX8_isSample_68 (by decide) ?_
              exact ih_23 (g + 1) (x3 + 1) (by omega) ((ti_add hg (show (1 : Int32).toInt = 1 from by decide) (by omega) (by omega)).trans (by omega)) (by omega) (fun f hf => (Nat.lt_succ_iff_lt_or_eq.mp hf).elim (hff f) (fun h => by subst h; omega)) _ _ _ hW (lv_sub hl [0, 1, 2, 3] rfl)
            · skip
              have k_5 := (tc_eq (rfl : ((τ.2.1 8 g)).toInt = ((τ.2.1 8 g)).toInt) hd).mp c_5
              refine lv_iload_n C.1 C.2.1 dX8_isSample_41 rfl (lv_at hl 3 rfl) ?_
              refine lv_i2l C.1 C.2.1 dX8_isSample_42 rfl ?_
              refine lv_aload_n C.1 C.2.1 dX8_isSample_43 rfl (lv_at hl 1 rfl) ?_
              refine mG_flagFrom C hW dX8_isSample_44 ?_
              refine lv_iload_n C.1 C.2.1 dX8_isSample_47 rfl (lv_at hl 0 rfl) ?_
              refine mL_flagFrom C hW g (hg.trans (by omega)) (by omega) (v := (τ.2.1 9 g)) rfl dX8_isSample_48 ?_
              refine lv_i2l C.1 C.2.1 dX8_isSample_49 rfl ?_
              refine lv_aload_n C.1 C.2.1 dX8_isSample_50 rfl (lv_at hl 1 rfl) ?_
              refine mG_flagTo C hW dX8_isSample_51 ?_
              refine lv_iload_n C.1 C.2.1 dX8_isSample_54 rfl (lv_at hl 0 rfl) ?_
              refine mL_flagTo C hW g (hg.trans (by omega)) (by omega) (v := (τ.2.1 10 g)) rfl dX8_isSample_55 ?_
              refine lv_i2l C.1 C.2.1 dX8_isSample_56 rfl ?_
              refine go_i hW (run_S (As := [.long ((i).toInt64), .long ((τ.2.1 9 g).toInt64), .long ((τ.2.1 10 g).toInt64)]) (rest := []) C hW (c_X8_in l G q _ τ ξ ((i).toInt64) ((τ.2.1 9 g).toInt64) ((τ.2.1 10 g).toInt64) (iN : Int) (((τ.2.1 9 g)).toInt) (((τ.2.1 10 g)).toInt) (ti_i2l hi) (ti_i2l (rfl : ((τ.2.1 9 g)).toInt = ((τ.2.1 9 g)).toInt)) (ti_i2l (rfl : ((τ.2.1 10 g)).toInt = ((τ.2.1 10 g)).toInt))) (cw_S 3 C bL_X8_121 bS_X8_in bN_X8 bC_X8_in ⟨rfl, rfl⟩ (by decide +kernel) ⟨Nat.le_of_ble_eq_true rfl, Nat.le_of_ble_eq_true rfl⟩) rfl hl.1 rfl (Nat.le_of_ble_eq_true rfl) dX8_isSample_57 ⟨Nat.le_refl _, Nat.le_refl _⟩) (fun r_6 u_6 H locs hp_6 hW => ?_)
              rcases hp_6 with ⟨rfl, rfl, k_6_0, k_6_1⟩ | ⟨rfl, rfl, k_6⟩
              · skip
                have hW : WB G 33 q (eM G q τ ξ) s H locs := hW
                refine lv_if_eq C.1 C.2.1 (tgt := 65) dX8_isSample_60 (by decide) (fun c => absurd c (by decide)) (fun _ => ?_)
                refine lv_iconst C.1 C.2.1 (v := 0) dX8_isSample_63 (by decide) ?_
                subst hQ
                exact r_zret (τ, ξ) C hW hr rfl hk dX8_isSample_64 (Or.inr ⟨rfl, rfl, fun h => h.2.2 g (by omega) ⟨by omega, by omega, by omega⟩⟩)
              · skip
                have hW : WB G 33 q (eM G q τ ξ) s H locs := hW
                refine lv_if_eq C.1 C.2.1 (tgt := 65) dX8_isSample_60 (by decide) (fun _ => ?_) (fun c => absurd c (by decide))
                refine lv_iinc (v := (x3 + 1)) (lv' := [(3, .int (x3 + 1)), (0, .ref (q 0)), (1, .int d), (2, .int i)]) C.1 C.2.1 dX8_isSample_65 hl (k := 0) rfl rfl (by decide) rfl (fun ls hl => ?_)
                refine lv_goto C.1 C.2.1 (tgt := 23) dX8_isSample_68 (by decide) ?_
                exact ih_23 (g + 1) (x3 + 1) (by omega) ((ti_add hg (show (1 : Int32).toInt = 1 from by decide) (by omega) (by omega)).trans (by omega)) (by omega) (fun f hf => (Nat.lt_succ_iff_lt_or_eq.mp hf).elim (hff f) (fun h => by subst h; omega)) _ _ _ hW (lv_sub hl [0, 1, 2, 3] rfl)
      exact L_23_3 _ 0 0 (Nat.lt_succ_self _) (by decide) (by omega) (fun f h => absurd h (Nat.not_lt_zero _)) _ _ _ hW (lv_sub hl [0, 1, 2, 3] rfl)
    · skip
      have k_2 := (tn_lt hi (rfl : ((τ.2.1 6 dN)).toInt = ((τ.2.1 6 dN)).toInt)).mp c_2
      refine lv_iconst C.1 C.2.1 (v := 0) dX8_isSample_19 (by decide) ?_
      subst hQ
      exact r_zret (τ, ξ) C hW hr rfl hk dX8_isSample_20 (Or.inr ⟨rfl, rfl, (by intro h; have h1 := h.1; have h2 := h.2.1; omega)⟩)
set_option maxHeartbeats 4000000 in
set_option maxRecDepth 100000 in
theorem c_X8_sampleAt (l : Launch) (G : GG) (q : Nat → Nat) (sz : Nat) (τ ξ : ST) (d : Int32) (i : Int32) (dN : Nat) (iN : Nat) (hd : d.toInt = (dN : Int)) (hi : i.toInt = (iN : Int)) (hdN : dN < 6) (hiN : iN < 100) : Met l yX8_sampleAt (WSb yX8_sampleAt cX8_sampleAt 4 (some .long)) (rmA 0 0) (va_Pc [.ref (q 0), .int d, .int i] (PW G 33 q sz (eM G q τ ξ))) (va_Ql (fun (r : Int64) (u : (ST × ST)) => r = smpV τ dN iN ∧ u = (τ, ξ)) (fun u => BW G 33 q (eM G q u.1 u.2)) (FA 33 q sz)) 0 0 (FA 33 q sz) := by
  refine Met_B (own := RX8) rfl (by decide) (Nat.le_of_ble_eq_true rfl) (fun p e s m args below meth c ls hsz C hW hr hk hl QQ hQ => ?_)
  subst hsz
  have hl : lv_has ls 4 [(0, .ref (q 0)), (1, .int d), (2, .int i)] := hl
  refine lv_aload_n C.1 C.2.1 dX8_sampleAt_0 rfl (lv_at hl 0 rfl) ?_
  refine mG_items C hW dX8_sampleAt_1 ?_
  refine lv_bipush C.1 C.2.1 (v := 100) dX8_sampleAt_4 (by decide) ?_
  refine lv_iload_n C.1 C.2.1 dX8_sampleAt_6 rfl (lv_at hl 1 rfl) ?_
  refine lv_imul C.1 C.2.1 dX8_sampleAt_7 ?_
  refine lv_iload_n C.1 C.2.1 dX8_sampleAt_8 rfl (lv_at hl 2 rfl) ?_
  refine lv_iadd C.1 C.2.1 dX8_sampleAt_9 ?_
  refine mL_items C hW ((100 * dN) + iN) ((ti_add (ti_mul (show (100 : Int32).toInt = 100 from by decide) hd (by omega) (by omega)) hi (by omega) (by omega)).trans (by omega)) (by omega) (v := (τ.2.1 7 ((100 * dN) + iN))) rfl dX8_sampleAt_10 ?_
  refine lv_istore_n (lv' := [(3, .int (τ.2.1 7 ((100 * dN) + iN))), (0, .ref (q 0)), (1, .int d), (2, .int i)]) C.1 C.2.1 dX8_sampleAt_11 rfl hl (by decide) rfl (fun ls hl => ?_)
  refine lv_iload_n C.1 C.2.1 dX8_sampleAt_12 rfl (lv_at hl 0 rfl) ?_
  refine lv_sipush C.1 C.2.1 (v := 500) dX8_sampleAt_13 (by decide) ?_
  refine lv_icmp_le C.1 C.2.1 (tgt := 25) dX8_sampleAt_16 (by decide) (fun c_1 => ?_) (fun c_1 => ?_)
  · skip
    have k_1 := (tc_le (rfl : ((τ.2.1 7 ((100 * dN) + iN))).toInt = ((τ.2.1 7 ((100 * dN) + iN))).toInt) (show (500 : Int32).toInt = 500 from by decide)).mp c_1
    refine lv_iload_n C.1 C.2.1 dX8_sampleAt_25 rfl (lv_at hl 0 rfl) ?_
    refine lv_sipush C.1 C.2.1 (v := (-500)) dX8_sampleAt_26 (by decide) ?_
    refine lv_icmp_ge C.1 C.2.1 (tgt := 38) dX8_sampleAt_29 (by decide) (fun c_2 => ?_) (fun c_2 => ?_)
    · skip
      have k_2 := (tc_le (show (-500 : Int32).toInt = -500 from by decide) (rfl : ((τ.2.1 7 ((100 * dN) + iN))).toInt = ((τ.2.1 7 ((100 * dN) + iN))).toInt)).mp c_2
      refine lv_iload_n C.1 C.2.1 dX8_sampleAt_38 rfl (lv_at hl 0 rfl) ?_
      refine lv_i2l C.1 C.2.1 dX8_sampleAt_39 rfl ?_
      subst hQ
      exact r_lret (τ, ξ) C hW hr hk dX8_sampleAt_40 ⟨by unfold smpV; repeat (first | rw [if_pos (by omega)] | rw [if_neg (by omega)]), rfl⟩
    · skip
      have k_2 := (tn_le (show (-500 : Int32).toInt = -500 from by decide) (rfl : ((τ.2.1 7 ((100 * dN) + iN))).toInt = ((τ.2.1 7 ((100 * dN) + iN))).toInt)).mp c_2
      refine lv_ldc2 C.1 C.2.1 C.2.2.2.1 (C.2.2.2.2.1 _ bQ_X8_155) dX8_sampleAt_32 ?_
      refine lv_goto C.1 C.2.1 (tgt := 40) dX8_sampleAt_35 (by decide) ?_
      subst hQ
      exact r_lret (τ, ξ) C hW hr hk dX8_sampleAt_40 ⟨by unfold smpV; repeat (first | rw [if_pos (by omega)] | rw [if_neg (by omega)]), rfl⟩
  · skip
    have k_1 := (tn_le (rfl : ((τ.2.1 7 ((100 * dN) + iN))).toInt = ((τ.2.1 7 ((100 * dN) + iN))).toInt) (show (500 : Int32).toInt = 500 from by decide)).mp c_1
    refine lv_ldc2 C.1 C.2.1 C.2.2.2.1 (C.2.2.2.2.1 _ bQ_X8_153) dX8_sampleAt_19 ?_
    refine lv_goto C.1 C.2.1 (tgt := 40) dX8_sampleAt_22 (by decide) ?_
    subst hQ
    exact r_lret (τ, ξ) C hW hr hk dX8_sampleAt_40 ⟨by unfold smpV; repeat (first | rw [if_pos (by omega)] | rw [if_neg (by omega)]), rfl⟩
set_option maxHeartbeats 4000000 in
set_option maxRecDepth 100000 in
theorem c_X8_sign (l : Launch) (G : GG) (q : Nat → Nat) (sz : Nat) (τ ξ : ST) (v : Int64) : Met l yX8_sign (WSb yX8_sign cX8_sign 2 (some .int)) (rmA 0 0) (va_Pc [.long v] (PW G 33 q sz (eM G q τ ξ))) (va_Qi (fun (r : Int32) (u : (ST × ST)) => r = sgn v ∧ u = (τ, ξ)) (fun u => BW G 33 q (eM G q u.1 u.2)) (FA 33 q sz)) 0 0 (FA 33 q sz) := by
  refine Met_B (own := RX8) rfl (by decide) (Nat.le_of_ble_eq_true rfl) (fun p e s m args below meth c ls hsz C hW hr hk hl QQ hQ => ?_)
  subst hsz
  have hl : lv_has ls 2 [(0, .long v)] := hl
  refine lv_lload_n C.1 C.2.1 dX8_sign_0 rfl (lv_at hl 0 rfl) ?_
  refine lv_lconst C.1 C.2.1 (v := 0) dX8_sign_1 (by decide) ?_
  refine W.lcmp C.1 C.2.1 dX8_sign_2 ?_
  refine lv_if_le C.1 C.2.1 (tgt := 10) dX8_sign_3 (by decide) (fun c_1 => ?_) (fun c_1 => ?_)
  · skip
    have k_1 := (lc_le (rfl : (v).toInt = (v).toInt) (show (0 : Int64).toInt = 0 from by decide)).mp c_1
    refine lv_lload_n C.1 C.2.1 dX8_sign_10 rfl (lv_at hl 0 rfl) ?_
    refine lv_lconst C.1 C.2.1 (v := 0) dX8_sign_11 (by decide) ?_
    refine W.lcmp C.1 C.2.1 dX8_sign_12 ?_
    refine lv_if_ge C.1 C.2.1 (tgt := 20) dX8_sign_13 (by decide) (fun c_2 => ?_) (fun c_2 => ?_)
    · skip
      have k_2 := (lc_ge (rfl : (v).toInt = (v).toInt) (show (0 : Int64).toInt = 0 from by decide)).mp c_2
      refine lv_iconst C.1 C.2.1 (v := 0) dX8_sign_20 (by decide) ?_
      subst hQ
      exact r_iret (τ, ξ) C hW hr hk dX8_sign_21 ⟨by unfold sgn; repeat (first | rw [if_pos (by omega)] | rw [if_neg (by omega)]), rfl⟩
    · skip
      have k_2 := (ln_ge (rfl : (v).toInt = (v).toInt) (show (0 : Int64).toInt = 0 from by decide)).mp c_2
      refine lv_iconst C.1 C.2.1 (v := (-1)) dX8_sign_16 (by decide) ?_
      refine lv_goto C.1 C.2.1 (tgt := 21) dX8_sign_17 (by decide) ?_
      subst hQ
      exact r_iret (τ, ξ) C hW hr hk dX8_sign_21 ⟨by unfold sgn; repeat (first | rw [if_pos (by omega)] | rw [if_neg (by omega)]), rfl⟩
  · skip
    have k_1 := (ln_le (rfl : (v).toInt = (v).toInt) (show (0 : Int64).toInt = 0 from by decide)).mp c_1
    refine lv_iconst C.1 C.2.1 (v := 1) dX8_sign_6 (by decide) ?_
    refine lv_goto C.1 C.2.1 (tgt := 21) dX8_sign_7 (by decide) ?_
    subst hQ
    exact r_iret (τ, ξ) C hW hr hk dX8_sign_21 ⟨by unfold sgn; repeat (first | rw [if_pos (by omega)] | rw [if_neg (by omega)]), rfl⟩
set_option maxHeartbeats 4000000 in
set_option maxRecDepth 100000 in
theorem c_X8_amount (l : Launch) (G : GG) (q : Nat → Nat) (sz : Nat) (τ ξ : ST) (v : Int64) : Met l yX8_amount (WSb yX8_amount cX8_amount 2 (some .long)) (rmA 0 0) (va_Pc [.long v] (PW G 33 q sz (eM G q τ ξ))) (va_Ql (fun (r : Int64) (u : (ST × ST)) => r = amt v ∧ u = (τ, ξ)) (fun u => BW G 33 q (eM G q u.1 u.2)) (FA 33 q sz)) 0 0 (FA 33 q sz) := by
  refine Met_B (own := RX8) rfl (by decide) (Nat.le_of_ble_eq_true rfl) (fun p e s m args below meth c ls hsz C hW hr hk hl QQ hQ => ?_)
  subst hsz
  have hl : lv_has ls 2 [(0, .long v)] := hl
  refine lv_lload_n C.1 C.2.1 dX8_amount_0 rfl (lv_at hl 0 rfl) ?_
  refine lv_lconst C.1 C.2.1 (v := 0) dX8_amount_1 (by decide) ?_
  refine W.lcmp C.1 C.2.1 dX8_amount_2 ?_
  refine lv_if_ge C.1 C.2.1 (tgt := 11) dX8_amount_3 (by decide) (fun c_1 => ?_) (fun c_1 => ?_)
  · skip
    have k_1 := (lc_ge (rfl : (v).toInt = (v).toInt) (show (0 : Int64).toInt = 0 from by decide)).mp c_1
    refine lv_lload_n C.1 C.2.1 dX8_amount_11 rfl (lv_at hl 0 rfl) ?_
    subst hQ
    exact r_lret (τ, ξ) C hW hr hk dX8_amount_12 ⟨by unfold amt; repeat (first | rw [if_pos (by omega)] | rw [if_neg (by omega)]), rfl⟩
  · skip
    have k_1 := (ln_ge (rfl : (v).toInt = (v).toInt) (show (0 : Int64).toInt = 0 from by decide)).mp c_1
    refine lv_lload_n C.1 C.2.1 dX8_amount_6 rfl (lv_at hl 0 rfl) ?_
    refine lv_lneg C.1 C.2.1 dX8_amount_7 ?_
    refine lv_goto C.1 C.2.1 (tgt := 12) dX8_amount_8 (by decide) ?_
    subst hQ
    exact r_lret (τ, ξ) C hW hr hk dX8_amount_12 ⟨by unfold amt; repeat (first | rw [if_pos (by omega)] | rw [if_neg (by omega)]), rfl⟩
set_option maxHeartbeats 4000000 in
set_option maxRecDepth 100000 in
theorem c_X8_wave (l : Launch) (G : GG) (q : Nat → Nat) (sz : Nat) (τ ξ : ST) (k : Int32) : Met l yX8_wave (WSb yX8_wave cX8_wave 2 (some .int)) (rmA 0 0) (va_Pc [.ref (q 0), .int k] (PW G 33 q sz (eM G q τ ξ))) (va_Qi (fun (r : Int32) (u : (ST × ST)) => r = wv (k &&& 15).toInt.toNat ∧ u = (τ, ξ)) (fun u => BW G 33 q (eM G q u.1 u.2)) (FA 33 q sz)) 0 0 (FA 33 q sz) := by
  refine Met_B (own := RX8) rfl (by decide) (Nat.le_of_ble_eq_true rfl) (fun p e s m args below meth c ls hsz C hW hr hk hl QQ hQ => ?_)
  subst hsz
  have hl : lv_has ls 2 [(0, .ref (q 0)), (1, .int k)] := hl
  have hq := and15 k
  refine lv_aload_n C.1 C.2.1 dX8_wave_0 rfl (lv_at hl 0 rfl) ?_
  refine mG_waves C hW dX8_wave_1 ?_
  refine lv_iload_n C.1 C.2.1 dX8_wave_4 rfl (lv_at hl 1 rfl) ?_
  refine lv_bipush C.1 C.2.1 (v := 15) dX8_wave_5 (by decide) ?_
  refine lv_iand C.1 C.2.1 dX8_wave_7 ?_
  refine mL_waves C hW (((k &&& 15).toInt).toNat) ((rfl : (k &&& 15).toInt = _).trans (by omega)) (by omega) (v := (wv (((k &&& 15).toInt).toNat))) rfl dX8_wave_8 ?_
  subst hQ
  exact r_iret (τ, ξ) C hW hr hk dX8_wave_9 (⟨rfl, rfl⟩)
set_option maxHeartbeats 4000000 in
set_option maxRecDepth 100000 in
theorem c_X8_cells (l : Launch) (G : GG) (q : Nat → Nat) (sz : Nat) (τ ξ : ST) : Met l yX8_cells (WSb yX8_cells cX8_cells 1 (some .int)) (rmA 0 0) (va_Pc [.ref (q 0)] (PW G 33 q sz (eM G q τ ξ))) (va_Qi (fun (r : Int32) (u : (ST × ST)) => r = (τ.1 6 - τ.1 5 + 1) * (τ.1 8 - τ.1 7 + 1) ∧ u = (τ, ξ)) (fun u => BW G 33 q (eM G q u.1 u.2)) (FA 33 q sz)) 0 0 (FA 33 q sz) := by
  refine Met_B (own := RX8) rfl (by decide) (Nat.le_of_ble_eq_true rfl) (fun p e s m args below meth c ls hsz C hW hr hk hl QQ hQ => ?_)
  subst hsz
  have hl : lv_has ls 1 [(0, .ref (q 0))] := hl
  refine lv_aload_n C.1 C.2.1 dX8_cells_0 rfl (lv_at hl 0 rfl) ?_
  refine mG_highX C hW (v := (τ.1 6)) rfl dX8_cells_1 ?_
  refine lv_aload_n C.1 C.2.1 dX8_cells_4 rfl (lv_at hl 0 rfl) ?_
  refine mG_lowX C hW (v := (τ.1 5)) rfl dX8_cells_5 ?_
  refine lv_isub C.1 C.2.1 dX8_cells_8 ?_
  refine lv_iconst C.1 C.2.1 (v := 1) dX8_cells_9 (by decide) ?_
  refine lv_iadd C.1 C.2.1 dX8_cells_10 ?_
  refine lv_aload_n C.1 C.2.1 dX8_cells_11 rfl (lv_at hl 0 rfl) ?_
  refine mG_highY C hW (v := (τ.1 8)) rfl dX8_cells_12 ?_
  refine lv_aload_n C.1 C.2.1 dX8_cells_15 rfl (lv_at hl 0 rfl) ?_
  refine mG_lowY C hW (v := (τ.1 7)) rfl dX8_cells_16 ?_
  refine lv_isub C.1 C.2.1 dX8_cells_19 ?_
  refine lv_iconst C.1 C.2.1 (v := 1) dX8_cells_20 (by decide) ?_
  refine lv_iadd C.1 C.2.1 dX8_cells_21 ?_
  refine lv_imul C.1 C.2.1 dX8_cells_22 ?_
  subst hQ
  exact r_iret (τ, ξ) C hW hr hk dX8_cells_23 (⟨rfl, rfl⟩)
set_option maxHeartbeats 4000000 in
set_option maxRecDepth 100000 in
theorem c_X8_isCell (l : Launch) (G : GG) (q : Nat → Nat) (sz : Nat) (τ ξ : ST) (x : Int32) (y : Int32) : Met l yX8_isCell (WSb yX8_isCell cX8_isCell 2 (some .boolean)) (rmA 1 25) (va_Pc [.int x, .int y] (PW G 33 q sz (eM G q τ ξ))) (va_Qi (fun (r : Int32) (u : (ST × ST)) => (r = 1 ∧ u = (τ, ξ) ∧ (0 ≤ x.toInt) ∧ (x.toInt ≤ 15) ∧ (0 ≤ y.toInt) ∧ (y.toInt ≤ 15)) ∨ (r = 0 ∧ u = (τ, ξ) ∧ (¬ (0 ≤ x.toInt ∧ x.toInt ≤ 15 ∧ 0 ≤ y.toInt ∧ y.toInt ≤ 15)))) (fun u => BW G 33 q (eM G q u.1 u.2)) (FA 33 q sz)) 0 0 (FA 33 q sz) := by
  refine Met_B (own := RX8) rfl (by decide) (Nat.le_of_ble_eq_true rfl) (fun p e s m args below meth c ls hsz C hW hr hk hl QQ hQ => ?_)
  subst hsz
  have hl : lv_has ls 2 [(0, .int x), (1, .int y)] := hl
  refine lv_iload_n C.1 C.2.1 dX8_isCell_0 rfl (lv_at hl 0 rfl) ?_
  refine lv_i2l C.1 C.2.1 dX8_isCell_1 rfl ?_
  refine lv_lconst C.1 C.2.1 (v := 0) dX8_isCell_2 (by decide) ?_
  refine lv_ldc2 C.1 C.2.1 C.2.2.2.1 (C.2.2.2.2.1 _ bQ_X8_213) dX8_isCell_3 ?_
  refine go_i hW (run_S (As := [.long ((x).toInt64), .long 0, .long 15]) (rest := []) C hW (c_X8_in l G q _ τ ξ ((x).toInt64) 0 15 ((x).toInt) 0 15 (ti_i2l (rfl : (x).toInt = (x).toInt)) (show (0 : Int64).toInt = 0 from by decide) (show (15 : Int64).toInt = 15 from by decide)) (cw_S 3 C bL_X8_121 bS_X8_in bN_X8 bC_X8_in ⟨rfl, rfl⟩ (by decide +kernel) ⟨Nat.le_of_ble_eq_true rfl, Nat.le_of_ble_eq_true rfl⟩) rfl hl.1 rfl (Nat.le_of_ble_eq_true rfl) dX8_isCell_6 ⟨Nat.le_refl _, Nat.le_refl _⟩) (fun r_1 u_1 H locs hp_1 hW => ?_)
  rcases hp_1 with ⟨rfl, rfl, k_1_0, k_1_1⟩ | ⟨rfl, rfl, k_1⟩
  · skip
    have hW : WB G 33 q (eM G q τ ξ) s H locs := hW
    refine lv_if_eq C.1 C.2.1 (tgt := 28) dX8_isCell_9 (by decide) (fun c => absurd c (by decide)) (fun _ => ?_)
    refine lv_iload_n C.1 C.2.1 dX8_isCell_12 rfl (lv_at hl 1 rfl) ?_
    refine lv_i2l C.1 C.2.1 dX8_isCell_13 rfl ?_
    refine lv_lconst C.1 C.2.1 (v := 0) dX8_isCell_14 (by decide) ?_
    refine lv_ldc2 C.1 C.2.1 C.2.2.2.1 (C.2.2.2.2.1 _ bQ_X8_213) dX8_isCell_15 ?_
    refine go_i hW (run_S (As := [.long ((y).toInt64), .long 0, .long 15]) (rest := []) C hW (c_X8_in l G q _ τ ξ ((y).toInt64) 0 15 ((y).toInt) 0 15 (ti_i2l (rfl : (y).toInt = (y).toInt)) (show (0 : Int64).toInt = 0 from by decide) (show (15 : Int64).toInt = 15 from by decide)) (cw_S 3 C bL_X8_121 bS_X8_in bN_X8 bC_X8_in ⟨rfl, rfl⟩ (by decide +kernel) ⟨Nat.le_of_ble_eq_true rfl, Nat.le_of_ble_eq_true rfl⟩) rfl hl.1 rfl (Nat.le_of_ble_eq_true rfl) dX8_isCell_18 ⟨Nat.le_refl _, Nat.le_refl _⟩) (fun r_3 u_3 H locs hp_3 hW => ?_)
    rcases hp_3 with ⟨rfl, rfl, k_3_0, k_3_1⟩ | ⟨rfl, rfl, k_3⟩
    · skip
      have hW : WB G 33 q (eM G q τ ξ) s H locs := hW
      refine lv_if_eq C.1 C.2.1 (tgt := 28) dX8_isCell_21 (by decide) (fun c => absurd c (by decide)) (fun _ => ?_)
      refine lv_iconst C.1 C.2.1 (v := 1) dX8_isCell_24 (by decide) ?_
      refine lv_goto C.1 C.2.1 (tgt := 29) dX8_isCell_25 (by decide) ?_
      subst hQ
      exact r_zret (τ, ξ) C hW hr rfl hk dX8_isCell_29 (by first | exact Or.inl ⟨rfl, rfl, (by omega), (by omega), (by omega), (by omega)⟩ | exact Or.inr (⟨rfl, rfl, (by omega)⟩))
    · skip
      have hW : WB G 33 q (eM G q τ ξ) s H locs := hW
      refine lv_if_eq C.1 C.2.1 (tgt := 28) dX8_isCell_21 (by decide) (fun _ => ?_) (fun c => absurd c (by decide))
      refine lv_iconst C.1 C.2.1 (v := 0) dX8_isCell_28 (by decide) ?_
      subst hQ
      exact r_zret (τ, ξ) C hW hr rfl hk dX8_isCell_29 (by first | exact Or.inl ⟨rfl, rfl, (by omega), (by omega), (by omega), (by omega)⟩ | exact Or.inr (⟨rfl, rfl, (by omega)⟩))
  · skip
    have hW : WB G 33 q (eM G q τ ξ) s H locs := hW
    refine lv_if_eq C.1 C.2.1 (tgt := 28) dX8_isCell_9 (by decide) (fun _ => ?_) (fun c => absurd c (by decide))
    refine lv_iconst C.1 C.2.1 (v := 0) dX8_isCell_28 (by decide) ?_
    subst hQ
    exact r_zret (τ, ξ) C hW hr rfl hk dX8_isCell_29 (by first | exact Or.inl ⟨rfl, rfl, (by omega), (by omega), (by omega), (by omega)⟩ | exact Or.inr (⟨rfl, rfl, (by omega)⟩))
set_option maxHeartbeats 4000000 in
set_option maxRecDepth 100000 in
theorem c_X8_all (l : Launch) (G : GG) (q : Nat → Nat) (sz : Nat) (τ ξ : ST) : Met l yX8_all (WSb yX8_all cX8_all 1 none) (rmA 0 0) (va_Pc [.ref (q 0)] (PW G 33 q sz (eM G q τ ξ))) (va_Qv (fun (u : (ST × ST)) => u = ((sg (sg (sg (sg τ 5 0) 6 15) 7 0) 8 15), ξ)) (fun u => BW G 33 q (eM G q u.1 u.2)) (FA 33 q sz)) 0 0 (FA 33 q sz) := by
  refine Met_B (own := RX8) rfl (by decide) (Nat.le_of_ble_eq_true rfl) (fun p e s m args below meth c ls hsz C hW hr hk hl QQ hQ => ?_)
  subst hsz
  have hl : lv_has ls 1 [(0, .ref (q 0))] := hl
  refine lv_aload_n C.1 C.2.1 dX8_all_0 rfl (lv_at hl 0 rfl) ?_
  refine lv_iconst C.1 C.2.1 (v := 0) dX8_all_1 (by decide) ?_
  refine mP_lowX C hW dX8_all_2 (fun H locs hW => ?_)
  refine lv_aload_n C.1 C.2.1 dX8_all_5 rfl (lv_at hl 0 rfl) ?_
  refine lv_bipush C.1 C.2.1 (v := 15) dX8_all_6 (by decide) ?_
  refine mP_highX C hW dX8_all_8 (fun H locs hW => ?_)
  refine lv_aload_n C.1 C.2.1 dX8_all_11 rfl (lv_at hl 0 rfl) ?_
  refine lv_iconst C.1 C.2.1 (v := 0) dX8_all_12 (by decide) ?_
  refine mP_lowY C hW dX8_all_13 (fun H locs hW => ?_)
  refine lv_aload_n C.1 C.2.1 dX8_all_16 rfl (lv_at hl 0 rfl) ?_
  refine lv_bipush C.1 C.2.1 (v := 15) dX8_all_17 (by decide) ?_
  refine mP_highY C hW dX8_all_19 (fun H locs hW => ?_)
  subst hQ
  exact r_vret ((sg (sg (sg (sg τ 5 0) 6 15) 7 0) 8 15), ξ) C hW hr hk dX8_all_22 (rfl)
