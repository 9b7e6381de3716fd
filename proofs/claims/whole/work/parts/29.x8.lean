/-! flags, spacings of the landed class -/
def rgF (lo hi : Nat) (v : Int32) (f : Nat → Int32) (j : Nat) : Int32 := if lo ≤ j ∧ j < hi then f j + v else f j
theorem rg_0 (lo : Nat) (v : Int32) (f : Nat → Int32) : rgF lo lo v f = f := funext fun j => if_neg (by omega)
theorem rg_s {lo hi : Nat} (h : lo ≤ hi) (v : Int32) (f : Nat → Int32) : upd (rgF lo hi v f) hi (rgF lo hi v f hi + v) = rgF lo (hi + 1) v f := by
  funext j
  show (if j = hi then rgF lo hi v f hi + v else rgF lo hi v f j) = rgF lo (hi + 1) v f j
  unfold rgF
  by_cases e : j = hi
  · subst e
    rw [if_pos rfl, if_neg (by omega), if_pos (by omega)]
  · rw [if_neg e]
    by_cases c : lo ≤ j ∧ j < hi
    · rw [if_pos c, if_pos (by omega)]
    · rw [if_neg c, if_neg (by omega)]
theorem dOk_z {τ ζ ζ' : ST} {z : Nat} (h0 : ζ'.2.1 0 = ζ.2.1 0) (h1 : ζ'.2.1 1 = ζ.2.1 1) (h : dOk τ ζ z) : dOk τ ζ' z := by
  unfold dOk at h ⊢
  rw [h0, h1]; exact h
set_option maxHeartbeats 4000000 in
set_option maxRecDepth 100000 in
theorem c_X1_addFlags (l : Launch) (G : GG) (q : Nat → Nat) (nd sz : Nat) (τ ζ : ST) (ρ : RF) (a : Int32) (b : Int32) (v : Int32) (aN : Nat) (bN : Nat) (i : Nat) (ha : a.toInt = (aN : Int)) (hb : b.toInt = (bN : Int)) (h_nd : nd ≤ 6) (hi : i < nd) (hab : aN ≤ bN) (hb99 : bN ≤ 99) : Met l yX1_addFlags (WSb yX1_addFlags cX1_addFlags 5 none) (rmA 1 21) (va_Pc [.ref (q (28 + 3 * i)), .int a, .int b, .int v] (PW G (28 + 3 * nd) q sz (eX G q τ ζ ρ))) (va_Qv (fun (u : (ST × ST × RF)) => u = (τ, (saF ζ 1 (rgF (100 * i + aN) (100 * i + (bN + 1)) v (ζ.2.1 1))), ρ)) (fun u => BW G (28 + 3 * nd) q (eX G q u.1 u.2.1 u.2.2)) (FA (28 + 3 * nd) q sz)) 0 0 (FA (28 + 3 * nd) q sz) := by
  refine Met_B (own := RX1) rfl (by decide) (Nat.le_of_ble_eq_true rfl) (fun p e s m args below meth c ls hsz C hW hr hk hl QQ hQ => ?_)
  subst hsz
  have hl : lv_has ls 5 [(0, .ref (q (28 + 3 * i))), (1, .int a), (2, .int b), (3, .int v)] := hl
  refine lv_iload_n C.1 C.2.1 dX1_addFlags_0 rfl (lv_at hl 1 rfl) ?_
  refine lv_iconst C.1 C.2.1 (v := 0) dX1_addFlags_1 (by decide) ?_
  refine r_max (rest := []) C hl.1 bL_X1_51 (Nat.le_of_ble_eq_true rfl) (Nat.le_of_ble_eq_true rfl) ⟨Nat.le_refl _, Nat.le_refl _⟩ dX1_addFlags_2 ?_
  refine lv_istore (lv' := [(4, .int (if a < 0 then 0 else a)), (0, .ref (q (28 + 3 * i))), (1, .int a), (2, .int b), (3, .int v)]) C.1 C.2.1 dX1_addFlags_5 hl (by decide) rfl (fun ls hl => ?_)
  have L_7_1 : ∀ (fuel : Nat) (t : Nat) (x4 : Int32), bN + 1 - t < fuel → (x4.toInt = (t : Int)) → (aN ≤ t) → (t ≤ bN + 1) → ∀ (H : Heap) (locs : List Loc) (ls : Array Slot), WB G (28 + 3 * nd) q (eX G q τ (saF ζ 1 (rgF (100 * i + aN) (100 * i + t) v (ζ.2.1 1))) ρ) s H locs → lv_has ls 5 [(4, .int x4), (0, .ref (q (28 + 3 * i))), (1, .int a), (2, .int b), (3, .int v)] → W p l e (rmA 1 21) s m args below meth c H locs 0 0 QQ (F0 m 7 ls []) := by
    intro fuel; induction fuel with
    | zero => intro t x4 hf; exact absurd hf (Nat.not_lt_zero _)
    | succ fuel ih_7 =>
      intro t x4 hf ht hta htb H locs ls hW hl
      refine lv_iload C.1 C.2.1 dX1_addFlags_7 (lv_at hl 0 rfl) ?_
      refine lv_iload_n C.1 C.2.1 dX1_addFlags_9 rfl (lv_at hl 3 rfl) ?_
      refine lv_icmp_gt C.1 C.2.1 (tgt := 37) dX1_addFlags_10 (by decide) (fun c_2 => ?_) (fun c_2 => ?_)
      · skip
        have k_2 := (tc_lt hb ht).mp c_2
        subst hQ
        exact r_vret (τ, (saF ζ 1 (rgF (100 * i + aN) (100 * i + t) v (ζ.2.1 1))), ρ) C hW hr hk dX1_addFlags_37 (by rw [show t = bN + 1 from by omega])
      · skip
        have k_2 := (tn_lt hb ht).mp c_2
        refine lv_iload C.1 C.2.1 dX1_addFlags_13 (lv_at hl 0 rfl) ?_
        refine lv_bipush C.1 C.2.1 (v := 100) dX1_addFlags_15 (by decide) ?_
        refine lv_icmp_ge C.1 C.2.1 (tgt := 37) dX1_addFlags_17 (by decide) (fun c_3 => ?_) (fun c_3 => ?_)
        · skip
          have k_3 := (tc_le (show (100 : Int32).toInt = 100 from by decide) ht).mp c_3
          exfalso; omega
        · skip
          have k_3 := (tn_le (show (100 : Int32).toInt = 100 from by decide) ht).mp c_3
          refine lv_aload_n C.1 C.2.1 dX1_addFlags_20 rfl (lv_at hl 1 rfl) ?_
          refine xG_Dish_flagged C hW i (by omega) bF_X1_28 dX1_addFlags_21 ?_
          refine lv_iload C.1 C.2.1 dX1_addFlags_24 (lv_at hl 0 rfl) ?_
          refine lv_dup2_11 C.1 C.2.1 dX1_addFlags_26 rfl rfl ?_
          refine xL_flagged C hW i (by omega) t (ht.trans (by omega)) (by omega) (v := ((saF ζ 1 (rgF (100 * i + aN) (100 * i + t) v (ζ.2.1 1))).2.1 1 (100 * i + t))) rfl dX1_addFlags_27 ?_
          refine lv_iload_n C.1 C.2.1 dX1_addFlags_28 rfl (lv_at hl 4 rfl) ?_
          refine lv_iadd C.1 C.2.1 dX1_addFlags_29 ?_
          refine xS_flagged C hW (by omega) i (by omega) t (ht.trans (by omega)) (by omega) dX1_addFlags_30 (fun H locs hW => ?_)
          refine lv_iinc (v := (x4 + 1)) (lv' := [(4, .int (x4 + 1)), (0, .ref (q (28 + 3 * i))), (1, .int a), (2, .int b), (3, .int v)]) C.1 C.2.1 dX1_addFlags_31 hl (k := 0) rfl rfl (by decide) rfl (fun ls hl => ?_)
          refine lv_goto C.1 C.2.1 (tgt := 7) dX1_addFlags_34 (by decide) ?_
          rw [saF_sa, show upd (rgF (100 * i + aN) (100 * i + t) v (ζ.2.1 1)) (100 * i + t) ((saF ζ 1 (rgF (100 * i + aN) (100 * i + t) v (ζ.2.1 1))).2.1 1 (100 * i + t) + v) = (rgF (100 * i + aN) (100 * i + (t + 1)) v (ζ.2.1 1)) from rg_s (by omega) _ _] at hW
          exact ih_7 (t + 1) (x4 + 1) (by omega) ((ti_add ht (show (1 : Int32).toInt = 1 from by decide) (by omega) (by omega)).trans (by omega)) (by omega) (by omega) _ _ _ hW (lv_sub hl [0, 1, 2, 3, 4] rfl)
  exact L_7_1 _ aN (if a < 0 then 0 else a) (Nat.lt_succ_self _) ((ti_max ha (show (0 : Int32).toInt = 0 from by decide)).trans (by omega)) (by omega) (by omega) _ _ _ (by rw [rg_0, saF_self]; exact hW) (lv_sub hl [0, 1, 2, 3, 4] rfl)
set_option maxHeartbeats 4000000 in
set_option maxRecDepth 100000 in
theorem c_X4_addFlag (l : Launch) (G : GG) (q : Nat → Nat) (nd sz : Nat) (τ ζ : ST) (ρ : RF) (a : Int32) (b : Int32) (aN : Nat) (bN : Nat) (i : Nat) (ha : a.toInt = (aN : Int)) (hb : b.toInt = (bN : Int)) (h_nd : nd ≤ 6) (hi : i < nd) (hab : aN ≤ bN) (hb99 : bN ≤ 99) (h_f : 0 ≤ (τ.1 2).toInt ∧ (τ.1 2).toInt ≤ 40) : Met l yX4_addFlag (WSb yX4_addFlag cX4_addFlag 4 (some .int)) (rmA 2 45) (va_Pc [.ref (q 1), .ref (q (28 + 3 * i)), .int a, .int b] (PW G (28 + 3 * nd) q sz (eX G q τ ζ ρ))) (va_Qi (fun (r : Int32) (u : (ST × ST × RF)) => (r = -3 ∧ u = (τ, ζ, ρ) ∧ ((τ.1 2).toInt = 40)) ∨ (r = (τ.1 2 + 1) ∧ u = ((sg (sa (sa (sa τ 8 (τ.1 2).toInt.toNat (nI i)) 9 (τ.1 2).toInt.toNat a) 10 (τ.1 2).toInt.toNat b) 2 (τ.1 2 + 1)), (saF ζ 1 (rgF (100 * i + aN) (100 * i + (bN + 1)) 1 (ζ.2.1 1))), (va_up ρ 1 (va_up (ρ 1) (τ.1 2).toInt.toNat (some (q (28 + 3 * i)))))) ∧ (¬ (τ.1 2).toInt = 40))) (fun u => BW G (28 + 3 * nd) q (eX G q u.1 u.2.1 u.2.2)) (FA (28 + 3 * nd) q sz)) 0 0 (FA (28 + 3 * nd) q sz) := by
  refine Met_B (own := RX4) rfl (by decide) (Nat.le_of_ble_eq_true rfl) (fun p e s m args below meth c ls hsz C hW hr hk hl QQ hQ => ?_)
  subst hsz
  have hl : lv_has ls 4 [(0, .ref (q 1)), (1, .ref (q (28 + 3 * i))), (2, .int a), (3, .int b)] := hl
  refine lv_aload_n C.1 C.2.1 dX4_addFlag_0 rfl (lv_at hl 0 rfl) ?_
  refine xG_Row_flags C hW bF_X4_34 (v := (τ.1 2)) rfl dX4_addFlag_1 ?_
  refine lv_bipush C.1 C.2.1 (v := 40) dX4_addFlag_4 (by decide) ?_
  refine lv_icmp_lt C.1 C.2.1 (tgt := 12) dX4_addFlag_6 (by decide) (fun c_1 => ?_) (fun c_1 => ?_)
  · skip
    have k_1 := (tc_lt (rfl : ((τ.1 2)).toInt = ((τ.1 2)).toInt) (show (40 : Int32).toInt = 40 from by decide)).mp c_1
    refine lv_aload_n C.1 C.2.1 dX4_addFlag_12 rfl (lv_at hl 0 rfl) ?_
    refine xG_Row_flagDishes C hW bF_X4_17 dX4_addFlag_13 ?_
    refine lv_aload_n C.1 C.2.1 dX4_addFlag_16 rfl (lv_at hl 0 rfl) ?_
    refine xG_Row_flags C hW bF_X4_34 (v := (τ.1 2)) rfl dX4_addFlag_17 ?_
    refine lv_aload_n C.1 C.2.1 dX4_addFlag_20 rfl (lv_at hl 1 rfl) ?_
    have hE8 : ∀ z, z < 28 + 3 * nd → va_up (eX G q τ ζ ρ) 3 (.inl (G.2.1.2.2.2, 40, .inr (.inr (.inr (.inr (va_up (ρ 1) ((((τ.1 2)).toInt).toNat) (some (q (28 + 3 * i))))))))) z = eX G q (sa τ 8 (((τ.1 2)).toInt).toNat (nI i)) ζ (va_up ρ 1 (va_up (ρ 1) (τ.1 2).toInt.toNat (some (q (28 + 3 * i))))) z := fun z hz => match z, hz with
      | 0, _ => rfl
      | 1, _ => rfl
      | 2, _ => rfl
      | 3, _ => rfl
      | 4, _ => rfl
      | 5, _ => rfl
      | 6, _ => rfl
      | 7, _ => rfl
      | 8, _ => rfl
      | 9, _ => rfl
      | 10, _ => rfl
      | 11, _ => rfl
      | 12, _ => rfl
      | 13, _ => rfl
      | 14, _ => rfl
      | 15, _ => rfl
      | 16, _ => rfl
      | 17, _ => rfl
      | 18, _ => rfl
      | 19, _ => rfl
      | 20, _ => rfl
      | 21, _ => rfl
      | 22, _ => rfl
      | 23, _ => rfl
      | 24, _ => rfl
      | 25, _ => rfl
      | 26, _ => rfl
      | 27, _ => rfl
      | z + 28, _ => (if_neg (by omega)).trans rfl
    refine r_qast C hW (o := 3) (z := 40) (d := 28 + 3 * i) (f := ρ 1) (by omega) rfl (by omega) (eX_obj _ _ _ _ _ i) (k := (((τ.1 2)).toInt).toNat) ((rfl : ((τ.1 2)).toInt = ((τ.1 2)).toInt).trans (by omega)) (by omega) dX4_addFlag_21 hE8 (fun H locs hW => ?_)
    refine lv_aload_n C.1 C.2.1 dX4_addFlag_22 rfl (lv_at hl 0 rfl) ?_
    refine xG_Row_flagFroms C hW bF_X4_20 dX4_addFlag_23 ?_
    refine lv_aload_n C.1 C.2.1 dX4_addFlag_26 rfl (lv_at hl 0 rfl) ?_
    refine xG_Row_flags C hW bF_X4_34 (v := (τ.1 2)) rfl dX4_addFlag_27 ?_
    refine lv_iload_n C.1 C.2.1 dX4_addFlag_30 rfl (lv_at hl 2 rfl) ?_
    refine xS_4 C hW ((((τ.1 2)).toInt).toNat) ((rfl : ((τ.1 2)).toInt = ((τ.1 2)).toInt).trans (by omega)) (by omega) dX4_addFlag_31 (fun H locs hW => ?_)
    refine lv_aload_n C.1 C.2.1 dX4_addFlag_32 rfl (lv_at hl 0 rfl) ?_
    refine xG_Row_flagTos C hW bF_X4_24 dX4_addFlag_33 ?_
    refine lv_aload_n C.1 C.2.1 dX4_addFlag_36 rfl (lv_at hl 0 rfl) ?_
    refine xG_Row_flags C hW bF_X4_34 (v := (τ.1 2)) rfl dX4_addFlag_37 ?_
    refine lv_iload_n C.1 C.2.1 dX4_addFlag_40 rfl (lv_at hl 3 rfl) ?_
    refine xS_5 C hW ((((τ.1 2)).toInt).toNat) ((rfl : ((τ.1 2)).toInt = ((τ.1 2)).toInt).trans (by omega)) (by omega) dX4_addFlag_41 (fun H locs hW => ?_)
    refine lv_aload_n C.1 C.2.1 dX4_addFlag_42 rfl (lv_at hl 0 rfl) ?_
    refine lv_dup C.1 C.2.1 dX4_addFlag_43 rfl ?_
    refine xG_Row_flags C hW bF_X4_34 (v := (τ.1 2)) rfl dX4_addFlag_44 ?_
    refine lv_iconst C.1 C.2.1 (v := 1) dX4_addFlag_47 (by decide) ?_
    refine lv_iadd C.1 C.2.1 dX4_addFlag_48 ?_
    refine xP_Row_flags C hW bF_X4_34 dX4_addFlag_49 (fun H locs hW => ?_)
    refine lv_aload_n C.1 C.2.1 dX4_addFlag_52 rfl (lv_at hl 1 rfl) ?_
    refine lv_iload_n C.1 C.2.1 dX4_addFlag_53 rfl (lv_at hl 2 rfl) ?_
    refine lv_iload_n C.1 C.2.1 dX4_addFlag_54 rfl (lv_at hl 3 rfl) ?_
    refine lv_iconst C.1 C.2.1 (v := 1) dX4_addFlag_55 (by decide) ?_
    refine go_v hW (run_V (o := 28 + 3 * i) (As := [.int a, .int b, .int 1]) (rest := []) C hW (by omega) (eX_obj _ _ _ _ _ i) rfl (c_X1_addFlags l G q nd _ (sg (sa (sa (sa τ 8 (((τ.1 2)).toInt).toNat (nI i)) 9 ((((τ.1 2)).toInt).toNat) a) 10 ((((τ.1 2)).toInt).toNat) b) 2 ((τ.1 2) + 1)) ζ (va_up ρ 1 (va_up (ρ 1) (τ.1 2).toInt.toNat (some (q (28 + 3 * i))))) a b 1 aN bN i (ha.trans (by omega)) (hb.trans (by omega)) h_nd (by omega) (by omega) (by omega)) (cw_V 3 C bL_X4_37 bI_X1_addFlags bV_X1_addFlags bN_X1 bC_X1_addFlags ⟨rfl, rfl⟩ (by decide +kernel) ⟨Nat.le_of_ble_eq_true rfl, Nat.le_of_ble_eq_true rfl⟩) rfl hl.1 rfl (Nat.le_of_ble_eq_true rfl) dX4_addFlag_56 ⟨Nat.le_refl _, Nat.le_refl _⟩) (fun u_2 H locs hp_2 hW => ?_)
    obtain rfl := hp_2
    have hW : WB G (28 + 3 * nd) q (eX G q (sg (sa (sa (sa τ 8 (((τ.1 2)).toInt).toNat (nI i)) 9 ((((τ.1 2)).toInt).toNat) a) 10 ((((τ.1 2)).toInt).toNat) b) 2 ((τ.1 2) + 1)) (saF ζ 1 (rgF (100 * i + aN) (100 * i + (bN + 1)) 1 (ζ.2.1 1))) (va_up ρ 1 (va_up (ρ 1) (τ.1 2).toInt.toNat (some (q (28 + 3 * i)))))) s H locs := hW
    refine lv_aload_n C.1 C.2.1 dX4_addFlag_59 rfl (lv_at hl 0 rfl) ?_
    refine xG_Row_flags C hW bF_X4_34 (v := ((τ.1 2) + 1)) rfl dX4_addFlag_60 ?_
    subst hQ
    exact r_iret ((sg (sa (sa (sa τ 8 (((τ.1 2)).toInt).toNat (nI i)) 9 ((((τ.1 2)).toInt).toNat) a) 10 ((((τ.1 2)).toInt).toNat) b) 2 ((τ.1 2) + 1)), (saF ζ 1 (rgF (100 * i + aN) (100 * i + (bN + 1)) 1 (ζ.2.1 1))), (va_up ρ 1 (va_up (ρ 1) (τ.1 2).toInt.toNat (some (q (28 + 3 * i)))))) C hW hr hk dX4_addFlag_63 (by first | exact Or.inl ⟨rfl, rfl, (by omega)⟩ | exact Or.inr (⟨rfl, rfl, (by omega)⟩))
  · skip
    have k_1 := (tn_lt (rfl : ((τ.1 2)).toInt = ((τ.1 2)).toInt) (show (40 : Int32).toInt = 40 from by decide)).mp c_1
    refine lv_bipush C.1 C.2.1 (v := (-3)) dX4_addFlag_9 (by decide) ?_
    subst hQ
    exact r_iret (τ, ζ, ρ) C hW hr hk dX4_addFlag_11 (by first | exact Or.inl ⟨rfl, rfl, (by omega)⟩ | exact Or.inr (⟨rfl, rfl, (by omega)⟩))
set_option maxHeartbeats 4000000 in
set_option maxRecDepth 100000 in
theorem c_X4_removeFlag (l : Launch) (G : GG) (q : Nat → Nat) (nd sz : Nat) (τ ζ : ST) (ρ : RF) (h_nd : nd ≤ 6) (h_f : 0 ≤ (τ.1 2).toInt ∧ (τ.1 2).toInt ≤ 40) (h_fl : ∀ f : Nat, (f : Int) < (τ.1 2).toInt → ρ 1 f = some (q (28 + 3 * (τ.2.1 8 f).toInt.toNat)) ∧ (τ.2.1 8 f).toInt.toNat < nd ∧ 0 ≤ (τ.2.1 9 f).toInt ∧ (τ.2.1 9 f).toInt ≤ (τ.2.1 10 f).toInt ∧ (τ.2.1 10 f).toInt ≤ 99) : Met l yX4_removeFlag (WSb yX4_removeFlag cX4_removeFlag 2 (some .int)) (rmA 2 45) (va_Pc [.ref (q 1)] (PW G (28 + 3 * nd) q sz (eX G q τ ζ ρ))) (va_Qi (fun (r : Int32) (u : (ST × ST × RF)) => (r = -4 ∧ u = (τ, ζ, ρ) ∧ ((τ.1 2).toInt = 0)) ∨ (r = (τ.1 2 - 1) ∧ u = ((sg τ 2 (τ.1 2 - 1)), (saF ζ 1 (rgF (100 * (τ.2.1 8 ((τ.1 2).toInt - 1).toNat).toInt.toNat + (τ.2.1 9 ((τ.1 2).toInt - 1).toNat).toInt.toNat) (100 * (τ.2.1 8 ((τ.1 2).toInt - 1).toNat).toInt.toNat + ((τ.2.1 10 ((τ.1 2).toInt - 1).toNat).toInt.toNat + 1)) (-1) (ζ.2.1 1))), ρ) ∧ (¬ (τ.1 2).toInt = 0))) (fun u => BW G (28 + 3 * nd) q (eX G q u.1 u.2.1 u.2.2)) (FA (28 + 3 * nd) q sz)) 0 0 (FA (28 + 3 * nd) q sz) := by
  refine Met_B (own := RX4) rfl (by decide) (Nat.le_of_ble_eq_true rfl) (fun p e s m args below meth c ls hsz C hW hr hk hl QQ hQ => ?_)
  subst hsz
  have hl : lv_has ls 2 [(0, .ref (q 1))] := hl
  refine lv_aload_n C.1 C.2.1 dX4_removeFlag_0 rfl (lv_at hl 0 rfl) ?_
  refine xG_Row_flags C hW bF_X4_34 (v := (τ.1 2)) rfl dX4_removeFlag_1 ?_
  refine lv_if_gt C.1 C.2.1 (tgt := 10) dX4_removeFlag_4 (by decide) (fun c_1 => ?_) (fun c_1 => ?_)
  · skip
    have k_1 := (tc_lt (show (0 : Int32).toInt = 0 from by decide) (rfl : ((τ.1 2)).toInt = ((τ.1 2)).toInt)).mp c_1
    refine lv_aload_n C.1 C.2.1 dX4_removeFlag_10 rfl (lv_at hl 0 rfl) ?_
    refine lv_dup C.1 C.2.1 dX4_removeFlag_11 rfl ?_
    refine xG_Row_flags C hW bF_X4_34 (v := (τ.1 2)) rfl dX4_removeFlag_12 ?_
    refine lv_iconst C.1 C.2.1 (v := 1) dX4_removeFlag_15 (by decide) ?_
    refine lv_isub C.1 C.2.1 dX4_removeFlag_16 ?_
    refine xP_Row_flags C hW bF_X4_34 dX4_removeFlag_17 (fun H locs hW => ?_)
    refine lv_aload_n C.1 C.2.1 dX4_removeFlag_20 rfl (lv_at hl 0 rfl) ?_
    refine xG_Row_flagDishes C hW bF_X4_17 dX4_removeFlag_21 ?_
    refine lv_aload_n C.1 C.2.1 dX4_removeFlag_24 rfl (lv_at hl 0 rfl) ?_
    refine xG_Row_flags C hW bF_X4_34 (v := ((τ.1 2) - 1)) rfl dX4_removeFlag_25 ?_
    refine r_qald (o := 3) C hW (by omega) rfl (k := ((((τ.1 2)).toInt - 1)).toNat) ((ti_sub (rfl : ((τ.1 2)).toInt = ((τ.1 2)).toInt) (show (1 : Int32).toInt = 1 from by decide) (by omega) (by omega)).trans (by omega)) (by omega) rfl dX4_removeFlag_28 ?_
    have hfl := h_fl (((((τ.1 2)).toInt - 1)).toNat) (by omega)
    rw [hfl.1]
    refine lv_astore_n (lv' := [(1, .ref (q (28 + 3 * (τ.2.1 8 (((((τ.1 2)).toInt - 1)).toNat)).toInt.toNat))), (0, .ref (q 1))]) C.1 C.2.1 dX4_removeFlag_29 rfl hl (by decide) rfl (fun ls hl => ?_)
    refine lv_aload_n C.1 C.2.1 dX4_removeFlag_30 rfl (lv_at hl 0 rfl) ?_
    refine lv_ifnull C.1 C.2.1 dX4_removeFlag_31 ?_
    refine lv_aload_n C.1 C.2.1 dX4_removeFlag_34 rfl (lv_at hl 0 rfl) ?_
    refine lv_aload_n C.1 C.2.1 dX4_removeFlag_35 rfl (lv_at hl 1 rfl) ?_
    refine xG_Row_flagFroms C hW bF_X4_20 dX4_removeFlag_36 ?_
    refine lv_aload_n C.1 C.2.1 dX4_removeFlag_39 rfl (lv_at hl 1 rfl) ?_
    refine xG_Row_flags C hW bF_X4_34 (v := ((τ.1 2) - 1)) rfl dX4_removeFlag_40 ?_
    refine xL_4 C hW (((((τ.1 2)).toInt - 1)).toNat) ((ti_sub (rfl : ((τ.1 2)).toInt = ((τ.1 2)).toInt) (show (1 : Int32).toInt = 1 from by decide) (by omega) (by omega)).trans (by omega)) (by omega) (v := (τ.2.1 9 (((((τ.1 2)).toInt - 1)).toNat))) rfl dX4_removeFlag_43 ?_
    refine lv_aload_n C.1 C.2.1 dX4_removeFlag_44 rfl (lv_at hl 1 rfl) ?_
    refine xG_Row_flagTos C hW bF_X4_24 dX4_removeFlag_45 ?_
    refine lv_aload_n C.1 C.2.1 dX4_removeFlag_48 rfl (lv_at hl 1 rfl) ?_
    refine xG_Row_flags C hW bF_X4_34 (v := ((τ.1 2) - 1)) rfl dX4_removeFlag_49 ?_
    refine xL_5 C hW (((((τ.1 2)).toInt - 1)).toNat) ((ti_sub (rfl : ((τ.1 2)).toInt = ((τ.1 2)).toInt) (show (1 : Int32).toInt = 1 from by decide) (by omega) (by omega)).trans (by omega)) (by omega) (v := (τ.2.1 10 (((((τ.1 2)).toInt - 1)).toNat))) rfl dX4_removeFlag_52 ?_
    refine lv_iconst C.1 C.2.1 (v := (-1)) dX4_removeFlag_53 (by decide) ?_
    refine go_v hW (run_V (o := 28 + 3 * ((τ.2.1 8 (((((τ.1 2)).toInt - 1)).toNat)).toInt.toNat)) (As := [.int (τ.2.1 9 (((((τ.1 2)).toInt - 1)).toNat)), .int (τ.2.1 10 (((((τ.1 2)).toInt - 1)).toNat)), .int (-1)]) (rest := []) C hW (by omega) (eX_obj _ _ _ _ _ ((τ.2.1 8 (((((τ.1 2)).toInt - 1)).toNat)).toInt.toNat)) rfl (c_X1_addFlags l G q nd _ (sg τ 2 ((τ.1 2) - 1)) ζ ρ (τ.2.1 9 (((((τ.1 2)).toInt - 1)).toNat)) (τ.2.1 10 (((((τ.1 2)).toInt - 1)).toNat)) (-1) ((((τ.2.1 9 (((((τ.1 2)).toInt - 1)).toNat))).toInt).toNat) ((((τ.2.1 10 (((((τ.1 2)).toInt - 1)).toNat))).toInt).toNat) ((τ.2.1 8 (((((τ.1 2)).toInt - 1)).toNat)).toInt.toNat) ((rfl : ((τ.2.1 9 (((((τ.1 2)).toInt - 1)).toNat))).toInt = ((τ.2.1 9 (((((τ.1 2)).toInt - 1)).toNat))).toInt).trans (by omega)) ((rfl : ((τ.2.1 10 (((((τ.1 2)).toInt - 1)).toNat))).toInt = ((τ.2.1 10 (((((τ.1 2)).toInt - 1)).toNat))).toInt).trans (by omega)) h_nd (by omega) (by omega) (by omega)) (cw_V 3 C bL_X4_37 bI_X1_addFlags bV_X1_addFlags bN_X1 bC_X1_addFlags ⟨rfl, rfl⟩ (by decide +kernel) ⟨Nat.le_of_ble_eq_true rfl, Nat.le_of_ble_eq_true rfl⟩) rfl hl.1 rfl (Nat.le_of_ble_eq_true rfl) dX4_removeFlag_54 ⟨Nat.le_refl _, Nat.le_refl _⟩) (fun u_2 H locs hp_2 hW => ?_)
    obtain rfl := hp_2
    have hW : WB G (28 + 3 * nd) q (eX G q (sg τ 2 ((τ.1 2) - 1)) (saF ζ 1 (rgF (100 * ((τ.2.1 8 (((((τ.1 2)).toInt - 1)).toNat)).toInt.toNat) + ((((τ.2.1 9 (((((τ.1 2)).toInt - 1)).toNat))).toInt).toNat)) (100 * ((τ.2.1 8 (((((τ.1 2)).toInt - 1)).toNat)).toInt.toNat) + (((((τ.2.1 10 (((((τ.1 2)).toInt - 1)).toNat))).toInt).toNat) + 1)) (-1) (ζ.2.1 1))) ρ) s H locs := hW
    refine lv_aload_n C.1 C.2.1 dX4_removeFlag_57 rfl (lv_at hl 1 rfl) ?_
    refine xG_Row_flags C hW bF_X4_34 (v := ((τ.1 2) - 1)) rfl dX4_removeFlag_58 ?_
    subst hQ
    exact r_iret ((sg τ 2 ((τ.1 2) - 1)), (saF ζ 1 (rgF (100 * ((τ.2.1 8 (((((τ.1 2)).toInt - 1)).toNat)).toInt.toNat) + ((((τ.2.1 9 (((((τ.1 2)).toInt - 1)).toNat))).toInt).toNat)) (100 * ((τ.2.1 8 (((((τ.1 2)).toInt - 1)).toNat)).toInt.toNat) + (((((τ.2.1 10 (((((τ.1 2)).toInt - 1)).toNat))).toInt).toNat) + 1)) (-1) (ζ.2.1 1))), ρ) C hW hr hk dX4_removeFlag_61 (by first | exact Or.inl ⟨rfl, rfl, (by omega)⟩ | exact Or.inr (⟨rfl, rfl, (by omega)⟩))
  · skip
    have k_1 := (tn_lt (show (0 : Int32).toInt = 0 from by decide) (rfl : ((τ.1 2)).toInt = ((τ.1 2)).toInt)).mp c_1
    refine lv_bipush C.1 C.2.1 (v := (-4)) dX4_removeFlag_7 (by decide) ?_
    subst hQ
    exact r_iret (τ, ζ, ρ) C hW hr hk dX4_removeFlag_9 (by first | exact Or.inl ⟨rfl, rfl, (by omega)⟩ | exact Or.inr (⟨rfl, rfl, (by omega)⟩))
set_option maxHeartbeats 4000000 in
set_option maxRecDepth 100000 in
theorem c_X6_addPair (l : Launch) (G : GG) (q : Nat → Nat) (nd sz : Nat) (τ ζ : ST) (ρ : RF) (i : Nat) (j : Nat) (h_nd : nd ≤ 6) (hi : i < nd) (hj : j < nd) (h_k : dOk τ ζ i) (h_k2 : dOk τ ζ j) (h_x15 : 0 ≤ (ζ.1 0).toInt ∧ (ζ.1 0).toInt < 15) : Met l yX6_addPair (WSb yX6_addPair cX6_addPair 3 none) (rmA 4 90) (va_Pc [.ref (q 6), .ref (q (28 + 3 * i)), .ref (q (28 + 3 * j))] (PW G (28 + 3 * nd) q sz (eX G q τ ζ ρ))) (va_Qv (fun (u : (ST × ST × RF)) => (u = (τ, ζ, ρ) ∧ (¬ 0 < tck τ i j)) ∨ (u = (τ, (sg (sb (sa (sa ζ 5 (ζ.1 0).toInt.toNat (τ.2.1 0 j - τ.2.1 0 i)) 6 (ζ.1 0).toInt.toNat (τ.2.1 1 j - τ.2.1 1 i)) 0 (ζ.1 0).toInt.toNat (prd τ i j)) 0 (ζ.1 0 + 1)), ρ) ∧ (0 < tck τ i j))) (fun u => BW G (28 + 3 * nd) q (eX G q u.1 u.2.1 u.2.2)) (FA (28 + 3 * nd) q sz)) 0 0 (FA (28 + 3 * nd) q sz) := by
  refine Met_B (own := RX6) rfl (by decide) (Nat.le_of_ble_eq_true rfl) (fun p e s m args below meth c ls hsz C hW hr hk hl QQ hQ => ?_)
  subst hsz
  have hl : lv_has ls 3 [(0, .ref (q 6)), (1, .ref (q (28 + 3 * i))), (2, .ref (q (28 + 3 * j)))] := hl
  have b1 := h_k.2.2.2.1
  have b2 := h_k2.2.2.2.1
  refine lv_aload_n C.1 C.2.1 dX6_addPair_0 rfl (lv_at hl 1 rfl) ?_
  refine lv_ifnull C.1 C.2.1 dX6_addPair_1 ?_
  refine lv_aload_n C.1 C.2.1 dX6_addPair_4 rfl (lv_at hl 2 rfl) ?_
  refine lv_ifnull C.1 C.2.1 dX6_addPair_5 ?_
  refine lv_aload_n C.1 C.2.1 dX6_addPair_8 rfl (lv_at hl 0 rfl) ?_
  refine xG_Spacings_size C hW bF_X6_20 (v := (ζ.1 0)) rfl dX6_addPair_9 ?_
  refine lv_bipush C.1 C.2.1 (v := 15) dX6_addPair_12 (by decide) ?_
  refine lv_icmp_lt C.1 C.2.1 (tgt := 18) dX6_addPair_14 (by decide) (fun c_1 => ?_) (fun c_1 => ?_)
  · skip
    have k_1 := (tc_lt (rfl : ((ζ.1 0)).toInt = ((ζ.1 0)).toInt) (show (15 : Int32).toInt = 15 from by decide)).mp c_1
    refine lv_aload_n C.1 C.2.1 dX6_addPair_18 rfl (lv_at hl 1 rfl) ?_
    refine lv_aload_n C.1 C.2.1 dX6_addPair_19 rfl (lv_at hl 2 rfl) ?_
    refine go_i hW (run_V (o := 28 + 3 * i) (As := [.ref (q (28 + 3 * j))]) (rest := []) C hW (by omega) (eX_obj _ _ _ _ _ i) rfl (c_X1_ticksWith l G q nd _ τ ζ ρ  i j h_nd (by omega) (by omega) h_k h_k2) (cw_V 1 C bL_X6_35 bI_X1_ticksWith bV_X1_ticksWith bN_X1 bC_X1_ticksWith ⟨rfl, rfl⟩ (by decide +kernel) ⟨Nat.le_of_ble_eq_true rfl, Nat.le_of_ble_eq_true rfl⟩) rfl hl.1 rfl (Nat.le_of_ble_eq_true rfl) dX6_addPair_20 ⟨Nat.le_refl _, Nat.le_refl _⟩) (fun r_2 u_2 H locs hp_2 hW => ?_)
    rcases hp_2 with ⟨rfl, rfl⟩
    have hW : WB G (28 + 3 * nd) q (eX G q τ ζ ρ) s H locs := hW
    have et := nI_toInt (n := tck τ i j) (by have := mulC_le τ i (dl τ i) j (dl τ j) 100; unfold tck; omega)
    refine lv_if_ne C.1 C.2.1 (tgt := 27) dX6_addPair_23 (by decide) (fun c_3 => ?_) (fun c_3 => ?_)
    · skip
      have k_3 := (tn_eq (rfl : ((nI (tck τ i j))).toInt = ((nI (tck τ i j))).toInt) (show (0 : Int32).toInt = 0 from by decide)).mp c_3
      rw [et] at k_3
      refine lv_aload_n C.1 C.2.1 dX6_addPair_27 rfl (lv_at hl 0 rfl) ?_
      refine xG_Spacings_us C hW bF_X6_9 dX6_addPair_28 ?_
      refine lv_aload_n C.1 C.2.1 dX6_addPair_31 rfl (lv_at hl 0 rfl) ?_
      refine xG_Spacings_size C hW bF_X6_20 (v := (ζ.1 0)) rfl dX6_addPair_32 ?_
      refine lv_aload_n C.1 C.2.1 dX6_addPair_35 rfl (lv_at hl 2 rfl) ?_
      refine xG_Dish_x C hW j (by omega) bF_X6_41 (v := (τ.2.1 0 j)) rfl dX6_addPair_36 ?_
      refine lv_aload_n C.1 C.2.1 dX6_addPair_39 rfl (lv_at hl 1 rfl) ?_
      refine xG_Dish_x C hW i (by omega) bF_X6_41 (v := (τ.2.1 0 i)) rfl dX6_addPair_40 ?_
      refine lv_isub C.1 C.2.1 dX6_addPair_43 ?_
      refine xS_7 C hW ((((ζ.1 0)).toInt).toNat) ((rfl : ((ζ.1 0)).toInt = ((ζ.1 0)).toInt).trans (by omega)) (by omega) dX6_addPair_44 (fun H locs hW => ?_)
      refine lv_aload_n C.1 C.2.1 dX6_addPair_45 rfl (lv_at hl 0 rfl) ?_
      refine xG_Spacings_vs C hW bF_X6_13 dX6_addPair_46 ?_
      refine lv_aload_n C.1 C.2.1 dX6_addPair_49 rfl (lv_at hl 0 rfl) ?_
      refine xG_Spacings_size C hW bF_X6_20 (v := (ζ.1 0)) rfl dX6_addPair_50 ?_
      refine lv_aload_n C.1 C.2.1 dX6_addPair_53 rfl (lv_at hl 2 rfl) ?_
      refine xG_Dish_y C hW j (by omega) bF_X6_44 (v := (τ.2.1 1 j)) rfl dX6_addPair_54 ?_
      refine lv_aload_n C.1 C.2.1 dX6_addPair_57 rfl (lv_at hl 1 rfl) ?_
      refine xG_Dish_y C hW i (by omega) bF_X6_44 (v := (τ.2.1 1 i)) rfl dX6_addPair_58 ?_
      refine lv_isub C.1 C.2.1 dX6_addPair_61 ?_
      refine xS_8 C hW ((((ζ.1 0)).toInt).toNat) ((rfl : ((ζ.1 0)).toInt = ((ζ.1 0)).toInt).trans (by omega)) (by omega) dX6_addPair_62 (fun H locs hW => ?_)
      refine lv_aload_n C.1 C.2.1 dX6_addPair_63 rfl (lv_at hl 0 rfl) ?_
      refine xG_Spacings_products C hW bF_X6_16 dX6_addPair_64 ?_
      refine lv_aload_n C.1 C.2.1 dX6_addPair_67 rfl (lv_at hl 0 rfl) ?_
      refine xG_Spacings_size C hW bF_X6_20 (v := (ζ.1 0)) rfl dX6_addPair_68 ?_
      refine lv_aload_n C.1 C.2.1 dX6_addPair_71 rfl (lv_at hl 1 rfl) ?_
      refine lv_aload_n C.1 C.2.1 dX6_addPair_72 rfl (lv_at hl 2 rfl) ?_
      refine lv_aload_n C.1 C.2.1 dX6_addPair_73 rfl (lv_at hl 2 rfl) ?_
      refine xG_Dish_delay C hW j (by omega) bF_X6_47 (v := (τ.2.1 2 j)) rfl dX6_addPair_74 ?_
      refine go_l hW (run_V (o := 28 + 3 * i) (As := [.ref (q (28 + 3 * j)), .int (τ.2.1 2 j)]) (rest := [.int (ζ.1 0), .ref (q 9)]) C hW (by omega) (eX_obj _ _ _ _ _ i) rfl (c_X1_productWith l G q nd _ τ (sa (sa ζ 5 ((((ζ.1 0)).toInt).toNat) ((τ.2.1 0 j) - (τ.2.1 0 i))) 6 ((((ζ.1 0)).toInt).toNat) ((τ.2.1 1 j) - (τ.2.1 1 i))) ρ (τ.2.1 2 j) ((((τ.2.1 2 j)).toInt).toNat) i j ((rfl : ((τ.2.1 2 j)).toInt = ((τ.2.1 2 j)).toInt).trans (by omega)) h_nd (by omega) (by omega) h_k h_k2 (by omega)) (cw_V 2 C bL_X6_50 bI_X1_productWith bV_X1_productWith bN_X1 bC_X1_productWith ⟨rfl, rfl⟩ (by decide +kernel) ⟨Nat.le_of_ble_eq_true rfl, Nat.le_of_ble_eq_true rfl⟩) rfl hl.1 rfl (Nat.le_of_ble_eq_true rfl) dX6_addPair_77 ⟨Nat.le_refl _, Nat.le_refl _⟩) (fun r_4 u_4 H locs hp_4 hW => ?_)
      rcases hp_4 with ⟨rfl, rfl⟩
      have hW : WB G (28 + 3 * nd) q (eX G q τ (sa (sa ζ 5 ((((ζ.1 0)).toInt).toNat) ((τ.2.1 0 j) - (τ.2.1 0 i))) 6 ((((ζ.1 0)).toInt).toNat) ((τ.2.1 1 j) - (τ.2.1 1 i))) ρ) s H locs := hW
      refine xS_9 C hW ((((ζ.1 0)).toInt).toNat) ((rfl : ((ζ.1 0)).toInt = ((ζ.1 0)).toInt).trans (by omega)) (by omega) dX6_addPair_80 (fun H locs hW => ?_)
      refine lv_aload_n C.1 C.2.1 dX6_addPair_81 rfl (lv_at hl 0 rfl) ?_
      refine lv_dup C.1 C.2.1 dX6_addPair_82 rfl ?_
      refine xG_Spacings_size C hW bF_X6_20 (v := (ζ.1 0)) rfl dX6_addPair_83 ?_
      refine lv_iconst C.1 C.2.1 (v := 1) dX6_addPair_86 (by decide) ?_
      refine lv_iadd C.1 C.2.1 dX6_addPair_87 ?_
      refine xP_Spacings_size C hW bF_X6_20 dX6_addPair_88 (fun H locs hW => ?_)
      subst hQ
      exact r_vret (τ, (sg (sb (sa (sa ζ 5 ((((ζ.1 0)).toInt).toNat) ((τ.2.1 0 j) - (τ.2.1 0 i))) 6 ((((ζ.1 0)).toInt).toNat) ((τ.2.1 1 j) - (τ.2.1 1 i))) 0 ((((ζ.1 0)).toInt).toNat) (prdF τ i (dl τ i) j ((((τ.2.1 2 j)).toInt).toNat))) 0 ((ζ.1 0) + 1)), ρ) C hW hr hk dX6_addPair_91 (by first | exact Or.inl ⟨rfl, (by omega)⟩ | exact Or.inr (⟨rfl, (by omega)⟩))
    · skip
      have k_3 := (tc_eq (rfl : ((nI (tck τ i j))).toInt = ((nI (tck τ i j))).toInt) (show (0 : Int32).toInt = 0 from by decide)).mp c_3
      rw [et] at k_3
      subst hQ
      exact r_vret (τ, ζ, ρ) C hW hr hk dX6_addPair_26 (by first | exact Or.inl ⟨rfl, (by omega)⟩ | exact Or.inr (⟨rfl, (by omega)⟩))
  · skip
    have k_1 := (tn_lt (rfl : ((ζ.1 0)).toInt = ((ζ.1 0)).toInt) (show (15 : Int32).toInt = 15 from by decide)).mp c_1
    exfalso; omega
set_option maxHeartbeats 4000000 in
set_option maxRecDepth 100000 in
theorem c_X6_gather (l : Launch) (G : GG) (q : Nat → Nat) (nd sz : Nat) (τ ζ : ST) (ρ : RF) (h_nd : nd ≤ 6) (h_n : (τ.1 0).toInt = (nd : Int)) (h_r : ∀ z : Nat, z < nd → ρ 0 z = some (q (28 + 3 * z))) (h_dk : ∀ z : Nat, z < nd → dOk τ ζ z) : Met l yX6_gather (WSb yX6_gather cX6_gather 4 none) (rmA 5 112) (va_Pc [.ref (q 6), .ref (q 1)] (PW G (28 + 3 * nd) q sz (eX G q τ ζ ρ))) (va_Qv (fun (u : (ST × ST × RF)) => ∃ (ζ1 : ST), u = (τ, ζ1, ρ) ∧ (ζ1.1 0 = nI (spN τ)) ∧ (holds τ (ζ1.2.1 5) (ζ1.2.1 6) (ζ1.2.2 0) (spL τ)) ∧ (∀ z, z ≠ 5 → z ≠ 6 → ζ1.2.1 z = ζ.2.1 z)) (fun u => BW G (28 + 3 * nd) q (eX G q u.1 u.2.1 u.2.2)) (FA (28 + 3 * nd) q sz)) 0 0 (FA (28 + 3 * nd) q sz) := by
  refine Met_B (own := RX6) rfl (by decide) (Nat.le_of_ble_eq_true rfl) (fun p e s m args below meth c ls hsz C hW hr hk hl QQ hQ => ?_)
  subst hsz
  have hl : lv_has ls 4 [(0, .ref (q 6)), (1, .ref (q 1))] := hl
  refine lv_aload_n C.1 C.2.1 dX6_gather_0 rfl (lv_at hl 0 rfl) ?_
  refine lv_iconst C.1 C.2.1 (v := 0) dX6_gather_1 (by decide) ?_
  refine xP_Spacings_size C hW bF_X6_20 dX6_gather_2 (fun H locs hW => ?_)
  refine lv_iconst C.1 C.2.1 (v := 0) dX6_gather_5 (by decide) ?_
  refine lv_istore_n (lv' := [(2, .int 0), (0, .ref (q 6)), (1, .ref (q 1))]) C.1 C.2.1 dX6_gather_6 rfl hl (by decide) rfl (fun ls hl => ?_)
  have L_7_1 : ∀ (fuel : Nat) (i : Nat) (x2 : Int32) (ζ1 : ST), nd - i < fuel → (x2.toInt = (i : Int)) → (i ≤ nd) → (ζ1.1 0 = nI (allL τ nd i).length) → (holds τ (ζ1.2.1 5) (ζ1.2.1 6) (ζ1.2.2 0) (allL τ nd i)) → (∀ z, z ≠ 5 → z ≠ 6 → ζ1.2.1 z = ζ.2.1 z) → ∀ (H : Heap) (locs : List Loc) (ls : Array Slot), WB G (28 + 3 * nd) q (eX G q τ ζ1 ρ) s H locs → lv_has ls 4 [(2, .int x2), (0, .ref (q 6)), (1, .ref (q 1))] → W p l e (rmA 5 112) s m args below meth c H locs 0 0 QQ (F0 m 7 ls []) := by
    intro fuel; induction fuel with
    | zero => intro i x2 ζ1 hf; exact absurd hf (Nat.not_lt_zero _)
    | succ fuel ih_7 =>
      intro i x2 ζ1 hf hi hile hs hh ho H locs ls hW hl
      refine lv_iload_n C.1 C.2.1 dX6_gather_7 rfl (lv_at hl 0 rfl) ?_
      refine lv_aload_n C.1 C.2.1 dX6_gather_8 rfl (lv_at hl 2 rfl) ?_
      refine xG_Row_size C hW bF_X6_24 (v := (τ.1 0)) rfl dX6_gather_9 ?_
      refine lv_icmp_ge C.1 C.2.1 (tgt := 53) dX6_gather_12 (by decide) (fun c_2 => ?_) (fun c_2 => ?_)
      · skip
        have k_2 := (tc_le (rfl : ((τ.1 0)).toInt = ((τ.1 0)).toInt) hi).mp c_2
        have e : i = nd := by omega
        rw [e] at hs hh
        subst hQ
        exact r_vret (τ, ζ1, ρ) C hW hr hk dX6_gather_53 ⟨_, rfl, (by rw [hs]; unfold spN spL; rw [h_n]; rfl), (by unfold spL; rw [h_n]; exact hh), ho⟩
      · skip
        have k_2 := (tn_le (rfl : ((τ.1 0)).toInt = ((τ.1 0)).toInt) hi).mp c_2
        refine lv_iload_n C.1 C.2.1 dX6_gather_15 rfl (lv_at hl 0 rfl) ?_
        refine lv_iconst C.1 C.2.1 (v := 1) dX6_gather_16 (by decide) ?_
        refine lv_iadd C.1 C.2.1 dX6_gather_17 ?_
        refine lv_istore_n (lv' := [(3, .int (x2 + 1)), (2, .int x2), (0, .ref (q 6)), (1, .ref (q 1))]) C.1 C.2.1 dX6_gather_18 rfl hl (by decide) rfl (fun ls hl => ?_)
        have L_19_3 : ∀ (fuel : Nat) (jm : Nat) (x3 : Int32) (ζ2 : ST), nd - jm < fuel → (x3.toInt = ((i + 1 + jm : Nat) : Int)) → (i + 1 + jm ≤ nd) → (ζ2.1 0 = nI (allL τ nd i ++ rowL τ i jm).length) → (holds τ (ζ2.2.1 5) (ζ2.2.1 6) (ζ2.2.2 0) (allL τ nd i ++ rowL τ i jm)) → (∀ z, z ≠ 5 → z ≠ 6 → ζ2.2.1 z = ζ.2.1 z) → ∀ (H : Heap) (locs : List Loc) (ls : Array Slot), WB G (28 + 3 * nd) q (eX G q τ ζ2 ρ) s H locs → lv_has ls 4 [(3, .int x3), (2, .int x2), (0, .ref (q 6)), (1, .ref (q 1))] → W p l e (rmA 5 112) s m args below meth c H locs 0 0 QQ (F0 m 19 ls []) := by
          intro fuel; induction fuel with
          | zero => intro jm x3 ζ2 hf; exact absurd hf (Nat.not_lt_zero _)
          | succ fuel ih_19 =>
            intro jm x3 ζ2 hf hm hmle hs2 hh2 ho2 H locs ls hW hl
            have hL := allL_len τ nd (by omega) i (by omega)
            have hR := rowL_len τ i jm
            have hs2i : (ζ2.1 0).toInt = (((allL τ nd i ++ rowL τ i jm).length : Nat) : Int) := by rw [hs2]; exact nI_toInt (by rw [List.length_append]; omega)
            refine lv_iload_n C.1 C.2.1 dX6_gather_19 rfl (lv_at hl 0 rfl) ?_
            refine lv_aload_n C.1 C.2.1 dX6_gather_20 rfl (lv_at hl 3 rfl) ?_
            refine xG_Row_size C hW bF_X6_24 (v := (τ.1 0)) rfl dX6_gather_21 ?_
            refine lv_icmp_ge C.1 C.2.1 (tgt := 47) dX6_gather_24 (by decide) (fun c_4 => ?_) (fun c_4 => ?_)
            · skip
              have k_4 := (tc_le (rfl : ((τ.1 0)).toInt = ((τ.1 0)).toInt) hm).mp c_4
              have em : jm = nd - (i + 1) := by omega
              refine lv_iinc (v := (x2 + 1)) (lv' := [(2, .int (x2 + 1)), (3, .int x3), (0, .ref (q 6)), (1, .ref (q 1))]) C.1 C.2.1 dX6_gather_47 hl (k := 1) rfl rfl (by decide) rfl (fun ls hl => ?_)
              refine lv_goto C.1 C.2.1 (tgt := 7) dX6_gather_50 (by decide) ?_
              exact ih_7 (i + 1) (x2 + 1) ζ2 (by omega) ((ti_add hi (show (1 : Int32).toInt = 1 from by decide) (by omega) (by omega)).trans (by omega)) (by omega) (by rw [em] at hs2; exact hs2) (by rw [em] at hh2; exact hh2) ho2 _ _ _ hW (lv_sub hl [0, 2, 3] rfl)
            · skip
              have k_4 := (tn_le (rfl : ((τ.1 0)).toInt = ((τ.1 0)).toInt) hm).mp c_4
              refine lv_aload_n C.1 C.2.1 dX6_gather_27 rfl (lv_at hl 2 rfl) ?_
              refine lv_aload_n C.1 C.2.1 dX6_gather_28 rfl (lv_at hl 3 rfl) ?_
              refine lv_iload_n C.1 C.2.1 dX6_gather_29 rfl (lv_at hl 1 rfl) ?_
              refine go_q hW (run_V (o := 1) (As := [.int x2]) (rest := [.ref (q 6)]) C hW (by omega) rfl rfl (c_X4_find l G q nd _ τ ζ2 ρ x2  h_nd h_n h_r) (cw_V 1 C bL_X6_27 bI_X4_find bV_X4_find bN_X4 bC_X4_find ⟨rfl, rfl⟩ (by decide +kernel) ⟨Nat.le_of_ble_eq_true rfl, Nat.le_of_ble_eq_true rfl⟩) rfl hl.1 rfl (Nat.le_of_ble_eq_true rfl) dX6_gather_30 ⟨Nat.le_refl _, Nat.le_refl _⟩) (fun r_5 u_5 H locs hp_5 hW => ?_)
              rcases hp_5 with ⟨rfl, rfl, k_5⟩ | ⟨rfl, rfl, k_5_0, k_5_1⟩
              · skip
                have hW : WB G (28 + 3 * nd) q (eX G q τ ζ2 ρ) s H locs := hW
                exfalso; omega
              · skip
                have hW : WB G (28 + 3 * nd) q (eX G q τ ζ2 ρ) s H locs := hW
                rw [show x2.toInt.toNat = i from by omega]
                refine lv_aload_n C.1 C.2.1 dX6_gather_33 rfl (lv_at hl 3 rfl) ?_
                refine lv_iload_n C.1 C.2.1 dX6_gather_34 rfl (lv_at hl 0 rfl) ?_
                refine go_q hW (run_V (o := 1) (As := [.int x3]) (rest := [.ref (q (28 + 3 * i)), .ref (q 6)]) C hW (by omega) rfl rfl (c_X4_find l G q nd _ τ ζ2 ρ x3  h_nd h_n h_r) (cw_V 1 C bL_X6_27 bI_X4_find bV_X4_find bN_X4 bC_X4_find ⟨rfl, rfl⟩ (by decide +kernel) ⟨Nat.le_of_ble_eq_true rfl, Nat.le_of_ble_eq_true rfl⟩) rfl hl.1 rfl (Nat.le_of_ble_eq_true rfl) dX6_gather_35 ⟨Nat.le_refl _, Nat.le_refl _⟩) (fun r_6 u_6 H locs hp_6 hW => ?_)
                rcases hp_6 with ⟨rfl, rfl, k_6⟩ | ⟨rfl, rfl, k_6_0, k_6_1⟩
                · skip
                  have hW : WB G (28 + 3 * nd) q (eX G q τ ζ2 ρ) s H locs := hW
                  exfalso; omega
                · skip
                  have hW : WB G (28 + 3 * nd) q (eX G q τ ζ2 ρ) s H locs := hW
                  have hroom := allL_room τ nd i jm (by omega) (by omega) (by omega)
                  have hs2nat : (ζ2.1 0).toInt.toNat = (allL τ nd i ++ rowL τ i jm).length := by rw [hs2i]; exact Int.toNat_natCast _
                  rw [show x3.toInt.toNat = (i + 1 + jm) from by omega]
                  refine go_v hW (run_V (o := 6) (As := [.ref (q (28 + 3 * i)), .ref (q (28 + 3 * (i + 1 + jm)))]) (rest := []) C hW (by omega) rfl rfl (c_X6_addPair l G q nd _ τ ζ2 ρ  i (i + 1 + jm) h_nd (by omega) (by omega) (dOk_z (ho2 0 (by decide) (by decide)) (ho2 1 (by decide) (by decide)) (h_dk i (by omega))) (dOk_z (ho2 0 (by decide) (by decide)) (ho2 1 (by decide) (by decide)) (h_dk (i + 1 + jm) (by omega))) (by omega)) (cw_V 2 C bL_X6_31 bI_X6_addPair bV_X6_addPair bN_X6 bC_X6_addPair ⟨rfl, rfl⟩ (by decide +kernel) ⟨Nat.le_of_ble_eq_true rfl, Nat.le_of_ble_eq_true rfl⟩) rfl hl.1 rfl (Nat.le_of_ble_eq_true rfl) dX6_gather_38 ⟨Nat.le_refl _, Nat.le_refl _⟩) (fun u_7 H locs hp_7 hW => ?_)
                  rcases hp_7 with ⟨rfl, k_7⟩ | ⟨rfl, k_7⟩
                  · skip
                    have hW : WB G (28 + 3 * nd) q (eX G q τ ζ2 ρ) s H locs := hW
                    have hz : ¬ 0 < tck τ i (i + 1 + jm) := k_7
                    refine lv_iinc (v := (x3 + 1)) (lv' := [(3, .int (x3 + 1)), (2, .int x2), (0, .ref (q 6)), (1, .ref (q 1))]) C.1 C.2.1 dX6_gather_41 hl (k := 0) rfl rfl (by decide) rfl (fun ls hl => ?_)
                    refine lv_goto C.1 C.2.1 (tgt := 19) dX6_gather_44 (by decide) ?_
                    exact ih_19 (jm + 1) (x3 + 1) ζ2 (by omega) ((ti_add hm (show (1 : Int32).toInt = 1 from by decide) (by omega) (by omega)).trans (by omega)) (by omega) (by first | (rw [rowL_n hz]; exact hs2) | (rw [rowL_y hz]; exact len_y hs2)) (by first | (rw [rowL_n hz]; exact hh2) | (rw [rowL_y hz]; rw [hs2nat]; exact holds_add hh2 i (i + 1 + jm))) (by first | exact ho2 | exact (fun z a b => (by show (if z = 6 then _ else (if z = 5 then _ else ζ2.2.1 z)) = _; rw [if_neg b, if_neg a]; exact ho2 z a b))) _ _ _ hW (lv_sub hl [0, 1, 2, 3] rfl)
                  · skip
                    have hW : WB G (28 + 3 * nd) q (eX G q τ (sg (sb (sa (sa ζ2 5 ((ζ2.1 0).toInt.toNat) (τ.2.1 0 (i + 1 + jm) - τ.2.1 0 i)) 6 ((ζ2.1 0).toInt.toNat) (τ.2.1 1 (i + 1 + jm) - τ.2.1 1 i)) 0 ((ζ2.1 0).toInt.toNat) (prd τ i (i + 1 + jm))) 0 (ζ2.1 0 + 1)) ρ) s H locs := hW
                    have hz : 0 < tck τ i (i + 1 + jm) := k_7
                    refine lv_iinc (v := (x3 + 1)) (lv' := [(3, .int (x3 + 1)), (2, .int x2), (0, .ref (q 6)), (1, .ref (q 1))]) C.1 C.2.1 dX6_gather_41 hl (k := 0) rfl rfl (by decide) rfl (fun ls hl => ?_)
                    refine lv_goto C.1 C.2.1 (tgt := 19) dX6_gather_44 (by decide) ?_
                    exact ih_19 (jm + 1) (x3 + 1) (sg (sb (sa (sa ζ2 5 ((ζ2.1 0).toInt.toNat) (τ.2.1 0 (i + 1 + jm) - τ.2.1 0 i)) 6 ((ζ2.1 0).toInt.toNat) (τ.2.1 1 (i + 1 + jm) - τ.2.1 1 i)) 0 ((ζ2.1 0).toInt.toNat) (prd τ i (i + 1 + jm))) 0 (ζ2.1 0 + 1)) (by omega) ((ti_add hm (show (1 : Int32).toInt = 1 from by decide) (by omega) (by omega)).trans (by omega)) (by omega) (by first | (rw [rowL_n hz]; exact hs2) | (rw [rowL_y hz]; exact len_y hs2)) (by first | (rw [rowL_n hz]; exact hh2) | (rw [rowL_y hz]; rw [hs2nat]; exact holds_add hh2 i (i + 1 + jm))) (by first | exact ho2 | exact (fun z a b => (by show (if z = 6 then _ else (if z = 5 then _ else ζ2.2.1 z)) = _; rw [if_neg b, if_neg a]; exact ho2 z a b))) _ _ _ hW (lv_sub hl [0, 1, 2, 3] rfl)
        exact L_19_3 _ 0 (x2 + 1) ζ1 (Nat.lt_succ_self _) ((ti_add hi (show (1 : Int32).toInt = 1 from by decide) (by omega) (by omega)).trans (by omega)) (by omega) (by rw [rowL, List.append_nil]; exact hs) (by rw [rowL, List.append_nil]; exact hh) ho _ _ _ hW (lv_sub hl [0, 1, 2, 3] rfl)
  exact L_7_1 _ 0 0 (sg ζ 0 0) (Nat.lt_succ_self _) (by decide) (by omega) rfl (holds_nil _ _ _ _) (fun _ _ _ => rfl) _ _ _ hW (lv_sub hl [0, 1, 2] rfl)
