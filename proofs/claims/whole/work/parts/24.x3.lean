/-! two dishes: ticks, products, the best delay; a dish's reel anew, its flags -/
theorem smpV_clp {τ : ST} {d i : Nat} : smpV τ d i = (clp (τ.2.1 7 (100 * d + i))).toInt64 := by rw [clp_64]; rfl
theorem dIt_fill (τ : ST) (i : Nat) (hi : i < 6) : dIt (saF τ 7 (zrow (τ.2.1 7) i 100)) i = cut 100 (fun _ => 0) (dIt τ i) := by
  funext z
  show (if z < 100 then (if 100 * i ≤ 100 * i + z ∧ 100 * i + z < 100 * i + 100 then (0 : Int32) else τ.2.1 7 (100 * i + z)) else 0) = (if z < 100 then (0 : Int32) else (if z < 100 then τ.2.1 7 (100 * i + z) else 0))
  by_cases h : z < 100
  · rw [if_pos h, if_pos h, if_pos (by omega)]
  · rw [if_neg h, if_neg h, if_neg h]
theorem dIt_fillo (τ : ST) (i z : Nat) (hz : z ≠ i) : dIt τ z = dIt (saF τ 7 (zrow (τ.2.1 7) i 100)) z := by
  funext y
  show (if y < 100 then τ.2.1 7 (100 * z + y) else 0) = (if y < 100 then (if 100 * i ≤ 100 * z + y ∧ 100 * z + y < 100 * i + 100 then (0 : Int32) else τ.2.1 7 (100 * z + y)) else 0)
  by_cases h : y < 100
  · rw [if_pos h, if_pos h, if_neg (by omega)]
  · rw [if_neg h, if_neg h]
theorem eX_fix {G : GG} {q : Nat → Nat} {τ ζ : ST} {ρ : RF} {f : Nat → Int32} : ∀ k, k < 28 → eX G q τ ζ ρ k = eX G q (saF τ 7 f) ζ ρ k := fun k hk => match k, hk with
  | 0, _ => rfl
  | 1, _ => rfl
  | 2, _ => rfl
  | 3, _ => rfl
  | 4, _ => rfl
  | 5, _ => rfl
  | 6, _ => rfl
  | 7, _ => rfl
  | 8, _ => rfl
  | 9, _ => rfl
  | 10, _ => rfl
  | 11, _ => rfl
  | 12, _ => rfl
  | 13, _ => rfl
  | 14, _ => rfl
  | 15, _ => rfl
  | 16, _ => rfl
  | 17, _ => rfl
  | 18, _ => rfl
  | 19, _ => rfl
  | 20, _ => rfl
  | 21, _ => rfl
  | 22, _ => rfl
  | 23, _ => rfl
  | 24, _ => rfl
  | 25, _ => rfl
  | 26, _ => rfl
  | 27, _ => rfl
  | k + 28, hk => absurd hk (by omega)
set_option maxHeartbeats 4000000 in
set_option maxRecDepth 100000 in
theorem c_X1_ticksWith (l : Launch) (G : GG) (q : Nat → Nat) (nd sz : Nat) (τ ζ : ST) (ρ : RF) (i : Nat) (j : Nat) (h_nd : nd ≤ 6) (hi : i < nd) (hj : j < nd) (h_k : dOk τ ζ i) (h_k2 : dOk τ ζ j) : Met l yX1_ticksWith (WSb yX1_ticksWith cX1_ticksWith 4 (some .int)) (rmA 2 42) (va_Pc [.ref (q (28 + 3 * i)), .ref (q (28 + 3 * j))] (PW G (28 + 3 * nd) q sz (eX G q τ ζ ρ))) (va_Qi (fun (r : Int32) (u : (ST × ST × RF)) => r = nI (tck τ i j) ∧ u = (τ, ζ, ρ)) (fun u => BW G (28 + 3 * nd) q (eX G q u.1 u.2.1 u.2.2)) (FA (28 + 3 * nd) q sz)) 0 0 (FA (28 + 3 * nd) q sz) := by
  refine Met_B (own := RX1) rfl (by decide) (Nat.le_of_ble_eq_true rfl) (fun p e s m args below meth c ls hsz C hW hr hk hl QQ hQ => ?_)
  subst hsz
  have hl : lv_has ls 4 [(0, .ref (q (28 + 3 * i))), (1, .ref (q (28 + 3 * j)))] := hl
  have b1 := h_k.2.2.2.1
  have b2 := h_k2.2.2.2.1
  refine lv_iconst C.1 C.2.1 (v := 0) dX1_ticksWith_0 (by decide) ?_
  refine lv_istore_n (lv' := [(2, .int 0), (0, .ref (q (28 + 3 * i))), (1, .ref (q (28 + 3 * j)))]) C.1 C.2.1 dX1_ticksWith_1 rfl hl (by decide) rfl (fun ls hl => ?_)
  refine lv_iconst C.1 C.2.1 (v := 0) dX1_ticksWith_2 (by decide) ?_
  refine lv_istore_n (lv' := [(3, .int 0), (2, .int 0), (0, .ref (q (28 + 3 * i))), (1, .ref (q (28 + 3 * j)))]) C.1 C.2.1 dX1_ticksWith_3 rfl hl (by decide) rfl (fun ls hl => ?_)
  have L_4_1 : ∀ (fuel : Nat) (t : Nat) (x2 : Int32) (x3 : Int32), 100 - t < fuel → (x3.toInt = (t : Int)) → (t ≤ 100) → (x2 = nI (mulC τ i (dl τ i) j (dl τ j) t)) → ∀ (H : Heap) (locs : List Loc) (ls : Array Slot), WB G (28 + 3 * nd) q (eX G q τ ζ ρ) s H locs → lv_has ls 4 [(3, .int x3), (2, .int x2), (0, .ref (q (28 + 3 * i))), (1, .ref (q (28 + 3 * j)))] → W p l e (rmA 2 42) s m args below meth c H locs 0 0 QQ (F0 m 4 ls []) := by
    intro fuel; induction fuel with
    | zero => intro t x2 x3 hf; exact absurd hf (Nat.not_lt_zero _)
    | succ fuel ih_4 =>
      intro t x2 x3 hf ht hle hs H locs ls hW hl
      refine lv_iload_n C.1 C.2.1 dX1_ticksWith_4 rfl (lv_at hl 0 rfl) ?_
      refine lv_bipush C.1 C.2.1 (v := 100) dX1_ticksWith_5 (by decide) ?_
      refine lv_icmp_ge C.1 C.2.1 (tgt := 45) dX1_ticksWith_7 (by decide) (fun c_2 => ?_) (fun c_2 => ?_)
      · skip
        have k_2 := (tc_le (show (100 : Int32).toInt = 100 from by decide) ht).mp c_2
        refine lv_iload_n C.1 C.2.1 dX1_ticksWith_45 rfl (lv_at hl 1 rfl) ?_
        subst hQ
        exact r_iret (τ, ζ, ρ) C hW hr hk dX1_ticksWith_46 ⟨by rw [hs, show t = 100 from by omega]; rfl, rfl⟩
      · skip
        have k_2 := (tn_le (show (100 : Int32).toInt = 100 from by decide) ht).mp c_2
        refine lv_aload_n C.1 C.2.1 dX1_ticksWith_10 rfl (lv_at hl 2 rfl) ?_
        refine lv_iload_n C.1 C.2.1 dX1_ticksWith_11 rfl (lv_at hl 0 rfl) ?_
        refine lv_aload_n C.1 C.2.1 dX1_ticksWith_12 rfl (lv_at hl 2 rfl) ?_
        refine xG_Dish_delay C hW i (by omega) bF_X1_9 (v := (τ.2.1 2 i)) rfl dX1_ticksWith_13 ?_
        refine lv_iadd C.1 C.2.1 dX1_ticksWith_16 ?_
        refine go_i hW (run_V (o := 28 + 3 * i) (As := [.int (x3 + (τ.2.1 2 i))]) (rest := []) C hW (by omega) (eX_obj _ _ _ _ _ i) rfl (c_X1_hasUsable l G q nd _ τ ζ ρ (x3 + (τ.2.1 2 i)) ((((t : Int) + ((τ.2.1 2 i)).toInt)).toNat) i ((ti_add ht (rfl : ((τ.2.1 2 i)).toInt = ((τ.2.1 2 i)).toInt) (by omega) (by omega)).trans (by omega)) h_nd (by omega) h_k) (cw_V 1 C bL_X1_64 bI_X1_hasUsable bV_X1_hasUsable bN_X1 bC_X1_hasUsable ⟨rfl, rfl⟩ (by decide +kernel) ⟨Nat.le_of_ble_eq_true rfl, Nat.le_of_ble_eq_true rfl⟩) rfl hl.1 rfl (Nat.le_of_ble_eq_true rfl) dX1_ticksWith_17 ⟨Nat.le_refl _, Nat.le_refl _⟩) (fun r_3 u_3 H locs hp_3 hW => ?_)
        rcases hp_3 with ⟨rfl, rfl, k_3⟩ | ⟨rfl, rfl, k_3⟩
        · skip
          have hW : WB G (28 + 3 * nd) q (eX G q τ ζ ρ) s H locs := hW
          have ea1 : ((t : Int) + (τ.2.1 2 i).toInt).toNat = t + dl τ i := by unfold dl; omega
          rw [ea1] at k_3
          have ks := k_3
          refine lv_if_eq C.1 C.2.1 (tgt := 39) dX1_ticksWith_20 (by decide) (fun c => absurd c (by decide)) (fun _ => ?_)
          refine lv_aload_n C.1 C.2.1 dX1_ticksWith_23 rfl (lv_at hl 3 rfl) ?_
          refine lv_iload_n C.1 C.2.1 dX1_ticksWith_24 rfl (lv_at hl 0 rfl) ?_
          refine lv_aload_n C.1 C.2.1 dX1_ticksWith_25 rfl (lv_at hl 3 rfl) ?_
          refine xG_Dish_delay C hW j (by omega) bF_X1_9 (v := (τ.2.1 2 j)) rfl dX1_ticksWith_26 ?_
          refine lv_iadd C.1 C.2.1 dX1_ticksWith_29 ?_
          refine go_i hW (run_V (o := 28 + 3 * j) (As := [.int (x3 + (τ.2.1 2 j))]) (rest := []) C hW (by omega) (eX_obj _ _ _ _ _ j) rfl (c_X1_hasUsable l G q nd _ τ ζ ρ (x3 + (τ.2.1 2 j)) ((((t : Int) + ((τ.2.1 2 j)).toInt)).toNat) j ((ti_add ht (rfl : ((τ.2.1 2 j)).toInt = ((τ.2.1 2 j)).toInt) (by omega) (by omega)).trans (by omega)) h_nd (by omega) h_k2) (cw_V 1 C bL_X1_64 bI_X1_hasUsable bV_X1_hasUsable bN_X1 bC_X1_hasUsable ⟨rfl, rfl⟩ (by decide +kernel) ⟨Nat.le_of_ble_eq_true rfl, Nat.le_of_ble_eq_true rfl⟩) rfl hl.1 rfl (Nat.le_of_ble_eq_true rfl) dX1_ticksWith_30 ⟨Nat.le_refl _, Nat.le_refl _⟩) (fun r_5 u_5 H locs hp_5 hW => ?_)
          rcases hp_5 with ⟨rfl, rfl, k_5⟩ | ⟨rfl, rfl, k_5⟩
          · skip
            have hW : WB G (28 + 3 * nd) q (eX G q τ ζ ρ) s H locs := hW
            have ea2 : ((t : Int) + (τ.2.1 2 j).toInt).toNat = t + dl τ j := by unfold dl; omega
            rw [ea2] at k_5
            obtain ⟨es, ec⟩ := mul_y (τ := τ) (i := i) (a := dl τ i) (j := j) (b := dl τ j) (t := t) ks k_5
            refine lv_if_eq C.1 C.2.1 (tgt := 39) dX1_ticksWith_33 (by decide) (fun c => absurd c (by decide)) (fun _ => ?_)
            refine lv_iinc (v := (x2 + 1)) (lv' := [(2, .int (x2 + 1)), (3, .int x3), (0, .ref (q (28 + 3 * i))), (1, .ref (q (28 + 3 * j)))]) C.1 C.2.1 dX1_ticksWith_36 hl (k := 1) rfl rfl (by decide) rfl (fun ls hl => ?_)
            refine lv_iinc (v := (x3 + 1)) (lv' := [(3, .int (x3 + 1)), (2, .int (x2 + 1)), (0, .ref (q (28 + 3 * i))), (1, .ref (q (28 + 3 * j)))]) C.1 C.2.1 dX1_ticksWith_39 hl (k := 1) rfl rfl (by decide) rfl (fun ls hl => ?_)
            refine lv_goto C.1 C.2.1 (tgt := 4) dX1_ticksWith_42 (by decide) ?_
            exact ih_4 (t + 1) (x2 + 1) (x3 + 1) (by omega) ((ti_add ht (show (1 : Int32).toInt = 1 from by decide) (by omega) (by omega)).trans (by omega)) (by omega) (by rw [ec, hs]) _ _ _ hW (lv_sub hl [0, 1, 2, 3] rfl)
          · skip
            have hW : WB G (28 + 3 * nd) q (eX G q τ ζ ρ) s H locs := hW
            have ea2 : ((t : Int) + (τ.2.1 2 j).toInt).toNat = t + dl τ j := by unfold dl; omega
            rw [ea2] at k_5
            obtain ⟨es, ec⟩ := mul_n (τ := τ) (i := i) (a := dl τ i) (j := j) (b := dl τ j) (t := t) (fun h => k_5 h.2)
            refine lv_if_eq C.1 C.2.1 (tgt := 39) dX1_ticksWith_33 (by decide) (fun _ => ?_) (fun c => absurd c (by decide))
            refine lv_iinc (v := (x3 + 1)) (lv' := [(3, .int (x3 + 1)), (2, .int x2), (0, .ref (q (28 + 3 * i))), (1, .ref (q (28 + 3 * j)))]) C.1 C.2.1 dX1_ticksWith_39 hl (k := 0) rfl rfl (by decide) rfl (fun ls hl => ?_)
            refine lv_goto C.1 C.2.1 (tgt := 4) dX1_ticksWith_42 (by decide) ?_
            exact ih_4 (t + 1) x2 (x3 + 1) (by omega) ((ti_add ht (show (1 : Int32).toInt = 1 from by decide) (by omega) (by omega)).trans (by omega)) (by omega) (by rw [ec, hs]) _ _ _ hW (lv_sub hl [0, 1, 2, 3] rfl)
        · skip
          have hW : WB G (28 + 3 * nd) q (eX G q τ ζ ρ) s H locs := hW
          have ea1 : ((t : Int) + (τ.2.1 2 i).toInt).toNat = t + dl τ i := by unfold dl; omega
          rw [ea1] at k_3
          obtain ⟨es, ec⟩ := mul_n (τ := τ) (i := i) (a := dl τ i) (j := j) (b := dl τ j) (t := t) (fun h => k_3 h.1)
          refine lv_if_eq C.1 C.2.1 (tgt := 39) dX1_ticksWith_20 (by decide) (fun _ => ?_) (fun c => absurd c (by decide))
          refine lv_iinc (v := (x3 + 1)) (lv' := [(3, .int (x3 + 1)), (2, .int x2), (0, .ref (q (28 + 3 * i))), (1, .ref (q (28 + 3 * j)))]) C.1 C.2.1 dX1_ticksWith_39 hl (k := 0) rfl rfl (by decide) rfl (fun ls hl => ?_)
          refine lv_goto C.1 C.2.1 (tgt := 4) dX1_ticksWith_42 (by decide) ?_
          exact ih_4 (t + 1) x2 (x3 + 1) (by omega) ((ti_add ht (show (1 : Int32).toInt = 1 from by decide) (by omega) (by omega)).trans (by omega)) (by omega) (by rw [ec, hs]) _ _ _ hW (lv_sub hl [0, 1, 2, 3] rfl)
  exact L_4_1 _ 0 0 0 (Nat.lt_succ_self _) (by decide) (by omega) rfl _ _ _ hW (lv_sub hl [0, 1, 2, 3] rfl)
set_option maxHeartbeats 4000000 in
set_option maxRecDepth 100000 in
theorem c_X1_productWith (l : Launch) (G : GG) (q : Nat → Nat) (nd sz : Nat) (τ ζ : ST) (ρ : RF) (w : Int32) (wN : Nat) (i : Nat) (j : Nat) (hw : w.toInt = (wN : Int)) (h_nd : nd ≤ 6) (hi : i < nd) (hj : j < nd) (h_k : dOk τ ζ i) (h_k2 : dOk τ ζ j) (hw30 : wN ≤ 30) : Met l yX1_productWith (WSb yX1_productWith cX1_productWith 8 (some .long)) (rmA 3 63) (va_Pc [.ref (q (28 + 3 * i)), .ref (q (28 + 3 * j)), .int w] (PW G (28 + 3 * nd) q sz (eX G q τ ζ ρ))) (va_Ql (fun (r : Int64) (u : (ST × ST × RF)) => r = prdF τ i (dl τ i) j wN ∧ u = (τ, ζ, ρ)) (fun u => BW G (28 + 3 * nd) q (eX G q u.1 u.2.1 u.2.2)) (FA (28 + 3 * nd) q sz)) 0 0 (FA (28 + 3 * nd) q sz) := by
  refine Met_B (own := RX1) rfl (by decide) (Nat.le_of_ble_eq_true rfl) (fun p e s m args below meth c ls hsz C hW hr hk hl QQ hQ => ?_)
  subst hsz
  have hl : lv_has ls 8 [(0, .ref (q (28 + 3 * i))), (1, .ref (q (28 + 3 * j))), (2, .int w)] := hl
  have b1 := h_k.2.2.2.1
  have b2 := h_k2.2.2.2.1
  refine lv_lconst C.1 C.2.1 (v := 0) dX1_productWith_0 (by decide) ?_
  refine lv_lstore_n (lv' := [(3, .long 0), (0, .ref (q (28 + 3 * i))), (1, .ref (q (28 + 3 * j))), (2, .int w)]) C.1 C.2.1 dX1_productWith_1 rfl hl (by decide) rfl (fun ls hl => ?_)
  refine lv_iconst C.1 C.2.1 (v := 0) dX1_productWith_2 (by decide) ?_
  refine lv_istore (lv' := [(5, .int 0), (3, .long 0), (0, .ref (q (28 + 3 * i))), (1, .ref (q (28 + 3 * j))), (2, .int w)]) C.1 C.2.1 dX1_productWith_3 hl (by decide) rfl (fun ls hl => ?_)
  have L_5_1 : ∀ (fuel : Nat) (t : Nat) (x3 : Int64) (x5 : Int32), 100 - t < fuel → (x5.toInt = (t : Int)) → (t ≤ 100) → (x3 = mulS τ i (dl τ i) j wN t) → ∀ (H : Heap) (locs : List Loc) (ls : Array Slot), WB G (28 + 3 * nd) q (eX G q τ ζ ρ) s H locs → lv_has ls 8 [(5, .int x5), (3, .long x3), (0, .ref (q (28 + 3 * i))), (1, .ref (q (28 + 3 * j))), (2, .int w)] → W p l e (rmA 3 63) s m args below meth c H locs 0 0 QQ (F0 m 5 ls []) := by
    intro fuel; induction fuel with
    | zero => intro t x3 x5 hf; exact absurd hf (Nat.not_lt_zero _)
    | succ fuel ih_5 =>
      intro t x3 x5 hf ht hle hs H locs ls hW hl
      refine lv_iload C.1 C.2.1 dX1_productWith_5 (lv_at hl 0 rfl) ?_
      refine lv_bipush C.1 C.2.1 (v := 100) dX1_productWith_7 (by decide) ?_
      refine lv_icmp_ge C.1 C.2.1 (tgt := 69) dX1_productWith_9 (by decide) (fun c_2 => ?_) (fun c_2 => ?_)
      · skip
        have k_2 := (tc_le (show (100 : Int32).toInt = 100 from by decide) ht).mp c_2
        refine lv_lload_n C.1 C.2.1 dX1_productWith_69 rfl (lv_at hl 1 rfl) ?_
        refine lv_aload_n C.1 C.2.1 dX1_productWith_70 rfl (lv_at hl 2 rfl) ?_
        refine xG_Dish_gain C hW i (by omega) bF_X1_15 (v := (τ.2.1 3 i)) rfl dX1_productWith_71 ?_
        refine lv_i2l C.1 C.2.1 dX1_productWith_74 rfl ?_
        refine lv_lmul C.1 C.2.1 dX1_productWith_75 ?_
        refine lv_aload_n C.1 C.2.1 dX1_productWith_76 rfl (lv_at hl 3 rfl) ?_
        refine xG_Dish_gain C hW j (by omega) bF_X1_15 (v := (τ.2.1 3 j)) rfl dX1_productWith_77 ?_
        refine lv_i2l C.1 C.2.1 dX1_productWith_80 rfl ?_
        refine lv_lmul C.1 C.2.1 dX1_productWith_81 ?_
        subst hQ
        exact r_lret (τ, ζ, ρ) C hW hr hk dX1_productWith_82 ⟨by rw [hs, show t = 100 from by omega]; rfl, rfl⟩
      · skip
        have k_2 := (tn_le (show (100 : Int32).toInt = 100 from by decide) ht).mp c_2
        refine lv_iload C.1 C.2.1 dX1_productWith_12 (lv_at hl 0 rfl) ?_
        refine lv_aload_n C.1 C.2.1 dX1_productWith_14 rfl (lv_at hl 2 rfl) ?_
        refine xG_Dish_delay C hW i (by omega) bF_X1_9 (v := (τ.2.1 2 i)) rfl dX1_productWith_15 ?_
        refine lv_iadd C.1 C.2.1 dX1_productWith_18 ?_
        refine lv_istore (lv' := [(6, .int (x5 + (τ.2.1 2 i))), (5, .int x5), (3, .long x3), (0, .ref (q (28 + 3 * i))), (1, .ref (q (28 + 3 * j))), (2, .int w)]) C.1 C.2.1 dX1_productWith_19 hl (by decide) rfl (fun ls hl => ?_)
        refine lv_iload C.1 C.2.1 dX1_productWith_21 (lv_at hl 1 rfl) ?_
        refine lv_iload_n C.1 C.2.1 dX1_productWith_23 rfl (lv_at hl 5 rfl) ?_
        refine lv_iadd C.1 C.2.1 dX1_productWith_24 ?_
        refine lv_istore (lv' := [(7, .int (x5 + w)), (6, .int (x5 + (τ.2.1 2 i))), (5, .int x5), (3, .long x3), (0, .ref (q (28 + 3 * i))), (1, .ref (q (28 + 3 * j))), (2, .int w)]) C.1 C.2.1 dX1_productWith_25 hl (by decide) rfl (fun ls hl => ?_)
        refine lv_aload_n C.1 C.2.1 dX1_productWith_27 rfl (lv_at hl 4 rfl) ?_
        refine lv_iload C.1 C.2.1 dX1_productWith_28 (lv_at hl 1 rfl) ?_
        refine go_i hW (run_V (o := 28 + 3 * i) (As := [.int (x5 + (τ.2.1 2 i))]) (rest := []) C hW (by omega) (eX_obj _ _ _ _ _ i) rfl (c_X1_hasUsable l G q nd _ τ ζ ρ (x5 + (τ.2.1 2 i)) ((((t : Int) + ((τ.2.1 2 i)).toInt)).toNat) i ((ti_add ht (rfl : ((τ.2.1 2 i)).toInt = ((τ.2.1 2 i)).toInt) (by omega) (by omega)).trans (by omega)) h_nd (by omega) h_k) (cw_V 1 C bL_X1_64 bI_X1_hasUsable bV_X1_hasUsable bN_X1 bC_X1_hasUsable ⟨rfl, rfl⟩ (by decide +kernel) ⟨Nat.le_of_ble_eq_true rfl, Nat.le_of_ble_eq_true rfl⟩) rfl hl.1 rfl (Nat.le_of_ble_eq_true rfl) dX1_productWith_30 ⟨Nat.le_refl _, Nat.le_refl _⟩) (fun r_3 u_3 H locs hp_3 hW => ?_)
        rcases hp_3 with ⟨rfl, rfl, k_3⟩ | ⟨rfl, rfl, k_3⟩
        · skip
          have hW : WB G (28 + 3 * nd) q (eX G q τ ζ ρ) s H locs := hW
          have ea1 : ((t : Int) + (τ.2.1 2 i).toInt).toNat = t + dl τ i := by unfold dl; omega
          rw [ea1] at k_3
          have ks := k_3
          have l1 := smp_lt h_k ks
          have l2 := (dOk_smp h_k l1).mp ks
          refine lv_if_eq C.1 C.2.1 (tgt := 63) dX1_productWith_33 (by decide) (fun c => absurd c (by decide)) (fun _ => ?_)
          refine lv_aload_n C.1 C.2.1 dX1_productWith_36 rfl (lv_at hl 5 rfl) ?_
          refine lv_iload C.1 C.2.1 dX1_productWith_37 (lv_at hl 0 rfl) ?_
          refine go_i hW (run_V (o := 28 + 3 * j) (As := [.int (x5 + w)]) (rest := []) C hW (by omega) (eX_obj _ _ _ _ _ j) rfl (c_X1_hasUsable l G q nd _ τ ζ ρ (x5 + w) (t + wN) j ((ti_add ht hw (by omega) (by omega)).trans (by omega)) h_nd (by omega) h_k2) (cw_V 1 C bL_X1_64 bI_X1_hasUsable bV_X1_hasUsable bN_X1 bC_X1_hasUsable ⟨rfl, rfl⟩ (by decide +kernel) ⟨Nat.le_of_ble_eq_true rfl, Nat.le_of_ble_eq_true rfl⟩) rfl hl.1 rfl (Nat.le_of_ble_eq_true rfl) dX1_productWith_39 ⟨Nat.le_refl _, Nat.le_refl _⟩) (fun r_5 u_5 H locs hp_5 hW => ?_)
          rcases hp_5 with ⟨rfl, rfl, k_5⟩ | ⟨rfl, rfl, k_5⟩
          · skip
            have hW : WB G (28 + 3 * nd) q (eX G q τ ζ ρ) s H locs := hW
            have l3 := smp_lt h_k2 k_5
            have l4 := (dOk_smp h_k2 l3).mp k_5
            obtain ⟨es, ec⟩ := mul_y (τ := τ) (i := i) (a := dl τ i) (j := j) (b := wN) (t := t) ks k_5
            rw [smpV_clp, smpV_clp] at es
            refine lv_if_eq C.1 C.2.1 (tgt := 63) dX1_productWith_42 (by decide) (fun c => absurd c (by decide)) (fun _ => ?_)
            refine lv_lload_n C.1 C.2.1 dX1_productWith_45 rfl (lv_at hl 3 rfl) ?_
            refine lv_aload_n C.1 C.2.1 dX1_productWith_46 rfl (lv_at hl 4 rfl) ?_
            refine lv_iload C.1 C.2.1 dX1_productWith_47 (lv_at hl 1 rfl) ?_
            refine go_i hW (run_V (o := 28 + 3 * i) (As := [.int (x5 + (τ.2.1 2 i))]) (rest := [.long x3]) C hW (by omega) (eX_obj _ _ _ _ _ i) rfl (c_X1_sampleAt l G q nd _ τ ζ ρ (x5 + (τ.2.1 2 i)) (t + dl τ i) i ((ti_add ht (rfl : (τ.2.1 2 i).toInt = (τ.2.1 2 i).toInt) (by omega) (by omega)).trans (by unfold dl; omega)) h_nd (by omega) (by omega) (by omega)) (cw_V 1 C bL_X1_67 bI_X1_sampleAt bV_X1_sampleAt bN_X1 bC_X1_sampleAt ⟨rfl, rfl⟩ (by decide +kernel) ⟨Nat.le_of_ble_eq_true rfl, Nat.le_of_ble_eq_true rfl⟩) rfl hl.1 rfl (Nat.le_of_ble_eq_true rfl) dX1_productWith_49 ⟨Nat.le_refl _, Nat.le_refl _⟩) (fun r_7 u_7 H locs hp_7 hW => ?_)
            rcases hp_7 with ⟨rfl, rfl⟩
            have hW : WB G (28 + 3 * nd) q (eX G q τ ζ ρ) s H locs := hW
            refine lv_i2l C.1 C.2.1 dX1_productWith_52 rfl ?_
            refine lv_aload_n C.1 C.2.1 dX1_productWith_53 rfl (lv_at hl 5 rfl) ?_
            refine lv_iload C.1 C.2.1 dX1_productWith_54 (lv_at hl 0 rfl) ?_
            refine go_i hW (run_V (o := 28 + 3 * j) (As := [.int (x5 + w)]) (rest := [.long ((clp (τ.2.1 7 (100 * i + (t + dl τ i)))).toInt64), .long x3]) C hW (by omega) (eX_obj _ _ _ _ _ j) rfl (c_X1_sampleAt l G q nd _ τ ζ ρ (x5 + w) (t + wN) j ((ti_add ht hw (by omega) (by omega)).trans (by omega)) h_nd (by omega) (by omega) (by omega)) (cw_V 1 C bL_X1_67 bI_X1_sampleAt bV_X1_sampleAt bN_X1 bC_X1_sampleAt ⟨rfl, rfl⟩ (by decide +kernel) ⟨Nat.le_of_ble_eq_true rfl, Nat.le_of_ble_eq_true rfl⟩) rfl hl.1 rfl (Nat.le_of_ble_eq_true rfl) dX1_productWith_56 ⟨Nat.le_refl _, Nat.le_refl _⟩) (fun r_8 u_8 H locs hp_8 hW => ?_)
            rcases hp_8 with ⟨rfl, rfl⟩
            have hW : WB G (28 + 3 * nd) q (eX G q τ ζ ρ) s H locs := hW
            refine lv_i2l C.1 C.2.1 dX1_productWith_59 rfl ?_
            refine lv_lmul C.1 C.2.1 dX1_productWith_60 ?_
            refine lv_ladd C.1 C.2.1 dX1_productWith_61 ?_
            refine lv_lstore_n (lv' := [(3, .long (x3 + ((clp (τ.2.1 7 (100 * i + (t + dl τ i)))).toInt64 * (clp (τ.2.1 7 (100 * j + (t + wN)))).toInt64))), (7, .int (x5 + w)), (6, .int (x5 + (τ.2.1 2 i))), (5, .int x5), (0, .ref (q (28 + 3 * i))), (1, .ref (q (28 + 3 * j))), (2, .int w)]) C.1 C.2.1 dX1_productWith_62 rfl hl (by decide) rfl (fun ls hl => ?_)
            refine lv_iinc (v := (x5 + 1)) (lv' := [(5, .int (x5 + 1)), (3, .long (x3 + ((clp (τ.2.1 7 (100 * i + (t + dl τ i)))).toInt64 * (clp (τ.2.1 7 (100 * j + (t + wN)))).toInt64))), (7, .int (x5 + w)), (6, .int (x5 + (τ.2.1 2 i))), (0, .ref (q (28 + 3 * i))), (1, .ref (q (28 + 3 * j))), (2, .int w)]) C.1 C.2.1 dX1_productWith_63 hl (k := 3) rfl rfl (by decide) rfl (fun ls hl => ?_)
            refine lv_goto C.1 C.2.1 (tgt := 5) dX1_productWith_66 (by decide) ?_
            exact ih_5 (t + 1) (x3 + ((clp (τ.2.1 7 (100 * i + (t + dl τ i)))).toInt64 * (clp (τ.2.1 7 (100 * j + (t + wN)))).toInt64)) (x5 + 1) (by omega) ((ti_add ht (show (1 : Int32).toInt = 1 from by decide) (by omega) (by omega)).trans (by omega)) (by omega) (by rw [es, hs]) _ _ _ hW (lv_sub hl [0, 1, 4, 5, 6] rfl)
          · skip
            have hW : WB G (28 + 3 * nd) q (eX G q τ ζ ρ) s H locs := hW
            obtain ⟨es, ec⟩ := mul_n (τ := τ) (i := i) (a := dl τ i) (j := j) (b := wN) (t := t) (fun h => k_5 h.2)
            refine lv_if_eq C.1 C.2.1 (tgt := 63) dX1_productWith_42 (by decide) (fun _ => ?_) (fun c => absurd c (by decide))
            refine lv_iinc (v := (x5 + 1)) (lv' := [(5, .int (x5 + 1)), (7, .int (x5 + w)), (6, .int (x5 + (τ.2.1 2 i))), (3, .long x3), (0, .ref (q (28 + 3 * i))), (1, .ref (q (28 + 3 * j))), (2, .int w)]) C.1 C.2.1 dX1_productWith_63 hl (k := 2) rfl rfl (by decide) rfl (fun ls hl => ?_)
            refine lv_goto C.1 C.2.1 (tgt := 5) dX1_productWith_66 (by decide) ?_
            exact ih_5 (t + 1) x3 (x5 + 1) (by omega) ((ti_add ht (show (1 : Int32).toInt = 1 from by decide) (by omega) (by omega)).trans (by omega)) (by omega) (by rw [es, hs]) _ _ _ hW (lv_sub hl [0, 3, 4, 5, 6] rfl)
        · skip
          have hW : WB G (28 + 3 * nd) q (eX G q τ ζ ρ) s H locs := hW
          have ea1 : ((t : Int) + (τ.2.1 2 i).toInt).toNat = t + dl τ i := by unfold dl; omega
          rw [ea1] at k_3
          obtain ⟨es, ec⟩ := mul_n (τ := τ) (i := i) (a := dl τ i) (j := j) (b := wN) (t := t) (fun h => k_3 h.1)
          refine lv_if_eq C.1 C.2.1 (tgt := 63) dX1_productWith_33 (by decide) (fun _ => ?_) (fun c => absurd c (by decide))
          refine lv_iinc (v := (x5 + 1)) (lv' := [(5, .int (x5 + 1)), (7, .int (x5 + w)), (6, .int (x5 + (τ.2.1 2 i))), (3, .long x3), (0, .ref (q (28 + 3 * i))), (1, .ref (q (28 + 3 * j))), (2, .int w)]) C.1 C.2.1 dX1_productWith_63 hl (k := 2) rfl rfl (by decide) rfl (fun ls hl => ?_)
          refine lv_goto C.1 C.2.1 (tgt := 5) dX1_productWith_66 (by decide) ?_
          exact ih_5 (t + 1) x3 (x5 + 1) (by omega) ((ti_add ht (show (1 : Int32).toInt = 1 from by decide) (by omega) (by omega)).trans (by omega)) (by omega) (by rw [es, hs]) _ _ _ hW (lv_sub hl [0, 3, 4, 5, 6] rfl)
  exact L_5_1 _ 0 0 0 (Nat.lt_succ_self _) (by decide) (by omega) rfl _ _ _ hW (lv_sub hl [0, 1, 2, 3, 4] rfl)
set_option maxHeartbeats 4000000 in
set_option maxRecDepth 100000 in
theorem c_X1_bestDelayOf (l : Launch) (G : GG) (q : Nat → Nat) (nd sz : Nat) (τ ζ : ST) (ρ : RF) (i : Nat) (j : Nat) (h_nd : nd ≤ 6) (hi : i < nd) (hj : j < nd) (h_k : dOk τ ζ i) (h_k2 : dOk τ ζ j) : Met l yX1_bestDelayOf (WSb yX1_bestDelayOf cX1_bestDelayOf 8 (some .int)) (rmA 4 90) (va_Pc [.ref (q (28 + 3 * i)), .ref (q (28 + 3 * j))] (PW G (28 + 3 * nd) q sz (eX G q τ ζ ρ))) (va_Qi (fun (r : Int32) (u : (ST × ST × RF)) => r = nI (bstD τ i j 30) ∧ u = (τ, ζ, ρ)) (fun u => BW G (28 + 3 * nd) q (eX G q u.1 u.2.1 u.2.2)) (FA (28 + 3 * nd) q sz)) 0 0 (FA (28 + 3 * nd) q sz) := by
  refine Met_B (own := RX1) rfl (by decide) (Nat.le_of_ble_eq_true rfl) (fun p e s m args below meth c ls hsz C hW hr hk hl QQ hQ => ?_)
  subst hsz
  have hl : lv_has ls 8 [(0, .ref (q (28 + 3 * i))), (1, .ref (q (28 + 3 * j)))] := hl
  refine lv_iconst C.1 C.2.1 (v := 0) dX1_bestDelayOf_0 (by decide) ?_
  refine lv_istore_n (lv' := [(2, .int 0), (0, .ref (q (28 + 3 * i))), (1, .ref (q (28 + 3 * j)))]) C.1 C.2.1 dX1_bestDelayOf_1 rfl hl (by decide) rfl (fun ls hl => ?_)
  refine lv_aload_n C.1 C.2.1 dX1_bestDelayOf_2 rfl (lv_at hl 1 rfl) ?_
  refine lv_aload_n C.1 C.2.1 dX1_bestDelayOf_3 rfl (lv_at hl 2 rfl) ?_
  refine lv_iconst C.1 C.2.1 (v := 0) dX1_bestDelayOf_4 (by decide) ?_
  refine go_l hW (run_V (o := 28 + 3 * i) (As := [.ref (q (28 + 3 * j)), .int 0]) (rest := []) C hW (by omega) (eX_obj _ _ _ _ _ i) rfl (c_X1_productWith l G q nd _ τ ζ ρ 0 0 i j ((show (0 : Int32).toInt = 0 from by decide).trans (by omega)) h_nd (by omega) (by omega) h_k h_k2 (by omega)) (cw_V 2 C bL_X1_70 bI_X1_productWith bV_X1_productWith bN_X1 bC_X1_productWith ⟨rfl, rfl⟩ (by decide +kernel) ⟨Nat.le_of_ble_eq_true rfl, Nat.le_of_ble_eq_true rfl⟩) rfl hl.1 rfl (Nat.le_of_ble_eq_true rfl) dX1_bestDelayOf_5 ⟨Nat.le_refl _, Nat.le_refl _⟩) (fun r_1 u_1 H locs hp_1 hW => ?_)
  rcases hp_1 with ⟨rfl, rfl⟩
  have hW : WB G (28 + 3 * nd) q (eX G q τ ζ ρ) s H locs := hW
  refine lv_lstore_n (lv' := [(3, .long (prdF τ i (dl τ i) j 0)), (2, .int 0), (0, .ref (q (28 + 3 * i))), (1, .ref (q (28 + 3 * j)))]) C.1 C.2.1 dX1_bestDelayOf_8 rfl hl (by decide) rfl (fun ls hl => ?_)
  refine lv_iconst C.1 C.2.1 (v := 1) dX1_bestDelayOf_9 (by decide) ?_
  refine lv_istore (lv' := [(5, .int 1), (3, .long (prdF τ i (dl τ i) j 0)), (2, .int 0), (0, .ref (q (28 + 3 * i))), (1, .ref (q (28 + 3 * j)))]) C.1 C.2.1 dX1_bestDelayOf_10 hl (by decide) rfl (fun ls hl => ?_)
  have L_12_2 : ∀ (fuel : Nat) (d : Nat) (x2 : Int32) (x3 : Int64) (x5 : Int32), 30 - d < fuel → (x5.toInt = ((d + 1 : Nat) : Int)) → (d ≤ 30) → (x2 = nI (bstD τ i j d)) → (x3 = prdF τ i (dl τ i) j (bstD τ i j d)) → ∀ (H : Heap) (locs : List Loc) (ls : Array Slot), WB G (28 + 3 * nd) q (eX G q τ ζ ρ) s H locs → lv_has ls 8 [(5, .int x5), (3, .long x3), (2, .int x2), (0, .ref (q (28 + 3 * i))), (1, .ref (q (28 + 3 * j)))] → W p l e (rmA 4 90) s m args below meth c H locs 0 0 QQ (F0 m 12 ls []) := by
    intro fuel; induction fuel with
    | zero => intro d x2 x3 x5 hf; exact absurd hf (Nat.not_lt_zero _)
    | succ fuel ih_12 =>
      intro d x2 x3 x5 hf hd hle h3 h4 H locs ls hW hl
      refine lv_iload C.1 C.2.1 dX1_bestDelayOf_12 (lv_at hl 0 rfl) ?_
      refine lv_bipush C.1 C.2.1 (v := 30) dX1_bestDelayOf_14 (by decide) ?_
      refine lv_icmp_gt C.1 C.2.1 (tgt := 47) dX1_bestDelayOf_16 (by decide) (fun c_3 => ?_) (fun c_3 => ?_)
      · skip
        have k_3 := (tc_lt (show (30 : Int32).toInt = 30 from by decide) hd).mp c_3
        refine lv_iload_n C.1 C.2.1 dX1_bestDelayOf_47 rfl (lv_at hl 2 rfl) ?_
        subst hQ
        exact r_iret (τ, ζ, ρ) C hW hr hk dX1_bestDelayOf_48 ⟨by rw [h3, show d = 30 from by omega], rfl⟩
      · skip
        have k_3 := (tn_lt (show (30 : Int32).toInt = 30 from by decide) hd).mp c_3
        refine lv_aload_n C.1 C.2.1 dX1_bestDelayOf_19 rfl (lv_at hl 3 rfl) ?_
        refine lv_aload_n C.1 C.2.1 dX1_bestDelayOf_20 rfl (lv_at hl 4 rfl) ?_
        refine lv_iload C.1 C.2.1 dX1_bestDelayOf_21 (lv_at hl 0 rfl) ?_
        refine go_l hW (run_V (o := 28 + 3 * i) (As := [.ref (q (28 + 3 * j)), .int x5]) (rest := []) C hW (by omega) (eX_obj _ _ _ _ _ i) rfl (c_X1_productWith l G q nd _ τ ζ ρ x5 (d + 1) i j (hd.trans (by omega)) h_nd (by omega) (by omega) h_k h_k2 (by omega)) (cw_V 2 C bL_X1_70 bI_X1_productWith bV_X1_productWith bN_X1 bC_X1_productWith ⟨rfl, rfl⟩ (by decide +kernel) ⟨Nat.le_of_ble_eq_true rfl, Nat.le_of_ble_eq_true rfl⟩) rfl hl.1 rfl (Nat.le_of_ble_eq_true rfl) dX1_bestDelayOf_23 ⟨Nat.le_refl _, Nat.le_refl _⟩) (fun r_4 u_4 H locs hp_4 hW => ?_)
        rcases hp_4 with ⟨rfl, rfl⟩
        have hW : WB G (28 + 3 * nd) q (eX G q τ ζ ρ) s H locs := hW
        refine lv_lstore (lv' := [(6, .long (prdF τ i (dl τ i) j (d + 1))), (5, .int x5), (3, .long x3), (2, .int x2), (0, .ref (q (28 + 3 * i))), (1, .ref (q (28 + 3 * j)))]) C.1 C.2.1 dX1_bestDelayOf_26 hl (by decide) rfl (fun ls hl => ?_)
        refine lv_lload C.1 C.2.1 dX1_bestDelayOf_28 (lv_at hl 0 rfl) ?_
        refine lv_lload_n C.1 C.2.1 dX1_bestDelayOf_30 rfl (lv_at hl 2 rfl) ?_
        refine W.lcmp C.1 C.2.1 dX1_bestDelayOf_31 ?_
        refine lv_if_le C.1 C.2.1 (tgt := 41) dX1_bestDelayOf_32 (by decide) (fun c_5 => ?_) (fun c_5 => ?_)
        · skip
          have k_5 := (lc_le (rfl : ((prdF τ i (dl τ i) j (d + 1))).toInt = ((prdF τ i (dl τ i) j (d + 1))).toInt) (rfl : (x3).toInt = (x3).toInt)).mp c_5
          have eb : bstD τ i j (d + 1) = bstD τ i j d := if_neg (by rw [h4] at k_5; exact Int.not_lt.mpr k_5)
          refine lv_iinc (v := (x5 + 1)) (lv' := [(5, .int (x5 + 1)), (6, .long (prdF τ i (dl τ i) j (d + 1))), (3, .long x3), (2, .int x2), (0, .ref (q (28 + 3 * i))), (1, .ref (q (28 + 3 * j)))]) C.1 C.2.1 dX1_bestDelayOf_41 hl (k := 1) rfl rfl (by decide) rfl (fun ls hl => ?_)
          refine lv_goto C.1 C.2.1 (tgt := 12) dX1_bestDelayOf_44 (by decide) ?_
          exact ih_12 (d + 1) x2 x3 (x5 + 1) (by omega) ((ti_add hd (show (1 : Int32).toInt = 1 from by decide) (by omega) (by omega)).trans (by omega)) (by omega) (by rw [eb]; first | exact h3 | exact e6) (by rw [eb]; first | done | exact h4 | rfl) _ _ _ hW (lv_sub hl [0, 2, 3, 4, 5] rfl)
        · skip
          have k_5 := (ln_le (rfl : ((prdF τ i (dl τ i) j (d + 1))).toInt = ((prdF τ i (dl τ i) j (d + 1))).toInt) (rfl : (x3).toInt = (x3).toInt)).mp c_5
          have eb : bstD τ i j (d + 1) = d + 1 := if_pos (by rw [h4] at k_5; exact Int.not_le.mp k_5)
          have e6 : x5 = nI (d + 1) := Int32.toInt_inj.mp (by rw [hd, nI_toInt (by omega)])
          refine lv_lload C.1 C.2.1 dX1_bestDelayOf_35 (lv_at hl 0 rfl) ?_
          refine lv_lstore_n (lv' := [(3, .long (prdF τ i (dl τ i) j (d + 1))), (6, .long (prdF τ i (dl τ i) j (d + 1))), (5, .int x5), (2, .int x2), (0, .ref (q (28 + 3 * i))), (1, .ref (q (28 + 3 * j)))]) C.1 C.2.1 dX1_bestDelayOf_37 rfl hl (by decide) rfl (fun ls hl => ?_)
          refine lv_iload C.1 C.2.1 dX1_bestDelayOf_38 (lv_at hl 2 rfl) ?_
          refine lv_istore_n (lv' := [(2, .int x5), (3, .long (prdF τ i (dl τ i) j (d + 1))), (6, .long (prdF τ i (dl τ i) j (d + 1))), (5, .int x5), (0, .ref (q (28 + 3 * i))), (1, .ref (q (28 + 3 * j)))]) C.1 C.2.1 dX1_bestDelayOf_40 rfl hl (by decide) rfl (fun ls hl => ?_)
          refine lv_iinc (v := (x5 + 1)) (lv' := [(5, .int (x5 + 1)), (2, .int x5), (3, .long (prdF τ i (dl τ i) j (d + 1))), (6, .long (prdF τ i (dl τ i) j (d + 1))), (0, .ref (q (28 + 3 * i))), (1, .ref (q (28 + 3 * j)))]) C.1 C.2.1 dX1_bestDelayOf_41 hl (k := 3) rfl rfl (by decide) rfl (fun ls hl => ?_)
          refine lv_goto C.1 C.2.1 (tgt := 12) dX1_bestDelayOf_44 (by decide) ?_
          exact ih_12 (d + 1) x5 (prdF τ i (dl τ i) j (d + 1)) (x5 + 1) (by omega) ((ti_add hd (show (1 : Int32).toInt = 1 from by decide) (by omega) (by omega)).trans (by omega)) (by omega) (by rw [eb]; first | exact h3 | exact e6) (by rw [eb]; first | done | exact h4 | rfl) _ _ _ hW (lv_sub hl [0, 2, 1, 4, 5] rfl)
  exact L_12_2 _ 0 0 (prdF τ i (dl τ i) j 0) 1 (Nat.lt_succ_self _) (by decide) (by omega) rfl rfl _ _ _ hW (lv_sub hl [0, 1, 2, 3, 4] rfl)
set_option maxHeartbeats 4000000 in
set_option maxRecDepth 100000 in
theorem c_X1_renew (l : Launch) (G : GG) (q : Nat → Nat) (nd sz : Nat) (τ ζ : ST) (ρ : RF) (f : Int32) (n : Int32) (i : Nat) (h_nd : nd ≤ 6) (hi : i < nd) : Met l yX1_renew (WSb yX1_renew cX1_renew 3 none) (rmA 1 23) (va_Pc [.ref (q (28 + 3 * i)), .int f, .int n] (PW G (28 + 3 * nd) q sz (eX G q τ ζ ρ))) (va_Qv (fun (u : (ST × ST × RF)) => u = ((saF (sa τ 5 i f) 7 (zrow (τ.2.1 7) i 100)), (sa ζ 0 i n), ρ)) (fun u => BW G (28 + 3 * nd) q (eX G q u.1 u.2.1 u.2.2)) (FA (28 + 3 * nd) q sz)) 0 0 (FA (28 + 3 * nd) q sz) := by
  refine Met_B (own := RX1) rfl (by decide) (Nat.le_of_ble_eq_true rfl) (fun p e s m args below meth c ls hsz C hW hr hk hl QQ hQ => ?_)
  subst hsz
  have hl : lv_has ls 3 [(0, .ref (q (28 + 3 * i))), (1, .int f), (2, .int n)] := hl
  refine lv_aload_n C.1 C.2.1 dX1_renew_0 rfl (lv_at hl 0 rfl) ?_
  refine lv_iload_n C.1 C.2.1 dX1_renew_1 rfl (lv_at hl 1 rfl) ?_
  refine xP_Dish_form C hW i (by omega) bF_X1_18 dX1_renew_2 (fun H locs hW => ?_)
  refine lv_aload_n C.1 C.2.1 dX1_renew_5 rfl (lv_at hl 0 rfl) ?_
  refine lv_iload_n C.1 C.2.1 dX1_renew_6 rfl (lv_at hl 2 rfl) ?_
  refine xP_Dish_length C hW i (by omega) bF_X1_21 dX1_renew_7 (fun H locs hW => ?_)
  refine lv_aload_n C.1 C.2.1 dX1_renew_10 rfl (lv_at hl 0 rfl) ?_
  refine xG_Dish_items C hW i (by omega) bF_X1_24 dX1_renew_11 ?_
  refine lv_iconst C.1 C.2.1 (v := 0) dX1_renew_14 (by decide) ?_
  refine go_v hW (run_S (As := [.ref (q (29 + 3 * i)), .int 0]) (rest := []) C hW (c_J7_fill_53178 l G (28 + 3 * nd) q _ (eX G q (sa τ 5 i f) (sa ζ 0 i n) ρ) (29 + 3 * i) 100 (dIt (sa τ 5 i f) i) 0 (by omega) (eX_it _ _ _ _ _ _) (by decide)) (cw_S 2 C bL_X1_37 bS_J7_fill_53178 bN_J7 bC_J7_fill_53178 ⟨rfl, rfl⟩ (by decide +kernel) ⟨Nat.le_of_ble_eq_true rfl, Nat.le_of_ble_eq_true rfl⟩) rfl hl.1 rfl (Nat.le_of_ble_eq_true rfl) dX1_renew_15 ⟨Nat.le_refl _, Nat.le_refl _⟩) (fun _ H locs _ hW => ?_)
  have hW : WB G (28 + 3 * nd) q (eX G q (saF (sa τ 5 i f) 7 (zrow (τ.2.1 7) i 100)) (sa ζ 0 i n) ρ) s H locs := WB.to hW (eX_putI (dIt_fill _ i (by omega)) (fun k hk => eX_fix k hk) rfl (fun z hz _ => dIt_fillo _ i z hz) rfl (by omega))
  subst hQ
  exact r_vret ((saF (sa τ 5 i f) 7 (zrow (τ.2.1 7) i 100)), (sa ζ 0 i n), ρ) C hW hr hk dX1_renew_18 (rfl)
