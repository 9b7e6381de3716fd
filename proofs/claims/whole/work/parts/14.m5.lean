set_option maxHeartbeats 4000000 in
set_option maxRecDepth 100000 in
theorem c_X8_lays (l : Launch) (G : GG) (q : Nat → Nat) (sz : Nat) (τ ξ : ST) (z : Int32) (a : Int64) (h_k : 0 ≤ (τ.1 17).toInt ∧ (τ.1 17).toInt ≤ 15) : Met l yX8_lays (WSb yX8_lays cX8_lays 6 none) (rmA 2 45) (va_Pc [.ref (q 0), .int z, .long a] (PW G 33 q sz (eM G q τ ξ))) (va_Qv (fun (u : (ST × ST)) => u = ((lay τ z a), ξ)) (fun u => BW G 33 q (eM G q u.1 u.2)) (FA 33 q sz)) 0 0 (FA 33 q sz) := by
  refine Met_B (own := RX8) rfl (by decide) (Nat.le_of_ble_eq_true rfl) (fun p e s m args below meth c ls hsz C hW hr hk hl QQ hQ => ?_)
  subst hsz
  have hl : lv_has ls 6 [(0, .ref (q 0)), (1, .int z), (2, .long a)] := hl
  refine lv_iconst C.1 C.2.1 (v := 0) dX8_lays_0 (by decide) ?_
  refine lv_istore (lv' := [(4, .int 0), (0, .ref (q 0)), (1, .int z), (2, .long a)]) C.1 C.2.1 dX8_lays_1 hl (by decide) rfl (fun ls hl => ?_)
  have L_3_1 : ∀ (fuel : Nat) (y : Nat) (x4 : Int32), 16 - y < fuel → (x4.toInt = (y : Int)) → (y ≤ 16) → ∀ (H : Heap) (locs : List Loc) (ls : Array Slot), WB G 33 q (eM G q (sbF τ 0 (cut (16 * y) (layN τ z a) (τ.2.2 0))) ξ) s H locs → lv_has ls 6 [(4, .int x4), (0, .ref (q 0)), (1, .int z), (2, .long a)] → W p l e (rmA 2 45) s m args below meth c H locs 0 0 QQ (F0 m 3 ls []) := by
    intro fuel; induction fuel with
    | zero => intro y x4 hf; exact absurd hf (Nat.not_lt_zero _)
    | succ fuel ih_3 =>
      intro y x4 hf hy hyl H locs ls hW hl
      refine lv_iload C.1 C.2.1 dX8_lays_3 (lv_at hl 0 rfl) ?_
      refine lv_bipush C.1 C.2.1 (v := 16) dX8_lays_5 (by decide) ?_
      refine lv_icmp_ge C.1 C.2.1 (tgt := 69) dX8_lays_7 (by decide) (fun c_2 => ?_) (fun c_2 => ?_)
      · skip
        have k_2 := (tc_le (show (16 : Int32).toInt = 16 from by decide) hy).mp c_2
        subst hQ
        exact r_vret ((sbF τ 0 (cut (16 * y) (layN τ z a) (τ.2.2 0))), ξ) C hW hr hk dX8_lays_69 (by unfold lay; rw [show 16 * y = 256 from by omega])
      · skip
        have k_2 := (tn_le (show (16 : Int32).toInt = 16 from by decide) hy).mp c_2
        refine lv_iconst C.1 C.2.1 (v := 0) dX8_lays_10 (by decide) ?_
        refine lv_istore (lv' := [(5, .int 0), (4, .int x4), (0, .ref (q 0)), (1, .int z), (2, .long a)]) C.1 C.2.1 dX8_lays_11 hl (by decide) rfl (fun ls hl => ?_)
        have L_13_3 : ∀ (fuel : Nat) (x : Nat) (x5 : Int32), 16 - x < fuel → (x5.toInt = (x : Int)) → (x ≤ 16) → ∀ (H : Heap) (locs : List Loc) (ls : Array Slot), WB G 33 q (eM G q (sbF τ 0 (cut (16 * y + x) (layN τ z a) (τ.2.2 0))) ξ) s H locs → lv_has ls 6 [(5, .int x5), (4, .int x4), (0, .ref (q 0)), (1, .int z), (2, .long a)] → W p l e (rmA 2 45) s m args below meth c H locs 0 0 QQ (F0 m 13 ls []) := by
          intro fuel; induction fuel with
          | zero => intro x x5 hf; exact absurd hf (Nat.not_lt_zero _)
          | succ fuel ih_13 =>
            intro x x5 hf hx hxl H locs ls hW hl
            refine lv_iload C.1 C.2.1 dX8_lays_13 (lv_at hl 0 rfl) ?_
            refine lv_bipush C.1 C.2.1 (v := 16) dX8_lays_15 (by decide) ?_
            refine lv_icmp_ge C.1 C.2.1 (tgt := 63) dX8_lays_17 (by decide) (fun c_4 => ?_) (fun c_4 => ?_)
            · skip
              have k_4 := (tc_le (show (16 : Int32).toInt = 16 from by decide) hx).mp c_4
              refine lv_iinc (v := (x4 + 1)) (lv' := [(4, .int (x4 + 1)), (5, .int x5), (0, .ref (q 0)), (1, .int z), (2, .long a)]) C.1 C.2.1 dX8_lays_63 hl (k := 1) rfl rfl (by decide) rfl (fun ls hl => ?_)
              refine lv_goto C.1 C.2.1 (tgt := 3) dX8_lays_66 (by decide) ?_
              exact ih_3 (y + 1) (x4 + 1) (by omega) ((ti_add hy (show (1 : Int32).toInt = 1 from by decide) (by omega) (by omega)).trans (by omega)) (by omega) _ _ _ (by rw [show 16 * (y + 1) = 16 * y + x from by omega]; exact hW) (lv_sub hl [0, 2, 3, 4] rfl)
            · skip
              have k_4 := (tn_le (show (16 : Int32).toInt = 16 from by decide) hx).mp c_4
              refine lv_aload_n C.1 C.2.1 dX8_lays_20 rfl (lv_at hl 2 rfl) ?_
              refine mG_board C hW dX8_lays_21 ?_
              refine lv_bipush C.1 C.2.1 (v := 16) dX8_lays_24 (by decide) ?_
              refine lv_iload C.1 C.2.1 dX8_lays_26 (lv_at hl 1 rfl) ?_
              refine lv_imul C.1 C.2.1 dX8_lays_28 ?_
              refine lv_iload C.1 C.2.1 dX8_lays_29 (lv_at hl 0 rfl) ?_
              refine lv_iadd C.1 C.2.1 dX8_lays_31 ?_
              refine lv_dup2_11 C.1 C.2.1 dX8_lays_32 rfl rfl ?_
              refine mL_board C hW ((16 * y) + x) ((ti_add (ti_mul (show (16 : Int32).toInt = 16 from by decide) hy (by omega) (by omega)) hx (by omega) (by omega)).trans (by omega)) (by omega) (v := ((sbF τ 0 (cut (16 * y + x) (layN τ z a) (τ.2.2 0))).2.2 0 ((16 * y) + x))) rfl dX8_lays_33 ?_
              refine lv_lload_n C.1 C.2.1 dX8_lays_34 rfl (lv_at hl 4 rfl) ?_
              refine lv_aload_n C.1 C.2.1 dX8_lays_35 rfl (lv_at hl 2 rfl) ?_
              refine lv_iload C.1 C.2.1 dX8_lays_36 (lv_at hl 0 rfl) ?_
              refine lv_iload_n C.1 C.2.1 dX8_lays_38 rfl (lv_at hl 3 rfl) ?_
              refine lv_bipush C.1 C.2.1 (v := 16) dX8_lays_39 (by decide) ?_
              refine lv_irem C.1 C.2.1 dX8_lays_41 (by decide) ?_
              refine lv_isub C.1 C.2.1 dX8_lays_42 ?_
              refine lv_iload C.1 C.2.1 dX8_lays_43 (lv_at hl 1 rfl) ?_
              refine lv_iload_n C.1 C.2.1 dX8_lays_45 rfl (lv_at hl 3 rfl) ?_
              refine lv_bipush C.1 C.2.1 (v := 16) dX8_lays_46 (by decide) ?_
              refine lv_idiv C.1 C.2.1 dX8_lays_48 (by decide) ?_
              refine lv_isub C.1 C.2.1 dX8_lays_49 ?_
              refine go_i hW (run_V (o := 0) (As := [.int (x5 - (z - z / 16 * 16)), .int (x4 - (z / 16))]) (rest := [.long a, .long ((sbF τ 0 (cut (16 * y + x) (layN τ z a) (τ.2.2 0))).2.2 0 ((16 * y) + x)), .int ((16 * x4) + x5), .ref (q 14)]) C hW (by decide) rfl rfl (c_X8_keptBeam l G q _ (sbF τ 0 (cut (16 * y + x) (layN τ z a) (τ.2.2 0))) ξ (x5 - (z - z / 16 * 16)) (x4 - (z / 16))  h_k) (cw_V 2 C bL_X8_236 bI_X8_keptBeam bV_X8_keptBeam bN_X8 bC_X8_keptBeam ⟨rfl, rfl⟩ (by decide +kernel) ⟨Nat.le_of_ble_eq_true rfl, Nat.le_of_ble_eq_true rfl⟩) rfl hl.1 rfl (Nat.le_of_ble_eq_true rfl) dX8_lays_50 ⟨Nat.le_refl _, Nat.le_refl _⟩) (fun r_5 u_5 H locs hp_5 hW => ?_)
              rcases hp_5 with ⟨rfl, rfl⟩
              have hW : WB G 33 q (eM G q (sbF τ 0 (cut (16 * y + x) (layN τ z a) (τ.2.2 0))) ξ) s H locs := hW
              have ex : x5 = nI x := Int32.toInt_inj.mp (by rw [hx, nI_toInt (by omega)])
              have ey : x4 = nI y := Int32.toInt_inj.mp (by rw [hy, nI_toInt (by omega)])
              have eB : (((sbF τ 0 (cut (16 * y + x) (layN τ z a) (τ.2.2 0))).2.2 0 (16 * y + x)) + (a * ((keptB (sbF τ 0 (cut (16 * y + x) (layN τ z a) (τ.2.2 0))) (x5 - (z - z / 16 * 16)) (x4 - (z / 16)))).toInt64)) = layN τ z a (16 * y + x) := by
                show cut (16 * y + x) (layN τ z a) (τ.2.2 0) (16 * y + x) + a * (keptB τ (x5 - (z - z / 16 * 16)) (x4 - z / 16)).toInt64 = _
                rw [cut_at, ex, ey]; unfold layN; rw [show (16 * y + x) % 16 = x from by omega, show (16 * y + x) / 16 = y from by omega]
              refine lv_i2l C.1 C.2.1 dX8_lays_53 rfl ?_
              refine lv_lmul C.1 C.2.1 dX8_lays_54 ?_
              refine lv_ladd C.1 C.2.1 dX8_lays_55 ?_
              refine mS_board C hW ((16 * y) + x) ((ti_add (ti_mul (show (16 : Int32).toInt = 16 from by decide) hy (by omega) (by omega)) hx (by omega) (by omega)).trans (by omega)) (by omega) dX8_lays_56 (fun H locs hW => ?_)
              refine lv_iinc (v := (x5 + 1)) (lv' := [(5, .int (x5 + 1)), (4, .int x4), (0, .ref (q 0)), (1, .int z), (2, .long a)]) C.1 C.2.1 dX8_lays_57 hl (k := 0) rfl rfl (by decide) rfl (fun ls hl => ?_)
              refine lv_goto C.1 C.2.1 (tgt := 13) dX8_lays_60 (by decide) ?_
              rw [eB, sbF_sb, cut_sL] at hW
              exact ih_13 (x + 1) (x5 + 1) (by omega) ((ti_add hx (show (1 : Int32).toInt = 1 from by decide) (by omega) (by omega)).trans (by omega)) (by omega) _ _ _ hW (lv_sub hl [0, 1, 2, 3, 4] rfl)
        exact L_13_3 _ 0 0 (Nat.lt_succ_self _) (by decide) (by omega) _ _ _ hW (lv_sub hl [0, 1, 2, 3, 4] rfl)
  exact L_3_1 _ 0 0 (Nat.lt_succ_self _) (by decide) (by omega) _ _ _ (by rw [show 16 * 0 = 0 from rfl, cut_0, sbF_self]; exact hW) (lv_sub hl [0, 1, 2, 3] rfl)
set_option maxHeartbeats 4000000 in
set_option maxRecDepth 100000 in
theorem c_X8_peak (l : Launch) (G : GG) (q : Nat → Nat) (sz : Nat) (τ ξ : ST) (h_w : 0 ≤ (τ.1 5).toInt ∧ (τ.1 5).toInt ≤ (τ.1 6).toInt ∧ (τ.1 6).toInt ≤ 15 ∧ 0 ≤ (τ.1 7).toInt ∧ (τ.1 7).toInt ≤ (τ.1 8).toInt ∧ (τ.1 8).toInt ≤ 15) : Met l yX8_peak (WSb yX8_peak cX8_peak 4 (some .int)) (rmA 1 21) (va_Pc [.ref (q 0)] (PW G 33 q sz (eM G q τ ξ))) (va_Qi (fun (r : Int32) (u : (ST × ST)) => r = nI (pk τ) ∧ u = (τ, ξ) ∧ (pk τ < 256)) (fun u => BW G 33 q (eM G q u.1 u.2)) (FA 33 q sz)) 0 0 (FA 33 q sz) := by
  refine Met_B (own := RX8) rfl (by decide) (Nat.le_of_ble_eq_true rfl) (fun p e s m args below meth c ls hsz C hW hr hk hl QQ hQ => ?_)
  subst hsz
  have hl : lv_has ls 4 [(0, .ref (q 0))] := hl
  refine lv_bipush C.1 C.2.1 (v := 16) dX8_peak_0 (by decide) ?_
  refine lv_aload_n C.1 C.2.1 dX8_peak_2 rfl (lv_at hl 0 rfl) ?_
  refine mG_lowY C hW (v := (τ.1 7)) rfl dX8_peak_3 ?_
  refine lv_imul C.1 C.2.1 dX8_peak_6 ?_
  refine lv_aload_n C.1 C.2.1 dX8_peak_7 rfl (lv_at hl 0 rfl) ?_
  refine mG_lowX C hW (v := (τ.1 5)) rfl dX8_peak_8 ?_
  refine lv_iadd C.1 C.2.1 dX8_peak_11 ?_
  refine lv_istore_n (lv' := [(1, .int ((16 * (τ.1 7)) + (τ.1 5))), (0, .ref (q 0))]) C.1 C.2.1 dX8_peak_12 rfl hl (by decide) rfl (fun ls hl => ?_)
  refine lv_aload_n C.1 C.2.1 dX8_peak_13 rfl (lv_at hl 1 rfl) ?_
  refine mG_lowY C hW (v := (τ.1 7)) rfl dX8_peak_14 ?_
  refine lv_istore_n (lv' := [(2, .int (τ.1 7)), (1, .int ((16 * (τ.1 7)) + (τ.1 5))), (0, .ref (q 0))]) C.1 C.2.1 dX8_peak_17 rfl hl (by decide) rfl (fun ls hl => ?_)
  have L_18_1 : ∀ (fuel : Nat) (a : Nat) (x1 : Int32) (x2 : Int32), ((τ.1 8).toInt.toNat + 1 - (τ.1 7).toInt.toNat) - a < fuel → (x1.toInt = (((pkA (τ.2.2 0) (τ.1 7).toInt.toNat (τ.1 5).toInt.toNat ((τ.1 6).toInt.toNat + 1 - (τ.1 5).toInt.toNat) a) : Nat) : Int)) → ((pkA (τ.2.2 0) (τ.1 7).toInt.toNat (τ.1 5).toInt.toNat ((τ.1 6).toInt.toNat + 1 - (τ.1 5).toInt.toNat) a) < 256) → (x2.toInt = (((τ.1 7).toInt.toNat + a : Nat) : Int)) → (a ≤ ((τ.1 8).toInt.toNat + 1 - (τ.1 7).toInt.toNat)) → ∀ (H : Heap) (locs : List Loc) (ls : Array Slot), WB G 33 q (eM G q τ ξ) s H locs → lv_has ls 4 [(2, .int x2), (1, .int x1), (0, .ref (q 0))] → W p l e (rmA 1 21) s m args below meth c H locs 0 0 QQ (F0 m 18 ls []) := by
    intro fuel; induction fuel with
    | zero => intro a x1 x2 hf; exact absurd hf (Nat.not_lt_zero _)
    | succ fuel ih_18 =>
      intro a x1 x2 hf hb hb2 hy hal H locs ls hW hl
      refine lv_iload_n C.1 C.2.1 dX8_peak_18 rfl (lv_at hl 0 rfl) ?_
      refine lv_aload_n C.1 C.2.1 dX8_peak_19 rfl (lv_at hl 2 rfl) ?_
      refine mG_highY C hW (v := (τ.1 8)) rfl dX8_peak_20 ?_
      refine lv_icmp_gt C.1 C.2.1 (tgt := 89) dX8_peak_23 (by decide) (fun c_2 => ?_) (fun c_2 => ?_)
      · skip
        have k_2 := (tc_lt (rfl : ((τ.1 8)).toInt = ((τ.1 8)).toInt) hy).mp c_2
        refine lv_iload_n C.1 C.2.1 dX8_peak_89 rfl (lv_at hl 1 rfl) ?_
        subst hQ
        exact r_iret (τ, ξ) C hW hr hk dX8_peak_90 ⟨Int32.toInt_inj.mp (by rw [hb, nI_toInt (by unfold pk; rw [show ((τ.1 8).toInt.toNat + 1 - (τ.1 7).toInt.toNat) = a from by omega]; omega)]; unfold pk; rw [show ((τ.1 8).toInt.toNat + 1 - (τ.1 7).toInt.toNat) = a from by omega]), rfl, (by unfold pk; rw [show ((τ.1 8).toInt.toNat + 1 - (τ.1 7).toInt.toNat) = a from by omega]; exact hb2)⟩
      · skip
        have k_2 := (tn_lt (rfl : ((τ.1 8)).toInt = ((τ.1 8)).toInt) hy).mp c_2
        refine lv_aload_n C.1 C.2.1 dX8_peak_26 rfl (lv_at hl 2 rfl) ?_
        refine mG_lowX C hW (v := (τ.1 5)) rfl dX8_peak_27 ?_
        refine lv_istore_n (lv' := [(3, .int (τ.1 5)), (2, .int x2), (1, .int x1), (0, .ref (q 0))]) C.1 C.2.1 dX8_peak_30 rfl hl (by decide) rfl (fun ls hl => ?_)
        have L_31_3 : ∀ (fuel : Nat) (k2 : Nat) (x3 : Int32) (x4 : Int32), ((τ.1 6).toInt.toNat + 1 - (τ.1 5).toInt.toNat) - k2 < fuel → (x3.toInt = ((pkR (τ.2.2 0) ((τ.1 7).toInt.toNat + a) (τ.1 5).toInt.toNat (pkA (τ.2.2 0) (τ.1 7).toInt.toNat (τ.1 5).toInt.toNat ((τ.1 6).toInt.toNat + 1 - (τ.1 5).toInt.toNat) a) k2 : Nat) : Int)) → (pkR (τ.2.2 0) ((τ.1 7).toInt.toNat + a) (τ.1 5).toInt.toNat (pkA (τ.2.2 0) (τ.1 7).toInt.toNat (τ.1 5).toInt.toNat ((τ.1 6).toInt.toNat + 1 - (τ.1 5).toInt.toNat) a) k2 < 256) → (x4.toInt = (((τ.1 5).toInt.toNat + k2 : Nat) : Int)) → (k2 ≤ ((τ.1 6).toInt.toNat + 1 - (τ.1 5).toInt.toNat)) → ∀ (H : Heap) (locs : List Loc) (ls : Array Slot), WB G 33 q (eM G q τ ξ) s H locs → lv_has ls 4 [(3, .int x4), (2, .int x2), (1, .int x3), (0, .ref (q 0))] → W p l e (rmA 1 21) s m args below meth c H locs 0 0 QQ (F0 m 31 ls []) := by
          intro fuel; induction fuel with
          | zero => intro k2 x3 x4 hf; exact absurd hf (Nat.not_lt_zero _)
          | succ fuel ih_31 =>
            intro k2 x3 x4 hf hc hc2 hx hcl H locs ls hW hl
            refine lv_iload_n C.1 C.2.1 dX8_peak_31 rfl (lv_at hl 0 rfl) ?_
            refine lv_aload_n C.1 C.2.1 dX8_peak_32 rfl (lv_at hl 3 rfl) ?_
            refine mG_highX C hW (v := (τ.1 6)) rfl dX8_peak_33 ?_
            refine lv_icmp_gt C.1 C.2.1 (tgt := 83) dX8_peak_36 (by decide) (fun c_4 => ?_) (fun c_4 => ?_)
            · skip
              have k_4 := (tc_lt (rfl : ((τ.1 6)).toInt = ((τ.1 6)).toInt) hx).mp c_4
              have ec : k2 = ((τ.1 6).toInt.toNat + 1 - (τ.1 5).toInt.toNat) := by omega
              refine lv_iinc (v := (x2 + 1)) (lv' := [(2, .int (x2 + 1)), (3, .int x4), (1, .int x3), (0, .ref (q 0))]) C.1 C.2.1 dX8_peak_83 hl (k := 1) rfl rfl (by decide) rfl (fun ls hl => ?_)
              refine lv_goto C.1 C.2.1 (tgt := 18) dX8_peak_86 (by decide) ?_
              exact ih_18 (a + 1) x3 (x2 + 1) (by omega) (by show x3.toInt = ((pkR (τ.2.2 0) ((τ.1 7).toInt.toNat + a) (τ.1 5).toInt.toNat (pkA (τ.2.2 0) (τ.1 7).toInt.toNat (τ.1 5).toInt.toNat ((τ.1 6).toInt.toNat + 1 - (τ.1 5).toInt.toNat) a) ((τ.1 6).toInt.toNat + 1 - (τ.1 5).toInt.toNat) : Nat) : Int); rw [ec] at hc; exact hc) (pkA_lt (by omega) (by omega) (by omega) _ (by omega)) ((ti_add hy (show (1 : Int32).toInt = 1 from by decide) (by omega) (by omega)).trans (by omega)) (by omega) _ _ _ hW (lv_sub hl [0, 2, 3] rfl)
            · skip
              have k_4 := (tn_lt (rfl : ((τ.1 6)).toInt = ((τ.1 6)).toInt) hx).mp c_4
              refine lv_aload_n C.1 C.2.1 dX8_peak_39 rfl (lv_at hl 3 rfl) ?_
              refine mG_board C hW dX8_peak_40 ?_
              refine lv_bipush C.1 C.2.1 (v := 16) dX8_peak_43 (by decide) ?_
              refine lv_iload_n C.1 C.2.1 dX8_peak_45 rfl (lv_at hl 1 rfl) ?_
              refine lv_imul C.1 C.2.1 dX8_peak_46 ?_
              refine lv_iload_n C.1 C.2.1 dX8_peak_47 rfl (lv_at hl 0 rfl) ?_
              refine lv_iadd C.1 C.2.1 dX8_peak_48 ?_
              refine mL_board C hW ((16 * ((τ.1 7).toInt.toNat + a)) + ((τ.1 5).toInt.toNat + k2)) ((ti_add (ti_mul (show (16 : Int32).toInt = 16 from by decide) hy (by omega) (by omega)) hx (by omega) (by omega)).trans (by omega)) (by omega) (v := (τ.2.2 0 ((16 * ((τ.1 7).toInt.toNat + a)) + ((τ.1 5).toInt.toNat + k2)))) rfl dX8_peak_49 ?_
              refine go_l hW (run_S (As := [.long (τ.2.2 0 ((16 * ((τ.1 7).toInt.toNat + a)) + ((τ.1 5).toInt.toNat + k2)))]) (rest := []) C hW (c_X8_amount l G q _ τ ξ (τ.2.2 0 ((16 * ((τ.1 7).toInt.toNat + a)) + ((τ.1 5).toInt.toNat + k2)))  ) (cw_S 1 C bL_X8_232 bS_X8_amount bN_X8 bC_X8_amount ⟨rfl, rfl⟩ (by decide +kernel) ⟨Nat.le_of_ble_eq_true rfl, Nat.le_of_ble_eq_true rfl⟩) rfl hl.1 rfl (Nat.le_of_ble_eq_true rfl) dX8_peak_50 ⟨Nat.le_refl _, Nat.le_refl _⟩) (fun r_5 u_5 H locs hp_5 hW => ?_)
              rcases hp_5 with ⟨rfl, rfl⟩
              have hW : WB G 33 q (eM G q τ ξ) s H locs := hW
              refine lv_aload_n C.1 C.2.1 dX8_peak_53 rfl (lv_at hl 3 rfl) ?_
              refine mG_board C hW dX8_peak_54 ?_
              refine lv_iload_n C.1 C.2.1 dX8_peak_57 rfl (lv_at hl 2 rfl) ?_
              refine mL_board C hW (pkR (τ.2.2 0) ((τ.1 7).toInt.toNat + a) (τ.1 5).toInt.toNat (pkA (τ.2.2 0) (τ.1 7).toInt.toNat (τ.1 5).toInt.toNat ((τ.1 6).toInt.toNat + 1 - (τ.1 5).toInt.toNat) a) k2) (hc.trans (by omega)) (by omega) (v := (τ.2.2 0 (pkR (τ.2.2 0) ((τ.1 7).toInt.toNat + a) (τ.1 5).toInt.toNat (pkA (τ.2.2 0) (τ.1 7).toInt.toNat (τ.1 5).toInt.toNat ((τ.1 6).toInt.toNat + 1 - (τ.1 5).toInt.toNat) a) k2))) rfl dX8_peak_58 ?_
              refine go_l hW (run_S (As := [.long (τ.2.2 0 (pkR (τ.2.2 0) ((τ.1 7).toInt.toNat + a) (τ.1 5).toInt.toNat (pkA (τ.2.2 0) (τ.1 7).toInt.toNat (τ.1 5).toInt.toNat ((τ.1 6).toInt.toNat + 1 - (τ.1 5).toInt.toNat) a) k2))]) (rest := [.long (amt (τ.2.2 0 ((16 * ((τ.1 7).toInt.toNat + a)) + ((τ.1 5).toInt.toNat + k2))))]) C hW (c_X8_amount l G q _ τ ξ (τ.2.2 0 (pkR (τ.2.2 0) ((τ.1 7).toInt.toNat + a) (τ.1 5).toInt.toNat (pkA (τ.2.2 0) (τ.1 7).toInt.toNat (τ.1 5).toInt.toNat ((τ.1 6).toInt.toNat + 1 - (τ.1 5).toInt.toNat) a) k2))  ) (cw_S 1 C bL_X8_232 bS_X8_amount bN_X8 bC_X8_amount ⟨rfl, rfl⟩ (by decide +kernel) ⟨Nat.le_of_ble_eq_true rfl, Nat.le_of_ble_eq_true rfl⟩) rfl hl.1 rfl (Nat.le_of_ble_eq_true rfl) dX8_peak_59 ⟨Nat.le_refl _, Nat.le_refl _⟩) (fun r_6 u_6 H locs hp_6 hW => ?_)
              rcases hp_6 with ⟨rfl, rfl⟩
              have hW : WB G 33 q (eM G q τ ξ) s H locs := hW
              refine W.lcmp C.1 C.2.1 dX8_peak_62 ?_
              refine lv_if_le C.1 C.2.1 (tgt := 75) dX8_peak_63 (by decide) (fun c_7 => ?_) (fun c_7 => ?_)
              · skip
                have k_7 := (lc_le (rfl : ((amt (τ.2.2 0 ((16 * ((τ.1 7).toInt.toNat + a)) + ((τ.1 5).toInt.toNat + k2))))).toInt = ((amt (τ.2.2 0 ((16 * ((τ.1 7).toInt.toNat + a)) + ((τ.1 5).toInt.toNat + k2))))).toInt) (rfl : ((amt (τ.2.2 0 (pkR (τ.2.2 0) ((τ.1 7).toInt.toNat + a) (τ.1 5).toInt.toNat (pkA (τ.2.2 0) (τ.1 7).toInt.toNat (τ.1 5).toInt.toNat ((τ.1 6).toInt.toNat + 1 - (τ.1 5).toInt.toNat) a) k2)))).toInt = ((amt (τ.2.2 0 (pkR (τ.2.2 0) ((τ.1 7).toInt.toNat + a) (τ.1 5).toInt.toNat (pkA (τ.2.2 0) (τ.1 7).toInt.toNat (τ.1 5).toInt.toNat ((τ.1 6).toInt.toNat + 1 - (τ.1 5).toInt.toNat) a) k2)))).toInt)).mp c_7
                have es : pkR (τ.2.2 0) ((τ.1 7).toInt.toNat + a) (τ.1 5).toInt.toNat (pkA (τ.2.2 0) (τ.1 7).toInt.toNat (τ.1 5).toInt.toNat ((τ.1 6).toInt.toNat + 1 - (τ.1 5).toInt.toNat) a) (k2 + 1) = pkR (τ.2.2 0) ((τ.1 7).toInt.toNat + a) (τ.1 5).toInt.toNat (pkA (τ.2.2 0) (τ.1 7).toInt.toNat (τ.1 5).toInt.toNat ((τ.1 6).toInt.toNat + 1 - (τ.1 5).toInt.toNat) a) k2 := if_neg (Int.not_lt.mpr k_7)
                have ev := hc
                refine lv_iload_n C.1 C.2.1 dX8_peak_75 rfl (lv_at hl 2 rfl) ?_
                refine lv_istore_n (lv' := [(1, .int x3), (3, .int x4), (2, .int x2), (0, .ref (q 0))]) C.1 C.2.1 dX8_peak_76 rfl hl (by decide) rfl (fun ls hl => ?_)
                refine lv_iinc (v := (x4 + 1)) (lv' := [(3, .int (x4 + 1)), (1, .int x3), (2, .int x2), (0, .ref (q 0))]) C.1 C.2.1 dX8_peak_77 hl (k := 1) rfl rfl (by decide) rfl (fun ls hl => ?_)
                refine lv_goto C.1 C.2.1 (tgt := 31) dX8_peak_80 (by decide) ?_
                exact ih_31 (k2 + 1) x3 (x4 + 1) (by omega) (by rw [es]; exact ev) (pkR_lt hb2 (by omega) _ (by omega)) ((ti_add hx (show (1 : Int32).toInt = 1 from by decide) (by omega) (by omega)).trans (by omega)) (by omega) _ _ _ hW (lv_sub hl [0, 2, 1, 3] rfl)
              · skip
                have k_7 := (ln_le (rfl : ((amt (τ.2.2 0 ((16 * ((τ.1 7).toInt.toNat + a)) + ((τ.1 5).toInt.toNat + k2))))).toInt = ((amt (τ.2.2 0 ((16 * ((τ.1 7).toInt.toNat + a)) + ((τ.1 5).toInt.toNat + k2))))).toInt) (rfl : ((amt (τ.2.2 0 (pkR (τ.2.2 0) ((τ.1 7).toInt.toNat + a) (τ.1 5).toInt.toNat (pkA (τ.2.2 0) (τ.1 7).toInt.toNat (τ.1 5).toInt.toNat ((τ.1 6).toInt.toNat + 1 - (τ.1 5).toInt.toNat) a) k2)))).toInt = ((amt (τ.2.2 0 (pkR (τ.2.2 0) ((τ.1 7).toInt.toNat + a) (τ.1 5).toInt.toNat (pkA (τ.2.2 0) (τ.1 7).toInt.toNat (τ.1 5).toInt.toNat ((τ.1 6).toInt.toNat + 1 - (τ.1 5).toInt.toNat) a) k2)))).toInt)).mp c_7
                have es : pkR (τ.2.2 0) ((τ.1 7).toInt.toNat + a) (τ.1 5).toInt.toNat (pkA (τ.2.2 0) (τ.1 7).toInt.toNat (τ.1 5).toInt.toNat ((τ.1 6).toInt.toNat + 1 - (τ.1 5).toInt.toNat) a) (k2 + 1) = 16 * ((τ.1 7).toInt.toNat + a) + ((τ.1 5).toInt.toNat + k2) := if_pos (Int.not_le.mp k_7)
                have ev : (16 * x2 + x4).toInt = ((16 * ((τ.1 7).toInt.toNat + a) + ((τ.1 5).toInt.toNat + k2) : Nat) : Int) := (ti_add (ti_mul (show (16 : Int32).toInt = 16 from by decide) hy (by omega) (by omega)) hx (by omega) (by omega)).trans (by omega)
                refine lv_bipush C.1 C.2.1 (v := 16) dX8_peak_66 (by decide) ?_
                refine lv_iload_n C.1 C.2.1 dX8_peak_68 rfl (lv_at hl 1 rfl) ?_
                refine lv_imul C.1 C.2.1 dX8_peak_69 ?_
                refine lv_iload_n C.1 C.2.1 dX8_peak_70 rfl (lv_at hl 0 rfl) ?_
                refine lv_iadd C.1 C.2.1 dX8_peak_71 ?_
                refine lv_goto C.1 C.2.1 (tgt := 76) dX8_peak_72 (by decide) ?_
                refine lv_istore_n (lv' := [(1, .int ((16 * x2) + x4)), (3, .int x4), (2, .int x2), (0, .ref (q 0))]) C.1 C.2.1 dX8_peak_76 rfl hl (by decide) rfl (fun ls hl => ?_)
                refine lv_iinc (v := (x4 + 1)) (lv' := [(3, .int (x4 + 1)), (1, .int ((16 * x2) + x4)), (2, .int x2), (0, .ref (q 0))]) C.1 C.2.1 dX8_peak_77 hl (k := 1) rfl rfl (by decide) rfl (fun ls hl => ?_)
                refine lv_goto C.1 C.2.1 (tgt := 31) dX8_peak_80 (by decide) ?_
                exact ih_31 (k2 + 1) ((16 * x2) + x4) (x4 + 1) (by omega) (by rw [es]; exact ev) (pkR_lt hb2 (by omega) _ (by omega)) ((ti_add hx (show (1 : Int32).toInt = 1 from by decide) (by omega) (by omega)).trans (by omega)) (by omega) _ _ _ hW (lv_sub hl [0, 2, 1, 3] rfl)
        exact L_31_3 _ 0 x1 (τ.1 5) (Nat.lt_succ_self _) hb hb2 (by omega) (by omega) _ _ _ hW (lv_sub hl [0, 1, 2, 3] rfl)
  exact L_18_1 _ 0 ((16 * (τ.1 7)) + (τ.1 5)) (τ.1 7) (Nat.lt_succ_self _) (by rw [pkA]; exact (ti_add (ti_mul (show (16 : Int32).toInt = 16 from by decide) rfl (by omega) (by omega)) rfl (by omega) (by omega)).trans (by omega)) (by rw [pkA]; omega) (by omega) (by omega) _ _ _ hW (lv_sub hl [0, 1, 2] rfl)
