/-! taking off, putting back, a new board -/
theorem tkN_stop {sh : Int32} {τ : ST} (h : ¬ ((τ.1 4).toInt < 200 ∧ ¬ (tkA τ sh).toInt = 0)) : ∀ k, tkN sh k τ = τ
  | 0 => rfl
  | k + 1 => if_neg h
theorem tkN_go {sh : Int32} {τ : ST} (h1 : (τ.1 4).toInt < 200) (h2 : ¬ (tkA τ sh).toInt = 0) (k : Nat) : tkN sh (k + 1) τ = tkN sh k (tkT τ sh) := if_pos ⟨h1, h2⟩
theorem tkA_0 {sh : Int32} {τ : ST} (h : (by0 τ).toInt = 0) : tkA τ sh = 0 := if_pos h
theorem tkA_n {sh : Int32} {τ : ST} (h : ¬ (by0 τ).toInt = 0) : tkA τ sh = τ.2.2 0 (pk τ) * sh.toInt64 / by0 τ := if_neg h
theorem newB_0 {τ : ST} {kd : Int32} {z : Nat} (h : kd.toInt = 0) : newB τ kd z = cvS (spP τ) (spU τ) (spV τ) (nI (z % 16)) (nI (z / 16)) (spN τ) := if_pos h
theorem newB_1 {τ : ST} {kd : Int32} {z : Nat} (h : ¬ kd.toInt = 0) : newB τ kd z = cvP (τ.2.1 13) (τ.2.1 11) (τ.2.1 12) (spU τ) (spV τ) (spN τ) (nI (z % 16)) (nI (z / 16)) (τ.1 3).toInt.toNat := if_neg h
theorem sa_saF (τ : ST) (k k' j : Nat) (f : Nat → Int32) (v : Int32) (h : k ≠ k') : sa (saF τ k' f) k j v = saF (sa τ k j v) k' f := by
  unfold saF sa
  refine Prod.ext rfl (Prod.ext (funext fun i => ?_) rfl)
  by_cases h1 : i = k
  · subst h1; simp [va_up, h]
  · by_cases h2 : i = k'
    · subst h2; simp [va_up, h1, h]
    · simp [va_up, h1, h2]
set_option maxHeartbeats 4000000 in
set_option maxRecDepth 100000 in
theorem c_X8_take (l : Launch) (G : GG) (q : Nat → Nat) (sz : Nat) (τ ξ : ST) (sh : Int32) (t : Int32) (h_pt : 0 ≤ (τ.1 4).toInt ∧ (τ.1 4).toInt ≤ 200) (h_w : 0 ≤ (τ.1 5).toInt ∧ (τ.1 5).toInt ≤ (τ.1 6).toInt ∧ (τ.1 6).toInt ≤ 15 ∧ 0 ≤ (τ.1 7).toInt ∧ (τ.1 7).toInt ≤ (τ.1 8).toInt ∧ (τ.1 8).toInt ≤ 15) (h_k : 0 ≤ (τ.1 17).toInt ∧ (τ.1 17).toInt ≤ 15) : Met l yX8_take (WSb yX8_take cX8_take 9 (some .int)) (rmA 3 70) (va_Pc [.ref (q 0), .int sh, .int t] (PW G 33 q sz (eM G q τ ξ))) (va_Qi (fun (r : Int32) (u : (ST × ST)) => sp_take τ sh t = (r, u.1)) (fun u => BW G 33 q (eM G q u.1 u.2)) (FA 33 q sz)) 0 0 (FA 33 q sz) := by
  refine Met_B (own := RX8) rfl (by decide) (Nat.le_of_ble_eq_true rfl) (fun p e s m args below meth c ls hsz C hW hr hk hl QQ hQ => ?_)
  subst hsz
  have hl : lv_has ls 9 [(0, .ref (q 0)), (1, .int sh), (2, .int t)] := hl
  refine lv_iload_n C.1 C.2.1 dX8_take_0 rfl (lv_at hl 1 rfl) ?_
  refine lv_i2l C.1 C.2.1 dX8_take_1 rfl ?_
  refine lv_lconst C.1 C.2.1 (v := 1) dX8_take_2 (by decide) ?_
  refine lv_ldc2 C.1 C.2.1 C.2.2.2.1 (C.2.2.2.2.1 _ bQ_X8_127) dX8_take_3 ?_
  refine go_i hW (run_S (As := [.long ((sh).toInt64), .long 1, .long 100]) (rest := []) C hW (c_X8_in l G q _ τ ξ ((sh).toInt64) 1 100 ((sh).toInt) 1 100 (ti_i2l (rfl : (sh).toInt = (sh).toInt)) (show (1 : Int64).toInt = 1 from by decide) (show (100 : Int64).toInt = 100 from by decide)) (cw_S 3 C bL_X8_121 bS_X8_in bN_X8 bC_X8_in ⟨rfl, rfl⟩ (by decide +kernel) ⟨Nat.le_of_ble_eq_true rfl, Nat.le_of_ble_eq_true rfl⟩) rfl hl.1 rfl (Nat.le_of_ble_eq_true rfl) dX8_take_6 ⟨Nat.le_refl _, Nat.le_refl _⟩) (fun r_1 u_1 H locs hp_1 hW => ?_)
  rcases hp_1 with ⟨rfl, rfl, k_1_0, k_1_1⟩ | ⟨rfl, rfl, k_1⟩
  · skip
    have hW : WB G 33 q (eM G q τ ξ) s H locs := hW
    refine lv_if_eq C.1 C.2.1 (tgt := 24) dX8_take_9 (by decide) (fun c => absurd c (by decide)) (fun _ => ?_)
    refine lv_iload_n C.1 C.2.1 dX8_take_12 rfl (lv_at hl 2 rfl) ?_
    refine lv_i2l C.1 C.2.1 dX8_take_13 rfl ?_
    refine lv_lconst C.1 C.2.1 (v := 1) dX8_take_14 (by decide) ?_
    refine lv_ldc2 C.1 C.2.1 C.2.2.2.1 (C.2.2.2.2.1 _ bQ_X8_239) dX8_take_15 ?_
    refine go_i hW (run_S (As := [.long ((t).toInt64), .long 1, .long 50]) (rest := []) C hW (c_X8_in l G q _ τ ξ ((t).toInt64) 1 50 ((t).toInt) 1 50 (ti_i2l (rfl : (t).toInt = (t).toInt)) (show (1 : Int64).toInt = 1 from by decide) (show (50 : Int64).toInt = 50 from by decide)) (cw_S 3 C bL_X8_121 bS_X8_in bN_X8 bC_X8_in ⟨rfl, rfl⟩ (by decide +kernel) ⟨Nat.le_of_ble_eq_true rfl, Nat.le_of_ble_eq_true rfl⟩) rfl hl.1 rfl (Nat.le_of_ble_eq_true rfl) dX8_take_18 ⟨Nat.le_refl _, Nat.le_refl _⟩) (fun r_3 u_3 H locs hp_3 hW => ?_)
    rcases hp_3 with ⟨rfl, rfl, k_3_0, k_3_1⟩ | ⟨rfl, rfl, k_3⟩
    · skip
      have hW : WB G 33 q (eM G q τ ξ) s H locs := hW
      refine lv_if_ne C.1 C.2.1 (tgt := 27) dX8_take_21 (by decide) (fun _ => ?_) (fun c => absurd c (by decide))
      refine lv_aload_n C.1 C.2.1 dX8_take_27 rfl (lv_at hl 0 rfl) ?_
      refine mG_parts C hW (v := (τ.1 4)) rfl dX8_take_28 ?_
      refine lv_sipush C.1 C.2.1 (v := 200) dX8_take_31 (by decide) ?_
      refine lv_icmp_ne C.1 C.2.1 (tgt := 40) dX8_take_34 (by decide) (fun c_5 => ?_) (fun c_5 => ?_)
      · skip
        have k_5 := (tn_eq (rfl : ((τ.1 4)).toInt = ((τ.1 4)).toInt) (show (200 : Int32).toInt = 200 from by decide)).mp c_5
        refine lv_iconst C.1 C.2.1 (v := 0) dX8_take_40 (by decide) ?_
        refine lv_istore_n (lv' := [(3, .int 0), (0, .ref (q 0)), (1, .int sh), (2, .int t)]) C.1 C.2.1 dX8_take_41 rfl hl (by decide) rfl (fun ls hl => ?_)
        have L_42_6 : ∀ (fuel : Nat) (k : Nat) (x3 : Int32) (τ1 : ST), t.toInt.toNat - k < fuel → (x3.toInt = (k : Int)) → ((k : Int) ≤ t.toInt) → (tkN sh (t.toInt.toNat - k) τ1 = tkN sh t.toInt.toNat τ) → (0 ≤ (τ1.1 4).toInt ∧ (τ1.1 4).toInt ≤ 200) → (∀ j, ¬ j = 4 → τ1.1 j = τ.1 j) → ∀ (H : Heap) (locs : List Loc) (ls : Array Slot), WB G 33 q (eM G q τ1 ξ) s H locs → lv_has ls 9 [(3, .int x3), (0, .ref (q 0)), (1, .int sh), (2, .int t)] → W p l e (rmA 3 70) s m args below meth c H locs 0 0 QQ (F0 m 42 ls []) := by
          intro fuel; induction fuel with
          | zero => intro k x3 τ1 hf; exact absurd hf (Nat.not_lt_zero _)
          | succ fuel ih_42 =>
            intro k x3 τ1 hf hk3 hkl htk h_pt1 hreg H locs ls hW hl
            have h_w1 : 0 ≤ (τ1.1 5).toInt ∧ (τ1.1 5).toInt ≤ (τ1.1 6).toInt ∧ (τ1.1 6).toInt ≤ 15 ∧ 0 ≤ (τ1.1 7).toInt ∧ (τ1.1 7).toInt ≤ (τ1.1 8).toInt ∧ (τ1.1 8).toInt ≤ 15 := by rw [hreg 5 (by decide), hreg 6 (by decide), hreg 7 (by decide), hreg 8 (by decide)]; exact h_w
            have h_k1 : 0 ≤ (τ1.1 17).toInt ∧ (τ1.1 17).toInt ≤ 15 := by rw [hreg 17 (by decide)]; exact h_k
            refine lv_iload_n C.1 C.2.1 dX8_take_42 rfl (lv_at hl 0 rfl) ?_
            refine lv_iload_n C.1 C.2.1 dX8_take_43 rfl (lv_at hl 3 rfl) ?_
            refine lv_icmp_ge C.1 C.2.1 (tgt := 161) dX8_take_44 (by decide) (fun c_7 => ?_) (fun c_7 => ?_)
            · skip
              have k_7 := (tc_le (rfl : (t).toInt = (t).toInt) hk3).mp c_7
              have e161 : tkN sh (t.toInt.toNat - k) τ1 = τ1 := by first | (rw [show t.toInt.toNat - k = 0 from by omega]; rfl) | exact tkN_stop (fun h => by omega) _
              rw [e161] at htk
              refine lv_aload_n C.1 C.2.1 dX8_take_161 rfl (lv_at hl 1 rfl) ?_
              refine mG_parts C hW (v := (τ1.1 4)) rfl dX8_take_162 ?_
              subst hQ
              exact r_iret (τ1, ξ) C hW hr hk dX8_take_165 (show sp_take τ sh t = (τ1.1 4, τ1) from by unfold sp_take; rw [if_pos (by omega), if_neg (by omega), ← htk])
            · skip
              have k_7 := (tn_le (rfl : (t).toInt = (t).toInt) hk3).mp c_7
              refine lv_aload_n C.1 C.2.1 dX8_take_47 rfl (lv_at hl 1 rfl) ?_
              refine mG_parts C hW (v := (τ1.1 4)) rfl dX8_take_48 ?_
              refine lv_sipush C.1 C.2.1 (v := 200) dX8_take_51 (by decide) ?_
              refine lv_icmp_ge C.1 C.2.1 (tgt := 161) dX8_take_54 (by decide) (fun c_8 => ?_) (fun c_8 => ?_)
              · skip
                have k_8 := (tc_le (show (200 : Int32).toInt = 200 from by decide) (rfl : ((τ1.1 4)).toInt = ((τ1.1 4)).toInt)).mp c_8
                have e161 : tkN sh (t.toInt.toNat - k) τ1 = τ1 := by first | (rw [show t.toInt.toNat - k = 0 from by omega]; rfl) | exact tkN_stop (fun h => by omega) _
                rw [e161] at htk
                refine lv_aload_n C.1 C.2.1 dX8_take_161 rfl (lv_at hl 1 rfl) ?_
                refine mG_parts C hW (v := (τ1.1 4)) rfl dX8_take_162 ?_
                subst hQ
                exact r_iret (τ1, ξ) C hW hr hk dX8_take_165 (show sp_take τ sh t = (τ1.1 4, τ1) from by unfold sp_take; rw [if_pos (by omega), if_neg (by omega), ← htk])
              · skip
                have k_8 := (tn_le (show (200 : Int32).toInt = 200 from by decide) (rfl : ((τ1.1 4)).toInt = ((τ1.1 4)).toInt)).mp c_8
                refine lv_aload_n C.1 C.2.1 dX8_take_57 rfl (lv_at hl 1 rfl) ?_
                refine go_i hW (run_V (o := 0) (As := []) (rest := []) C hW (by decide) rfl rfl (c_X8_peak l G q _ τ1 ξ   h_w1) (cw_V 0 C bL_X8_241 bI_X8_peak bV_X8_peak bN_X8 bC_X8_peak ⟨rfl, rfl⟩ (by decide +kernel) ⟨Nat.le_of_ble_eq_true rfl, Nat.le_of_ble_eq_true rfl⟩) rfl hl.1 rfl (Nat.le_of_ble_eq_true rfl) dX8_take_58 ⟨Nat.le_refl _, Nat.le_refl _⟩) (fun r_9 u_9 H locs hp_9 hW => ?_)
                rcases hp_9 with ⟨rfl, rfl, k_9⟩
                have hW : WB G 33 q (eM G q τ1 ξ) s H locs := hW
                refine lv_istore (lv' := [(4, .int (nI (pk τ1))), (3, .int x3), (0, .ref (q 0)), (1, .int sh), (2, .int t)]) C.1 C.2.1 dX8_take_61 hl (by decide) rfl (fun ls hl => ?_)
                refine lv_ldc2 C.1 C.2.1 C.2.2.2.1 (C.2.2.2.2.1 _ bQ_X8_127) dX8_take_63 ?_
                refine lv_aload_n C.1 C.2.1 dX8_take_66 rfl (lv_at hl 2 rfl) ?_
                refine lv_iconst C.1 C.2.1 (v := 0) dX8_take_67 (by decide) ?_
                refine lv_iconst C.1 C.2.1 (v := 0) dX8_take_68 (by decide) ?_
                refine go_i hW (run_V (o := 0) (As := [.int 0, .int 0]) (rest := [.long 100]) C hW (by decide) rfl rfl (c_X8_keptBeam l G q _ τ1 ξ 0 0  h_k1) (cw_V 2 C bL_X8_236 bI_X8_keptBeam bV_X8_keptBeam bN_X8 bC_X8_keptBeam ⟨rfl, rfl⟩ (by decide +kernel) ⟨Nat.le_of_ble_eq_true rfl, Nat.le_of_ble_eq_true rfl⟩) rfl hl.1 rfl (Nat.le_of_ble_eq_true rfl) dX8_take_69 ⟨Nat.le_refl _, Nat.le_refl _⟩) (fun r_10 u_10 H locs hp_10 hW => ?_)
                rcases hp_10 with ⟨rfl, rfl⟩
                have hW : WB G 33 q (eM G q τ1 ξ) s H locs := hW
                refine lv_i2l C.1 C.2.1 dX8_take_72 rfl ?_
                refine lv_lmul C.1 C.2.1 dX8_take_73 ?_
                refine lv_lstore (lv' := [(5, .long (100 * (keptB τ1 0 0).toInt64)), (4, .int (nI (pk τ1))), (3, .int x3), (0, .ref (q 0)), (1, .int sh), (2, .int t)]) C.1 C.2.1 dX8_take_74 hl (by decide) rfl (fun ls hl => ?_)
                refine lv_lload C.1 C.2.1 dX8_take_76 (lv_at hl 0 rfl) ?_
                refine lv_lconst C.1 C.2.1 (v := 0) dX8_take_78 (by decide) ?_
                refine W.lcmp C.1 C.2.1 dX8_take_79 ?_
                refine lv_if_ne C.1 C.2.1 (tgt := 87) dX8_take_80 (by decide) (fun c_11 => ?_) (fun c_11 => ?_)
                · skip
                  have k_11 := (ln_eq (rfl : ((100 * (keptB τ1 0 0).toInt64)).toInt = ((100 * (keptB τ1 0 0).toInt64)).toInt) (show (0 : Int64).toInt = 0 from by decide)).mp c_11
                  have hb0 : ¬ (by0 τ1).toInt = 0 := k_11
                  have hdv : ¬ (100 * (keptB τ1 0 0).toInt64) = 0 := fun h => hb0 (by show (100 * (keptB τ1 0 0).toInt64).toInt = 0; rw [h]; decide)
                  have ea : tkA τ1 sh = (τ1.2.2 0 (pk τ1) * (sh).toInt64) / (100 * (keptB τ1 0 0).toInt64) := tkA_n hb0
                  refine lv_aload_n C.1 C.2.1 dX8_take_87 rfl (lv_at hl 3 rfl) ?_
                  refine mG_board C hW dX8_take_88 ?_
                  refine lv_iload C.1 C.2.1 dX8_take_91 (lv_at hl 1 rfl) ?_
                  refine mL_board C hW (pk τ1) ((nI_toInt (by omega)).trans (by omega)) (by omega) (v := (τ1.2.2 0 (pk τ1))) rfl dX8_take_93 ?_
                  refine lv_iload_n C.1 C.2.1 dX8_take_94 rfl (lv_at hl 4 rfl) ?_
                  refine lv_i2l C.1 C.2.1 dX8_take_95 rfl ?_
                  refine lv_lmul C.1 C.2.1 dX8_take_96 ?_
                  refine lv_lload C.1 C.2.1 dX8_take_97 (lv_at hl 0 rfl) ?_
                  refine lv_ldiv C.1 C.2.1 dX8_take_99 hdv ?_
                  refine lv_lstore (lv' := [(7, .long (((τ1.2.2 0 (pk τ1)) * (sh).toInt64) / (100 * (keptB τ1 0 0).toInt64))), (5, .long (100 * (keptB τ1 0 0).toInt64)), (4, .int (nI (pk τ1))), (3, .int x3), (0, .ref (q 0)), (1, .int sh), (2, .int t)]) C.1 C.2.1 dX8_take_100 hl (by decide) rfl (fun ls hl => ?_)
                  refine lv_lload C.1 C.2.1 dX8_take_102 (lv_at hl 0 rfl) ?_
                  refine lv_lconst C.1 C.2.1 (v := 0) dX8_take_104 (by decide) ?_
                  refine W.lcmp C.1 C.2.1 dX8_take_105 ?_
                  refine lv_if_ne C.1 C.2.1 (tgt := 114) dX8_take_106 (by decide) (fun c_12 => ?_) (fun c_12 => ?_)
                  · skip
                    have k_12 := (ln_eq (rfl : ((((τ1.2.2 0 (pk τ1)) * (sh).toInt64) / (100 * (keptB τ1 0 0).toInt64))).toInt = ((((τ1.2.2 0 (pk τ1)) * (sh).toInt64) / (100 * (keptB τ1 0 0).toInt64))).toInt) (show (0 : Int64).toInt = 0 from by decide)).mp c_12
                    have ha0 : ¬ (tkA τ1 sh).toInt = 0 := by rw [ea]; exact k_12
                    refine lv_aload_n C.1 C.2.1 dX8_take_114 rfl (lv_at hl 4 rfl) ?_
                    refine lv_iload C.1 C.2.1 dX8_take_115 (lv_at hl 2 rfl) ?_
                    refine lv_lload C.1 C.2.1 dX8_take_117 (lv_at hl 0 rfl) ?_
                    refine lv_lneg C.1 C.2.1 dX8_take_119 ?_
                    refine go_v hW (run_V (o := 0) (As := [.int (nI (pk τ1)), .long (-(((τ1.2.2 0 (pk τ1)) * (sh).toInt64) / (100 * (keptB τ1 0 0).toInt64)))]) (rest := []) C hW (by decide) rfl rfl (c_X8_lays l G q _ τ1 ξ (nI (pk τ1)) (-(((τ1.2.2 0 (pk τ1)) * (sh).toInt64) / (100 * (keptB τ1 0 0).toInt64)))  h_k1) (cw_V 2 C bL_X8_244 bI_X8_lays bV_X8_lays bN_X8 bC_X8_lays ⟨rfl, rfl⟩ (by decide +kernel) ⟨Nat.le_of_ble_eq_true rfl, Nat.le_of_ble_eq_true rfl⟩) rfl hl.1 rfl (Nat.le_of_ble_eq_true rfl) dX8_take_120 ⟨Nat.le_refl _, Nat.le_refl _⟩) (fun u_13 H locs hp_13 hW => ?_)
                    obtain rfl := hp_13
                    have hW : WB G 33 q (eM G q (lay τ1 (nI (pk τ1)) (-(((τ1.2.2 0 (pk τ1)) * (sh).toInt64) / (100 * (keptB τ1 0 0).toInt64)))) ξ) s H locs := hW
                    refine lv_aload_n C.1 C.2.1 dX8_take_123 rfl (lv_at hl 4 rfl) ?_
                    refine mG_partCell C hW dX8_take_124 ?_
                    refine lv_aload_n C.1 C.2.1 dX8_take_127 rfl (lv_at hl 4 rfl) ?_
                    refine mG_parts C hW (v := (τ1.1 4)) rfl dX8_take_128 ?_
                    refine lv_iload C.1 C.2.1 dX8_take_131 (lv_at hl 2 rfl) ?_
                    refine mS_partCell C hW ((((τ1.1 4)).toInt).toNat) ((rfl : ((τ1.1 4)).toInt = ((τ1.1 4)).toInt).trans (by omega)) (by omega) dX8_take_133 (fun H locs hW => ?_)
                    refine lv_aload_n C.1 C.2.1 dX8_take_134 rfl (lv_at hl 4 rfl) ?_
                    refine mG_partA C hW dX8_take_135 ?_
                    refine lv_aload_n C.1 C.2.1 dX8_take_138 rfl (lv_at hl 4 rfl) ?_
                    refine mG_parts C hW (v := (τ1.1 4)) rfl dX8_take_139 ?_
                    refine lv_lload C.1 C.2.1 dX8_take_142 (lv_at hl 0 rfl) ?_
                    refine mS_partA C hW ((((τ1.1 4)).toInt).toNat) ((rfl : ((τ1.1 4)).toInt = ((τ1.1 4)).toInt).trans (by omega)) (by omega) dX8_take_144 (fun H locs hW => ?_)
                    refine lv_aload_n C.1 C.2.1 dX8_take_145 rfl (lv_at hl 4 rfl) ?_
                    refine lv_dup C.1 C.2.1 dX8_take_146 rfl ?_
                    refine mG_parts C hW (v := (τ1.1 4)) rfl dX8_take_147 ?_
                    refine lv_iconst C.1 C.2.1 (v := 1) dX8_take_150 (by decide) ?_
                    refine lv_iadd C.1 C.2.1 dX8_take_151 ?_
                    refine mP_parts C hW dX8_take_152 (fun H locs hW => ?_)
                    refine lv_iinc (v := (x3 + 1)) (lv' := [(3, .int (x3 + 1)), (7, .long (((τ1.2.2 0 (pk τ1)) * (sh).toInt64) / (100 * (keptB τ1 0 0).toInt64))), (5, .long (100 * (keptB τ1 0 0).toInt64)), (4, .int (nI (pk τ1))), (0, .ref (q 0)), (1, .int sh), (2, .int t)]) C.1 C.2.1 dX8_take_155 hl (k := 3) rfl rfl (by decide) rfl (fun ls hl => ?_)
                    refine lv_goto C.1 C.2.1 (tgt := 42) dX8_take_158 (by decide) ?_
                    exact ih_42 (k + 1) (x3 + 1) (tkT τ1 sh) (by omega) ((ti_add hk3 (show (1 : Int32).toInt = 1 from by decide) (by omega) (by omega)).trans (by omega)) (by omega) (by rw [← htk, show t.toInt.toNat - k = (t.toInt.toNat - (k + 1)) + 1 from by omega, tkN_go (by omega) ha0]) (by have := ti_add (x := τ1.1 4) (y := 1) rfl (show (1 : Int32).toInt = 1 from by decide) (by omega) (by omega); show 0 ≤ (τ1.1 4 + 1).toInt ∧ (τ1.1 4 + 1).toInt ≤ 200; omega) (fun j hj => by rw [← hreg j hj]; exact if_neg hj) _ _ _ (by unfold tkT; rw [ea]; exact hW) (lv_sub hl [0, 4, 5, 6] rfl)
                  · skip
                    have k_12 := (lc_eq (rfl : ((((τ1.2.2 0 (pk τ1)) * (sh).toInt64) / (100 * (keptB τ1 0 0).toInt64))).toInt = ((((τ1.2.2 0 (pk τ1)) * (sh).toInt64) / (100 * (keptB τ1 0 0).toInt64))).toInt) (show (0 : Int64).toInt = 0 from by decide)).mp c_12
                    have ha0 : (tkA τ1 sh).toInt = 0 := by rw [ea]; exact k_12
                    have e109 := tkN_stop (sh := sh) (τ := τ1) (fun h => h.2 (by first | exact ha0 | (rw [ea]; decide))) (t.toInt.toNat - k)
                    rw [e109] at htk
                    refine lv_aload_n C.1 C.2.1 dX8_take_109 rfl (lv_at hl 4 rfl) ?_
                    refine mG_parts C hW (v := (τ1.1 4)) rfl dX8_take_110 ?_
                    subst hQ
                    exact r_iret (τ1, ξ) C hW hr hk dX8_take_113 (show sp_take τ sh t = (τ1.1 4, τ1) from by unfold sp_take; rw [if_pos (by omega), if_neg (by omega), ← htk])
                · skip
                  have k_11 := (lc_eq (rfl : ((100 * (keptB τ1 0 0).toInt64)).toInt = ((100 * (keptB τ1 0 0).toInt64)).toInt) (show (0 : Int64).toInt = 0 from by decide)).mp c_11
                  have hb0 : (by0 τ1).toInt = 0 := k_11
                  have ea : tkA τ1 sh = 0 := tkA_0 hb0
                  refine lv_lconst C.1 C.2.1 (v := 0) dX8_take_83 (by decide) ?_
                  refine lv_goto C.1 C.2.1 (tgt := 100) dX8_take_84 (by decide) ?_
                  refine lv_lstore (lv' := [(7, .long 0), (5, .long (100 * (keptB τ1 0 0).toInt64)), (4, .int (nI (pk τ1))), (3, .int x3), (0, .ref (q 0)), (1, .int sh), (2, .int t)]) C.1 C.2.1 dX8_take_100 hl (by decide) rfl (fun ls hl => ?_)
                  refine lv_lload C.1 C.2.1 dX8_take_102 (lv_at hl 0 rfl) ?_
                  refine lv_lconst C.1 C.2.1 (v := 0) dX8_take_104 (by decide) ?_
                  refine W.lcmp C.1 C.2.1 dX8_take_105 ?_
                  refine lv_if_ne C.1 C.2.1 (tgt := 114) dX8_take_106 (by decide) (fun c => absurd c (by decide)) (fun _ => ?_)
                  have e109 := tkN_stop (sh := sh) (τ := τ1) (fun h => h.2 (by first | exact ha0 | (rw [ea]; decide))) (t.toInt.toNat - k)
                  rw [e109] at htk
                  refine lv_aload_n C.1 C.2.1 dX8_take_109 rfl (lv_at hl 4 rfl) ?_
                  refine mG_parts C hW (v := (τ1.1 4)) rfl dX8_take_110 ?_
                  subst hQ
                  exact r_iret (τ1, ξ) C hW hr hk dX8_take_113 (show sp_take τ sh t = (τ1.1 4, τ1) from by unfold sp_take; rw [if_pos (by omega), if_neg (by omega), ← htk])
        exact L_42_6 _ 0 0 τ (Nat.lt_succ_self _) (by decide) (by omega) rfl h_pt (fun _ _ => rfl) _ _ _ hW (lv_sub hl [0, 1, 2, 3] rfl)
      · skip
        have k_5 := (tc_eq (rfl : ((τ.1 4)).toInt = ((τ.1 4)).toInt) (show (200 : Int32).toInt = 200 from by decide)).mp c_5
        refine lv_bipush C.1 C.2.1 (v := (-3)) dX8_take_37 (by decide) ?_
        subst hQ
        exact r_iret (τ, ξ) C hW hr hk dX8_take_39 (show sp_take τ sh t = ((-3), τ) from by unfold sp_take; (repeat (first | rw [if_pos (by omega)] | rw [if_neg (by omega)])); first | done | rfl)
    · skip
      have hW : WB G 33 q (eM G q τ ξ) s H locs := hW
      refine lv_if_ne C.1 C.2.1 (tgt := 27) dX8_take_21 (by decide) (fun c => absurd c (by decide)) (fun _ => ?_)
      refine lv_bipush C.1 C.2.1 (v := (-2)) dX8_take_24 (by decide) ?_
      subst hQ
      exact r_iret (τ, ξ) C hW hr hk dX8_take_26 (show sp_take τ sh t = ((-2), τ) from by unfold sp_take; (repeat (first | rw [if_pos (by omega)] | rw [if_neg (by omega)])); first | done | rfl)
  · skip
    have hW : WB G 33 q (eM G q τ ξ) s H locs := hW
    refine lv_if_eq C.1 C.2.1 (tgt := 24) dX8_take_9 (by decide) (fun _ => ?_) (fun c => absurd c (by decide))
    refine lv_bipush C.1 C.2.1 (v := (-2)) dX8_take_24 (by decide) ?_
    subst hQ
    exact r_iret (τ, ξ) C hW hr hk dX8_take_26 (show sp_take τ sh t = ((-2), τ) from by unfold sp_take; (repeat (first | rw [if_pos (by omega)] | rw [if_neg (by omega)])); first | done | rfl)
set_option maxHeartbeats 4000000 in
set_option maxRecDepth 100000 in
theorem c_X8_back (l : Launch) (G : GG) (q : Nat → Nat) (sz : Nat) (τ ξ : ST) (h_pt : 0 ≤ (τ.1 4).toInt ∧ (τ.1 4).toInt ≤ 200) (h_k : 0 ≤ (τ.1 17).toInt ∧ (τ.1 17).toInt ≤ 15) : Met l yX8_back (WSb yX8_back cX8_back 1 (some .int)) (rmA 3 70) (va_Pc [.ref (q 0)] (PW G 33 q sz (eM G q τ ξ))) (va_Qi (fun (r : Int32) (u : (ST × ST)) => sp_back τ = (r, u.1)) (fun u => BW G 33 q (eM G q u.1 u.2)) (FA 33 q sz)) 0 0 (FA 33 q sz) := by
  refine Met_B (own := RX8) rfl (by decide) (Nat.le_of_ble_eq_true rfl) (fun p e s m args below meth c ls hsz C hW hr hk hl QQ hQ => ?_)
  subst hsz
  have hl : lv_has ls 1 [(0, .ref (q 0))] := hl
  have hn1 : ¬ (τ.1 4).toInt = 0 → (τ.1 4 - 1).toInt = (τ.1 4).toInt - 1 := fun h => ti_sub rfl (show (1 : Int32).toInt = 1 from by decide) (by omega) (by omega)
  refine lv_aload_n C.1 C.2.1 dX8_back_0 rfl (lv_at hl 0 rfl) ?_
  refine mG_parts C hW (v := (τ.1 4)) rfl dX8_back_1 ?_
  refine lv_if_ne C.1 C.2.1 (tgt := 10) dX8_back_4 (by decide) (fun c_1 => ?_) (fun c_1 => ?_)
  · skip
    have k_1 := (tn_eq (rfl : ((τ.1 4)).toInt = ((τ.1 4)).toInt) (show (0 : Int32).toInt = 0 from by decide)).mp c_1
    refine lv_aload_n C.1 C.2.1 dX8_back_10 rfl (lv_at hl 0 rfl) ?_
    refine lv_dup C.1 C.2.1 dX8_back_11 rfl ?_
    refine mG_parts C hW (v := (τ.1 4)) rfl dX8_back_12 ?_
    refine lv_iconst C.1 C.2.1 (v := 1) dX8_back_15 (by decide) ?_
    refine lv_isub C.1 C.2.1 dX8_back_16 ?_
    refine mP_parts C hW dX8_back_17 (fun H locs hW => ?_)
    refine lv_aload_n C.1 C.2.1 dX8_back_20 rfl (lv_at hl 0 rfl) ?_
    refine lv_aload_n C.1 C.2.1 dX8_back_21 rfl (lv_at hl 0 rfl) ?_
    refine mG_partCell C hW dX8_back_22 ?_
    refine lv_aload_n C.1 C.2.1 dX8_back_25 rfl (lv_at hl 0 rfl) ?_
    refine mG_parts C hW (v := ((τ.1 4) - 1)) rfl dX8_back_26 ?_
    refine mL_partCell C hW (((((τ.1 4)).toInt - 1)).toNat) ((ti_sub (rfl : ((τ.1 4)).toInt = ((τ.1 4)).toInt) (show (1 : Int32).toInt = 1 from by decide) (by omega) (by omega)).trans (by omega)) (by omega) (v := (τ.2.1 14 (((((τ.1 4)).toInt - 1)).toNat))) rfl dX8_back_29 ?_
    refine lv_aload_n C.1 C.2.1 dX8_back_30 rfl (lv_at hl 0 rfl) ?_
    refine mG_partA C hW dX8_back_31 ?_
    refine lv_aload_n C.1 C.2.1 dX8_back_34 rfl (lv_at hl 0 rfl) ?_
    refine mG_parts C hW (v := ((τ.1 4) - 1)) rfl dX8_back_35 ?_
    refine mL_partA C hW (((((τ.1 4)).toInt - 1)).toNat) ((ti_sub (rfl : ((τ.1 4)).toInt = ((τ.1 4)).toInt) (show (1 : Int32).toInt = 1 from by decide) (by omega) (by omega)).trans (by omega)) (by omega) (v := (τ.2.2 1 (((((τ.1 4)).toInt - 1)).toNat))) rfl dX8_back_38 ?_
    refine go_v hW (run_V (o := 0) (As := [.int (τ.2.1 14 (((((τ.1 4)).toInt - 1)).toNat)), .long (τ.2.2 1 (((((τ.1 4)).toInt - 1)).toNat))]) (rest := []) C hW (by decide) rfl rfl (c_X8_lays l G q _ (sg τ 4 ((τ.1 4) - 1)) ξ (τ.2.1 14 (((((τ.1 4)).toInt - 1)).toNat)) (τ.2.2 1 (((((τ.1 4)).toInt - 1)).toNat))  h_k) (cw_V 2 C bL_X8_244 bI_X8_lays bV_X8_lays bN_X8 bC_X8_lays ⟨rfl, rfl⟩ (by decide +kernel) ⟨Nat.le_of_ble_eq_true rfl, Nat.le_of_ble_eq_true rfl⟩) rfl hl.1 rfl (Nat.le_of_ble_eq_true rfl) dX8_back_39 ⟨Nat.le_refl _, Nat.le_refl _⟩) (fun u_2 H locs hp_2 hW => ?_)
    obtain rfl := hp_2
    have hW : WB G 33 q (eM G q (lay (sg τ 4 ((τ.1 4) - 1)) (τ.2.1 14 (((((τ.1 4)).toInt - 1)).toNat)) (τ.2.2 1 (((((τ.1 4)).toInt - 1)).toNat))) ξ) s H locs := hW
    refine lv_aload_n C.1 C.2.1 dX8_back_42 rfl (lv_at hl 0 rfl) ?_
    refine mG_parts C hW (v := ((τ.1 4) - 1)) rfl dX8_back_43 ?_
    subst hQ
    exact r_iret ((lay (sg τ 4 ((τ.1 4) - 1)) (τ.2.1 14 (((((τ.1 4)).toInt - 1)).toNat)) (τ.2.2 1 (((((τ.1 4)).toInt - 1)).toNat))), ξ) C hW hr hk dX8_back_46 (show sp_back τ  = (((τ.1 4) - 1), (lay (sg τ 4 ((τ.1 4) - 1)) (τ.2.1 14 (((((τ.1 4)).toInt - 1)).toNat)) (τ.2.2 1 (((((τ.1 4)).toInt - 1)).toNat)))) from by unfold sp_back; (repeat (first | rw [if_pos (by omega)] | rw [if_neg (by omega)])); first | done | rfl)
  · skip
    have k_1 := (tc_eq (rfl : ((τ.1 4)).toInt = ((τ.1 4)).toInt) (show (0 : Int32).toInt = 0 from by decide)).mp c_1
    refine lv_bipush C.1 C.2.1 (v := (-4)) dX8_back_7 (by decide) ?_
    subst hQ
    exact r_iret (τ, ξ) C hW hr hk dX8_back_9 (show sp_back τ  = ((-4), τ) from by unfold sp_back; (repeat (first | rw [if_pos (by omega)] | rw [if_neg (by omega)])); first | done | rfl)
set_option maxHeartbeats 4000000 in
set_option maxRecDepth 100000 in
theorem c_X8_board (l : Launch) (G : GG) (q : Nat → Nat) (sz : Nat) (τ ξ : ST) (kd : Int32) (h_d : 0 ≤ (τ.1 0).toInt ∧ (τ.1 0).toInt ≤ 6) (h_l : ∀ d : Nat, d < 6 → 0 ≤ (τ.2.1 2 d).toInt ∧ (τ.2.1 2 d).toInt ≤ 30) (h_f : 0 ≤ (τ.1 2).toInt ∧ (τ.1 2).toInt ≤ 40) (h_s : ∀ d : Nat, d < 6 → 0 ≤ (τ.2.1 6 d).toInt ∧ (τ.2.1 6 d).toInt ≤ 100) (h_p : 0 ≤ (τ.1 3).toInt ∧ (τ.1 3).toInt ≤ 10) : Met l yX8_board (WSb yX8_board cX8_board 4 (some .int)) (rmA 5 121) (va_Pc [.ref (q 0), .int kd] (PW G 33 q sz (eM G q τ ξ))) (va_Qi (fun (r : Int32) (u : (ST × ST)) => sp_board τ kd = (r, u.1)) (fun u => BW G 33 q (eM G q u.1 u.2)) (FA 33 q sz)) 0 0 (FA 33 q sz) := by
  refine Met_B (own := RX8) rfl (by decide) (Nat.le_of_ble_eq_true rfl) (fun p e s m args below meth c ls hsz C hW hr hk hl QQ hQ => ?_)
  subst hsz
  have hl : lv_has ls 4 [(0, .ref (q 0)), (1, .int kd)] := hl
  refine lv_iload_n C.1 C.2.1 dX8_board_0 rfl (lv_at hl 1 rfl) ?_
  refine lv_i2l C.1 C.2.1 dX8_board_1 rfl ?_
  refine lv_lconst C.1 C.2.1 (v := 0) dX8_board_2 (by decide) ?_
  refine lv_lconst C.1 C.2.1 (v := 1) dX8_board_3 (by decide) ?_
  refine go_i hW (run_S (As := [.long ((kd).toInt64), .long 0, .long 1]) (rest := []) C hW (c_X8_in l G q _ τ ξ ((kd).toInt64) 0 1 ((kd).toInt) 0 1 (ti_i2l (rfl : (kd).toInt = (kd).toInt)) (show (0 : Int64).toInt = 0 from by decide) (show (1 : Int64).toInt = 1 from by decide)) (cw_S 3 C bL_X8_121 bS_X8_in bN_X8 bC_X8_in ⟨rfl, rfl⟩ (by decide +kernel) ⟨Nat.le_of_ble_eq_true rfl, Nat.le_of_ble_eq_true rfl⟩) rfl hl.1 rfl (Nat.le_of_ble_eq_true rfl) dX8_board_4 ⟨Nat.le_refl _, Nat.le_refl _⟩) (fun r_1 u_1 H locs hp_1 hW => ?_)
  rcases hp_1 with ⟨rfl, rfl, k_1_0, k_1_1⟩ | ⟨rfl, rfl, k_1⟩
  · skip
    have hW : WB G 33 q (eM G q τ ξ) s H locs := hW
    refine lv_if_ne C.1 C.2.1 (tgt := 13) dX8_board_7 (by decide) (fun _ => ?_) (fun c => absurd c (by decide))
    refine lv_aload_n C.1 C.2.1 dX8_board_13 rfl (lv_at hl 0 rfl) ?_
    refine go_v hW (run_V (o := 0) (As := []) (rest := []) C hW (by decide) rfl rfl (c_X8_space l G q _ τ ξ   h_d h_l h_f h_s) (cw_V 0 C bL_X8_206 bI_X8_space bV_X8_space bN_X8 bC_X8_space ⟨rfl, rfl⟩ (by decide +kernel) ⟨Nat.le_of_ble_eq_true rfl, Nat.le_of_ble_eq_true rfl⟩) rfl hl.1 rfl (Nat.le_of_ble_eq_true rfl) dX8_board_14 ⟨Nat.le_refl _, Nat.le_refl _⟩) (fun u_3 H locs hp_3 hW => ?_)
    rcases hp_3 with ⟨ξ1_3, rfl, k_3_0, k_3_1⟩
    have hW : WB G 33 q (eM G q τ ξ1_3) s H locs := hW
    have h15 : spN τ ≤ 15 := spL_len τ (by omega)
    have en : (ξ1_3.1 0).toInt.toNat = spN τ := by rw [k_3_0, nI_toInt (by omega)]; omega
    have h_x : 0 ≤ (ξ1_3.1 0).toInt ∧ (ξ1_3.1 0).toInt ≤ 15 := by rw [k_3_0, nI_toInt (by omega)]; omega
    have hU : ∀ k, k < spN τ → ξ1_3.2.1 0 k = spU τ k ∧ ξ1_3.2.1 1 k = spV τ k := fun k hk => ⟨(k_3_1 k hk).1, (k_3_1 k hk).2.1⟩
    have hUP : ∀ k, k < spN τ → ξ1_3.2.1 0 k = spU τ k ∧ ξ1_3.2.1 1 k = spV τ k ∧ ξ1_3.2.2 0 k = spP τ k := fun k hk => k_3_1 k hk
    have hsp : ξ1_3.1 0 = nI (spN τ) := k_3_0
    have hspi : (ξ1_3.1 0).toInt = ((spN τ : Nat) : Int) := by rw [hsp]; exact nI_toInt (by omega)
    refine lv_iconst C.1 C.2.1 (v := 0) dX8_board_17 (by decide) ?_
    refine lv_istore_n (lv' := [(2, .int 0), (0, .ref (q 0)), (1, .int kd)]) C.1 C.2.1 dX8_board_18 rfl hl (by decide) rfl (fun ls hl => ?_)
    have L_19_4 : ∀ (fuel : Nat) (y : Nat) (x2 : Int32), 16 - y < fuel → (x2.toInt = (y : Int)) → (y ≤ 16) → ∀ (H : Heap) (locs : List Loc) (ls : Array Slot), WB G 33 q (eM G q (sbF τ 0 (cut (16 * y) (newB τ kd) (τ.2.2 0))) ξ1_3) s H locs → lv_has ls 4 [(2, .int x2), (0, .ref (q 0)), (1, .int kd)] → W p l e (rmA 5 121) s m args below meth c H locs 0 0 QQ (F0 m 19 ls []) := by
      intro fuel; induction fuel with
      | zero => intro y x2 hf; exact absurd hf (Nat.not_lt_zero _)
      | succ fuel ih_19 =>
        intro y x2 hf hy hyl H locs ls hW hl
        refine lv_iload_n C.1 C.2.1 dX8_board_19 rfl (lv_at hl 0 rfl) ?_
        refine lv_bipush C.1 C.2.1 (v := 16) dX8_board_20 (by decide) ?_
        refine lv_icmp_ge C.1 C.2.1 (tgt := 63) dX8_board_22 (by decide) (fun c_5 => ?_) (fun c_5 => ?_)
        · skip
          have k_5 := (tc_le (show (16 : Int32).toInt = 16 from by decide) hy).mp c_5
          rw [show 16 * y = 256 from by omega] at hW
          refine lv_aload_n C.1 C.2.1 dX8_board_63 rfl (lv_at hl 1 rfl) ?_
          refine lv_aload_n C.1 C.2.1 dX8_board_64 rfl (lv_at hl 1 rfl) ?_
          refine mG_spacings C hW (v := (ξ1_3.1 0)) rfl dX8_board_65 ?_
          refine mP_keptMany C hW dX8_board_68 (fun H locs hW => ?_)
          refine lv_iconst C.1 C.2.1 (v := 0) dX8_board_71 (by decide) ?_
          refine lv_istore_n (lv' := [(2, .int 0), (0, .ref (q 0)), (1, .int kd)]) C.1 C.2.1 dX8_board_72 rfl hl (by decide) rfl (fun ls hl => ?_)
          have L_73_6 : ∀ (fuel : Nat) (t : Nat) (x4 : Int32), spN τ - t < fuel → (x4.toInt = (t : Int)) → (t ≤ spN τ) → ∀ (H : Heap) (locs : List Loc) (ls : Array Slot), WB G 33 q (eM G q (saF (saF (sg (sbF τ 0 (cut 256 (newB τ kd) (τ.2.2 0))) 17 (nI (spN τ))) 22 (cut t (spU τ) (τ.2.1 22))) 23 (cut t (spV τ) (τ.2.1 23))) ξ1_3) s H locs → lv_has ls 4 [(2, .int x4), (0, .ref (q 0)), (1, .int kd)] → W p l e (rmA 5 121) s m args below meth c H locs 0 0 QQ (F0 m 73 ls []) := by
            intro fuel; induction fuel with
            | zero => intro t x4 hf; exact absurd hf (Nat.not_lt_zero _)
            | succ fuel ih_73 =>
              intro t x4 hf ht hle H locs ls hW hl
              refine lv_iload_n C.1 C.2.1 dX8_board_73 rfl (lv_at hl 0 rfl) ?_
              refine lv_aload_n C.1 C.2.1 dX8_board_74 rfl (lv_at hl 1 rfl) ?_
              refine mG_spacings C hW (v := (ξ1_3.1 0)) rfl dX8_board_75 ?_
              refine lv_icmp_ge C.1 C.2.1 (tgt := 111) dX8_board_78 (by decide) (fun c_7 => ?_) (fun c_7 => ?_)
              · skip
                have k_7 := (tc_le hspi ht).mp c_7
                refine lv_aload_n C.1 C.2.1 dX8_board_111 rfl (lv_at hl 1 rfl) ?_
                refine lv_iconst C.1 C.2.1 (v := 0) dX8_board_112 (by decide) ?_
                refine mP_parts C hW dX8_board_113 (fun H locs hW => ?_)
                refine lv_aload_n C.1 C.2.1 dX8_board_116 rfl (lv_at hl 1 rfl) ?_
                refine go_v hW (run_V (o := 0) (As := []) (rest := []) C hW (by decide) rfl rfl (c_X8_all l G q _ (sg (saF (saF (sg (sbF τ 0 (cut 256 (newB τ kd) (τ.2.2 0))) 17 (nI (spN τ))) 22 (cut t (spU τ) (τ.2.1 22))) 23 (cut t (spV τ) (τ.2.1 23))) 4 0) ξ1_3   ) (cw_V 0 C bL_X8_112 bI_X8_all bV_X8_all bN_X8 bC_X8_all ⟨rfl, rfl⟩ (by decide +kernel) ⟨Nat.le_of_ble_eq_true rfl, Nat.le_of_ble_eq_true rfl⟩) rfl hl.1 rfl (Nat.le_of_ble_eq_true rfl) dX8_board_117 ⟨Nat.le_refl _, Nat.le_refl _⟩) (fun u_8 H locs hp_8 hW => ?_)
                obtain rfl := hp_8
                have hW : WB G 33 q (eM G q (sg (sg (sg (sg (sg (saF (saF (sg (sbF τ 0 (cut 256 (newB τ kd) (τ.2.2 0))) 17 (nI (spN τ))) 22 (cut t (spU τ) (τ.2.1 22))) 23 (cut t (spV τ) (τ.2.1 23))) 4 0) 5 0) 6 15) 7 0) 8 15) ξ1_3) s H locs := hW
                refine lv_aload_n C.1 C.2.1 dX8_board_120 rfl (lv_at hl 1 rfl) ?_
                refine mG_spacings C hW (v := (ξ1_3.1 0)) rfl dX8_board_121 ?_
                subst hQ
                exact r_iret ((sg (sg (sg (sg (sg (saF (saF (sg (sbF τ 0 (cut 256 (newB τ kd) (τ.2.2 0))) 17 (nI (spN τ))) 22 (cut t (spU τ) (τ.2.1 22))) 23 (cut t (spV τ) (τ.2.1 23))) 4 0) 5 0) 6 15) 7 0) 8 15), ξ1_3) C hW hr hk dX8_board_124 (show sp_board τ kd = ((ξ1_3.1 0), (sg (sg (sg (sg (sg (saF (saF (sg (sbF τ 0 (cut 256 (newB τ kd) (τ.2.2 0))) 17 (nI (spN τ))) 22 (cut t (spU τ) (τ.2.1 22))) 23 (cut t (spV τ) (τ.2.1 23))) 4 0) 5 0) 6 15) 7 0) 8 15)) from by unfold sp_board; rw [if_pos (by omega), hsp, show t = spN τ from by omega])
              · skip
                have k_7 := (tn_le hspi ht).mp c_7
                refine lv_aload_n C.1 C.2.1 dX8_board_81 rfl (lv_at hl 1 rfl) ?_
                refine mG_keptU C hW dX8_board_82 ?_
                refine lv_iload_n C.1 C.2.1 dX8_board_85 rfl (lv_at hl 0 rfl) ?_
                refine lv_aload_n C.1 C.2.1 dX8_board_86 rfl (lv_at hl 1 rfl) ?_
                refine mG_spaceU C hW dX8_board_87 ?_
                refine lv_iload_n C.1 C.2.1 dX8_board_90 rfl (lv_at hl 0 rfl) ?_
                refine mL_spaceU C hW t (ht.trans (by omega)) (by omega) (v := (ξ1_3.2.1 0 t)) rfl dX8_board_91 ?_
                refine mS_keptU C hW t (ht.trans (by omega)) (by omega) dX8_board_92 (fun H locs hW => ?_)
                refine lv_aload_n C.1 C.2.1 dX8_board_93 rfl (lv_at hl 1 rfl) ?_
                refine mG_keptV C hW dX8_board_94 ?_
                refine lv_iload_n C.1 C.2.1 dX8_board_97 rfl (lv_at hl 0 rfl) ?_
                refine lv_aload_n C.1 C.2.1 dX8_board_98 rfl (lv_at hl 1 rfl) ?_
                refine mG_spaceV C hW dX8_board_99 ?_
                refine lv_iload_n C.1 C.2.1 dX8_board_102 rfl (lv_at hl 0 rfl) ?_
                refine mL_spaceV C hW t (ht.trans (by omega)) (by omega) (v := (ξ1_3.2.1 1 t)) rfl dX8_board_103 ?_
                refine mS_keptV C hW t (ht.trans (by omega)) (by omega) dX8_board_104 (fun H locs hW => ?_)
                refine lv_iinc (v := (x4 + 1)) (lv' := [(2, .int (x4 + 1)), (0, .ref (q 0)), (1, .int kd)]) C.1 C.2.1 dX8_board_105 hl (k := 0) rfl rfl (by decide) rfl (fun ls hl => ?_)
                refine lv_goto C.1 C.2.1 (tgt := 73) dX8_board_108 (by decide) ?_
                have hUt := hU t (by omega)
                rw [sa_saF _ 22 23 t _ _ (by decide), hUt.1, hUt.2, saF_sa, saF_sa, cut_sI, cut_sI] at hW
                exact ih_73 (t + 1) (x4 + 1) (by omega) ((ti_add ht (show (1 : Int32).toInt = 1 from by decide) (by omega) (by omega)).trans (by omega)) (by omega) _ _ _ hW (lv_sub hl [0, 1, 2] rfl)
          rw [hsp] at hW
          exact L_73_6 _ 0 0 (Nat.lt_succ_self _) (by decide) (by omega) _ _ _ (by rw [cut_0, cut_0]; have h1 := saF_self (sg (sbF τ 0 (cut 256 (newB τ kd) (τ.2.2 0))) 17 (nI (spN τ))) 22; have h2 := saF_self (sg (sbF τ 0 (cut 256 (newB τ kd) (τ.2.2 0))) 17 (nI (spN τ))) 23; have e : saF (saF (sg (sbF τ 0 (cut 256 (newB τ kd) (τ.2.2 0))) 17 (nI (spN τ))) 22 (τ.2.1 22)) 23 (τ.2.1 23) = sg (sbF τ 0 (cut 256 (newB τ kd) (τ.2.2 0))) 17 (nI (spN τ)) := (congrArg (fun z => saF z 23 (τ.2.1 23)) h1).trans h2; rw [e]; exact hW) (lv_sub hl [0, 1, 2] rfl)
        · skip
          have k_5 := (tn_le (show (16 : Int32).toInt = 16 from by decide) hy).mp c_5
          refine lv_iconst C.1 C.2.1 (v := 0) dX8_board_25 (by decide) ?_
          refine lv_istore_n (lv' := [(3, .int 0), (2, .int x2), (0, .ref (q 0)), (1, .int kd)]) C.1 C.2.1 dX8_board_26 rfl hl (by decide) rfl (fun ls hl => ?_)
          have L_27_9 : ∀ (fuel : Nat) (x : Nat) (x3 : Int32), 16 - x < fuel → (x3.toInt = (x : Int)) → (x ≤ 16) → ∀ (H : Heap) (locs : List Loc) (ls : Array Slot), WB G 33 q (eM G q (sbF τ 0 (cut (16 * y + x) (newB τ kd) (τ.2.2 0))) ξ1_3) s H locs → lv_has ls 4 [(3, .int x3), (2, .int x2), (0, .ref (q 0)), (1, .int kd)] → W p l e (rmA 5 121) s m args below meth c H locs 0 0 QQ (F0 m 27 ls []) := by
            intro fuel; induction fuel with
            | zero => intro x x3 hf; exact absurd hf (Nat.not_lt_zero _)
            | succ fuel ih_27 =>
              intro x x3 hf hx hxl H locs ls hW hl
              refine lv_iload_n C.1 C.2.1 dX8_board_27 rfl (lv_at hl 0 rfl) ?_
              refine lv_bipush C.1 C.2.1 (v := 16) dX8_board_28 (by decide) ?_
              refine lv_icmp_ge C.1 C.2.1 (tgt := 57) dX8_board_30 (by decide) (fun c_10 => ?_) (fun c_10 => ?_)
              · skip
                have k_10 := (tc_le (show (16 : Int32).toInt = 16 from by decide) hx).mp c_10
                refine lv_iinc (v := (x2 + 1)) (lv' := [(2, .int (x2 + 1)), (3, .int x3), (0, .ref (q 0)), (1, .int kd)]) C.1 C.2.1 dX8_board_57 hl (k := 1) rfl rfl (by decide) rfl (fun ls hl => ?_)
                refine lv_goto C.1 C.2.1 (tgt := 19) dX8_board_60 (by decide) ?_
                exact ih_19 (y + 1) (x2 + 1) (by omega) ((ti_add hy (show (1 : Int32).toInt = 1 from by decide) (by omega) (by omega)).trans (by omega)) (by omega) _ _ _ (by rw [show 16 * (y + 1) = 16 * y + x from by omega]; exact hW) (lv_sub hl [0, 2, 3] rfl)
              · skip
                have k_10 := (tn_le (show (16 : Int32).toInt = 16 from by decide) hx).mp c_10
                refine lv_aload_n C.1 C.2.1 dX8_board_33 rfl (lv_at hl 2 rfl) ?_
                refine mG_board C hW dX8_board_34 ?_
                refine lv_bipush C.1 C.2.1 (v := 16) dX8_board_37 (by decide) ?_
                refine lv_iload_n C.1 C.2.1 dX8_board_39 rfl (lv_at hl 1 rfl) ?_
                refine lv_imul C.1 C.2.1 dX8_board_40 ?_
                refine lv_iload_n C.1 C.2.1 dX8_board_41 rfl (lv_at hl 0 rfl) ?_
                refine lv_iadd C.1 C.2.1 dX8_board_42 ?_
                refine lv_aload_n C.1 C.2.1 dX8_board_43 rfl (lv_at hl 2 rfl) ?_
                refine lv_iload_n C.1 C.2.1 dX8_board_44 rfl (lv_at hl 3 rfl) ?_
                refine lv_iload_n C.1 C.2.1 dX8_board_45 rfl (lv_at hl 0 rfl) ?_
                refine lv_iload_n C.1 C.2.1 dX8_board_46 rfl (lv_at hl 1 rfl) ?_
                refine go_l hW (run_V (o := 0) (As := [.int kd, .int x3, .int x2]) (rest := [.int ((16 * x2) + x3), .ref (q 14)]) C hW (by decide) rfl rfl (c_X8_cellOf l G q _ (sbF τ 0 (cut (16 * y + x) (newB τ kd) (τ.2.2 0))) ξ1_3 kd x3 x2  h_x h_p) (cw_V 3 C bL_X8_221 bI_X8_cellOf bV_X8_cellOf bN_X8 bC_X8_cellOf ⟨rfl, rfl⟩ (by decide +kernel) ⟨Nat.le_of_ble_eq_true rfl, Nat.le_of_ble_eq_true rfl⟩) rfl hl.1 rfl (Nat.le_of_ble_eq_true rfl) dX8_board_47 ⟨Nat.le_refl _, Nat.le_refl _⟩) (fun r_11 u_11 H locs hp_11 hW => ?_)
                rcases hp_11 with ⟨rfl, rfl, k_11⟩ | ⟨rfl, rfl, k_11⟩
                · skip
                  have hW : WB G 33 q (eM G q (sbF τ 0 (cut (16 * y + x) (newB τ kd) (τ.2.2 0))) ξ1_3) s H locs := hW
                  have ex : x3 = nI x := Int32.toInt_inj.mp (by rw [hx, nI_toInt (by omega)])
                  have ey : x2 = nI y := Int32.toInt_inj.mp (by rw [hy, nI_toInt (by omega)])
                  have eB : (cvS (ξ1_3.2.2 0) (ξ1_3.2.1 0) (ξ1_3.2.1 1) x3 x2 (ξ1_3.1 0).toInt.toNat) = newB τ kd (16 * y + x) := by
                    rw [newB_0 k_11, en, cvS_congr hUP, ex, ey, show (16 * y + x) % 16 = x from by omega, show (16 * y + x) / 16 = y from by omega]
                  refine mS_board C hW ((16 * y) + x) ((ti_add (ti_mul (show (16 : Int32).toInt = 16 from by decide) hy (by omega) (by omega)) hx (by omega) (by omega)).trans (by omega)) (by omega) dX8_board_50 (fun H locs hW => ?_)
                  refine lv_iinc (v := (x3 + 1)) (lv' := [(3, .int (x3 + 1)), (2, .int x2), (0, .ref (q 0)), (1, .int kd)]) C.1 C.2.1 dX8_board_51 hl (k := 0) rfl rfl (by decide) rfl (fun ls hl => ?_)
                  refine lv_goto C.1 C.2.1 (tgt := 27) dX8_board_54 (by decide) ?_
                  rw [eB, sbF_sb, cut_sL] at hW
                  exact ih_27 (x + 1) (x3 + 1) (by omega) ((ti_add hx (show (1 : Int32).toInt = 1 from by decide) (by omega) (by omega)).trans (by omega)) (by omega) _ _ _ hW (lv_sub hl [0, 1, 2, 3] rfl)
                · skip
                  have hW : WB G 33 q (eM G q (sbF τ 0 (cut (16 * y + x) (newB τ kd) (τ.2.2 0))) ξ1_3) s H locs := hW
                  have ex : x3 = nI x := Int32.toInt_inj.mp (by rw [hx, nI_toInt (by omega)])
                  have ey : x2 = nI y := Int32.toInt_inj.mp (by rw [hy, nI_toInt (by omega)])
                  have eB : (cvP ((sbF τ 0 (cut (16 * y + x) (newB τ kd) (τ.2.2 0))).2.1 13) ((sbF τ 0 (cut (16 * y + x) (newB τ kd) (τ.2.2 0))).2.1 11) ((sbF τ 0 (cut (16 * y + x) (newB τ kd) (τ.2.2 0))).2.1 12) (ξ1_3.2.1 0) (ξ1_3.2.1 1) (ξ1_3.1 0).toInt.toNat x3 x2 ((sbF τ 0 (cut (16 * y + x) (newB τ kd) (τ.2.2 0))).1 3).toInt.toNat) = newB τ kd (16 * y + x) := by
                    show cvP (τ.2.1 13) (τ.2.1 11) (τ.2.1 12) (ξ1_3.2.1 0) (ξ1_3.2.1 1) (ξ1_3.1 0).toInt.toNat x3 x2 (τ.1 3).toInt.toNat = newB τ kd (16 * y + x)
                    rw [newB_1 k_11, en, cvP_congr hU, ex, ey, show (16 * y + x) % 16 = x from by omega, show (16 * y + x) / 16 = y from by omega]
                  refine mS_board C hW ((16 * y) + x) ((ti_add (ti_mul (show (16 : Int32).toInt = 16 from by decide) hy (by omega) (by omega)) hx (by omega) (by omega)).trans (by omega)) (by omega) dX8_board_50 (fun H locs hW => ?_)
                  refine lv_iinc (v := (x3 + 1)) (lv' := [(3, .int (x3 + 1)), (2, .int x2), (0, .ref (q 0)), (1, .int kd)]) C.1 C.2.1 dX8_board_51 hl (k := 0) rfl rfl (by decide) rfl (fun ls hl => ?_)
                  refine lv_goto C.1 C.2.1 (tgt := 27) dX8_board_54 (by decide) ?_
                  rw [eB, sbF_sb, cut_sL] at hW
                  exact ih_27 (x + 1) (x3 + 1) (by omega) ((ti_add hx (show (1 : Int32).toInt = 1 from by decide) (by omega) (by omega)).trans (by omega)) (by omega) _ _ _ hW (lv_sub hl [0, 1, 2, 3] rfl)
          exact L_27_9 _ 0 0 (Nat.lt_succ_self _) (by decide) (by omega) _ _ _ hW (lv_sub hl [0, 1, 2, 3] rfl)
    exact L_19_4 _ 0 0 (Nat.lt_succ_self _) (by decide) (by omega) _ _ _ (by rw [show 16 * 0 = 0 from rfl, cut_0, sbF_self]; exact hW) (lv_sub hl [0, 1, 2] rfl)
  · skip
    have hW : WB G 33 q (eM G q τ ξ) s H locs := hW
    refine lv_if_ne C.1 C.2.1 (tgt := 13) dX8_board_7 (by decide) (fun c => absurd c (by decide)) (fun _ => ?_)
    refine lv_bipush C.1 C.2.1 (v := (-2)) dX8_board_10 (by decide) ?_
    subst hQ
    exact r_iret (τ, ξ) C hW hr hk dX8_board_12 (show sp_board τ kd = ((-2), τ) from by unfold sp_board; (repeat (first | rw [if_pos (by omega)] | rw [if_neg (by omega)])); first | done | rfl)
