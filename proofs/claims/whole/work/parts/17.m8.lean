/-! copy and digest -/
theorem sp_count_2 (τ : ST) (w : Int32) : (sp_count τ w).2 = τ := by
  unfold sp_count; (repeat' split) <;> rfl
theorem sp_ticks_2 (τ : ST) (i j : Int32) : (sp_ticks τ i j).2 = τ := by
  unfold sp_ticks; split <;> rfl
theorem sp_product_2 (τ : ST) (i j : Int32) : (sp_product τ i j).2 = τ := by
  unfold sp_product; split <;> rfl
def dg0 (τ : ST) : Nat → Int64
  | 0 => 17
  | k + 1 => 31 * dg0 τ k + ((sp_count τ (nI k)).1).toInt64
noncomputable def dgR (τ : ST) (i : Nat) (h : Int64) : Nat → Int64
  | 0 => h
  | k + 1 => 31 * (31 * dgR τ i h k + ((sp_ticks τ (nI i) (nI (i + 1 + k))).1).toInt64) + (sp_product τ (nI i) (nI (i + 1 + k))).1
noncomputable def dgP (τ : ST) (n : Nat) (h : Int64) : Nat → Int64
  | 0 => h
  | i + 1 => dgR τ i (dgP τ n h i) (n - (i + 1))
def dgC (f : Nat → Int64) (h : Int64) : Nat → Int64
  | 0 => h
  | k + 1 => 31 * dgC f h k + f k
noncomputable def sp_digest (τ : ST) : Int64 × ST := (dgC (τ.2.2 0) (dgP τ (τ.1 0).toInt.toNat (dg0 τ 6) (τ.1 0).toInt.toNat) 256, τ)
set_option maxHeartbeats 4000000 in
set_option maxRecDepth 100000 in
theorem c_X8_digest (l : Launch) (G : GG) (q : Nat → Nat) (sz : Nat) (τ ξ : ST) (h_d : 0 ≤ (τ.1 0).toInt ∧ (τ.1 0).toInt ≤ 6) (h_l : ∀ d : Nat, d < 6 → 0 ≤ (τ.2.1 2 d).toInt ∧ (τ.2.1 2 d).toInt ≤ 30) (h_f : 0 ≤ (τ.1 2).toInt ∧ (τ.1 2).toInt ≤ 40) (h_s : ∀ d : Nat, d < 6 → 0 ≤ (τ.2.1 6 d).toInt ∧ (τ.2.1 6 d).toInt ≤ 100) : Met l yX8_digest (WSb yX8_digest cX8_digest 5 (some .long)) (rmA 5 121) (va_Pc [.ref (q 0)] (PW G 33 q sz (eM G q τ ξ))) (va_Ql (fun (r : Int64) (u : (ST × ST)) => sp_digest τ = (r, u.1)) (fun u => BW G 33 q (eM G q u.1 u.2)) (FA 33 q sz)) 0 0 (FA 33 q sz) := by
  refine Met_B (own := RX8) rfl (by decide) (Nat.le_of_ble_eq_true rfl) (fun p e s m args below meth c ls hsz C hW hr hk hl QQ hQ => ?_)
  subst hsz
  have hl : lv_has ls 5 [(0, .ref (q 0))] := hl
  refine lv_ldc2 C.1 C.2.1 C.2.2.2.1 (C.2.2.2.2.1 _ bQ_X8_298) dX8_digest_0 ?_
  refine lv_lstore_n (lv' := [(1, .long 17), (0, .ref (q 0))]) C.1 C.2.1 dX8_digest_3 rfl hl (by decide) rfl (fun ls hl => ?_)
  refine lv_iconst C.1 C.2.1 (v := 0) dX8_digest_4 (by decide) ?_
  refine lv_istore_n (lv' := [(3, .int 0), (1, .long 17), (0, .ref (q 0))]) C.1 C.2.1 dX8_digest_5 rfl hl (by decide) rfl (fun ls hl => ?_)
  have L_6_1 : ∀ (fuel : Nat) (k : Nat) (x1 : Int64) (x3 : Int32) (ξ1 : ST), 6 - k < fuel → (x3.toInt = (k : Int)) → (k ≤ 6) → (x1 = dg0 τ k) → ∀ (H : Heap) (locs : List Loc) (ls : Array Slot), WB G 33 q (eM G q τ ξ1) s H locs → lv_has ls 5 [(3, .int x3), (1, .long x1), (0, .ref (q 0))] → W p l e (rmA 5 121) s m args below meth c H locs 0 0 QQ (F0 m 6 ls []) := by
    intro fuel; induction fuel with
    | zero => intro k x1 x3 ξ1 hf; exact absurd hf (Nat.not_lt_zero _)
    | succ fuel ih_6 =>
      intro k x1 x3 ξ1 hf hk3 hkl hh H locs ls hW hl
      refine lv_iload_n C.1 C.2.1 dX8_digest_6 rfl (lv_at hl 0 rfl) ?_
      refine lv_bipush C.1 C.2.1 (v := 6) dX8_digest_7 (by decide) ?_
      refine lv_icmp_ge C.1 C.2.1 (tgt := 31) dX8_digest_9 (by decide) (fun c_2 => ?_) (fun c_2 => ?_)
      · skip
        have k_2 := (tc_le (show (6 : Int32).toInt = 6 from by decide) hk3).mp c_2
        refine lv_iconst C.1 C.2.1 (v := 0) dX8_digest_31 (by decide) ?_
        refine lv_istore_n (lv' := [(3, .int 0), (1, .long x1), (0, .ref (q 0))]) C.1 C.2.1 dX8_digest_32 rfl hl (by decide) rfl (fun ls hl => ?_)
        have L_33_3 : ∀ (fuel : Nat) (i : Nat) (x5 : Int64) (x6 : Int32) (ξ2 : ST), (τ.1 0).toInt.toNat - i < fuel → (x6.toInt = (i : Int)) → (i ≤ (τ.1 0).toInt.toNat) → (x5 = dgP τ (τ.1 0).toInt.toNat (dg0 τ 6) i) → ∀ (H : Heap) (locs : List Loc) (ls : Array Slot), WB G 33 q (eM G q τ ξ2) s H locs → lv_has ls 5 [(3, .int x6), (1, .long x5), (0, .ref (q 0))] → W p l e (rmA 5 121) s m args below meth c H locs 0 0 QQ (F0 m 33 ls []) := by
          intro fuel; induction fuel with
          | zero => intro i x5 x6 ξ2 hf; exact absurd hf (Nat.not_lt_zero _)
          | succ fuel ih_33 =>
            intro i x5 x6 ξ2 hf hi hil hh2 H locs ls hW hl
            refine lv_iload_n C.1 C.2.1 dX8_digest_33 rfl (lv_at hl 0 rfl) ?_
            refine lv_aload_n C.1 C.2.1 dX8_digest_34 rfl (lv_at hl 2 rfl) ?_
            refine mG_dishes C hW (v := (τ.1 0)) rfl dX8_digest_35 ?_
            refine lv_icmp_ge C.1 C.2.1 (tgt := 96) dX8_digest_38 (by decide) (fun c_4 => ?_) (fun c_4 => ?_)
            · skip
              have k_4 := (tc_le (rfl : ((τ.1 0)).toInt = ((τ.1 0)).toInt) hi).mp c_4
              refine lv_iconst C.1 C.2.1 (v := 0) dX8_digest_96 (by decide) ?_
              refine lv_istore_n (lv' := [(3, .int 0), (1, .long x5), (0, .ref (q 0))]) C.1 C.2.1 dX8_digest_97 rfl hl (by decide) rfl (fun ls hl => ?_)
              have L_98_5 : ∀ (fuel : Nat) (z : Nat) (x9 : Int64) (x10 : Int32), 256 - z < fuel → (x10.toInt = (z : Int)) → (z ≤ 256) → (x9 = dgC (τ.2.2 0) (dgP τ (τ.1 0).toInt.toNat (dg0 τ 6) (τ.1 0).toInt.toNat) z) → ∀ (H : Heap) (locs : List Loc) (ls : Array Slot), WB G 33 q (eM G q τ ξ2) s H locs → lv_has ls 5 [(3, .int x10), (1, .long x9), (0, .ref (q 0))] → W p l e (rmA 5 121) s m args below meth c H locs 0 0 QQ (F0 m 98 ls []) := by
                intro fuel; induction fuel with
                | zero => intro z x9 x10 hf; exact absurd hf (Nat.not_lt_zero _)
                | succ fuel ih_98 =>
                  intro z x9 x10 hf hz hzl hh4 H locs ls hW hl
                  refine lv_iload_n C.1 C.2.1 dX8_digest_98 rfl (lv_at hl 0 rfl) ?_
                  refine lv_sipush C.1 C.2.1 (v := 256) dX8_digest_99 (by decide) ?_
                  refine lv_icmp_ge C.1 C.2.1 (tgt := 124) dX8_digest_102 (by decide) (fun c_6 => ?_) (fun c_6 => ?_)
                  · skip
                    have k_6 := (tc_le (show (256 : Int32).toInt = 256 from by decide) hz).mp c_6
                    refine lv_lload_n C.1 C.2.1 dX8_digest_124 rfl (lv_at hl 1 rfl) ?_
                    subst hQ
                    exact r_lret (τ, ξ2) C hW hr hk dX8_digest_125 (show sp_digest τ = (x9, τ) from by unfold sp_digest; rw [hh4, show z = 256 from by omega])
                  · skip
                    have k_6 := (tn_le (show (256 : Int32).toInt = 256 from by decide) hz).mp c_6
                    refine lv_ldc2 C.1 C.2.1 C.2.2.2.1 (C.2.2.2.2.1 _ bQ_X8_300) dX8_digest_105 ?_
                    refine lv_lload_n C.1 C.2.1 dX8_digest_108 rfl (lv_at hl 1 rfl) ?_
                    refine lv_lmul C.1 C.2.1 dX8_digest_109 ?_
                    refine lv_aload_n C.1 C.2.1 dX8_digest_110 rfl (lv_at hl 2 rfl) ?_
                    refine mG_board C hW dX8_digest_111 ?_
                    refine lv_iload_n C.1 C.2.1 dX8_digest_114 rfl (lv_at hl 0 rfl) ?_
                    refine mL_board C hW z (hz.trans (by omega)) (by omega) (v := (τ.2.2 0 z)) rfl dX8_digest_115 ?_
                    refine lv_ladd C.1 C.2.1 dX8_digest_116 ?_
                    refine lv_lstore_n (lv' := [(1, .long ((31 * x9) + (τ.2.2 0 z))), (3, .int x10), (0, .ref (q 0))]) C.1 C.2.1 dX8_digest_117 rfl hl (by decide) rfl (fun ls hl => ?_)
                    refine lv_iinc (v := (x10 + 1)) (lv' := [(3, .int (x10 + 1)), (1, .long ((31 * x9) + (τ.2.2 0 z))), (0, .ref (q 0))]) C.1 C.2.1 dX8_digest_118 hl (k := 1) rfl rfl (by decide) rfl (fun ls hl => ?_)
                    refine lv_goto C.1 C.2.1 (tgt := 98) dX8_digest_121 (by decide) ?_
                    exact ih_98 (z + 1) ((31 * x9) + (τ.2.2 0 z)) (x10 + 1) (by omega) ((ti_add hz (show (1 : Int32).toInt = 1 from by decide) (by omega) (by omega)).trans (by omega)) (by omega) (by rw [hh4]; rfl) _ _ _ hW (lv_sub hl [0, 1, 2] rfl)
              exact L_98_5 _ 0 x5 0 (Nat.lt_succ_self _) (by decide) (by omega) (by rw [hh2, show i = (τ.1 0).toInt.toNat from by omega]; rfl) _ _ _ hW (lv_sub hl [0, 1, 2] rfl)
            · skip
              have k_4 := (tn_le (rfl : ((τ.1 0)).toInt = ((τ.1 0)).toInt) hi).mp c_4
              refine lv_iload_n C.1 C.2.1 dX8_digest_41 rfl (lv_at hl 0 rfl) ?_
              refine lv_iconst C.1 C.2.1 (v := 1) dX8_digest_42 (by decide) ?_
              refine lv_iadd C.1 C.2.1 dX8_digest_43 ?_
              refine lv_istore (lv' := [(4, .int (x6 + 1)), (3, .int x6), (1, .long x5), (0, .ref (q 0))]) C.1 C.2.1 dX8_digest_44 hl (by decide) rfl (fun ls hl => ?_)
              have L_46_7 : ∀ (fuel : Nat) (j : Nat) (x7 : Int64) (x8 : Int32) (ξ3 : ST), (τ.1 0).toInt.toNat - j < fuel → (x8.toInt = ((i + 1 + j : Nat) : Int)) → (i + 1 + j ≤ (τ.1 0).toInt.toNat) → (x7 = dgR τ i (dgP τ (τ.1 0).toInt.toNat (dg0 τ 6) i) j) → ∀ (H : Heap) (locs : List Loc) (ls : Array Slot), WB G 33 q (eM G q τ ξ3) s H locs → lv_has ls 5 [(4, .int x8), (3, .int x6), (1, .long x7), (0, .ref (q 0))] → W p l e (rmA 5 121) s m args below meth c H locs 0 0 QQ (F0 m 46 ls []) := by
                intro fuel; induction fuel with
                | zero => intro j x7 x8 ξ3 hf; exact absurd hf (Nat.not_lt_zero _)
                | succ fuel ih_46 =>
                  intro j x7 x8 ξ3 hf hj hjl hh3 H locs ls hW hl
                  refine lv_iload C.1 C.2.1 dX8_digest_46 (lv_at hl 0 rfl) ?_
                  refine lv_aload_n C.1 C.2.1 dX8_digest_48 rfl (lv_at hl 3 rfl) ?_
                  refine mG_dishes C hW (v := (τ.1 0)) rfl dX8_digest_49 ?_
                  refine lv_icmp_ge C.1 C.2.1 (tgt := 90) dX8_digest_52 (by decide) (fun c_8 => ?_) (fun c_8 => ?_)
                  · skip
                    have k_8 := (tc_le (rfl : ((τ.1 0)).toInt = ((τ.1 0)).toInt) hj).mp c_8
                    have ej : j = (τ.1 0).toInt.toNat - (i + 1) := by omega
                    refine lv_iinc (v := (x6 + 1)) (lv' := [(3, .int (x6 + 1)), (4, .int x8), (1, .long x7), (0, .ref (q 0))]) C.1 C.2.1 dX8_digest_90 hl (k := 1) rfl rfl (by decide) rfl (fun ls hl => ?_)
                    refine lv_goto C.1 C.2.1 (tgt := 33) dX8_digest_93 (by decide) ?_
                    exact ih_33 (i + 1) x7 (x6 + 1) ξ3 (by omega) ((ti_add hi (show (1 : Int32).toInt = 1 from by decide) (by omega) (by omega)).trans (by omega)) (by omega) (by rw [hh3, ej]; rfl) _ _ _ hW (lv_sub hl [0, 2, 3] rfl)
                  · skip
                    have k_8 := (tn_le (rfl : ((τ.1 0)).toInt = ((τ.1 0)).toInt) hj).mp c_8
                    refine lv_ldc2 C.1 C.2.1 C.2.2.2.1 (C.2.2.2.2.1 _ bQ_X8_300) dX8_digest_55 ?_
                    refine lv_lload_n C.1 C.2.1 dX8_digest_58 rfl (lv_at hl 2 rfl) ?_
                    refine lv_lmul C.1 C.2.1 dX8_digest_59 ?_
                    refine lv_aload_n C.1 C.2.1 dX8_digest_60 rfl (lv_at hl 3 rfl) ?_
                    refine lv_iload_n C.1 C.2.1 dX8_digest_61 rfl (lv_at hl 1 rfl) ?_
                    refine lv_iload C.1 C.2.1 dX8_digest_62 (lv_at hl 0 rfl) ?_
                    refine go_i hW (run_V (o := 0) (As := [.int x6, .int x8]) (rest := [.long (31 * x7)]) C hW (by decide) rfl rfl (c_X8_ticks l G q _ τ ξ3 x6 x8  h_d h_l h_f h_s) (cw_V 2 C bL_X8_305 bI_X8_ticks bV_X8_ticks bN_X8 bC_X8_ticks ⟨rfl, rfl⟩ (by decide +kernel) ⟨Nat.le_of_ble_eq_true rfl, Nat.le_of_ble_eq_true rfl⟩) rfl hl.1 rfl (Nat.le_of_ble_eq_true rfl) dX8_digest_64 ⟨Nat.le_refl _, Nat.le_refl _⟩) (fun r_9 u_9 H locs hp_9 hW => ?_)
                    obtain ⟨τ_9, ξ_9⟩ := u_9
                    have et_9 : τ = τ_9 := (sp_ticks_2 τ x6 x8).symm.trans (congrArg Prod.snd hp_9)
                    have er_9 : r_9 = (sp_ticks τ x6 x8).1 := (congrArg Prod.fst hp_9).symm
                    have hW : WB G 33 q (eM G q τ ξ_9) s H locs := by rw [et_9]; exact hW
                    have hrt := er_9
                    refine lv_i2l C.1 C.2.1 dX8_digest_67 rfl ?_
                    refine lv_ladd C.1 C.2.1 dX8_digest_68 ?_
                    refine lv_lstore_n (lv' := [(1, .long ((31 * x7) + (r_9).toInt64)), (4, .int x8), (3, .int x6), (0, .ref (q 0))]) C.1 C.2.1 dX8_digest_69 rfl hl (by decide) rfl (fun ls hl => ?_)
                    refine lv_ldc2 C.1 C.2.1 C.2.2.2.1 (C.2.2.2.2.1 _ bQ_X8_300) dX8_digest_70 ?_
                    refine lv_lload_n C.1 C.2.1 dX8_digest_73 rfl (lv_at hl 0 rfl) ?_
                    refine lv_lmul C.1 C.2.1 dX8_digest_74 ?_
                    refine lv_aload_n C.1 C.2.1 dX8_digest_75 rfl (lv_at hl 3 rfl) ?_
                    refine lv_iload_n C.1 C.2.1 dX8_digest_76 rfl (lv_at hl 2 rfl) ?_
                    refine lv_iload C.1 C.2.1 dX8_digest_77 (lv_at hl 1 rfl) ?_
                    refine go_l hW (run_V (o := 0) (As := [.int x6, .int x8]) (rest := [.long (31 * ((31 * x7) + (r_9).toInt64))]) C hW (by decide) rfl rfl (c_X8_product l G q _ τ ξ_9 x6 x8  h_d h_l h_f h_s) (cw_V 2 C bL_X8_308 bI_X8_product bV_X8_product bN_X8 bC_X8_product ⟨rfl, rfl⟩ (by decide +kernel) ⟨Nat.le_of_ble_eq_true rfl, Nat.le_of_ble_eq_true rfl⟩) rfl hl.1 rfl (Nat.le_of_ble_eq_true rfl) dX8_digest_79 ⟨Nat.le_refl _, Nat.le_refl _⟩) (fun r_10 u_10 H locs hp_10 hW => ?_)
                    obtain ⟨τ_10, ξ_10⟩ := u_10
                    have et_10 : τ = τ_10 := (sp_product_2 τ x6 x8).symm.trans (congrArg Prod.snd hp_10)
                    have er_10 : r_10 = (sp_product τ x6 x8).1 := (congrArg Prod.fst hp_10).symm
                    have hW : WB G 33 q (eM G q τ ξ_10) s H locs := by rw [et_10]; exact hW
                    have hrp := er_10
                    have e_x6 : x6 = nI i := Int32.toInt_inj.mp (by rw [hi, nI_toInt (by omega)])
                    have e_x8 : x8 = nI (i + 1 + j) := Int32.toInt_inj.mp (by rw [hj, nI_toInt (by omega)])
                    refine lv_ladd C.1 C.2.1 dX8_digest_82 ?_
                    refine lv_lstore_n (lv' := [(1, .long ((31 * ((31 * x7) + (r_9).toInt64)) + r_10)), (4, .int x8), (3, .int x6), (0, .ref (q 0))]) C.1 C.2.1 dX8_digest_83 rfl hl (by decide) rfl (fun ls hl => ?_)
                    refine lv_iinc (v := (x8 + 1)) (lv' := [(4, .int (x8 + 1)), (1, .long ((31 * ((31 * x7) + (r_9).toInt64)) + r_10)), (3, .int x6), (0, .ref (q 0))]) C.1 C.2.1 dX8_digest_84 hl (k := 1) rfl rfl (by decide) rfl (fun ls hl => ?_)
                    refine lv_goto C.1 C.2.1 (tgt := 46) dX8_digest_87 (by decide) ?_
                    exact ih_46 (j + 1) ((31 * ((31 * x7) + (r_9).toInt64)) + r_10) (x8 + 1) ξ_10 (by omega) ((ti_add hj (show (1 : Int32).toInt = 1 from by decide) (by omega) (by omega)).trans (by omega)) (by omega) (by rw [hrp, hrt, hh3, e_x6, e_x8]; rfl) _ _ _ hW (lv_sub hl [0, 2, 1, 3] rfl)
              exact L_46_7 _ 0 x5 (x6 + 1) ξ2 (Nat.lt_succ_self _) ((ti_add hi (show (1 : Int32).toInt = 1 from by decide) (by omega) (by omega)).trans (by omega)) (by omega) hh2 _ _ _ hW (lv_sub hl [0, 1, 2, 3] rfl)
        exact L_33_3 _ 0 x1 0 ξ1 (Nat.lt_succ_self _) (by decide) (by omega) (by rw [hh, show k = 6 from by omega]; rfl) _ _ _ hW (lv_sub hl [0, 1, 2] rfl)
      · skip
        have k_2 := (tn_le (show (6 : Int32).toInt = 6 from by decide) hk3).mp c_2
        refine lv_ldc2 C.1 C.2.1 C.2.2.2.1 (C.2.2.2.2.1 _ bQ_X8_300) dX8_digest_12 ?_
        refine lv_lload_n C.1 C.2.1 dX8_digest_15 rfl (lv_at hl 1 rfl) ?_
        refine lv_lmul C.1 C.2.1 dX8_digest_16 ?_
        refine lv_aload_n C.1 C.2.1 dX8_digest_17 rfl (lv_at hl 2 rfl) ?_
        refine lv_iload_n C.1 C.2.1 dX8_digest_18 rfl (lv_at hl 0 rfl) ?_
        refine go_i hW (run_V (o := 0) (As := [.int x3]) (rest := [.long (31 * x1)]) C hW (by decide) rfl rfl (c_X8_count l G q _ τ ξ1 x3  ) (cw_V 1 C bL_X8_302 bI_X8_count bV_X8_count bN_X8 bC_X8_count ⟨rfl, rfl⟩ (by decide +kernel) ⟨Nat.le_of_ble_eq_true rfl, Nat.le_of_ble_eq_true rfl⟩) rfl hl.1 rfl (Nat.le_of_ble_eq_true rfl) dX8_digest_19 ⟨Nat.le_refl _, Nat.le_refl _⟩) (fun r_11 u_11 H locs hp_11 hW => ?_)
        obtain ⟨τ_11, ξ_11⟩ := u_11
        have et_11 : τ = τ_11 := (sp_count_2 τ x3).symm.trans (congrArg Prod.snd hp_11)
        have er_11 : r_11 = (sp_count τ x3).1 := (congrArg Prod.fst hp_11).symm
        have hW : WB G 33 q (eM G q τ ξ_11) s H locs := by rw [et_11]; exact hW
        have hrr := er_11
        have e_x3 : x3 = nI k := Int32.toInt_inj.mp (by rw [hk3, nI_toInt (by omega)])
        refine lv_i2l C.1 C.2.1 dX8_digest_22 rfl ?_
        refine lv_ladd C.1 C.2.1 dX8_digest_23 ?_
        refine lv_lstore_n (lv' := [(1, .long ((31 * x1) + (r_11).toInt64)), (3, .int x3), (0, .ref (q 0))]) C.1 C.2.1 dX8_digest_24 rfl hl (by decide) rfl (fun ls hl => ?_)
        refine lv_iinc (v := (x3 + 1)) (lv' := [(3, .int (x3 + 1)), (1, .long ((31 * x1) + (r_11).toInt64)), (0, .ref (q 0))]) C.1 C.2.1 dX8_digest_25 hl (k := 1) rfl rfl (by decide) rfl (fun ls hl => ?_)
        refine lv_goto C.1 C.2.1 (tgt := 6) dX8_digest_28 (by decide) ?_
        exact ih_6 (k + 1) ((31 * x1) + (r_11).toInt64) (x3 + 1) ξ_11 (by omega) ((ti_add hk3 (show (1 : Int32).toInt = 1 from by decide) (by omega) (by omega)).trans (by omega)) (by omega) (by rw [hrr, hh, e_x3]; rfl) _ _ _ hW (lv_sub hl [0, 1, 2] rfl)
  exact L_6_1 _ 0 17 0 ξ (Nat.lt_succ_self _) (by decide) (by omega) rfl _ _ _ hW (lv_sub hl [0, 1, 2] rfl)
set_option maxHeartbeats 4000000 in
set_option maxRecDepth 100000 in
theorem c_X8_copy (l : Launch) (G : GG) (q : Nat → Nat) (sz : Nat) (τ ξ : ST) (d : Int32) (i : Int32) (e2 : Int32) (j : Int32) (n : Int32) (h_d : 0 ≤ (τ.1 0).toInt ∧ (τ.1 0).toInt ≤ 6) (h_s : ∀ d : Nat, d < 6 → 0 ≤ (τ.2.1 6 d).toInt ∧ (τ.2.1 6 d).toInt ≤ 100) : Met l yX8_copy (WSb yX8_copy cX8_copy 7 (some .int)) (rmA 2 46) (va_Pc [.ref (q 0), .int d, .int i, .int e2, .int j, .int n] (PW G 33 q sz (eM G q τ ξ))) (va_Qi (fun (r : Int32) (u : (ST × ST)) => sp_copy τ d i e2 j n = (r, u.1)) (fun u => BW G 33 q (eM G q u.1 u.2)) (FA 33 q sz)) 0 0 (FA 33 q sz) := by
  refine Met_B (own := RX8) rfl (by decide) (Nat.le_of_ble_eq_true rfl) (fun p e s m args below meth c ls hsz C hW hr hk hl QQ hQ => ?_)
  subst hsz
  have hl : lv_has ls 7 [(0, .ref (q 0)), (1, .int d), (2, .int i), (3, .int e2), (4, .int j), (5, .int n)] := hl
  have q1 : i.toInt < 2147483648 := Int32.toInt_lt i
  have q2 : j.toInt < 2147483648 := Int32.toInt_lt j
  have q3 : n.toInt < 2147483648 := Int32.toInt_lt n
  have l1 := h_s d.toInt.toNat
  have l2 := h_s e2.toInt.toNat
  refine lv_aload_n C.1 C.2.1 dX8_copy_0 rfl (lv_at hl 0 rfl) ?_
  refine lv_iload_n C.1 C.2.1 dX8_copy_1 rfl (lv_at hl 1 rfl) ?_
  refine go_i hW (run_V (o := 0) (As := [.int d]) (rest := []) C hW (by decide) rfl rfl (c_X8_isDish l G q _ τ ξ d  h_d) (cw_V 1 C bL_X8_129 bI_X8_isDish bV_X8_isDish bN_X8 bC_X8_isDish ⟨rfl, rfl⟩ (by decide +kernel) ⟨Nat.le_of_ble_eq_true rfl, Nat.le_of_ble_eq_true rfl⟩) rfl hl.1 rfl (Nat.le_of_ble_eq_true rfl) dX8_copy_2 ⟨Nat.le_refl _, Nat.le_refl _⟩) (fun r_1 u_1 H locs hp_1 hW => ?_)
  rcases hp_1 with ⟨rfl, rfl, k_1_0, k_1_1⟩ | ⟨rfl, rfl, k_1⟩
  · skip
    have hW : WB G 33 q (eM G q τ ξ) s H locs := hW
    refine lv_if_eq C.1 C.2.1 (tgt := 16) dX8_copy_5 (by decide) (fun c => absurd c (by decide)) (fun _ => ?_)
    refine lv_aload_n C.1 C.2.1 dX8_copy_8 rfl (lv_at hl 0 rfl) ?_
    refine lv_iload_n C.1 C.2.1 dX8_copy_9 rfl (lv_at hl 3 rfl) ?_
    refine go_i hW (run_V (o := 0) (As := [.int e2]) (rest := []) C hW (by decide) rfl rfl (c_X8_isDish l G q _ τ ξ e2  h_d) (cw_V 1 C bL_X8_129 bI_X8_isDish bV_X8_isDish bN_X8 bC_X8_isDish ⟨rfl, rfl⟩ (by decide +kernel) ⟨Nat.le_of_ble_eq_true rfl, Nat.le_of_ble_eq_true rfl⟩) rfl hl.1 rfl (Nat.le_of_ble_eq_true rfl) dX8_copy_10 ⟨Nat.le_refl _, Nat.le_refl _⟩) (fun r_3 u_3 H locs hp_3 hW => ?_)
    rcases hp_3 with ⟨rfl, rfl, k_3_0, k_3_1⟩ | ⟨rfl, rfl, k_3⟩
    · skip
      have hW : WB G 33 q (eM G q τ ξ) s H locs := hW
      refine lv_if_ne C.1 C.2.1 (tgt := 19) dX8_copy_13 (by decide) (fun _ => ?_) (fun c => absurd c (by decide))
      refine lv_aload_n C.1 C.2.1 dX8_copy_19 rfl (lv_at hl 0 rfl) ?_
      refine mG_isThere C hW dX8_copy_20 ?_
      refine lv_iload_n C.1 C.2.1 dX8_copy_23 rfl (lv_at hl 1 rfl) ?_
      refine mL_isThere C hW (((d).toInt).toNat) ((rfl : (d).toInt = (d).toInt).trans (by omega)) (by omega) (v := (τ.2.1 4 (((d).toInt).toNat))) rfl dX8_copy_24 ?_
      refine lv_if_eq C.1 C.2.1 (tgt := 37) dX8_copy_25 (by decide) (fun c_5 => ?_) (fun c_5 => ?_)
      · skip
        have k_5 := (tc_eq (rfl : ((τ.2.1 4 (((d).toInt).toNat))).toInt = ((τ.2.1 4 (((d).toInt).toNat))).toInt) (show (0 : Int32).toInt = 0 from by decide)).mp c_5
        refine lv_aload_n C.1 C.2.1 dX8_copy_37 rfl (lv_at hl 0 rfl) ?_
        refine lv_iconst C.1 C.2.1 (v := 1) dX8_copy_38 (by decide) ?_
        refine go_i hW (run_V (o := 0) (As := [.int 1]) (rest := []) C hW (by decide) rfl rfl (c_X8_meets l G q _ τ ξ 1  ) (cw_V 1 C bL_X8_141 bI_X8_meets bV_X8_meets bN_X8 bC_X8_meets ⟨rfl, rfl⟩ (by decide +kernel) ⟨Nat.le_of_ble_eq_true rfl, Nat.le_of_ble_eq_true rfl⟩) rfl hl.1 rfl (Nat.le_of_ble_eq_true rfl) dX8_copy_39 ⟨Nat.le_refl _, Nat.le_refl _⟩) (fun r_6 u_6 H locs hp_6 hW => ?_)
        rcases hp_6 with ⟨rfl, rfl⟩
        have hW : WB G 33 q (eM G q (sg τ 1 1) ξ) s H locs := hW
        subst hQ
        exact r_iret ((sg τ 1 1), ξ) C hW hr hk dX8_copy_42 (show sp_copy τ d i e2 j n = ((-10 - 1), (sg τ 1 1)) from by unfold sp_copy; (repeat (first | rw [if_pos (by omega)] | rw [if_neg (by omega)])); first | done | rfl)
      · skip
        have k_5 := (tn_eq (rfl : ((τ.2.1 4 (((d).toInt).toNat))).toInt = ((τ.2.1 4 (((d).toInt).toNat))).toInt) (show (0 : Int32).toInt = 0 from by decide)).mp c_5
        refine lv_aload_n C.1 C.2.1 dX8_copy_28 rfl (lv_at hl 0 rfl) ?_
        refine mG_isThere C hW dX8_copy_29 ?_
        refine lv_iload_n C.1 C.2.1 dX8_copy_32 rfl (lv_at hl 3 rfl) ?_
        refine mL_isThere C hW (((e2).toInt).toNat) ((rfl : (e2).toInt = (e2).toInt).trans (by omega)) (by omega) (v := (τ.2.1 4 (((e2).toInt).toNat))) rfl dX8_copy_33 ?_
        refine lv_if_ne C.1 C.2.1 (tgt := 43) dX8_copy_34 (by decide) (fun c_7 => ?_) (fun c_7 => ?_)
        · skip
          have k_7 := (tn_eq (rfl : ((τ.2.1 4 (((e2).toInt).toNat))).toInt = ((τ.2.1 4 (((e2).toInt).toNat))).toInt) (show (0 : Int32).toInt = 0 from by decide)).mp c_7
          refine lv_aload_n C.1 C.2.1 dX8_copy_43 rfl (lv_at hl 0 rfl) ?_
          refine mG_forms C hW dX8_copy_44 ?_
          refine lv_iload_n C.1 C.2.1 dX8_copy_47 rfl (lv_at hl 1 rfl) ?_
          refine mL_forms C hW (((d).toInt).toNat) ((rfl : (d).toInt = (d).toInt).trans (by omega)) (by omega) (v := (τ.2.1 5 (((d).toInt).toNat))) rfl dX8_copy_48 ?_
          refine lv_aload_n C.1 C.2.1 dX8_copy_49 rfl (lv_at hl 0 rfl) ?_
          refine mG_forms C hW dX8_copy_50 ?_
          refine lv_iload_n C.1 C.2.1 dX8_copy_53 rfl (lv_at hl 3 rfl) ?_
          refine mL_forms C hW (((e2).toInt).toNat) ((rfl : (e2).toInt = (e2).toInt).trans (by omega)) (by omega) (v := (τ.2.1 5 (((e2).toInt).toNat))) rfl dX8_copy_54 ?_
          refine lv_icmp_eq C.1 C.2.1 (tgt := 64) dX8_copy_55 (by decide) (fun c_8 => ?_) (fun c_8 => ?_)
          · skip
            have k_8 := (tc_eq (rfl : ((τ.2.1 5 (((d).toInt).toNat))).toInt = ((τ.2.1 5 (((d).toInt).toNat))).toInt) (rfl : ((τ.2.1 5 (((e2).toInt).toNat))).toInt = ((τ.2.1 5 (((e2).toInt).toNat))).toInt)).mp c_8
            refine lv_iload_n C.1 C.2.1 dX8_copy_64 rfl (lv_at hl 2 rfl) ?_
            refine lv_if_lt C.1 C.2.1 (tgt := 113) dX8_copy_65 (by decide) (fun c_9 => ?_) (fun c_9 => ?_)
            · skip
              have k_9 := (tc_lt (rfl : (i).toInt = (i).toInt) (show (0 : Int32).toInt = 0 from by decide)).mp c_9
              refine lv_aload_n C.1 C.2.1 dX8_copy_113 rfl (lv_at hl 0 rfl) ?_
              refine lv_iconst C.1 C.2.1 (v := 2) dX8_copy_114 (by decide) ?_
              refine go_i hW (run_V (o := 0) (As := [.int 2]) (rest := []) C hW (by decide) rfl rfl (c_X8_meets l G q _ τ ξ 2  ) (cw_V 1 C bL_X8_141 bI_X8_meets bV_X8_meets bN_X8 bC_X8_meets ⟨rfl, rfl⟩ (by decide +kernel) ⟨Nat.le_of_ble_eq_true rfl, Nat.le_of_ble_eq_true rfl⟩) rfl hl.1 rfl (Nat.le_of_ble_eq_true rfl) dX8_copy_115 ⟨Nat.le_refl _, Nat.le_refl _⟩) (fun r_10 u_10 H locs hp_10 hW => ?_)
              rcases hp_10 with ⟨rfl, rfl⟩
              have hW : WB G 33 q (eM G q (sg τ 1 2) ξ) s H locs := hW
              subst hQ
              exact r_iret ((sg τ 1 2), ξ) C hW hr hk dX8_copy_118 (show sp_copy τ d i e2 j n = ((-10 - 2), (sg τ 1 2)) from by unfold sp_copy; (repeat (first | rw [if_pos (by omega)] | rw [if_neg (by omega)])); first | done | rfl)
            · skip
              have k_9 := (tn_lt (rfl : (i).toInt = (i).toInt) (show (0 : Int32).toInt = 0 from by decide)).mp c_9
              refine lv_iload C.1 C.2.1 dX8_copy_68 (lv_at hl 4 rfl) ?_
              refine lv_if_lt C.1 C.2.1 (tgt := 113) dX8_copy_70 (by decide) (fun c_11 => ?_) (fun c_11 => ?_)
              · skip
                have k_11 := (tc_lt (rfl : (j).toInt = (j).toInt) (show (0 : Int32).toInt = 0 from by decide)).mp c_11
                refine lv_aload_n C.1 C.2.1 dX8_copy_113 rfl (lv_at hl 0 rfl) ?_
                refine lv_iconst C.1 C.2.1 (v := 2) dX8_copy_114 (by decide) ?_
                refine go_i hW (run_V (o := 0) (As := [.int 2]) (rest := []) C hW (by decide) rfl rfl (c_X8_meets l G q _ τ ξ 2  ) (cw_V 1 C bL_X8_141 bI_X8_meets bV_X8_meets bN_X8 bC_X8_meets ⟨rfl, rfl⟩ (by decide +kernel) ⟨Nat.le_of_ble_eq_true rfl, Nat.le_of_ble_eq_true rfl⟩) rfl hl.1 rfl (Nat.le_of_ble_eq_true rfl) dX8_copy_115 ⟨Nat.le_refl _, Nat.le_refl _⟩) (fun r_12 u_12 H locs hp_12 hW => ?_)
                rcases hp_12 with ⟨rfl, rfl⟩
                have hW : WB G 33 q (eM G q (sg τ 1 2) ξ) s H locs := hW
                subst hQ
                exact r_iret ((sg τ 1 2), ξ) C hW hr hk dX8_copy_118 (show sp_copy τ d i e2 j n = ((-10 - 2), (sg τ 1 2)) from by unfold sp_copy; (repeat (first | rw [if_pos (by omega)] | rw [if_neg (by omega)])); first | done | rfl)
              · skip
                have k_11 := (tn_lt (rfl : (j).toInt = (j).toInt) (show (0 : Int32).toInt = 0 from by decide)).mp c_11
                refine lv_iload C.1 C.2.1 dX8_copy_73 (lv_at hl 5 rfl) ?_
                refine lv_if_lt C.1 C.2.1 (tgt := 113) dX8_copy_75 (by decide) (fun c_13 => ?_) (fun c_13 => ?_)
                · skip
                  have k_13 := (tc_lt (rfl : (n).toInt = (n).toInt) (show (0 : Int32).toInt = 0 from by decide)).mp c_13
                  refine lv_aload_n C.1 C.2.1 dX8_copy_113 rfl (lv_at hl 0 rfl) ?_
                  refine lv_iconst C.1 C.2.1 (v := 2) dX8_copy_114 (by decide) ?_
                  refine go_i hW (run_V (o := 0) (As := [.int 2]) (rest := []) C hW (by decide) rfl rfl (c_X8_meets l G q _ τ ξ 2  ) (cw_V 1 C bL_X8_141 bI_X8_meets bV_X8_meets bN_X8 bC_X8_meets ⟨rfl, rfl⟩ (by decide +kernel) ⟨Nat.le_of_ble_eq_true rfl, Nat.le_of_ble_eq_true rfl⟩) rfl hl.1 rfl (Nat.le_of_ble_eq_true rfl) dX8_copy_115 ⟨Nat.le_refl _, Nat.le_refl _⟩) (fun r_14 u_14 H locs hp_14 hW => ?_)
                  rcases hp_14 with ⟨rfl, rfl⟩
                  have hW : WB G 33 q (eM G q (sg τ 1 2) ξ) s H locs := hW
                  subst hQ
                  exact r_iret ((sg τ 1 2), ξ) C hW hr hk dX8_copy_118 (show sp_copy τ d i e2 j n = ((-10 - 2), (sg τ 1 2)) from by unfold sp_copy; (repeat (first | rw [if_pos (by omega)] | rw [if_neg (by omega)])); first | done | rfl)
                · skip
                  have k_13 := (tn_lt (rfl : (n).toInt = (n).toInt) (show (0 : Int32).toInt = 0 from by decide)).mp c_13
                  refine lv_iload_n C.1 C.2.1 dX8_copy_78 rfl (lv_at hl 2 rfl) ?_
                  refine lv_i2l C.1 C.2.1 dX8_copy_79 rfl ?_
                  refine lv_iload C.1 C.2.1 dX8_copy_80 (lv_at hl 5 rfl) ?_
                  refine lv_i2l C.1 C.2.1 dX8_copy_82 rfl ?_
                  refine lv_ladd C.1 C.2.1 dX8_copy_83 ?_
                  refine lv_aload_n C.1 C.2.1 dX8_copy_84 rfl (lv_at hl 0 rfl) ?_
                  refine mG_sizes C hW dX8_copy_85 ?_
                  refine lv_iload_n C.1 C.2.1 dX8_copy_88 rfl (lv_at hl 1 rfl) ?_
                  refine mL_sizes C hW (((d).toInt).toNat) ((rfl : (d).toInt = (d).toInt).trans (by omega)) (by omega) (v := (τ.2.1 6 (((d).toInt).toNat))) rfl dX8_copy_89 ?_
                  refine lv_i2l C.1 C.2.1 dX8_copy_90 rfl ?_
                  refine W.lcmp C.1 C.2.1 dX8_copy_91 ?_
                  refine lv_if_gt C.1 C.2.1 (tgt := 113) dX8_copy_92 (by decide) (fun c_15 => ?_) (fun c_15 => ?_)
                  · skip
                    have k_15 := (lc_gt (tl_add (ti_i2l (rfl : (i).toInt = (i).toInt)) (ti_i2l (rfl : (n).toInt = (n).toInt)) (by omega) (by omega)) (ti_i2l (rfl : ((τ.2.1 6 (((d).toInt).toNat))).toInt = ((τ.2.1 6 (((d).toInt).toNat))).toInt))).mp c_15
                    refine lv_aload_n C.1 C.2.1 dX8_copy_113 rfl (lv_at hl 0 rfl) ?_
                    refine lv_iconst C.1 C.2.1 (v := 2) dX8_copy_114 (by decide) ?_
                    refine go_i hW (run_V (o := 0) (As := [.int 2]) (rest := []) C hW (by decide) rfl rfl (c_X8_meets l G q _ τ ξ 2  ) (cw_V 1 C bL_X8_141 bI_X8_meets bV_X8_meets bN_X8 bC_X8_meets ⟨rfl, rfl⟩ (by decide +kernel) ⟨Nat.le_of_ble_eq_true rfl, Nat.le_of_ble_eq_true rfl⟩) rfl hl.1 rfl (Nat.le_of_ble_eq_true rfl) dX8_copy_115 ⟨Nat.le_refl _, Nat.le_refl _⟩) (fun r_16 u_16 H locs hp_16 hW => ?_)
                    rcases hp_16 with ⟨rfl, rfl⟩
                    have hW : WB G 33 q (eM G q (sg τ 1 2) ξ) s H locs := hW
                    subst hQ
                    exact r_iret ((sg τ 1 2), ξ) C hW hr hk dX8_copy_118 (show sp_copy τ d i e2 j n = ((-10 - 2), (sg τ 1 2)) from by unfold sp_copy; (repeat (first | rw [if_pos (by omega)] | rw [if_neg (by omega)])); first | done | rfl)
                  · skip
                    have k_15 := (ln_gt (tl_add (ti_i2l (rfl : (i).toInt = (i).toInt)) (ti_i2l (rfl : (n).toInt = (n).toInt)) (by omega) (by omega)) (ti_i2l (rfl : ((τ.2.1 6 (((d).toInt).toNat))).toInt = ((τ.2.1 6 (((d).toInt).toNat))).toInt))).mp c_15
                    refine lv_iload C.1 C.2.1 dX8_copy_95 (lv_at hl 4 rfl) ?_
                    refine lv_i2l C.1 C.2.1 dX8_copy_97 rfl ?_
                    refine lv_iload C.1 C.2.1 dX8_copy_98 (lv_at hl 5 rfl) ?_
                    refine lv_i2l C.1 C.2.1 dX8_copy_100 rfl ?_
                    refine lv_ladd C.1 C.2.1 dX8_copy_101 ?_
                    refine lv_aload_n C.1 C.2.1 dX8_copy_102 rfl (lv_at hl 0 rfl) ?_
                    refine mG_sizes C hW dX8_copy_103 ?_
                    refine lv_iload_n C.1 C.2.1 dX8_copy_106 rfl (lv_at hl 3 rfl) ?_
                    refine mL_sizes C hW (((e2).toInt).toNat) ((rfl : (e2).toInt = (e2).toInt).trans (by omega)) (by omega) (v := (τ.2.1 6 (((e2).toInt).toNat))) rfl dX8_copy_107 ?_
                    refine lv_i2l C.1 C.2.1 dX8_copy_108 rfl ?_
                    refine W.lcmp C.1 C.2.1 dX8_copy_109 ?_
                    refine lv_if_le C.1 C.2.1 (tgt := 119) dX8_copy_110 (by decide) (fun c_17 => ?_) (fun c_17 => ?_)
                    · skip
                      have k_17 := (lc_le (tl_add (ti_i2l (rfl : (j).toInt = (j).toInt)) (ti_i2l (rfl : (n).toInt = (n).toInt)) (by omega) (by omega)) (ti_i2l (rfl : ((τ.2.1 6 (((e2).toInt).toNat))).toInt = ((τ.2.1 6 (((e2).toInt).toNat))).toInt))).mp c_17
                      refine lv_iconst C.1 C.2.1 (v := 0) dX8_copy_119 (by decide) ?_
                      refine lv_istore (lv' := [(6, .int 0), (0, .ref (q 0)), (1, .int d), (2, .int i), (3, .int e2), (4, .int j), (5, .int n)]) C.1 C.2.1 dX8_copy_120 hl (by decide) rfl (fun ls hl => ?_)
                      have L_122_18 : ∀ (fuel : Nat) (k : Nat) (x6 : Int32) (ξ1 : ST), n.toInt.toNat - k < fuel → (x6.toInt = (k : Int)) → ((k : Int) ≤ n.toInt) → (∀ t : Nat, t < k → ξ1.2.1 3 t = τ.2.1 7 ((100 * d.toInt.toNat + i.toInt.toNat) + t)) → ∀ (H : Heap) (locs : List Loc) (ls : Array Slot), WB G 33 q (eM G q τ ξ1) s H locs → lv_has ls 7 [(6, .int x6), (0, .ref (q 0)), (1, .int d), (2, .int i), (3, .int e2), (4, .int j), (5, .int n)] → W p l e (rmA 2 46) s m args below meth c H locs 0 0 QQ (F0 m 122 ls []) := by
                        intro fuel; induction fuel with
                        | zero => intro k x6 ξ1 hf; exact absurd hf (Nat.not_lt_zero _)
                        | succ fuel ih_122 =>
                          intro k x6 ξ1 hf hk6 hkl hm H locs ls hW hl
                          refine lv_iload C.1 C.2.1 dX8_copy_122 (lv_at hl 0 rfl) ?_
                          refine lv_iload C.1 C.2.1 dX8_copy_124 (lv_at hl 6 rfl) ?_
                          refine lv_icmp_ge C.1 C.2.1 (tgt := 156) dX8_copy_126 (by decide) (fun c_19 => ?_) (fun c_19 => ?_)
                          · skip
                            have k_19 := (tc_le (rfl : (n).toInt = (n).toInt) hk6).mp c_19
                            refine lv_iconst C.1 C.2.1 (v := 0) dX8_copy_156 (by decide) ?_
                            refine lv_istore (lv' := [(6, .int 0), (0, .ref (q 0)), (1, .int d), (2, .int i), (3, .int e2), (4, .int j), (5, .int n)]) C.1 C.2.1 dX8_copy_157 hl (by decide) rfl (fun ls hl => ?_)
                            have L_159_20 : ∀ (fuel : Nat) (k2 : Nat) (x7 : Int32), n.toInt.toNat - k2 < fuel → (x7.toInt = (k2 : Int)) → ((k2 : Int) ≤ n.toInt) → ∀ (H : Heap) (locs : List Loc) (ls : Array Slot), WB G 33 q (eM G q (saF τ 7 (va_cpy (τ.2.1 7) (τ.2.1 7) (100 * d.toInt.toNat + i.toInt.toNat) (100 * e2.toInt.toNat + j.toInt.toNat) k2)) ξ1) s H locs → lv_has ls 7 [(6, .int x7), (0, .ref (q 0)), (1, .int d), (2, .int i), (3, .int e2), (4, .int j), (5, .int n)] → W p l e (rmA 2 46) s m args below meth c H locs 0 0 QQ (F0 m 159 ls []) := by
                              intro fuel; induction fuel with
                              | zero => intro k2 x7 hf; exact absurd hf (Nat.not_lt_zero _)
                              | succ fuel ih_159 =>
                                intro k2 x7 hf hk7 hkl2 H locs ls hW hl
                                refine lv_iload C.1 C.2.1 dX8_copy_159 (lv_at hl 0 rfl) ?_
                                refine lv_iload C.1 C.2.1 dX8_copy_161 (lv_at hl 6 rfl) ?_
                                refine lv_icmp_ge C.1 C.2.1 (tgt := 194) dX8_copy_163 (by decide) (fun c_21 => ?_) (fun c_21 => ?_)
                                · skip
                                  have k_21 := (tc_le (rfl : (n).toInt = (n).toInt) hk7).mp c_21
                                  refine lv_iconst C.1 C.2.1 (v := 1) dX8_copy_194 (by decide) ?_
                                  subst hQ
                                  exact r_iret ((saF τ 7 (va_cpy (τ.2.1 7) (τ.2.1 7) (100 * d.toInt.toNat + i.toInt.toNat) (100 * e2.toInt.toNat + j.toInt.toNat) k2)), ξ1) C hW hr hk dX8_copy_195 (show sp_copy τ d i e2 j n = (1, (saF τ 7 (va_cpy (τ.2.1 7) (τ.2.1 7) (100 * d.toInt.toNat + i.toInt.toNat) (100 * e2.toInt.toNat + j.toInt.toNat) k2))) from by unfold sp_copy; (repeat (first | rw [if_pos (by omega)] | rw [if_neg (by omega)])); rw [show k2 = n.toInt.toNat from by omega])
                                · skip
                                  have k_21 := (tn_le (rfl : (n).toInt = (n).toInt) hk7).mp c_21
                                  refine lv_aload_n C.1 C.2.1 dX8_copy_166 rfl (lv_at hl 1 rfl) ?_
                                  refine mG_items C hW dX8_copy_167 ?_
                                  refine lv_bipush C.1 C.2.1 (v := 100) dX8_copy_170 (by decide) ?_
                                  refine lv_iload_n C.1 C.2.1 dX8_copy_172 rfl (lv_at hl 4 rfl) ?_
                                  refine lv_imul C.1 C.2.1 dX8_copy_173 ?_
                                  refine lv_iload C.1 C.2.1 dX8_copy_174 (lv_at hl 5 rfl) ?_
                                  refine lv_iadd C.1 C.2.1 dX8_copy_176 ?_
                                  refine lv_iload C.1 C.2.1 dX8_copy_177 (lv_at hl 0 rfl) ?_
                                  refine lv_iadd C.1 C.2.1 dX8_copy_179 ?_
                                  refine lv_aload_n C.1 C.2.1 dX8_copy_180 rfl (lv_at hl 1 rfl) ?_
                                  refine mG_moved C hW dX8_copy_181 ?_
                                  refine lv_iload C.1 C.2.1 dX8_copy_184 (lv_at hl 0 rfl) ?_
                                  refine mL_moved C hW k2 (hk7.trans (by omega)) (by omega) (v := (ξ1.2.1 3 k2)) rfl dX8_copy_186 ?_
                                  refine mS_items C hW (((((100 * (e2).toInt) + (j).toInt) + (k2 : Int))).toNat) ((ti_add (ti_add (ti_mul (show (100 : Int32).toInt = 100 from by decide) (rfl : (e2).toInt = (e2).toInt) (by omega) (by omega)) (rfl : (j).toInt = (j).toInt) (by omega) (by omega)) hk7 (by omega) (by omega)).trans (by omega)) (by omega) dX8_copy_187 (fun H locs hW => ?_)
                                  refine lv_iinc (v := (x7 + 1)) (lv' := [(6, .int (x7 + 1)), (0, .ref (q 0)), (1, .int d), (2, .int i), (3, .int e2), (4, .int j), (5, .int n)]) C.1 C.2.1 dX8_copy_188 hl (k := 0) rfl rfl (by decide) rfl (fun ls hl => ?_)
                                  refine lv_goto C.1 C.2.1 (tgt := 159) dX8_copy_191 (by decide) ?_
                                  rw [show (100 * e2.toInt + j.toInt + (k2 : Int)).toNat = (100 * e2.toInt.toNat + j.toInt.toNat) + k2 from by omega, hm k2 (by omega), saF_sa, cpy_s] at hW
                                  exact ih_159 (k2 + 1) (x7 + 1) (by omega) ((ti_add hk7 (show (1 : Int32).toInt = 1 from by decide) (by omega) (by omega)).trans (by omega)) (by omega) _ _ _ hW (lv_sub hl [0, 1, 2, 3, 4, 5, 6] rfl)
                            exact L_159_20 _ 0 0 (Nat.lt_succ_self _) (by decide) (by omega) _ _ _ (by rw [cpy_0, saF_self]; exact hW) (lv_sub hl [0, 1, 2, 3, 4, 5, 6] rfl)
                          · skip
                            have k_19 := (tn_le (rfl : (n).toInt = (n).toInt) hk6).mp c_19
                            refine lv_aload_n C.1 C.2.1 dX8_copy_129 rfl (lv_at hl 1 rfl) ?_
                            refine mG_moved C hW dX8_copy_130 ?_
                            refine lv_iload C.1 C.2.1 dX8_copy_133 (lv_at hl 0 rfl) ?_
                            refine lv_aload_n C.1 C.2.1 dX8_copy_135 rfl (lv_at hl 1 rfl) ?_
                            refine mG_items C hW dX8_copy_136 ?_
                            refine lv_bipush C.1 C.2.1 (v := 100) dX8_copy_139 (by decide) ?_
                            refine lv_iload_n C.1 C.2.1 dX8_copy_141 rfl (lv_at hl 2 rfl) ?_
                            refine lv_imul C.1 C.2.1 dX8_copy_142 ?_
                            refine lv_iload_n C.1 C.2.1 dX8_copy_143 rfl (lv_at hl 3 rfl) ?_
                            refine lv_iadd C.1 C.2.1 dX8_copy_144 ?_
                            refine lv_iload C.1 C.2.1 dX8_copy_145 (lv_at hl 0 rfl) ?_
                            refine lv_iadd C.1 C.2.1 dX8_copy_147 ?_
                            refine mL_items C hW (((((100 * (d).toInt) + (i).toInt) + (k : Int))).toNat) ((ti_add (ti_add (ti_mul (show (100 : Int32).toInt = 100 from by decide) (rfl : (d).toInt = (d).toInt) (by omega) (by omega)) (rfl : (i).toInt = (i).toInt) (by omega) (by omega)) hk6 (by omega) (by omega)).trans (by omega)) (by omega) (v := (τ.2.1 7 (((((100 * (d).toInt) + (i).toInt) + (k : Int))).toNat))) rfl dX8_copy_148 ?_
                            refine mS_moved C hW k (hk6.trans (by omega)) (by omega) dX8_copy_149 (fun H locs hW => ?_)
                            refine lv_iinc (v := (x6 + 1)) (lv' := [(6, .int (x6 + 1)), (0, .ref (q 0)), (1, .int d), (2, .int i), (3, .int e2), (4, .int j), (5, .int n)]) C.1 C.2.1 dX8_copy_150 hl (k := 0) rfl rfl (by decide) rfl (fun ls hl => ?_)
                            refine lv_goto C.1 C.2.1 (tgt := 122) dX8_copy_153 (by decide) ?_
                            exact ih_122 (k + 1) (x6 + 1) (sa ξ1 3 k (τ.2.1 7 (((((100 * (d).toInt) + (i).toInt) + (k : Int))).toNat))) (by omega) ((ti_add hk6 (show (1 : Int32).toInt = 1 from by decide) (by omega) (by omega)).trans (by omega)) (by omega) (fun t ht => (Decidable.em (t = k)).elim (fun e => by subst e; rw [← show (100 * d.toInt + i.toInt + (t : Int)).toNat = (100 * d.toInt.toNat + i.toInt.toNat) + t from by omega]; exact if_pos rfl) (fun e => (if_neg e).trans (hm t (by omega)))) _ _ _ hW (lv_sub hl [0, 1, 2, 3, 4, 5, 6] rfl)
                      exact L_122_18 _ 0 0 ξ (Nat.lt_succ_self _) (by decide) (by omega) (fun f h => absurd h (Nat.not_lt_zero _)) _ _ _ hW (lv_sub hl [0, 1, 2, 3, 4, 5, 6] rfl)
                    · skip
                      have k_17 := (ln_le (tl_add (ti_i2l (rfl : (j).toInt = (j).toInt)) (ti_i2l (rfl : (n).toInt = (n).toInt)) (by omega) (by omega)) (ti_i2l (rfl : ((τ.2.1 6 (((e2).toInt).toNat))).toInt = ((τ.2.1 6 (((e2).toInt).toNat))).toInt))).mp c_17
                      refine lv_aload_n C.1 C.2.1 dX8_copy_113 rfl (lv_at hl 0 rfl) ?_
                      refine lv_iconst C.1 C.2.1 (v := 2) dX8_copy_114 (by decide) ?_
                      refine go_i hW (run_V (o := 0) (As := [.int 2]) (rest := []) C hW (by decide) rfl rfl (c_X8_meets l G q _ τ ξ 2  ) (cw_V 1 C bL_X8_141 bI_X8_meets bV_X8_meets bN_X8 bC_X8_meets ⟨rfl, rfl⟩ (by decide +kernel) ⟨Nat.le_of_ble_eq_true rfl, Nat.le_of_ble_eq_true rfl⟩) rfl hl.1 rfl (Nat.le_of_ble_eq_true rfl) dX8_copy_115 ⟨Nat.le_refl _, Nat.le_refl _⟩) (fun r_22 u_22 H locs hp_22 hW => ?_)
                      rcases hp_22 with ⟨rfl, rfl⟩
                      have hW : WB G 33 q (eM G q (sg τ 1 2) ξ) s H locs := hW
                      subst hQ
                      exact r_iret ((sg τ 1 2), ξ) C hW hr hk dX8_copy_118 (show sp_copy τ d i e2 j n = ((-10 - 2), (sg τ 1 2)) from by unfold sp_copy; (repeat (first | rw [if_pos (by omega)] | rw [if_neg (by omega)])); first | done | rfl)
          · skip
            have k_8 := (tn_eq (rfl : ((τ.2.1 5 (((d).toInt).toNat))).toInt = ((τ.2.1 5 (((d).toInt).toNat))).toInt) (rfl : ((τ.2.1 5 (((e2).toInt).toNat))).toInt = ((τ.2.1 5 (((e2).toInt).toNat))).toInt)).mp c_8
            refine lv_aload_n C.1 C.2.1 dX8_copy_58 rfl (lv_at hl 0 rfl) ?_
            refine lv_iconst C.1 C.2.1 (v := 4) dX8_copy_59 (by decide) ?_
            refine go_i hW (run_V (o := 0) (As := [.int 4]) (rest := []) C hW (by decide) rfl rfl (c_X8_meets l G q _ τ ξ 4  ) (cw_V 1 C bL_X8_141 bI_X8_meets bV_X8_meets bN_X8 bC_X8_meets ⟨rfl, rfl⟩ (by decide +kernel) ⟨Nat.le_of_ble_eq_true rfl, Nat.le_of_ble_eq_true rfl⟩) rfl hl.1 rfl (Nat.le_of_ble_eq_true rfl) dX8_copy_60 ⟨Nat.le_refl _, Nat.le_refl _⟩) (fun r_23 u_23 H locs hp_23 hW => ?_)
            rcases hp_23 with ⟨rfl, rfl⟩
            have hW : WB G 33 q (eM G q (sg τ 1 4) ξ) s H locs := hW
            subst hQ
            exact r_iret ((sg τ 1 4), ξ) C hW hr hk dX8_copy_63 (show sp_copy τ d i e2 j n = ((-10 - 4), (sg τ 1 4)) from by unfold sp_copy; (repeat (first | rw [if_pos (by omega)] | rw [if_neg (by omega)])); first | done | rfl)
        · skip
          have k_7 := (tc_eq (rfl : ((τ.2.1 4 (((e2).toInt).toNat))).toInt = ((τ.2.1 4 (((e2).toInt).toNat))).toInt) (show (0 : Int32).toInt = 0 from by decide)).mp c_7
          refine lv_aload_n C.1 C.2.1 dX8_copy_37 rfl (lv_at hl 0 rfl) ?_
          refine lv_iconst C.1 C.2.1 (v := 1) dX8_copy_38 (by decide) ?_
          refine go_i hW (run_V (o := 0) (As := [.int 1]) (rest := []) C hW (by decide) rfl rfl (c_X8_meets l G q _ τ ξ 1  ) (cw_V 1 C bL_X8_141 bI_X8_meets bV_X8_meets bN_X8 bC_X8_meets ⟨rfl, rfl⟩ (by decide +kernel) ⟨Nat.le_of_ble_eq_true rfl, Nat.le_of_ble_eq_true rfl⟩) rfl hl.1 rfl (Nat.le_of_ble_eq_true rfl) dX8_copy_39 ⟨Nat.le_refl _, Nat.le_refl _⟩) (fun r_24 u_24 H locs hp_24 hW => ?_)
          rcases hp_24 with ⟨rfl, rfl⟩
          have hW : WB G 33 q (eM G q (sg τ 1 1) ξ) s H locs := hW
          subst hQ
          exact r_iret ((sg τ 1 1), ξ) C hW hr hk dX8_copy_42 (show sp_copy τ d i e2 j n = ((-10 - 1), (sg τ 1 1)) from by unfold sp_copy; (repeat (first | rw [if_pos (by omega)] | rw [if_neg (by omega)])); first | done | rfl)
    · skip
      have hW : WB G 33 q (eM G q τ ξ) s H locs := hW
      refine lv_if_ne C.1 C.2.1 (tgt := 19) dX8_copy_13 (by decide) (fun c => absurd c (by decide)) (fun _ => ?_)
      refine lv_bipush C.1 C.2.1 (v := (-2)) dX8_copy_16 (by decide) ?_
      subst hQ
      exact r_iret (τ, ξ) C hW hr hk dX8_copy_18 (show sp_copy τ d i e2 j n = ((-2), τ) from by unfold sp_copy; (repeat (first | rw [if_pos (by omega)] | rw [if_neg (by omega)])); first | done | rfl)
  · skip
    have hW : WB G 33 q (eM G q τ ξ) s H locs := hW
    refine lv_if_eq C.1 C.2.1 (tgt := 16) dX8_copy_5 (by decide) (fun _ => ?_) (fun c => absurd c (by decide))
    refine lv_bipush C.1 C.2.1 (v := (-2)) dX8_copy_16 (by decide) ?_
    subst hQ
    exact r_iret (τ, ξ) C hW hr hk dX8_copy_18 (show sp_copy τ d i e2 j n = ((-2), τ) from by unfold sp_copy; (repeat (first | rw [if_pos (by omega)] | rw [if_neg (by omega)])); first | done | rfl)
