/-! products: the reference's sums, and the calls that they answer -/
noncomputable def cIf {α : Type} (P : Prop) (a b : α) : α := @ite α P (Classical.propDecidable P) a b
theorem cIf_pos {α : Type} {P : Prop} (h : P) (a b : α) : cIf P a b = a := by unfold cIf; exact if_pos h
theorem cIf_neg {α : Type} {P : Prop} (h : ¬ P) (a b : α) : cIf P a b = b := by unfold cIf; exact if_neg h
/-- THE PRODUCT's sum over the first t ticks, with two delays; and how many of them count -/
noncomputable def mulS (τ : ST) (i a j b : Nat) : Nat → Int64
  | 0 => 0
  | t + 1 => cIf (smp τ i (t + a) ∧ smp τ j (t + b)) (mulS τ i a j b t + smpV τ i (t + a) * smpV τ j (t + b)) (mulS τ i a j b t)
noncomputable def mulC (τ : ST) (i a j b : Nat) : Nat → Nat
  | 0 => 0
  | t + 1 => cIf (smp τ i (t + a) ∧ smp τ j (t + b)) (mulC τ i a j b t + 1) (mulC τ i a j b t)
noncomputable def prdF (τ : ST) (i a j b : Nat) : Int64 := mulS τ i a j b 100 * (τ.2.1 3 i).toInt64 * (τ.2.1 3 j).toInt64
def dl (τ : ST) (i : Nat) : Nat := (τ.2.1 2 i).toInt.toNat
noncomputable def prd (τ : ST) (i j : Nat) : Int64 := prdF τ i (dl τ i) j (dl τ j)
noncomputable def tck (τ : ST) (i j : Nat) : Nat := mulC τ i (dl τ i) j (dl τ j) 100
theorem mul_y {τ : ST} {i a j b t : Nat} (h1 : smp τ i (t + a)) (h2 : smp τ j (t + b)) : mulS τ i a j b (t + 1) = mulS τ i a j b t + smpV τ i (t + a) * smpV τ j (t + b) ∧ nI (mulC τ i a j b (t + 1)) = nI (mulC τ i a j b t) + 1 := by
  refine ⟨cIf_pos ⟨h1, h2⟩ _ _, ?_⟩
  rw [show mulC τ i a j b (t + 1) = mulC τ i a j b t + 1 from cIf_pos ⟨h1, h2⟩ _ _]
  exact nI_succ _
theorem mul_n {τ : ST} {i a j b t : Nat} (h : ¬ (smp τ i (t + a) ∧ smp τ j (t + b))) : mulS τ i a j b (t + 1) = mulS τ i a j b t ∧ nI (mulC τ i a j b (t + 1)) = nI (mulC τ i a j b t) :=
  ⟨cIf_neg h _ _, congrArg nI (cIf_neg h _ _)⟩
theorem mulC_le (τ : ST) (i a j b t : Nat) : mulC τ i a j b t ≤ t := by
  induction t with
  | zero => exact Nat.le_refl _
  | succ t ih =>
    by_cases h : smp τ i (t + a) ∧ smp τ j (t + b)
    · rw [show mulC τ i a j b (t + 1) = mulC τ i a j b t + 1 from cIf_pos h _ _]; omega
    · rw [show mulC τ i a j b (t + 1) = mulC τ i a j b t from cIf_neg h _ _]; omega
noncomputable def bstD (τ : ST) (i j : Nat) : Nat → Nat
  | 0 => 0
  | d + 1 => if (prdF τ i (dl τ i) j (bstD τ i j d)).toInt < (prdF τ i (dl τ i) j (d + 1)).toInt then d + 1 else bstD τ i j d
theorem bstD_le (τ : ST) (i j d : Nat) : bstD τ i j d ≤ d := by
  induction d with
  | zero => exact Nat.le_refl _
  | succ d ih => unfold bstD; split <;> omega
noncomputable def sp_ticks (τ : ST) (i j : Int32) : Int32 × ST := if (0 ≤ i.toInt ∧ i.toInt < (τ.1 0).toInt) ∧ 0 ≤ j.toInt ∧ j.toInt < (τ.1 0).toInt then (nI (tck τ i.toInt.toNat j.toInt.toNat), τ) else (-2, τ)
noncomputable def sp_product (τ : ST) (i j : Int32) : Int64 × ST := if (0 ≤ i.toInt ∧ i.toInt < (τ.1 0).toInt) ∧ 0 ≤ j.toInt ∧ j.toInt < (τ.1 0).toInt then (prd τ i.toInt.toNat j.toInt.toNat, τ) else (-9223372036854775808, τ)
noncomputable def sp_delay (τ : ST) (i j : Int32) : Int32 × ST := if (0 ≤ i.toInt ∧ i.toInt < (τ.1 0).toInt) ∧ 0 ≤ j.toInt ∧ j.toInt < (τ.1 0).toInt then (nI (bstD τ i.toInt.toNat j.toInt.toNat 30), τ) else (-2, τ)
noncomputable def sp_three (τ : ST) (i j k : Int32) : Int32 × ST := if ((0 ≤ i.toInt ∧ i.toInt < (τ.1 0).toInt) ∧ (0 ≤ j.toInt ∧ j.toInt < (τ.1 0).toInt) ∧ 0 ≤ k.toInt ∧ k.toInt < (τ.1 0).toInt) ∧ ¬ i.toInt = j.toInt ∧ ¬ j.toInt = k.toInt ∧ ¬ i.toInt = k.toInt then (sgn (prd τ i.toInt.toNat j.toInt.toNat) * sgn (prd τ j.toInt.toNat k.toInt.toNat) * sgn (prd τ i.toInt.toNat k.toInt.toNat), τ) else (-2, τ)
noncomputable def sp_four (τ : ST) (i j k n : Int32) : Int32 × ST := if ((0 ≤ i.toInt ∧ i.toInt < (τ.1 0).toInt) ∧ (0 ≤ j.toInt ∧ j.toInt < (τ.1 0).toInt) ∧ (0 ≤ k.toInt ∧ k.toInt < (τ.1 0).toInt) ∧ 0 ≤ n.toInt ∧ n.toInt < (τ.1 0).toInt) ∧ (¬ i.toInt = j.toInt ∧ ¬ i.toInt = k.toInt ∧ ¬ i.toInt = n.toInt ∧ ¬ j.toInt = k.toInt ∧ ¬ j.toInt = n.toInt ∧ ¬ k.toInt = n.toInt) then (sgn (prd τ i.toInt.toNat j.toInt.toNat * prd τ k.toInt.toNat n.toInt.toNat - prd τ i.toInt.toNat k.toInt.toNat * prd τ j.toInt.toNat n.toInt.toNat), τ) else (-2, τ)
set_option maxHeartbeats 4000000 in
set_option maxRecDepth 100000 in
theorem c_X8_multiply (l : Launch) (G : GG) (q : Nat → Nat) (sz : Nat) (τ ξ : ST) (i : Int32) (a : Int32) (j : Int32) (b : Int32) (iN : Nat) (aN : Nat) (jN : Nat) (bN : Nat) (hi : i.toInt = (iN : Int)) (ha : a.toInt = (aN : Int)) (hj : j.toInt = (jN : Int)) (hb : b.toInt = (bN : Int)) (hi6 : iN < 6) (hj6 : jN < 6) (pa30 : aN ≤ 30) (pb30 : bN ≤ 30) (h_f : 0 ≤ (τ.1 2).toInt ∧ (τ.1 2).toInt ≤ 40) (h_s : ∀ d : Nat, d < 6 → 0 ≤ (τ.2.1 6 d).toInt ∧ (τ.2.1 6 d).toInt ≤ 100) : Met l yX8_multiply (WSb yX8_multiply cX8_multiply 8 (some .long)) (rmA 2 48) (va_Pc [.ref (q 0), .int i, .int a, .int j, .int b] (PW G 33 q sz (eM G q τ ξ))) (va_Ql (fun (r : Int64) (u : (ST × ST)) => r = prdF τ iN aN jN bN ∧ u = (τ, (sg ξ 1 (nI (mulC τ iN aN jN bN 100))))) (fun u => BW G 33 q (eM G q u.1 u.2)) (FA 33 q sz)) 0 0 (FA 33 q sz) := by
  refine Met_B (own := RX8) rfl (by decide) (Nat.le_of_ble_eq_true rfl) (fun p e s m args below meth c ls hsz C hW hr hk hl QQ hQ => ?_)
  subst hsz
  have hl : lv_has ls 8 [(0, .ref (q 0)), (1, .int i), (2, .int a), (3, .int j), (4, .int b)] := hl
  refine lv_aload_n C.1 C.2.1 dX8_multiply_0 rfl (lv_at hl 0 rfl) ?_
  refine lv_iconst C.1 C.2.1 (v := 0) dX8_multiply_1 (by decide) ?_
  refine mP_counted C hW dX8_multiply_2 (fun H locs hW => ?_)
  refine lv_lconst C.1 C.2.1 (v := 0) dX8_multiply_5 (by decide) ?_
  refine lv_lstore (lv' := [(5, .long 0), (0, .ref (q 0)), (1, .int i), (2, .int a), (3, .int j), (4, .int b)]) C.1 C.2.1 dX8_multiply_6 hl (by decide) rfl (fun ls hl => ?_)
  refine lv_iconst C.1 C.2.1 (v := 0) dX8_multiply_8 (by decide) ?_
  refine lv_istore (lv' := [(7, .int 0), (5, .long 0), (0, .ref (q 0)), (1, .int i), (2, .int a), (3, .int j), (4, .int b)]) C.1 C.2.1 dX8_multiply_9 hl (by decide) rfl (fun ls hl => ?_)
  have L_11_1 : ∀ (fuel : Nat) (t : Nat) (x5 : Int64) (x7 : Int32), 100 - t < fuel → (x7.toInt = (t : Int)) → (t ≤ 100) → (x5 = mulS τ iN aN jN bN t) → ∀ (H : Heap) (locs : List Loc) (ls : Array Slot), WB G 33 q (eM G q τ (sg ξ 1 (nI (mulC τ iN aN jN bN t)))) s H locs → lv_has ls 8 [(7, .int x7), (5, .long x5), (0, .ref (q 0)), (1, .int i), (2, .int a), (3, .int j), (4, .int b)] → W p l e (rmA 2 48) s m args below meth c H locs 0 0 QQ (F0 m 11 ls []) := by
    intro fuel; induction fuel with
    | zero => intro t x5 x7 hf; exact absurd hf (Nat.not_lt_zero _)
    | succ fuel ih_11 =>
      intro t x5 x7 hf ht hle hs H locs ls hW hl
      refine lv_iload C.1 C.2.1 dX8_multiply_11 (lv_at hl 0 rfl) ?_
      refine lv_bipush C.1 C.2.1 (v := 100) dX8_multiply_13 (by decide) ?_
      refine lv_icmp_ge C.1 C.2.1 (tgt := 84) dX8_multiply_15 (by decide) (fun c_2 => ?_) (fun c_2 => ?_)
      · skip
        have k_2 := (tc_le (show (100 : Int32).toInt = 100 from by decide) ht).mp c_2
        refine lv_lload C.1 C.2.1 dX8_multiply_84 (lv_at hl 1 rfl) ?_
        refine lv_aload_n C.1 C.2.1 dX8_multiply_86 rfl (lv_at hl 2 rfl) ?_
        refine mG_gains C hW dX8_multiply_87 ?_
        refine lv_iload_n C.1 C.2.1 dX8_multiply_90 rfl (lv_at hl 3 rfl) ?_
        refine mL_gains C hW iN (hi.trans (by omega)) (by omega) (v := (τ.2.1 3 iN)) rfl dX8_multiply_91 ?_
        refine lv_i2l C.1 C.2.1 dX8_multiply_92 rfl ?_
        refine lv_lmul C.1 C.2.1 dX8_multiply_93 ?_
        refine lv_aload_n C.1 C.2.1 dX8_multiply_94 rfl (lv_at hl 2 rfl) ?_
        refine mG_gains C hW dX8_multiply_95 ?_
        refine lv_iload_n C.1 C.2.1 dX8_multiply_98 rfl (lv_at hl 5 rfl) ?_
        refine mL_gains C hW jN (hj.trans (by omega)) (by omega) (v := (τ.2.1 3 jN)) rfl dX8_multiply_99 ?_
        refine lv_i2l C.1 C.2.1 dX8_multiply_100 rfl ?_
        refine lv_lmul C.1 C.2.1 dX8_multiply_101 ?_
        subst hQ
        exact r_lret (τ, (sg ξ 1 (nI (mulC τ iN aN jN bN t)))) C hW hr hk dX8_multiply_102 (by rw [hs, show t = 100 from by omega]; exact ⟨rfl, rfl⟩)
      · skip
        have k_2 := (tn_le (show (100 : Int32).toInt = 100 from by decide) ht).mp c_2
        refine lv_aload_n C.1 C.2.1 dX8_multiply_18 rfl (lv_at hl 2 rfl) ?_
        refine lv_iload_n C.1 C.2.1 dX8_multiply_19 rfl (lv_at hl 3 rfl) ?_
        refine lv_iload C.1 C.2.1 dX8_multiply_20 (lv_at hl 0 rfl) ?_
        refine lv_iload_n C.1 C.2.1 dX8_multiply_22 rfl (lv_at hl 4 rfl) ?_
        refine lv_iadd C.1 C.2.1 dX8_multiply_23 ?_
        refine go_i hW (run_V (o := 0) (As := [.int i, .int (x7 + a)]) (rest := []) C hW (by decide) rfl rfl (c_X8_isSample l G q _ τ (sg ξ 1 (nI (mulC τ iN aN jN bN t))) i (x7 + a) iN (t + aN) (hi.trans (by omega)) ((ti_add ht ha (by omega) (by omega)).trans (by omega)) (by omega) (by omega) h_f) (cw_V 2 C bL_X8_160 bI_X8_isSample bV_X8_isSample bN_X8 bC_X8_isSample ⟨rfl, rfl⟩ (by decide +kernel) ⟨Nat.le_of_ble_eq_true rfl, Nat.le_of_ble_eq_true rfl⟩) rfl hl.1 rfl (Nat.le_of_ble_eq_true rfl) dX8_multiply_24 ⟨Nat.le_refl _, Nat.le_refl _⟩) (fun r_3 u_3 H locs hp_3 hW => ?_)
        rcases hp_3 with ⟨rfl, rfl, k_3⟩ | ⟨rfl, rfl, k_3⟩
        · skip
          have hW : WB G 33 q (eM G q τ (sg ξ 1 (nI (mulC τ iN aN jN bN t)))) s H locs := hW
          have ks := k_3
          refine lv_if_eq C.1 C.2.1 (tgt := 78) dX8_multiply_27 (by decide) (fun c => absurd c (by decide)) (fun _ => ?_)
          refine lv_aload_n C.1 C.2.1 dX8_multiply_30 rfl (lv_at hl 2 rfl) ?_
          refine lv_iload_n C.1 C.2.1 dX8_multiply_31 rfl (lv_at hl 5 rfl) ?_
          refine lv_iload C.1 C.2.1 dX8_multiply_32 (lv_at hl 0 rfl) ?_
          refine lv_iload C.1 C.2.1 dX8_multiply_34 (lv_at hl 6 rfl) ?_
          refine lv_iadd C.1 C.2.1 dX8_multiply_36 ?_
          refine go_i hW (run_V (o := 0) (As := [.int j, .int (x7 + b)]) (rest := []) C hW (by decide) rfl rfl (c_X8_isSample l G q _ τ (sg ξ 1 (nI (mulC τ iN aN jN bN t))) j (x7 + b) jN (t + bN) (hj.trans (by omega)) ((ti_add ht hb (by omega) (by omega)).trans (by omega)) (by omega) (by omega) h_f) (cw_V 2 C bL_X8_160 bI_X8_isSample bV_X8_isSample bN_X8 bC_X8_isSample ⟨rfl, rfl⟩ (by decide +kernel) ⟨Nat.le_of_ble_eq_true rfl, Nat.le_of_ble_eq_true rfl⟩) rfl hl.1 rfl (Nat.le_of_ble_eq_true rfl) dX8_multiply_37 ⟨Nat.le_refl _, Nat.le_refl _⟩) (fun r_5 u_5 H locs hp_5 hW => ?_)
          rcases hp_5 with ⟨rfl, rfl, k_5⟩ | ⟨rfl, rfl, k_5⟩
          · skip
            have hW : WB G 33 q (eM G q τ (sg ξ 1 (nI (mulC τ iN aN jN bN t)))) s H locs := hW
            obtain ⟨es, ec⟩ := mul_y (τ := τ) (i := iN) (a := aN) (j := jN) (b := bN) (t := t) ks k_5
            have l1 := ks.2.1
            have l2 := k_5.2.1
            have l3 := h_s iN hi6
            have l4 := h_s jN hj6
            refine lv_if_eq C.1 C.2.1 (tgt := 78) dX8_multiply_40 (by decide) (fun c => absurd c (by decide)) (fun _ => ?_)
            refine lv_aload_n C.1 C.2.1 dX8_multiply_43 rfl (lv_at hl 2 rfl) ?_
            refine lv_dup C.1 C.2.1 dX8_multiply_44 rfl ?_
            refine mG_counted C hW (v := (nI (mulC τ iN aN jN bN t))) rfl dX8_multiply_45 ?_
            refine lv_iconst C.1 C.2.1 (v := 1) dX8_multiply_48 (by decide) ?_
            refine lv_iadd C.1 C.2.1 dX8_multiply_49 ?_
            refine mP_counted C hW dX8_multiply_50 (fun H locs hW => ?_)
            rw [sg_sg] at hW
            refine lv_lload C.1 C.2.1 dX8_multiply_53 (lv_at hl 1 rfl) ?_
            refine lv_aload_n C.1 C.2.1 dX8_multiply_55 rfl (lv_at hl 2 rfl) ?_
            refine lv_iload_n C.1 C.2.1 dX8_multiply_56 rfl (lv_at hl 3 rfl) ?_
            refine lv_iload C.1 C.2.1 dX8_multiply_57 (lv_at hl 0 rfl) ?_
            refine lv_iload_n C.1 C.2.1 dX8_multiply_59 rfl (lv_at hl 4 rfl) ?_
            refine lv_iadd C.1 C.2.1 dX8_multiply_60 ?_
            refine go_l hW (run_V (o := 0) (As := [.int i, .int (x7 + a)]) (rest := [.long x5]) C hW (by decide) rfl rfl (c_X8_sampleAt l G q _ τ (sg ξ 1 ((nI (mulC τ iN aN jN bN t)) + 1)) i (x7 + a) iN (t + aN) (hi.trans (by omega)) ((ti_add ht ha (by omega) (by omega)).trans (by omega)) (by omega) (by omega)) (cw_V 2 C bL_X8_164 bI_X8_sampleAt bV_X8_sampleAt bN_X8 bC_X8_sampleAt ⟨rfl, rfl⟩ (by decide +kernel) ⟨Nat.le_of_ble_eq_true rfl, Nat.le_of_ble_eq_true rfl⟩) rfl hl.1 rfl (Nat.le_of_ble_eq_true rfl) dX8_multiply_61 ⟨Nat.le_refl _, Nat.le_refl _⟩) (fun r_7 u_7 H locs hp_7 hW => ?_)
            rcases hp_7 with ⟨rfl, rfl⟩
            have hW : WB G 33 q (eM G q τ (sg ξ 1 ((nI (mulC τ iN aN jN bN t)) + 1))) s H locs := hW
            refine lv_aload_n C.1 C.2.1 dX8_multiply_64 rfl (lv_at hl 2 rfl) ?_
            refine lv_iload_n C.1 C.2.1 dX8_multiply_65 rfl (lv_at hl 5 rfl) ?_
            refine lv_iload C.1 C.2.1 dX8_multiply_66 (lv_at hl 0 rfl) ?_
            refine lv_iload C.1 C.2.1 dX8_multiply_68 (lv_at hl 6 rfl) ?_
            refine lv_iadd C.1 C.2.1 dX8_multiply_70 ?_
            refine go_l hW (run_V (o := 0) (As := [.int j, .int (x7 + b)]) (rest := [.long (smpV τ iN (t + aN)), .long x5]) C hW (by decide) rfl rfl (c_X8_sampleAt l G q _ τ (sg ξ 1 ((nI (mulC τ iN aN jN bN t)) + 1)) j (x7 + b) jN (t + bN) (hj.trans (by omega)) ((ti_add ht hb (by omega) (by omega)).trans (by omega)) (by omega) (by omega)) (cw_V 2 C bL_X8_164 bI_X8_sampleAt bV_X8_sampleAt bN_X8 bC_X8_sampleAt ⟨rfl, rfl⟩ (by decide +kernel) ⟨Nat.le_of_ble_eq_true rfl, Nat.le_of_ble_eq_true rfl⟩) rfl hl.1 rfl (Nat.le_of_ble_eq_true rfl) dX8_multiply_71 ⟨Nat.le_refl _, Nat.le_refl _⟩) (fun r_8 u_8 H locs hp_8 hW => ?_)
            rcases hp_8 with ⟨rfl, rfl⟩
            have hW : WB G 33 q (eM G q τ (sg ξ 1 ((nI (mulC τ iN aN jN bN t)) + 1))) s H locs := hW
            refine lv_lmul C.1 C.2.1 dX8_multiply_74 ?_
            refine lv_ladd C.1 C.2.1 dX8_multiply_75 ?_
            refine lv_lstore (lv' := [(5, .long (x5 + ((smpV τ iN (t + aN)) * (smpV τ jN (t + bN))))), (7, .int x7), (0, .ref (q 0)), (1, .int i), (2, .int a), (3, .int j), (4, .int b)]) C.1 C.2.1 dX8_multiply_76 hl (by decide) rfl (fun ls hl => ?_)
            refine lv_iinc (v := (x7 + 1)) (lv' := [(7, .int (x7 + 1)), (5, .long (x5 + ((smpV τ iN (t + aN)) * (smpV τ jN (t + bN))))), (0, .ref (q 0)), (1, .int i), (2, .int a), (3, .int j), (4, .int b)]) C.1 C.2.1 dX8_multiply_78 hl (k := 1) rfl rfl (by decide) rfl (fun ls hl => ?_)
            refine lv_goto C.1 C.2.1 (tgt := 11) dX8_multiply_81 (by decide) ?_
            exact ih_11 (t + 1) (x5 + ((smpV τ iN (t + aN)) * (smpV τ jN (t + bN)))) (x7 + 1) (by omega) ((ti_add ht (show (1 : Int32).toInt = 1 from by decide) (by omega) (by omega)).trans (by omega)) (by omega) (by rw [es, hs]) _ _ _ (by rw [ec]; exact hW) (lv_sub hl [0, 1, 2, 3, 4, 5, 6] rfl)
          · skip
            have hW : WB G 33 q (eM G q τ (sg ξ 1 (nI (mulC τ iN aN jN bN t)))) s H locs := hW
            obtain ⟨es, ec⟩ := mul_n (τ := τ) (i := iN) (a := aN) (j := jN) (b := bN) (t := t) (fun h => k_5 h.2)
            refine lv_if_eq C.1 C.2.1 (tgt := 78) dX8_multiply_40 (by decide) (fun _ => ?_) (fun c => absurd c (by decide))
            refine lv_iinc (v := (x7 + 1)) (lv' := [(7, .int (x7 + 1)), (5, .long x5), (0, .ref (q 0)), (1, .int i), (2, .int a), (3, .int j), (4, .int b)]) C.1 C.2.1 dX8_multiply_78 hl (k := 0) rfl rfl (by decide) rfl (fun ls hl => ?_)
            refine lv_goto C.1 C.2.1 (tgt := 11) dX8_multiply_81 (by decide) ?_
            exact ih_11 (t + 1) x5 (x7 + 1) (by omega) ((ti_add ht (show (1 : Int32).toInt = 1 from by decide) (by omega) (by omega)).trans (by omega)) (by omega) (by rw [es, hs]) _ _ _ (by rw [ec]; exact hW) (lv_sub hl [0, 1, 2, 3, 4, 5, 6] rfl)
        · skip
          have hW : WB G 33 q (eM G q τ (sg ξ 1 (nI (mulC τ iN aN jN bN t)))) s H locs := hW
          obtain ⟨es, ec⟩ := mul_n (τ := τ) (i := iN) (a := aN) (j := jN) (b := bN) (t := t) (fun h => k_3 h.1)
          refine lv_if_eq C.1 C.2.1 (tgt := 78) dX8_multiply_27 (by decide) (fun _ => ?_) (fun c => absurd c (by decide))
          refine lv_iinc (v := (x7 + 1)) (lv' := [(7, .int (x7 + 1)), (5, .long x5), (0, .ref (q 0)), (1, .int i), (2, .int a), (3, .int j), (4, .int b)]) C.1 C.2.1 dX8_multiply_78 hl (k := 0) rfl rfl (by decide) rfl (fun ls hl => ?_)
          refine lv_goto C.1 C.2.1 (tgt := 11) dX8_multiply_81 (by decide) ?_
          exact ih_11 (t + 1) x5 (x7 + 1) (by omega) ((ti_add ht (show (1 : Int32).toInt = 1 from by decide) (by omega) (by omega)).trans (by omega)) (by omega) (by rw [es, hs]) _ _ _ (by rw [ec]; exact hW) (lv_sub hl [0, 1, 2, 3, 4, 5, 6] rfl)
  exact L_11_1 _ 0 0 0 (Nat.lt_succ_self _) (by decide) (by omega) rfl _ _ _ hW (lv_sub hl [0, 1, 2, 3, 4, 5, 6] rfl)
set_option maxHeartbeats 4000000 in
set_option maxRecDepth 100000 in
theorem c_X8_productOf (l : Launch) (G : GG) (q : Nat → Nat) (sz : Nat) (τ ξ : ST) (i : Int32) (j : Int32) (iN : Nat) (jN : Nat) (hi : i.toInt = (iN : Int)) (hj : j.toInt = (jN : Int)) (hi6 : iN < 6) (hj6 : jN < 6) (h_l : ∀ d : Nat, d < 6 → 0 ≤ (τ.2.1 2 d).toInt ∧ (τ.2.1 2 d).toInt ≤ 30) (h_f : 0 ≤ (τ.1 2).toInt ∧ (τ.1 2).toInt ≤ 40) (h_s : ∀ d : Nat, d < 6 → 0 ≤ (τ.2.1 6 d).toInt ∧ (τ.2.1 6 d).toInt ≤ 100) : Met l yX8_productOf (WSb yX8_productOf cX8_productOf 3 (some .long)) (rmA 3 75) (va_Pc [.ref (q 0), .int i, .int j] (PW G 33 q sz (eM G q τ ξ))) (va_Ql (fun (r : Int64) (u : (ST × ST)) => r = prd τ iN jN ∧ u = (τ, (sg ξ 1 (nI (tck τ iN jN))))) (fun u => BW G 33 q (eM G q u.1 u.2)) (FA 33 q sz)) 0 0 (FA 33 q sz) := by
  refine Met_B (own := RX8) rfl (by decide) (Nat.le_of_ble_eq_true rfl) (fun p e s m args below meth c ls hsz C hW hr hk hl QQ hQ => ?_)
  subst hsz
  have hl : lv_has ls 3 [(0, .ref (q 0)), (1, .int i), (2, .int j)] := hl
  have l1 := h_l iN hi6
  have l2 := h_l jN hj6
  refine lv_aload_n C.1 C.2.1 dX8_productOf_0 rfl (lv_at hl 0 rfl) ?_
  refine lv_iload_n C.1 C.2.1 dX8_productOf_1 rfl (lv_at hl 1 rfl) ?_
  refine lv_aload_n C.1 C.2.1 dX8_productOf_2 rfl (lv_at hl 0 rfl) ?_
  refine mG_delays C hW dX8_productOf_3 ?_
  refine lv_iload_n C.1 C.2.1 dX8_productOf_6 rfl (lv_at hl 1 rfl) ?_
  refine mL_delays C hW iN (hi.trans (by omega)) (by omega) (v := (τ.2.1 2 iN)) rfl dX8_productOf_7 ?_
  refine lv_iload_n C.1 C.2.1 dX8_productOf_8 rfl (lv_at hl 2 rfl) ?_
  refine lv_aload_n C.1 C.2.1 dX8_productOf_9 rfl (lv_at hl 0 rfl) ?_
  refine mG_delays C hW dX8_productOf_10 ?_
  refine lv_iload_n C.1 C.2.1 dX8_productOf_13 rfl (lv_at hl 2 rfl) ?_
  refine mL_delays C hW jN (hj.trans (by omega)) (by omega) (v := (τ.2.1 2 jN)) rfl dX8_productOf_14 ?_
  refine go_l hW (run_V (o := 0) (As := [.int i, .int (τ.2.1 2 iN), .int j, .int (τ.2.1 2 jN)]) (rest := []) C hW (by decide) rfl rfl (c_X8_multiply l G q _ τ ξ i (τ.2.1 2 iN) j (τ.2.1 2 jN) iN ((((τ.2.1 2 iN)).toInt).toNat) jN ((((τ.2.1 2 jN)).toInt).toNat) (hi.trans (by omega)) ((rfl : ((τ.2.1 2 iN)).toInt = ((τ.2.1 2 iN)).toInt).trans (by omega)) (hj.trans (by omega)) ((rfl : ((τ.2.1 2 jN)).toInt = ((τ.2.1 2 jN)).toInt).trans (by omega)) (by omega) (by omega) (by omega) (by omega) h_f h_s) (cw_V 4 C bL_X8_168 bI_X8_multiply bV_X8_multiply bN_X8 bC_X8_multiply ⟨rfl, rfl⟩ (by decide +kernel) ⟨Nat.le_of_ble_eq_true rfl, Nat.le_of_ble_eq_true rfl⟩) rfl hl.1 rfl (Nat.le_of_ble_eq_true rfl) dX8_productOf_15 ⟨Nat.le_refl _, Nat.le_refl _⟩) (fun r_1 u_1 H locs hp_1 hW => ?_)
  rcases hp_1 with ⟨rfl, rfl⟩
  have hW : WB G 33 q (eM G q τ (sg ξ 1 (nI (mulC τ iN ((((τ.2.1 2 iN)).toInt).toNat) jN ((((τ.2.1 2 jN)).toInt).toNat) 100)))) s H locs := hW
  subst hQ
  exact r_lret (τ, (sg ξ 1 (nI (mulC τ iN ((((τ.2.1 2 iN)).toInt).toNat) jN ((((τ.2.1 2 jN)).toInt).toNat) 100)))) C hW hr hk dX8_productOf_18 (⟨rfl, rfl⟩)
set_option maxHeartbeats 4000000 in
set_option maxRecDepth 100000 in
theorem c_X8_ticks (l : Launch) (G : GG) (q : Nat → Nat) (sz : Nat) (τ ξ : ST) (i : Int32) (j : Int32) (h_d : 0 ≤ (τ.1 0).toInt ∧ (τ.1 0).toInt ≤ 6) (h_l : ∀ d : Nat, d < 6 → 0 ≤ (τ.2.1 2 d).toInt ∧ (τ.2.1 2 d).toInt ≤ 30) (h_f : 0 ≤ (τ.1 2).toInt ∧ (τ.1 2).toInt ≤ 40) (h_s : ∀ d : Nat, d < 6 → 0 ≤ (τ.2.1 6 d).toInt ∧ (τ.2.1 6 d).toInt ≤ 100) : Met l yX8_ticks (WSb yX8_ticks cX8_ticks 5 (some .int)) (rmA 4 97) (va_Pc [.ref (q 0), .int i, .int j] (PW G 33 q sz (eM G q τ ξ))) (va_Qi (fun (r : Int32) (u : (ST × ST)) => sp_ticks τ i j = (r, u.1)) (fun u => BW G 33 q (eM G q u.1 u.2)) (FA 33 q sz)) 0 0 (FA 33 q sz) := by
  refine Met_B (own := RX8) rfl (by decide) (Nat.le_of_ble_eq_true rfl) (fun p e s m args below meth c ls hsz C hW hr hk hl QQ hQ => ?_)
  subst hsz
  have hl : lv_has ls 5 [(0, .ref (q 0)), (1, .int i), (2, .int j)] := hl
  refine lv_aload_n C.1 C.2.1 dX8_ticks_0 rfl (lv_at hl 0 rfl) ?_
  refine lv_iload_n C.1 C.2.1 dX8_ticks_1 rfl (lv_at hl 1 rfl) ?_
  refine go_i hW (run_V (o := 0) (As := [.int i]) (rest := []) C hW (by decide) rfl rfl (c_X8_isDish l G q _ τ ξ i  h_d) (cw_V 1 C bL_X8_129 bI_X8_isDish bV_X8_isDish bN_X8 bC_X8_isDish ⟨rfl, rfl⟩ (by decide +kernel) ⟨Nat.le_of_ble_eq_true rfl, Nat.le_of_ble_eq_true rfl⟩) rfl hl.1 rfl (Nat.le_of_ble_eq_true rfl) dX8_ticks_2 ⟨Nat.le_refl _, Nat.le_refl _⟩) (fun r_1 u_1 H locs hp_1 hW => ?_)
  rcases hp_1 with ⟨rfl, rfl, k_1_0, k_1_1⟩ | ⟨rfl, rfl, k_1⟩
  · skip
    have hW : WB G 33 q (eM G q τ ξ) s H locs := hW
    refine lv_if_eq C.1 C.2.1 (tgt := 16) dX8_ticks_5 (by decide) (fun c => absurd c (by decide)) (fun _ => ?_)
    refine lv_aload_n C.1 C.2.1 dX8_ticks_8 rfl (lv_at hl 0 rfl) ?_
    refine lv_iload_n C.1 C.2.1 dX8_ticks_9 rfl (lv_at hl 2 rfl) ?_
    refine go_i hW (run_V (o := 0) (As := [.int j]) (rest := []) C hW (by decide) rfl rfl (c_X8_isDish l G q _ τ ξ j  h_d) (cw_V 1 C bL_X8_129 bI_X8_isDish bV_X8_isDish bN_X8 bC_X8_isDish ⟨rfl, rfl⟩ (by decide +kernel) ⟨Nat.le_of_ble_eq_true rfl, Nat.le_of_ble_eq_true rfl⟩) rfl hl.1 rfl (Nat.le_of_ble_eq_true rfl) dX8_ticks_10 ⟨Nat.le_refl _, Nat.le_refl _⟩) (fun r_3 u_3 H locs hp_3 hW => ?_)
    rcases hp_3 with ⟨rfl, rfl, k_3_0, k_3_1⟩ | ⟨rfl, rfl, k_3⟩
    · skip
      have hW : WB G 33 q (eM G q τ ξ) s H locs := hW
      refine lv_if_ne C.1 C.2.1 (tgt := 19) dX8_ticks_13 (by decide) (fun _ => ?_) (fun c => absurd c (by decide))
      refine lv_aload_n C.1 C.2.1 dX8_ticks_19 rfl (lv_at hl 0 rfl) ?_
      refine lv_iload_n C.1 C.2.1 dX8_ticks_20 rfl (lv_at hl 1 rfl) ?_
      refine lv_iload_n C.1 C.2.1 dX8_ticks_21 rfl (lv_at hl 2 rfl) ?_
      refine go_l hW (run_V (o := 0) (As := [.int i, .int j]) (rest := []) C hW (by decide) rfl rfl (c_X8_productOf l G q _ τ ξ i j (((i).toInt).toNat) (((j).toInt).toNat) ((rfl : (i).toInt = (i).toInt).trans (by omega)) ((rfl : (j).toInt = (j).toInt).trans (by omega)) (by omega) (by omega) h_l h_f h_s) (cw_V 2 C bL_X8_172 bI_X8_productOf bV_X8_productOf bN_X8 bC_X8_productOf ⟨rfl, rfl⟩ (by decide +kernel) ⟨Nat.le_of_ble_eq_true rfl, Nat.le_of_ble_eq_true rfl⟩) rfl hl.1 rfl (Nat.le_of_ble_eq_true rfl) dX8_ticks_22 ⟨Nat.le_refl _, Nat.le_refl _⟩) (fun r_5 u_5 H locs hp_5 hW => ?_)
      rcases hp_5 with ⟨rfl, rfl⟩
      have hW : WB G 33 q (eM G q τ (sg ξ 1 (nI (tck τ (((i).toInt).toNat) (((j).toInt).toNat))))) s H locs := hW
      refine lv_lstore_n (lv' := [(3, .long (prd τ (((i).toInt).toNat) (((j).toInt).toNat))), (0, .ref (q 0)), (1, .int i), (2, .int j)]) C.1 C.2.1 dX8_ticks_25 rfl hl (by decide) rfl (fun ls hl => ?_)
      refine lv_aload_n C.1 C.2.1 dX8_ticks_26 rfl (lv_at hl 1 rfl) ?_
      refine mG_counted C hW (v := (nI (tck τ (((i).toInt).toNat) (((j).toInt).toNat)))) rfl dX8_ticks_27 ?_
      subst hQ
      exact r_iret (τ, (sg ξ 1 (nI (tck τ (((i).toInt).toNat) (((j).toInt).toNat))))) C hW hr hk dX8_ticks_30 (show sp_ticks τ i j = ((nI (tck τ (((i).toInt).toNat) (((j).toInt).toNat))), τ) from by unfold sp_ticks; repeat (first | rw [if_pos (by omega)] | rw [if_neg (by omega)]))
    · skip
      have hW : WB G 33 q (eM G q τ ξ) s H locs := hW
      refine lv_if_ne C.1 C.2.1 (tgt := 19) dX8_ticks_13 (by decide) (fun c => absurd c (by decide)) (fun _ => ?_)
      refine lv_bipush C.1 C.2.1 (v := (-2)) dX8_ticks_16 (by decide) ?_
      subst hQ
      exact r_iret (τ, ξ) C hW hr hk dX8_ticks_18 (show sp_ticks τ i j = ((-2), τ) from by unfold sp_ticks; repeat (first | rw [if_pos (by omega)] | rw [if_neg (by omega)]))
  · skip
    have hW : WB G 33 q (eM G q τ ξ) s H locs := hW
    refine lv_if_eq C.1 C.2.1 (tgt := 16) dX8_ticks_5 (by decide) (fun _ => ?_) (fun c => absurd c (by decide))
    refine lv_bipush C.1 C.2.1 (v := (-2)) dX8_ticks_16 (by decide) ?_
    subst hQ
    exact r_iret (τ, ξ) C hW hr hk dX8_ticks_18 (show sp_ticks τ i j = ((-2), τ) from by unfold sp_ticks; repeat (first | rw [if_pos (by omega)] | rw [if_neg (by omega)]))
set_option maxHeartbeats 4000000 in
set_option maxRecDepth 100000 in
theorem c_X8_product (l : Launch) (G : GG) (q : Nat → Nat) (sz : Nat) (τ ξ : ST) (i : Int32) (j : Int32) (h_d : 0 ≤ (τ.1 0).toInt ∧ (τ.1 0).toInt ≤ 6) (h_l : ∀ d : Nat, d < 6 → 0 ≤ (τ.2.1 2 d).toInt ∧ (τ.2.1 2 d).toInt ≤ 30) (h_f : 0 ≤ (τ.1 2).toInt ∧ (τ.1 2).toInt ≤ 40) (h_s : ∀ d : Nat, d < 6 → 0 ≤ (τ.2.1 6 d).toInt ∧ (τ.2.1 6 d).toInt ≤ 100) : Met l yX8_product (WSb yX8_product cX8_product 3 (some .long)) (rmA 4 97) (va_Pc [.ref (q 0), .int i, .int j] (PW G 33 q sz (eM G q τ ξ))) (va_Ql (fun (r : Int64) (u : (ST × ST)) => sp_product τ i j = (r, u.1)) (fun u => BW G 33 q (eM G q u.1 u.2)) (FA 33 q sz)) 0 0 (FA 33 q sz) := by
  refine Met_B (own := RX8) rfl (by decide) (Nat.le_of_ble_eq_true rfl) (fun p e s m args below meth c ls hsz C hW hr hk hl QQ hQ => ?_)
  subst hsz
  have hl : lv_has ls 3 [(0, .ref (q 0)), (1, .int i), (2, .int j)] := hl
  refine lv_aload_n C.1 C.2.1 dX8_product_0 rfl (lv_at hl 0 rfl) ?_
  refine lv_iload_n C.1 C.2.1 dX8_product_1 rfl (lv_at hl 1 rfl) ?_
  refine go_i hW (run_V (o := 0) (As := [.int i]) (rest := []) C hW (by decide) rfl rfl (c_X8_isDish l G q _ τ ξ i  h_d) (cw_V 1 C bL_X8_129 bI_X8_isDish bV_X8_isDish bN_X8 bC_X8_isDish ⟨rfl, rfl⟩ (by decide +kernel) ⟨Nat.le_of_ble_eq_true rfl, Nat.le_of_ble_eq_true rfl⟩) rfl hl.1 rfl (Nat.le_of_ble_eq_true rfl) dX8_product_2 ⟨Nat.le_refl _, Nat.le_refl _⟩) (fun r_1 u_1 H locs hp_1 hW => ?_)
  rcases hp_1 with ⟨rfl, rfl, k_1_0, k_1_1⟩ | ⟨rfl, rfl, k_1⟩
  · skip
    have hW : WB G 33 q (eM G q τ ξ) s H locs := hW
    refine lv_if_eq C.1 C.2.1 (tgt := 25) dX8_product_5 (by decide) (fun c => absurd c (by decide)) (fun _ => ?_)
    refine lv_aload_n C.1 C.2.1 dX8_product_8 rfl (lv_at hl 0 rfl) ?_
    refine lv_iload_n C.1 C.2.1 dX8_product_9 rfl (lv_at hl 2 rfl) ?_
    refine go_i hW (run_V (o := 0) (As := [.int j]) (rest := []) C hW (by decide) rfl rfl (c_X8_isDish l G q _ τ ξ j  h_d) (cw_V 1 C bL_X8_129 bI_X8_isDish bV_X8_isDish bN_X8 bC_X8_isDish ⟨rfl, rfl⟩ (by decide +kernel) ⟨Nat.le_of_ble_eq_true rfl, Nat.le_of_ble_eq_true rfl⟩) rfl hl.1 rfl (Nat.le_of_ble_eq_true rfl) dX8_product_10 ⟨Nat.le_refl _, Nat.le_refl _⟩) (fun r_3 u_3 H locs hp_3 hW => ?_)
    rcases hp_3 with ⟨rfl, rfl, k_3_0, k_3_1⟩ | ⟨rfl, rfl, k_3⟩
    · skip
      have hW : WB G 33 q (eM G q τ ξ) s H locs := hW
      refine lv_if_eq C.1 C.2.1 (tgt := 25) dX8_product_13 (by decide) (fun c => absurd c (by decide)) (fun _ => ?_)
      refine lv_aload_n C.1 C.2.1 dX8_product_16 rfl (lv_at hl 0 rfl) ?_
      refine lv_iload_n C.1 C.2.1 dX8_product_17 rfl (lv_at hl 1 rfl) ?_
      refine lv_iload_n C.1 C.2.1 dX8_product_18 rfl (lv_at hl 2 rfl) ?_
      refine go_l hW (run_V (o := 0) (As := [.int i, .int j]) (rest := []) C hW (by decide) rfl rfl (c_X8_productOf l G q _ τ ξ i j (((i).toInt).toNat) (((j).toInt).toNat) ((rfl : (i).toInt = (i).toInt).trans (by omega)) ((rfl : (j).toInt = (j).toInt).trans (by omega)) (by omega) (by omega) h_l h_f h_s) (cw_V 2 C bL_X8_172 bI_X8_productOf bV_X8_productOf bN_X8 bC_X8_productOf ⟨rfl, rfl⟩ (by decide +kernel) ⟨Nat.le_of_ble_eq_true rfl, Nat.le_of_ble_eq_true rfl⟩) rfl hl.1 rfl (Nat.le_of_ble_eq_true rfl) dX8_product_19 ⟨Nat.le_refl _, Nat.le_refl _⟩) (fun r_5 u_5 H locs hp_5 hW => ?_)
      rcases hp_5 with ⟨rfl, rfl⟩
      have hW : WB G 33 q (eM G q τ (sg ξ 1 (nI (tck τ (((i).toInt).toNat) (((j).toInt).toNat))))) s H locs := hW
      refine lv_goto C.1 C.2.1 (tgt := 28) dX8_product_22 (by decide) ?_
      subst hQ
      exact r_lret (τ, (sg ξ 1 (nI (tck τ (((i).toInt).toNat) (((j).toInt).toNat))))) C hW hr hk dX8_product_28 (show sp_product τ i j = ((prd τ (((i).toInt).toNat) (((j).toInt).toNat)), τ) from by unfold sp_product; repeat (first | rw [if_pos (by omega)] | rw [if_neg (by omega)]))
    · skip
      have hW : WB G 33 q (eM G q τ ξ) s H locs := hW
      refine lv_if_eq C.1 C.2.1 (tgt := 25) dX8_product_13 (by decide) (fun _ => ?_) (fun c => absurd c (by decide))
      refine lv_ldc2 C.1 C.2.1 C.2.2.2.1 (C.2.2.2.2.1 _ bQ_X8_175) dX8_product_25 ?_
      subst hQ
      exact r_lret (τ, ξ) C hW hr hk dX8_product_28 (show sp_product τ i j = ((-9223372036854775808), τ) from by unfold sp_product; repeat (first | rw [if_pos (by omega)] | rw [if_neg (by omega)]))
  · skip
    have hW : WB G 33 q (eM G q τ ξ) s H locs := hW
    refine lv_if_eq C.1 C.2.1 (tgt := 25) dX8_product_5 (by decide) (fun _ => ?_) (fun c => absurd c (by decide))
    refine lv_ldc2 C.1 C.2.1 C.2.2.2.1 (C.2.2.2.2.1 _ bQ_X8_175) dX8_product_25 ?_
    subst hQ
    exact r_lret (τ, ξ) C hW hr hk dX8_product_28 (show sp_product τ i j = ((-9223372036854775808), τ) from by unfold sp_product; repeat (first | rw [if_pos (by omega)] | rw [if_neg (by omega)]))
set_option maxHeartbeats 4000000 in
set_option maxRecDepth 100000 in
theorem c_X8_three (l : Launch) (G : GG) (q : Nat → Nat) (sz : Nat) (τ ξ : ST) (i : Int32) (j : Int32) (k : Int32) (h_d : 0 ≤ (τ.1 0).toInt ∧ (τ.1 0).toInt ≤ 6) (h_l : ∀ d : Nat, d < 6 → 0 ≤ (τ.2.1 2 d).toInt ∧ (τ.2.1 2 d).toInt ≤ 30) (h_f : 0 ≤ (τ.1 2).toInt ∧ (τ.1 2).toInt ≤ 40) (h_s : ∀ d : Nat, d < 6 → 0 ≤ (τ.2.1 6 d).toInt ∧ (τ.2.1 6 d).toInt ≤ 100) : Met l yX8_three (WSb yX8_three cX8_three 4 (some .int)) (rmA 4 97) (va_Pc [.ref (q 0), .int i, .int j, .int k] (PW G 33 q sz (eM G q τ ξ))) (va_Qi (fun (r : Int32) (u : (ST × ST)) => sp_three τ i j k = (r, u.1)) (fun u => BW G 33 q (eM G q u.1 u.2)) (FA 33 q sz)) 0 0 (FA 33 q sz) := by
  refine Met_B (own := RX8) rfl (by decide) (Nat.le_of_ble_eq_true rfl) (fun p e s m args below meth c ls hsz C hW hr hk hl QQ hQ => ?_)
  subst hsz
  have hl : lv_has ls 4 [(0, .ref (q 0)), (1, .int i), (2, .int j), (3, .int k)] := hl
  refine lv_aload_n C.1 C.2.1 dX8_three_0 rfl (lv_at hl 0 rfl) ?_
  refine lv_iload_n C.1 C.2.1 dX8_three_1 rfl (lv_at hl 1 rfl) ?_
  refine go_i hW (run_V (o := 0) (As := [.int i]) (rest := []) C hW (by decide) rfl rfl (c_X8_isDish l G q _ τ ξ i  h_d) (cw_V 1 C bL_X8_129 bI_X8_isDish bV_X8_isDish bN_X8 bC_X8_isDish ⟨rfl, rfl⟩ (by decide +kernel) ⟨Nat.le_of_ble_eq_true rfl, Nat.le_of_ble_eq_true rfl⟩) rfl hl.1 rfl (Nat.le_of_ble_eq_true rfl) dX8_three_2 ⟨Nat.le_refl _, Nat.le_refl _⟩) (fun r_1 u_1 H locs hp_1 hW => ?_)
  rcases hp_1 with ⟨rfl, rfl, k_1_0, k_1_1⟩ | ⟨rfl, rfl, k_1⟩
  · skip
    have hW : WB G 33 q (eM G q τ ξ) s H locs := hW
    refine lv_if_eq C.1 C.2.1 (tgt := 39) dX8_three_5 (by decide) (fun c => absurd c (by decide)) (fun _ => ?_)
    refine lv_aload_n C.1 C.2.1 dX8_three_8 rfl (lv_at hl 0 rfl) ?_
    refine lv_iload_n C.1 C.2.1 dX8_three_9 rfl (lv_at hl 2 rfl) ?_
    refine go_i hW (run_V (o := 0) (As := [.int j]) (rest := []) C hW (by decide) rfl rfl (c_X8_isDish l G q _ τ ξ j  h_d) (cw_V 1 C bL_X8_129 bI_X8_isDish bV_X8_isDish bN_X8 bC_X8_isDish ⟨rfl, rfl⟩ (by decide +kernel) ⟨Nat.le_of_ble_eq_true rfl, Nat.le_of_ble_eq_true rfl⟩) rfl hl.1 rfl (Nat.le_of_ble_eq_true rfl) dX8_three_10 ⟨Nat.le_refl _, Nat.le_refl _⟩) (fun r_3 u_3 H locs hp_3 hW => ?_)
    rcases hp_3 with ⟨rfl, rfl, k_3_0, k_3_1⟩ | ⟨rfl, rfl, k_3⟩
    · skip
      have hW : WB G 33 q (eM G q τ ξ) s H locs := hW
      refine lv_if_eq C.1 C.2.1 (tgt := 39) dX8_three_13 (by decide) (fun c => absurd c (by decide)) (fun _ => ?_)
      refine lv_aload_n C.1 C.2.1 dX8_three_16 rfl (lv_at hl 0 rfl) ?_
      refine lv_iload_n C.1 C.2.1 dX8_three_17 rfl (lv_at hl 3 rfl) ?_
      refine go_i hW (run_V (o := 0) (As := [.int k]) (rest := []) C hW (by decide) rfl rfl (c_X8_isDish l G q _ τ ξ k  h_d) (cw_V 1 C bL_X8_129 bI_X8_isDish bV_X8_isDish bN_X8 bC_X8_isDish ⟨rfl, rfl⟩ (by decide +kernel) ⟨Nat.le_of_ble_eq_true rfl, Nat.le_of_ble_eq_true rfl⟩) rfl hl.1 rfl (Nat.le_of_ble_eq_true rfl) dX8_three_18 ⟨Nat.le_refl _, Nat.le_refl _⟩) (fun r_5 u_5 H locs hp_5 hW => ?_)
      rcases hp_5 with ⟨rfl, rfl, k_5_0, k_5_1⟩ | ⟨rfl, rfl, k_5⟩
      · skip
        have hW : WB G 33 q (eM G q τ ξ) s H locs := hW
        refine lv_if_eq C.1 C.2.1 (tgt := 39) dX8_three_21 (by decide) (fun c => absurd c (by decide)) (fun _ => ?_)
        refine lv_iload_n C.1 C.2.1 dX8_three_24 rfl (lv_at hl 1 rfl) ?_
        refine lv_iload_n C.1 C.2.1 dX8_three_25 rfl (lv_at hl 2 rfl) ?_
        refine lv_icmp_eq C.1 C.2.1 (tgt := 39) dX8_three_26 (by decide) (fun c_7 => ?_) (fun c_7 => ?_)
        · skip
          have k_7 := (tc_eq (rfl : (i).toInt = (i).toInt) (rfl : (j).toInt = (j).toInt)).mp c_7
          refine lv_bipush C.1 C.2.1 (v := (-2)) dX8_three_39 (by decide) ?_
          subst hQ
          exact r_iret (τ, ξ) C hW hr hk dX8_three_41 (show sp_three τ i j k = ((-2), τ) from by unfold sp_three; repeat (first | rw [if_pos (by omega)] | rw [if_neg (by omega)]))
        · skip
          have k_7 := (tn_eq (rfl : (i).toInt = (i).toInt) (rfl : (j).toInt = (j).toInt)).mp c_7
          refine lv_iload_n C.1 C.2.1 dX8_three_29 rfl (lv_at hl 2 rfl) ?_
          refine lv_iload_n C.1 C.2.1 dX8_three_30 rfl (lv_at hl 3 rfl) ?_
          refine lv_icmp_eq C.1 C.2.1 (tgt := 39) dX8_three_31 (by decide) (fun c_8 => ?_) (fun c_8 => ?_)
          · skip
            have k_8 := (tc_eq (rfl : (j).toInt = (j).toInt) (rfl : (k).toInt = (k).toInt)).mp c_8
            refine lv_bipush C.1 C.2.1 (v := (-2)) dX8_three_39 (by decide) ?_
            subst hQ
            exact r_iret (τ, ξ) C hW hr hk dX8_three_41 (show sp_three τ i j k = ((-2), τ) from by unfold sp_three; repeat (first | rw [if_pos (by omega)] | rw [if_neg (by omega)]))
          · skip
            have k_8 := (tn_eq (rfl : (j).toInt = (j).toInt) (rfl : (k).toInt = (k).toInt)).mp c_8
            refine lv_iload_n C.1 C.2.1 dX8_three_34 rfl (lv_at hl 1 rfl) ?_
            refine lv_iload_n C.1 C.2.1 dX8_three_35 rfl (lv_at hl 3 rfl) ?_
            refine lv_icmp_ne C.1 C.2.1 (tgt := 42) dX8_three_36 (by decide) (fun c_9 => ?_) (fun c_9 => ?_)
            · skip
              have k_9 := (tn_eq (rfl : (i).toInt = (i).toInt) (rfl : (k).toInt = (k).toInt)).mp c_9
              refine lv_aload_n C.1 C.2.1 dX8_three_42 rfl (lv_at hl 0 rfl) ?_
              refine lv_iload_n C.1 C.2.1 dX8_three_43 rfl (lv_at hl 1 rfl) ?_
              refine lv_iload_n C.1 C.2.1 dX8_three_44 rfl (lv_at hl 2 rfl) ?_
              refine go_l hW (run_V (o := 0) (As := [.int i, .int j]) (rest := []) C hW (by decide) rfl rfl (c_X8_productOf l G q _ τ ξ i j (((i).toInt).toNat) (((j).toInt).toNat) ((rfl : (i).toInt = (i).toInt).trans (by omega)) ((rfl : (j).toInt = (j).toInt).trans (by omega)) (by omega) (by omega) h_l h_f h_s) (cw_V 2 C bL_X8_172 bI_X8_productOf bV_X8_productOf bN_X8 bC_X8_productOf ⟨rfl, rfl⟩ (by decide +kernel) ⟨Nat.le_of_ble_eq_true rfl, Nat.le_of_ble_eq_true rfl⟩) rfl hl.1 rfl (Nat.le_of_ble_eq_true rfl) dX8_three_45 ⟨Nat.le_refl _, Nat.le_refl _⟩) (fun r_10 u_10 H locs hp_10 hW => ?_)
              rcases hp_10 with ⟨rfl, rfl⟩
              have hW : WB G 33 q (eM G q τ (sg ξ 1 (nI (tck τ (((i).toInt).toNat) (((j).toInt).toNat))))) s H locs := hW
              refine go_i hW (run_S (As := [.long (prd τ (((i).toInt).toNat) (((j).toInt).toNat))]) (rest := []) C hW (c_X8_sign l G q _ τ (sg ξ 1 (nI (tck τ (((i).toInt).toNat) (((j).toInt).toNat)))) (prd τ (((i).toInt).toNat) (((j).toInt).toNat))  ) (cw_S 1 C bL_X8_177 bS_X8_sign bN_X8 bC_X8_sign ⟨rfl, rfl⟩ (by decide +kernel) ⟨Nat.le_of_ble_eq_true rfl, Nat.le_of_ble_eq_true rfl⟩) rfl hl.1 rfl (Nat.le_of_ble_eq_true rfl) dX8_three_48 ⟨Nat.le_refl _, Nat.le_refl _⟩) (fun r_11 u_11 H locs hp_11 hW => ?_)
              rcases hp_11 with ⟨rfl, rfl⟩
              have hW : WB G 33 q (eM G q τ (sg ξ 1 (nI (tck τ (((i).toInt).toNat) (((j).toInt).toNat))))) s H locs := hW
              refine lv_aload_n C.1 C.2.1 dX8_three_51 rfl (lv_at hl 0 rfl) ?_
              refine lv_iload_n C.1 C.2.1 dX8_three_52 rfl (lv_at hl 2 rfl) ?_
              refine lv_iload_n C.1 C.2.1 dX8_three_53 rfl (lv_at hl 3 rfl) ?_
              refine go_l hW (run_V (o := 0) (As := [.int j, .int k]) (rest := [.int (sgn (prd τ (((i).toInt).toNat) (((j).toInt).toNat)))]) C hW (by decide) rfl rfl (c_X8_productOf l G q _ τ (sg ξ 1 (nI (tck τ (((i).toInt).toNat) (((j).toInt).toNat)))) j k (((j).toInt).toNat) (((k).toInt).toNat) ((rfl : (j).toInt = (j).toInt).trans (by omega)) ((rfl : (k).toInt = (k).toInt).trans (by omega)) (by omega) (by omega) h_l h_f h_s) (cw_V 2 C bL_X8_172 bI_X8_productOf bV_X8_productOf bN_X8 bC_X8_productOf ⟨rfl, rfl⟩ (by decide +kernel) ⟨Nat.le_of_ble_eq_true rfl, Nat.le_of_ble_eq_true rfl⟩) rfl hl.1 rfl (Nat.le_of_ble_eq_true rfl) dX8_three_54 ⟨Nat.le_refl _, Nat.le_refl _⟩) (fun r_12 u_12 H locs hp_12 hW => ?_)
              rcases hp_12 with ⟨rfl, rfl⟩
              have hW : WB G 33 q (eM G q τ (sg (sg ξ 1 (nI (tck τ (((i).toInt).toNat) (((j).toInt).toNat)))) 1 (nI (tck τ (((j).toInt).toNat) (((k).toInt).toNat))))) s H locs := hW
              refine go_i hW (run_S (As := [.long (prd τ (((j).toInt).toNat) (((k).toInt).toNat))]) (rest := [.int (sgn (prd τ (((i).toInt).toNat) (((j).toInt).toNat)))]) C hW (c_X8_sign l G q _ τ (sg (sg ξ 1 (nI (tck τ (((i).toInt).toNat) (((j).toInt).toNat)))) 1 (nI (tck τ (((j).toInt).toNat) (((k).toInt).toNat)))) (prd τ (((j).toInt).toNat) (((k).toInt).toNat))  ) (cw_S 1 C bL_X8_177 bS_X8_sign bN_X8 bC_X8_sign ⟨rfl, rfl⟩ (by decide +kernel) ⟨Nat.le_of_ble_eq_true rfl, Nat.le_of_ble_eq_true rfl⟩) rfl hl.1 rfl (Nat.le_of_ble_eq_true rfl) dX8_three_57 ⟨Nat.le_refl _, Nat.le_refl _⟩) (fun r_13 u_13 H locs hp_13 hW => ?_)
              rcases hp_13 with ⟨rfl, rfl⟩
              have hW : WB G 33 q (eM G q τ (sg (sg ξ 1 (nI (tck τ (((i).toInt).toNat) (((j).toInt).toNat)))) 1 (nI (tck τ (((j).toInt).toNat) (((k).toInt).toNat))))) s H locs := hW
              refine lv_imul C.1 C.2.1 dX8_three_60 ?_
              refine lv_aload_n C.1 C.2.1 dX8_three_61 rfl (lv_at hl 0 rfl) ?_
              refine lv_iload_n C.1 C.2.1 dX8_three_62 rfl (lv_at hl 1 rfl) ?_
              refine lv_iload_n C.1 C.2.1 dX8_three_63 rfl (lv_at hl 3 rfl) ?_
              refine go_l hW (run_V (o := 0) (As := [.int i, .int k]) (rest := [.int ((sgn (prd τ (((i).toInt).toNat) (((j).toInt).toNat))) * (sgn (prd τ (((j).toInt).toNat) (((k).toInt).toNat))))]) C hW (by decide) rfl rfl (c_X8_productOf l G q _ τ (sg (sg ξ 1 (nI (tck τ (((i).toInt).toNat) (((j).toInt).toNat)))) 1 (nI (tck τ (((j).toInt).toNat) (((k).toInt).toNat)))) i k (((i).toInt).toNat) (((k).toInt).toNat) ((rfl : (i).toInt = (i).toInt).trans (by omega)) ((rfl : (k).toInt = (k).toInt).trans (by omega)) (by omega) (by omega) h_l h_f h_s) (cw_V 2 C bL_X8_172 bI_X8_productOf bV_X8_productOf bN_X8 bC_X8_productOf ⟨rfl, rfl⟩ (by decide +kernel) ⟨Nat.le_of_ble_eq_true rfl, Nat.le_of_ble_eq_true rfl⟩) rfl hl.1 rfl (Nat.le_of_ble_eq_true rfl) dX8_three_64 ⟨Nat.le_refl _, Nat.le_refl _⟩) (fun r_14 u_14 H locs hp_14 hW => ?_)
              rcases hp_14 with ⟨rfl, rfl⟩
              have hW : WB G 33 q (eM G q τ (sg (sg (sg ξ 1 (nI (tck τ (((i).toInt).toNat) (((j).toInt).toNat)))) 1 (nI (tck τ (((j).toInt).toNat) (((k).toInt).toNat)))) 1 (nI (tck τ (((i).toInt).toNat) (((k).toInt).toNat))))) s H locs := hW
              refine go_i hW (run_S (As := [.long (prd τ (((i).toInt).toNat) (((k).toInt).toNat))]) (rest := [.int ((sgn (prd τ (((i).toInt).toNat) (((j).toInt).toNat))) * (sgn (prd τ (((j).toInt).toNat) (((k).toInt).toNat))))]) C hW (c_X8_sign l G q _ τ (sg (sg (sg ξ 1 (nI (tck τ (((i).toInt).toNat) (((j).toInt).toNat)))) 1 (nI (tck τ (((j).toInt).toNat) (((k).toInt).toNat)))) 1 (nI (tck τ (((i).toInt).toNat) (((k).toInt).toNat)))) (prd τ (((i).toInt).toNat) (((k).toInt).toNat))  ) (cw_S 1 C bL_X8_177 bS_X8_sign bN_X8 bC_X8_sign ⟨rfl, rfl⟩ (by decide +kernel) ⟨Nat.le_of_ble_eq_true rfl, Nat.le_of_ble_eq_true rfl⟩) rfl hl.1 rfl (Nat.le_of_ble_eq_true rfl) dX8_three_67 ⟨Nat.le_refl _, Nat.le_refl _⟩) (fun r_15 u_15 H locs hp_15 hW => ?_)
              rcases hp_15 with ⟨rfl, rfl⟩
              have hW : WB G 33 q (eM G q τ (sg (sg (sg ξ 1 (nI (tck τ (((i).toInt).toNat) (((j).toInt).toNat)))) 1 (nI (tck τ (((j).toInt).toNat) (((k).toInt).toNat)))) 1 (nI (tck τ (((i).toInt).toNat) (((k).toInt).toNat))))) s H locs := hW
              refine lv_imul C.1 C.2.1 dX8_three_70 ?_
              subst hQ
              exact r_iret (τ, (sg (sg (sg ξ 1 (nI (tck τ (((i).toInt).toNat) (((j).toInt).toNat)))) 1 (nI (tck τ (((j).toInt).toNat) (((k).toInt).toNat)))) 1 (nI (tck τ (((i).toInt).toNat) (((k).toInt).toNat))))) C hW hr hk dX8_three_71 (show sp_three τ i j k = ((((sgn (prd τ (((i).toInt).toNat) (((j).toInt).toNat))) * (sgn (prd τ (((j).toInt).toNat) (((k).toInt).toNat)))) * (sgn (prd τ (((i).toInt).toNat) (((k).toInt).toNat)))), τ) from by unfold sp_three; repeat (first | rw [if_pos (by omega)] | rw [if_neg (by omega)]))
            · skip
              have k_9 := (tc_eq (rfl : (i).toInt = (i).toInt) (rfl : (k).toInt = (k).toInt)).mp c_9
              refine lv_bipush C.1 C.2.1 (v := (-2)) dX8_three_39 (by decide) ?_
              subst hQ
              exact r_iret (τ, ξ) C hW hr hk dX8_three_41 (show sp_three τ i j k = ((-2), τ) from by unfold sp_three; repeat (first | rw [if_pos (by omega)] | rw [if_neg (by omega)]))
      · skip
        have hW : WB G 33 q (eM G q τ ξ) s H locs := hW
        refine lv_if_eq C.1 C.2.1 (tgt := 39) dX8_three_21 (by decide) (fun _ => ?_) (fun c => absurd c (by decide))
        refine lv_bipush C.1 C.2.1 (v := (-2)) dX8_three_39 (by decide) ?_
        subst hQ
        exact r_iret (τ, ξ) C hW hr hk dX8_three_41 (show sp_three τ i j k = ((-2), τ) from by unfold sp_three; repeat (first | rw [if_pos (by omega)] | rw [if_neg (by omega)]))
    · skip
      have hW : WB G 33 q (eM G q τ ξ) s H locs := hW
      refine lv_if_eq C.1 C.2.1 (tgt := 39) dX8_three_13 (by decide) (fun _ => ?_) (fun c => absurd c (by decide))
      refine lv_bipush C.1 C.2.1 (v := (-2)) dX8_three_39 (by decide) ?_
      subst hQ
      exact r_iret (τ, ξ) C hW hr hk dX8_three_41 (show sp_three τ i j k = ((-2), τ) from by unfold sp_three; repeat (first | rw [if_pos (by omega)] | rw [if_neg (by omega)]))
  · skip
    have hW : WB G 33 q (eM G q τ ξ) s H locs := hW
    refine lv_if_eq C.1 C.2.1 (tgt := 39) dX8_three_5 (by decide) (fun _ => ?_) (fun c => absurd c (by decide))
    refine lv_bipush C.1 C.2.1 (v := (-2)) dX8_three_39 (by decide) ?_
    subst hQ
    exact r_iret (τ, ξ) C hW hr hk dX8_three_41 (show sp_three τ i j k = ((-2), τ) from by unfold sp_three; repeat (first | rw [if_pos (by omega)] | rw [if_neg (by omega)]))
set_option maxHeartbeats 4000000 in
set_option maxRecDepth 100000 in
theorem c_X8_four (l : Launch) (G : GG) (q : Nat → Nat) (sz : Nat) (τ ξ : ST) (i : Int32) (j : Int32) (k : Int32) (n : Int32) (h_d : 0 ≤ (τ.1 0).toInt ∧ (τ.1 0).toInt ≤ 6) (h_l : ∀ d : Nat, d < 6 → 0 ≤ (τ.2.1 2 d).toInt ∧ (τ.2.1 2 d).toInt ≤ 30) (h_f : 0 ≤ (τ.1 2).toInt ∧ (τ.1 2).toInt ≤ 40) (h_s : ∀ d : Nat, d < 6 → 0 ≤ (τ.2.1 6 d).toInt ∧ (τ.2.1 6 d).toInt ≤ 100) : Met l yX8_four (WSb yX8_four cX8_four 5 (some .int)) (rmA 4 97) (va_Pc [.ref (q 0), .int i, .int j, .int k, .int n] (PW G 33 q sz (eM G q τ ξ))) (va_Qi (fun (r : Int32) (u : (ST × ST)) => sp_four τ i j k n = (r, u.1)) (fun u => BW G 33 q (eM G q u.1 u.2)) (FA 33 q sz)) 0 0 (FA 33 q sz) := by
  refine Met_B (own := RX8) rfl (by decide) (Nat.le_of_ble_eq_true rfl) (fun p e s m args below meth c ls hsz C hW hr hk hl QQ hQ => ?_)
  subst hsz
  have hl : lv_has ls 5 [(0, .ref (q 0)), (1, .int i), (2, .int j), (3, .int k), (4, .int n)] := hl
  refine lv_aload_n C.1 C.2.1 dX8_four_0 rfl (lv_at hl 0 rfl) ?_
  refine lv_iload_n C.1 C.2.1 dX8_four_1 rfl (lv_at hl 1 rfl) ?_
  refine go_i hW (run_V (o := 0) (As := [.int i]) (rest := []) C hW (by decide) rfl rfl (c_X8_isDish l G q _ τ ξ i  h_d) (cw_V 1 C bL_X8_129 bI_X8_isDish bV_X8_isDish bN_X8 bC_X8_isDish ⟨rfl, rfl⟩ (by decide +kernel) ⟨Nat.le_of_ble_eq_true rfl, Nat.le_of_ble_eq_true rfl⟩) rfl hl.1 rfl (Nat.le_of_ble_eq_true rfl) dX8_four_2 ⟨Nat.le_refl _, Nat.le_refl _⟩) (fun r_1 u_1 H locs hp_1 hW => ?_)
  rcases hp_1 with ⟨rfl, rfl, k_1_0, k_1_1⟩ | ⟨rfl, rfl, k_1⟩
  · skip
    have hW : WB G 33 q (eM G q τ ξ) s H locs := hW
    refine lv_if_eq C.1 C.2.1 (tgt := 66) dX8_four_5 (by decide) (fun c => absurd c (by decide)) (fun _ => ?_)
    refine lv_aload_n C.1 C.2.1 dX8_four_8 rfl (lv_at hl 0 rfl) ?_
    refine lv_iload_n C.1 C.2.1 dX8_four_9 rfl (lv_at hl 2 rfl) ?_
    refine go_i hW (run_V (o := 0) (As := [.int j]) (rest := []) C hW (by decide) rfl rfl (c_X8_isDish l G q _ τ ξ j  h_d) (cw_V 1 C bL_X8_129 bI_X8_isDish bV_X8_isDish bN_X8 bC_X8_isDish ⟨rfl, rfl⟩ (by decide +kernel) ⟨Nat.le_of_ble_eq_true rfl, Nat.le_of_ble_eq_true rfl⟩) rfl hl.1 rfl (Nat.le_of_ble_eq_true rfl) dX8_four_10 ⟨Nat.le_refl _, Nat.le_refl _⟩) (fun r_3 u_3 H locs hp_3 hW => ?_)
    rcases hp_3 with ⟨rfl, rfl, k_3_0, k_3_1⟩ | ⟨rfl, rfl, k_3⟩
    · skip
      have hW : WB G 33 q (eM G q τ ξ) s H locs := hW
      refine lv_if_eq C.1 C.2.1 (tgt := 66) dX8_four_13 (by decide) (fun c => absurd c (by decide)) (fun _ => ?_)
      refine lv_aload_n C.1 C.2.1 dX8_four_16 rfl (lv_at hl 0 rfl) ?_
      refine lv_iload_n C.1 C.2.1 dX8_four_17 rfl (lv_at hl 3 rfl) ?_
      refine go_i hW (run_V (o := 0) (As := [.int k]) (rest := []) C hW (by decide) rfl rfl (c_X8_isDish l G q _ τ ξ k  h_d) (cw_V 1 C bL_X8_129 bI_X8_isDish bV_X8_isDish bN_X8 bC_X8_isDish ⟨rfl, rfl⟩ (by decide +kernel) ⟨Nat.le_of_ble_eq_true rfl, Nat.le_of_ble_eq_true rfl⟩) rfl hl.1 rfl (Nat.le_of_ble_eq_true rfl) dX8_four_18 ⟨Nat.le_refl _, Nat.le_refl _⟩) (fun r_5 u_5 H locs hp_5 hW => ?_)
      rcases hp_5 with ⟨rfl, rfl, k_5_0, k_5_1⟩ | ⟨rfl, rfl, k_5⟩
      · skip
        have hW : WB G 33 q (eM G q τ ξ) s H locs := hW
        refine lv_if_eq C.1 C.2.1 (tgt := 66) dX8_four_21 (by decide) (fun c => absurd c (by decide)) (fun _ => ?_)
        refine lv_aload_n C.1 C.2.1 dX8_four_24 rfl (lv_at hl 0 rfl) ?_
        refine lv_iload C.1 C.2.1 dX8_four_25 (lv_at hl 4 rfl) ?_
        refine go_i hW (run_V (o := 0) (As := [.int n]) (rest := []) C hW (by decide) rfl rfl (c_X8_isDish l G q _ τ ξ n  h_d) (cw_V 1 C bL_X8_129 bI_X8_isDish bV_X8_isDish bN_X8 bC_X8_isDish ⟨rfl, rfl⟩ (by decide +kernel) ⟨Nat.le_of_ble_eq_true rfl, Nat.le_of_ble_eq_true rfl⟩) rfl hl.1 rfl (Nat.le_of_ble_eq_true rfl) dX8_four_27 ⟨Nat.le_refl _, Nat.le_refl _⟩) (fun r_7 u_7 H locs hp_7 hW => ?_)
        rcases hp_7 with ⟨rfl, rfl, k_7_0, k_7_1⟩ | ⟨rfl, rfl, k_7⟩
        · skip
          have hW : WB G 33 q (eM G q τ ξ) s H locs := hW
          refine lv_if_eq C.1 C.2.1 (tgt := 66) dX8_four_30 (by decide) (fun c => absurd c (by decide)) (fun _ => ?_)
          refine lv_iload_n C.1 C.2.1 dX8_four_33 rfl (lv_at hl 1 rfl) ?_
          refine lv_iload_n C.1 C.2.1 dX8_four_34 rfl (lv_at hl 2 rfl) ?_
          refine lv_icmp_eq C.1 C.2.1 (tgt := 66) dX8_four_35 (by decide) (fun c_9 => ?_) (fun c_9 => ?_)
          · skip
            have k_9 := (tc_eq (rfl : (i).toInt = (i).toInt) (rfl : (j).toInt = (j).toInt)).mp c_9
            refine lv_bipush C.1 C.2.1 (v := (-2)) dX8_four_66 (by decide) ?_
            subst hQ
            exact r_iret (τ, ξ) C hW hr hk dX8_four_68 (show sp_four τ i j k n = ((-2), τ) from by unfold sp_four; repeat (first | rw [if_pos (by omega)] | rw [if_neg (by omega)]))
          · skip
            have k_9 := (tn_eq (rfl : (i).toInt = (i).toInt) (rfl : (j).toInt = (j).toInt)).mp c_9
            refine lv_iload_n C.1 C.2.1 dX8_four_38 rfl (lv_at hl 1 rfl) ?_
            refine lv_iload_n C.1 C.2.1 dX8_four_39 rfl (lv_at hl 3 rfl) ?_
            refine lv_icmp_eq C.1 C.2.1 (tgt := 66) dX8_four_40 (by decide) (fun c_10 => ?_) (fun c_10 => ?_)
            · skip
              have k_10 := (tc_eq (rfl : (i).toInt = (i).toInt) (rfl : (k).toInt = (k).toInt)).mp c_10
              refine lv_bipush C.1 C.2.1 (v := (-2)) dX8_four_66 (by decide) ?_
              subst hQ
              exact r_iret (τ, ξ) C hW hr hk dX8_four_68 (show sp_four τ i j k n = ((-2), τ) from by unfold sp_four; repeat (first | rw [if_pos (by omega)] | rw [if_neg (by omega)]))
            · skip
              have k_10 := (tn_eq (rfl : (i).toInt = (i).toInt) (rfl : (k).toInt = (k).toInt)).mp c_10
              refine lv_iload_n C.1 C.2.1 dX8_four_43 rfl (lv_at hl 1 rfl) ?_
              refine lv_iload C.1 C.2.1 dX8_four_44 (lv_at hl 4 rfl) ?_
              refine lv_icmp_eq C.1 C.2.1 (tgt := 66) dX8_four_46 (by decide) (fun c_11 => ?_) (fun c_11 => ?_)
              · skip
                have k_11 := (tc_eq (rfl : (i).toInt = (i).toInt) (rfl : (n).toInt = (n).toInt)).mp c_11
                refine lv_bipush C.1 C.2.1 (v := (-2)) dX8_four_66 (by decide) ?_
                subst hQ
                exact r_iret (τ, ξ) C hW hr hk dX8_four_68 (show sp_four τ i j k n = ((-2), τ) from by unfold sp_four; repeat (first | rw [if_pos (by omega)] | rw [if_neg (by omega)]))
              · skip
                have k_11 := (tn_eq (rfl : (i).toInt = (i).toInt) (rfl : (n).toInt = (n).toInt)).mp c_11
                refine lv_iload_n C.1 C.2.1 dX8_four_49 rfl (lv_at hl 2 rfl) ?_
                refine lv_iload_n C.1 C.2.1 dX8_four_50 rfl (lv_at hl 3 rfl) ?_
                refine lv_icmp_eq C.1 C.2.1 (tgt := 66) dX8_four_51 (by decide) (fun c_12 => ?_) (fun c_12 => ?_)
                · skip
                  have k_12 := (tc_eq (rfl : (j).toInt = (j).toInt) (rfl : (k).toInt = (k).toInt)).mp c_12
                  refine lv_bipush C.1 C.2.1 (v := (-2)) dX8_four_66 (by decide) ?_
                  subst hQ
                  exact r_iret (τ, ξ) C hW hr hk dX8_four_68 (show sp_four τ i j k n = ((-2), τ) from by unfold sp_four; repeat (first | rw [if_pos (by omega)] | rw [if_neg (by omega)]))
                · skip
                  have k_12 := (tn_eq (rfl : (j).toInt = (j).toInt) (rfl : (k).toInt = (k).toInt)).mp c_12
                  refine lv_iload_n C.1 C.2.1 dX8_four_54 rfl (lv_at hl 2 rfl) ?_
                  refine lv_iload C.1 C.2.1 dX8_four_55 (lv_at hl 4 rfl) ?_
                  refine lv_icmp_eq C.1 C.2.1 (tgt := 66) dX8_four_57 (by decide) (fun c_13 => ?_) (fun c_13 => ?_)
                  · skip
                    have k_13 := (tc_eq (rfl : (j).toInt = (j).toInt) (rfl : (n).toInt = (n).toInt)).mp c_13
                    refine lv_bipush C.1 C.2.1 (v := (-2)) dX8_four_66 (by decide) ?_
                    subst hQ
                    exact r_iret (τ, ξ) C hW hr hk dX8_four_68 (show sp_four τ i j k n = ((-2), τ) from by unfold sp_four; repeat (first | rw [if_pos (by omega)] | rw [if_neg (by omega)]))
                  · skip
                    have k_13 := (tn_eq (rfl : (j).toInt = (j).toInt) (rfl : (n).toInt = (n).toInt)).mp c_13
                    refine lv_iload_n C.1 C.2.1 dX8_four_60 rfl (lv_at hl 3 rfl) ?_
                    refine lv_iload C.1 C.2.1 dX8_four_61 (lv_at hl 4 rfl) ?_
                    refine lv_icmp_ne C.1 C.2.1 (tgt := 69) dX8_four_63 (by decide) (fun c_14 => ?_) (fun c_14 => ?_)
                    · skip
                      have k_14 := (tn_eq (rfl : (k).toInt = (k).toInt) (rfl : (n).toInt = (n).toInt)).mp c_14
                      refine lv_aload_n C.1 C.2.1 dX8_four_69 rfl (lv_at hl 0 rfl) ?_
                      refine lv_iload_n C.1 C.2.1 dX8_four_70 rfl (lv_at hl 1 rfl) ?_
                      refine lv_iload_n C.1 C.2.1 dX8_four_71 rfl (lv_at hl 2 rfl) ?_
                      refine go_l hW (run_V (o := 0) (As := [.int i, .int j]) (rest := []) C hW (by decide) rfl rfl (c_X8_productOf l G q _ τ ξ i j (((i).toInt).toNat) (((j).toInt).toNat) ((rfl : (i).toInt = (i).toInt).trans (by omega)) ((rfl : (j).toInt = (j).toInt).trans (by omega)) (by omega) (by omega) h_l h_f h_s) (cw_V 2 C bL_X8_172 bI_X8_productOf bV_X8_productOf bN_X8 bC_X8_productOf ⟨rfl, rfl⟩ (by decide +kernel) ⟨Nat.le_of_ble_eq_true rfl, Nat.le_of_ble_eq_true rfl⟩) rfl hl.1 rfl (Nat.le_of_ble_eq_true rfl) dX8_four_72 ⟨Nat.le_refl _, Nat.le_refl _⟩) (fun r_15 u_15 H locs hp_15 hW => ?_)
                      rcases hp_15 with ⟨rfl, rfl⟩
                      have hW : WB G 33 q (eM G q τ (sg ξ 1 (nI (tck τ (((i).toInt).toNat) (((j).toInt).toNat))))) s H locs := hW
                      refine lv_aload_n C.1 C.2.1 dX8_four_75 rfl (lv_at hl 0 rfl) ?_
                      refine lv_iload_n C.1 C.2.1 dX8_four_76 rfl (lv_at hl 3 rfl) ?_
                      refine lv_iload C.1 C.2.1 dX8_four_77 (lv_at hl 4 rfl) ?_
                      refine go_l hW (run_V (o := 0) (As := [.int k, .int n]) (rest := [.long (prd τ (((i).toInt).toNat) (((j).toInt).toNat))]) C hW (by decide) rfl rfl (c_X8_productOf l G q _ τ (sg ξ 1 (nI (tck τ (((i).toInt).toNat) (((j).toInt).toNat)))) k n (((k).toInt).toNat) (((n).toInt).toNat) ((rfl : (k).toInt = (k).toInt).trans (by omega)) ((rfl : (n).toInt = (n).toInt).trans (by omega)) (by omega) (by omega) h_l h_f h_s) (cw_V 2 C bL_X8_172 bI_X8_productOf bV_X8_productOf bN_X8 bC_X8_productOf ⟨rfl, rfl⟩ (by decide +kernel) ⟨Nat.le_of_ble_eq_true rfl, Nat.le_of_ble_eq_true rfl⟩) rfl hl.1 rfl (Nat.le_of_ble_eq_true rfl) dX8_four_79 ⟨Nat.le_refl _, Nat.le_refl _⟩) (fun r_16 u_16 H locs hp_16 hW => ?_)
                      rcases hp_16 with ⟨rfl, rfl⟩
                      have hW : WB G 33 q (eM G q τ (sg (sg ξ 1 (nI (tck τ (((i).toInt).toNat) (((j).toInt).toNat)))) 1 (nI (tck τ (((k).toInt).toNat) (((n).toInt).toNat))))) s H locs := hW
                      refine lv_lmul C.1 C.2.1 dX8_four_82 ?_
                      refine lv_aload_n C.1 C.2.1 dX8_four_83 rfl (lv_at hl 0 rfl) ?_
                      refine lv_iload_n C.1 C.2.1 dX8_four_84 rfl (lv_at hl 1 rfl) ?_
                      refine lv_iload_n C.1 C.2.1 dX8_four_85 rfl (lv_at hl 3 rfl) ?_
                      refine go_l hW (run_V (o := 0) (As := [.int i, .int k]) (rest := [.long ((prd τ (((i).toInt).toNat) (((j).toInt).toNat)) * (prd τ (((k).toInt).toNat) (((n).toInt).toNat)))]) C hW (by decide) rfl rfl (c_X8_productOf l G q _ τ (sg (sg ξ 1 (nI (tck τ (((i).toInt).toNat) (((j).toInt).toNat)))) 1 (nI (tck τ (((k).toInt).toNat) (((n).toInt).toNat)))) i k (((i).toInt).toNat) (((k).toInt).toNat) ((rfl : (i).toInt = (i).toInt).trans (by omega)) ((rfl : (k).toInt = (k).toInt).trans (by omega)) (by omega) (by omega) h_l h_f h_s) (cw_V 2 C bL_X8_172 bI_X8_productOf bV_X8_productOf bN_X8 bC_X8_productOf ⟨rfl, rfl⟩ (by decide +kernel) ⟨Nat.le_of_ble_eq_true rfl, Nat.le_of_ble_eq_true rfl⟩) rfl hl.1 rfl (Nat.le_of_ble_eq_true rfl) dX8_four_86 ⟨Nat.le_refl _, Nat.le_refl _⟩) (fun r_17 u_17 H locs hp_17 hW => ?_)
                      rcases hp_17 with ⟨rfl, rfl⟩
                      have hW : WB G 33 q (eM G q τ (sg (sg (sg ξ 1 (nI (tck τ (((i).toInt).toNat) (((j).toInt).toNat)))) 1 (nI (tck τ (((k).toInt).toNat) (((n).toInt).toNat)))) 1 (nI (tck τ (((i).toInt).toNat) (((k).toInt).toNat))))) s H locs := hW
                      refine lv_aload_n C.1 C.2.1 dX8_four_89 rfl (lv_at hl 0 rfl) ?_
                      refine lv_iload_n C.1 C.2.1 dX8_four_90 rfl (lv_at hl 2 rfl) ?_
                      refine lv_iload C.1 C.2.1 dX8_four_91 (lv_at hl 4 rfl) ?_
                      refine go_l hW (run_V (o := 0) (As := [.int j, .int n]) (rest := [.long (prd τ (((i).toInt).toNat) (((k).toInt).toNat)), .long ((prd τ (((i).toInt).toNat) (((j).toInt).toNat)) * (prd τ (((k).toInt).toNat) (((n).toInt).toNat)))]) C hW (by decide) rfl rfl (c_X8_productOf l G q _ τ (sg (sg (sg ξ 1 (nI (tck τ (((i).toInt).toNat) (((j).toInt).toNat)))) 1 (nI (tck τ (((k).toInt).toNat) (((n).toInt).toNat)))) 1 (nI (tck τ (((i).toInt).toNat) (((k).toInt).toNat)))) j n (((j).toInt).toNat) (((n).toInt).toNat) ((rfl : (j).toInt = (j).toInt).trans (by omega)) ((rfl : (n).toInt = (n).toInt).trans (by omega)) (by omega) (by omega) h_l h_f h_s) (cw_V 2 C bL_X8_172 bI_X8_productOf bV_X8_productOf bN_X8 bC_X8_productOf ⟨rfl, rfl⟩ (by decide +kernel) ⟨Nat.le_of_ble_eq_true rfl, Nat.le_of_ble_eq_true rfl⟩) rfl hl.1 rfl (Nat.le_of_ble_eq_true rfl) dX8_four_93 ⟨Nat.le_refl _, Nat.le_refl _⟩) (fun r_18 u_18 H locs hp_18 hW => ?_)
                      rcases hp_18 with ⟨rfl, rfl⟩
                      have hW : WB G 33 q (eM G q τ (sg (sg (sg (sg ξ 1 (nI (tck τ (((i).toInt).toNat) (((j).toInt).toNat)))) 1 (nI (tck τ (((k).toInt).toNat) (((n).toInt).toNat)))) 1 (nI (tck τ (((i).toInt).toNat) (((k).toInt).toNat)))) 1 (nI (tck τ (((j).toInt).toNat) (((n).toInt).toNat))))) s H locs := hW
                      refine lv_lmul C.1 C.2.1 dX8_four_96 ?_
                      refine lv_lsub C.1 C.2.1 dX8_four_97 ?_
                      refine go_i hW (run_S (As := [.long (((prd τ (((i).toInt).toNat) (((j).toInt).toNat)) * (prd τ (((k).toInt).toNat) (((n).toInt).toNat))) - ((prd τ (((i).toInt).toNat) (((k).toInt).toNat)) * (prd τ (((j).toInt).toNat) (((n).toInt).toNat))))]) (rest := []) C hW (c_X8_sign l G q _ τ (sg (sg (sg (sg ξ 1 (nI (tck τ (((i).toInt).toNat) (((j).toInt).toNat)))) 1 (nI (tck τ (((k).toInt).toNat) (((n).toInt).toNat)))) 1 (nI (tck τ (((i).toInt).toNat) (((k).toInt).toNat)))) 1 (nI (tck τ (((j).toInt).toNat) (((n).toInt).toNat)))) (((prd τ (((i).toInt).toNat) (((j).toInt).toNat)) * (prd τ (((k).toInt).toNat) (((n).toInt).toNat))) - ((prd τ (((i).toInt).toNat) (((k).toInt).toNat)) * (prd τ (((j).toInt).toNat) (((n).toInt).toNat))))  ) (cw_S 1 C bL_X8_177 bS_X8_sign bN_X8 bC_X8_sign ⟨rfl, rfl⟩ (by decide +kernel) ⟨Nat.le_of_ble_eq_true rfl, Nat.le_of_ble_eq_true rfl⟩) rfl hl.1 rfl (Nat.le_of_ble_eq_true rfl) dX8_four_98 ⟨Nat.le_refl _, Nat.le_refl _⟩) (fun r_19 u_19 H locs hp_19 hW => ?_)
                      rcases hp_19 with ⟨rfl, rfl⟩
                      have hW : WB G 33 q (eM G q τ (sg (sg (sg (sg ξ 1 (nI (tck τ (((i).toInt).toNat) (((j).toInt).toNat)))) 1 (nI (tck τ (((k).toInt).toNat) (((n).toInt).toNat)))) 1 (nI (tck τ (((i).toInt).toNat) (((k).toInt).toNat)))) 1 (nI (tck τ (((j).toInt).toNat) (((n).toInt).toNat))))) s H locs := hW
                      subst hQ
                      exact r_iret (τ, (sg (sg (sg (sg ξ 1 (nI (tck τ (((i).toInt).toNat) (((j).toInt).toNat)))) 1 (nI (tck τ (((k).toInt).toNat) (((n).toInt).toNat)))) 1 (nI (tck τ (((i).toInt).toNat) (((k).toInt).toNat)))) 1 (nI (tck τ (((j).toInt).toNat) (((n).toInt).toNat))))) C hW hr hk dX8_four_101 (show sp_four τ i j k n = ((sgn (((prd τ (((i).toInt).toNat) (((j).toInt).toNat)) * (prd τ (((k).toInt).toNat) (((n).toInt).toNat))) - ((prd τ (((i).toInt).toNat) (((k).toInt).toNat)) * (prd τ (((j).toInt).toNat) (((n).toInt).toNat))))), τ) from by unfold sp_four; repeat (first | rw [if_pos (by omega)] | rw [if_neg (by omega)]))
                    · skip
                      have k_14 := (tc_eq (rfl : (k).toInt = (k).toInt) (rfl : (n).toInt = (n).toInt)).mp c_14
                      refine lv_bipush C.1 C.2.1 (v := (-2)) dX8_four_66 (by decide) ?_
                      subst hQ
                      exact r_iret (τ, ξ) C hW hr hk dX8_four_68 (show sp_four τ i j k n = ((-2), τ) from by unfold sp_four; repeat (first | rw [if_pos (by omega)] | rw [if_neg (by omega)]))
        · skip
          have hW : WB G 33 q (eM G q τ ξ) s H locs := hW
          refine lv_if_eq C.1 C.2.1 (tgt := 66) dX8_four_30 (by decide) (fun _ => ?_) (fun c => absurd c (by decide))
          refine lv_bipush C.1 C.2.1 (v := (-2)) dX8_four_66 (by decide) ?_
          subst hQ
          exact r_iret (τ, ξ) C hW hr hk dX8_four_68 (show sp_four τ i j k n = ((-2), τ) from by unfold sp_four; repeat (first | rw [if_pos (by omega)] | rw [if_neg (by omega)]))
      · skip
        have hW : WB G 33 q (eM G q τ ξ) s H locs := hW
        refine lv_if_eq C.1 C.2.1 (tgt := 66) dX8_four_21 (by decide) (fun _ => ?_) (fun c => absurd c (by decide))
        refine lv_bipush C.1 C.2.1 (v := (-2)) dX8_four_66 (by decide) ?_
        subst hQ
        exact r_iret (τ, ξ) C hW hr hk dX8_four_68 (show sp_four τ i j k n = ((-2), τ) from by unfold sp_four; repeat (first | rw [if_pos (by omega)] | rw [if_neg (by omega)]))
    · skip
      have hW : WB G 33 q (eM G q τ ξ) s H locs := hW
      refine lv_if_eq C.1 C.2.1 (tgt := 66) dX8_four_13 (by decide) (fun _ => ?_) (fun c => absurd c (by decide))
      refine lv_bipush C.1 C.2.1 (v := (-2)) dX8_four_66 (by decide) ?_
      subst hQ
      exact r_iret (τ, ξ) C hW hr hk dX8_four_68 (show sp_four τ i j k n = ((-2), τ) from by unfold sp_four; repeat (first | rw [if_pos (by omega)] | rw [if_neg (by omega)]))
  · skip
    have hW : WB G 33 q (eM G q τ ξ) s H locs := hW
    refine lv_if_eq C.1 C.2.1 (tgt := 66) dX8_four_5 (by decide) (fun _ => ?_) (fun c => absurd c (by decide))
    refine lv_bipush C.1 C.2.1 (v := (-2)) dX8_four_66 (by decide) ?_
    subst hQ
    exact r_iret (τ, ξ) C hW hr hk dX8_four_68 (show sp_four τ i j k n = ((-2), τ) from by unfold sp_four; repeat (first | rw [if_pos (by omega)] | rw [if_neg (by omega)]))
set_option maxHeartbeats 4000000 in
set_option maxRecDepth 100000 in
theorem c_X8_delay (l : Launch) (G : GG) (q : Nat → Nat) (sz : Nat) (τ ξ : ST) (i : Int32) (j : Int32) (h_d : 0 ≤ (τ.1 0).toInt ∧ (τ.1 0).toInt ≤ 6) (h_l : ∀ d : Nat, d < 6 → 0 ≤ (τ.2.1 2 d).toInt ∧ (τ.2.1 2 d).toInt ≤ 30) (h_f : 0 ≤ (τ.1 2).toInt ∧ (τ.1 2).toInt ≤ 40) (h_s : ∀ d : Nat, d < 6 → 0 ≤ (τ.2.1 6 d).toInt ∧ (τ.2.1 6 d).toInt ≤ 100) : Met l yX8_delay (WSb yX8_delay cX8_delay 9 (some .int)) (rmA 3 75) (va_Pc [.ref (q 0), .int i, .int j] (PW G 33 q sz (eM G q τ ξ))) (va_Qi (fun (r : Int32) (u : (ST × ST)) => sp_delay τ i j = (r, u.1)) (fun u => BW G 33 q (eM G q u.1 u.2)) (FA 33 q sz)) 0 0 (FA 33 q sz) := by
  refine Met_B (own := RX8) rfl (by decide) (Nat.le_of_ble_eq_true rfl) (fun p e s m args below meth c ls hsz C hW hr hk hl QQ hQ => ?_)
  subst hsz
  have hl : lv_has ls 9 [(0, .ref (q 0)), (1, .int i), (2, .int j)] := hl
  have q1 := h_l i.toInt.toNat
  have q2 := h_l j.toInt.toNat
  refine lv_aload_n C.1 C.2.1 dX8_delay_0 rfl (lv_at hl 0 rfl) ?_
  refine lv_iload_n C.1 C.2.1 dX8_delay_1 rfl (lv_at hl 1 rfl) ?_
  refine go_i hW (run_V (o := 0) (As := [.int i]) (rest := []) C hW (by decide) rfl rfl (c_X8_isDish l G q _ τ ξ i  h_d) (cw_V 1 C bL_X8_129 bI_X8_isDish bV_X8_isDish bN_X8 bC_X8_isDish ⟨rfl, rfl⟩ (by decide +kernel) ⟨Nat.le_of_ble_eq_true rfl, Nat.le_of_ble_eq_true rfl⟩) rfl hl.1 rfl (Nat.le_of_ble_eq_true rfl) dX8_delay_2 ⟨Nat.le_refl _, Nat.le_refl _⟩) (fun r_1 u_1 H locs hp_1 hW => ?_)
  rcases hp_1 with ⟨rfl, rfl, k_1_0, k_1_1⟩ | ⟨rfl, rfl, k_1⟩
  · skip
    have hW : WB G 33 q (eM G q τ ξ) s H locs := hW
    refine lv_if_eq C.1 C.2.1 (tgt := 16) dX8_delay_5 (by decide) (fun c => absurd c (by decide)) (fun _ => ?_)
    refine lv_aload_n C.1 C.2.1 dX8_delay_8 rfl (lv_at hl 0 rfl) ?_
    refine lv_iload_n C.1 C.2.1 dX8_delay_9 rfl (lv_at hl 2 rfl) ?_
    refine go_i hW (run_V (o := 0) (As := [.int j]) (rest := []) C hW (by decide) rfl rfl (c_X8_isDish l G q _ τ ξ j  h_d) (cw_V 1 C bL_X8_129 bI_X8_isDish bV_X8_isDish bN_X8 bC_X8_isDish ⟨rfl, rfl⟩ (by decide +kernel) ⟨Nat.le_of_ble_eq_true rfl, Nat.le_of_ble_eq_true rfl⟩) rfl hl.1 rfl (Nat.le_of_ble_eq_true rfl) dX8_delay_10 ⟨Nat.le_refl _, Nat.le_refl _⟩) (fun r_3 u_3 H locs hp_3 hW => ?_)
    rcases hp_3 with ⟨rfl, rfl, k_3_0, k_3_1⟩ | ⟨rfl, rfl, k_3⟩
    · skip
      have hW : WB G 33 q (eM G q τ ξ) s H locs := hW
      refine lv_if_ne C.1 C.2.1 (tgt := 19) dX8_delay_13 (by decide) (fun _ => ?_) (fun c => absurd c (by decide))
      refine lv_iconst C.1 C.2.1 (v := 0) dX8_delay_19 (by decide) ?_
      refine lv_istore_n (lv' := [(3, .int 0), (0, .ref (q 0)), (1, .int i), (2, .int j)]) C.1 C.2.1 dX8_delay_20 rfl hl (by decide) rfl (fun ls hl => ?_)
      refine lv_aload_n C.1 C.2.1 dX8_delay_21 rfl (lv_at hl 1 rfl) ?_
      refine lv_iload_n C.1 C.2.1 dX8_delay_22 rfl (lv_at hl 2 rfl) ?_
      refine lv_aload_n C.1 C.2.1 dX8_delay_23 rfl (lv_at hl 1 rfl) ?_
      refine mG_delays C hW dX8_delay_24 ?_
      refine lv_iload_n C.1 C.2.1 dX8_delay_27 rfl (lv_at hl 2 rfl) ?_
      refine mL_delays C hW (((i).toInt).toNat) ((rfl : (i).toInt = (i).toInt).trans (by omega)) (by omega) (v := (τ.2.1 2 (((i).toInt).toNat))) rfl dX8_delay_28 ?_
      refine lv_iload_n C.1 C.2.1 dX8_delay_29 rfl (lv_at hl 3 rfl) ?_
      refine lv_iconst C.1 C.2.1 (v := 0) dX8_delay_30 (by decide) ?_
      refine go_l hW (run_V (o := 0) (As := [.int i, .int (τ.2.1 2 (((i).toInt).toNat)), .int j, .int 0]) (rest := []) C hW (by decide) rfl rfl (c_X8_multiply l G q _ τ ξ i (τ.2.1 2 (((i).toInt).toNat)) j 0 (((i).toInt).toNat) ((((τ.2.1 2 (((i).toInt).toNat))).toInt).toNat) (((j).toInt).toNat) 0 ((rfl : (i).toInt = (i).toInt).trans (by omega)) ((rfl : ((τ.2.1 2 (((i).toInt).toNat))).toInt = ((τ.2.1 2 (((i).toInt).toNat))).toInt).trans (by omega)) ((rfl : (j).toInt = (j).toInt).trans (by omega)) ((show (0 : Int32).toInt = 0 from by decide).trans (by omega)) (by omega) (by omega) (by omega) (by omega) h_f h_s) (cw_V 4 C bL_X8_168 bI_X8_multiply bV_X8_multiply bN_X8 bC_X8_multiply ⟨rfl, rfl⟩ (by decide +kernel) ⟨Nat.le_of_ble_eq_true rfl, Nat.le_of_ble_eq_true rfl⟩) rfl hl.1 rfl (Nat.le_of_ble_eq_true rfl) dX8_delay_31 ⟨Nat.le_refl _, Nat.le_refl _⟩) (fun r_5 u_5 H locs hp_5 hW => ?_)
      rcases hp_5 with ⟨rfl, rfl⟩
      have hW : WB G 33 q (eM G q τ (sg ξ 1 (nI (mulC τ (((i).toInt).toNat) ((((τ.2.1 2 (((i).toInt).toNat))).toInt).toNat) (((j).toInt).toNat) 0 100)))) s H locs := hW
      refine lv_lstore (lv' := [(4, .long (prdF τ (((i).toInt).toNat) ((((τ.2.1 2 (((i).toInt).toNat))).toInt).toNat) (((j).toInt).toNat) 0)), (3, .int 0), (0, .ref (q 0)), (1, .int i), (2, .int j)]) C.1 C.2.1 dX8_delay_34 hl (by decide) rfl (fun ls hl => ?_)
      refine lv_iconst C.1 C.2.1 (v := 1) dX8_delay_36 (by decide) ?_
      refine lv_istore (lv' := [(6, .int 1), (4, .long (prdF τ (((i).toInt).toNat) ((((τ.2.1 2 (((i).toInt).toNat))).toInt).toNat) (((j).toInt).toNat) 0)), (3, .int 0), (0, .ref (q 0)), (1, .int i), (2, .int j)]) C.1 C.2.1 dX8_delay_37 hl (by decide) rfl (fun ls hl => ?_)
      have L_39_6 : ∀ (fuel : Nat) (d : Nat) (ξ1 : ST) (x3 : Int32) (x4 : Int64) (x6 : Int32), 30 - d < fuel → (x6.toInt = ((d + 1 : Nat) : Int)) → (d ≤ 30) → (x3 = nI (bstD τ i.toInt.toNat j.toInt.toNat d)) → (x4 = prdF τ i.toInt.toNat (dl τ i.toInt.toNat) j.toInt.toNat (bstD τ i.toInt.toNat j.toInt.toNat d)) → ∀ (H : Heap) (locs : List Loc) (ls : Array Slot), WB G 33 q (eM G q τ ξ1) s H locs → lv_has ls 9 [(6, .int x6), (4, .long x4), (3, .int x3), (0, .ref (q 0)), (1, .int i), (2, .int j)] → W p l e (rmA 3 75) s m args below meth c H locs 0 0 QQ (F0 m 39 ls []) := by
        intro fuel; induction fuel with
        | zero => intro d ξ1 x3 x4 x6 hf; exact absurd hf (Nat.not_lt_zero _)
        | succ fuel ih_39 =>
          intro d ξ1 x3 x4 x6 hf hd hle h3 h4 H locs ls hW hl
          refine lv_iload C.1 C.2.1 dX8_delay_39 (lv_at hl 0 rfl) ?_
          refine lv_bipush C.1 C.2.1 (v := 30) dX8_delay_41 (by decide) ?_
          refine lv_icmp_gt C.1 C.2.1 (tgt := 83) dX8_delay_43 (by decide) (fun c_7 => ?_) (fun c_7 => ?_)
          · skip
            have k_7 := (tc_lt (show (30 : Int32).toInt = 30 from by decide) hd).mp c_7
            refine lv_iload_n C.1 C.2.1 dX8_delay_83 rfl (lv_at hl 2 rfl) ?_
            subst hQ
            exact r_iret (τ, ξ1) C hW hr hk dX8_delay_84 (show sp_delay τ i j = (x3, τ) from by unfold sp_delay; rw [if_pos (by omega), h3, show d = 30 from by omega])
          · skip
            have k_7 := (tn_lt (show (30 : Int32).toInt = 30 from by decide) hd).mp c_7
            refine lv_aload_n C.1 C.2.1 dX8_delay_46 rfl (lv_at hl 3 rfl) ?_
            refine lv_iload_n C.1 C.2.1 dX8_delay_47 rfl (lv_at hl 4 rfl) ?_
            refine lv_aload_n C.1 C.2.1 dX8_delay_48 rfl (lv_at hl 3 rfl) ?_
            refine mG_delays C hW dX8_delay_49 ?_
            refine lv_iload_n C.1 C.2.1 dX8_delay_52 rfl (lv_at hl 4 rfl) ?_
            refine mL_delays C hW (((i).toInt).toNat) ((rfl : (i).toInt = (i).toInt).trans (by omega)) (by omega) (v := (τ.2.1 2 (((i).toInt).toNat))) rfl dX8_delay_53 ?_
            refine lv_iload_n C.1 C.2.1 dX8_delay_54 rfl (lv_at hl 5 rfl) ?_
            refine lv_iload C.1 C.2.1 dX8_delay_55 (lv_at hl 0 rfl) ?_
            refine go_l hW (run_V (o := 0) (As := [.int i, .int (τ.2.1 2 (((i).toInt).toNat)), .int j, .int x6]) (rest := []) C hW (by decide) rfl rfl (c_X8_multiply l G q _ τ ξ1 i (τ.2.1 2 (((i).toInt).toNat)) j x6 (((i).toInt).toNat) ((((τ.2.1 2 (((i).toInt).toNat))).toInt).toNat) (((j).toInt).toNat) (d + 1) ((rfl : (i).toInt = (i).toInt).trans (by omega)) ((rfl : ((τ.2.1 2 (((i).toInt).toNat))).toInt = ((τ.2.1 2 (((i).toInt).toNat))).toInt).trans (by omega)) ((rfl : (j).toInt = (j).toInt).trans (by omega)) (hd.trans (by omega)) (by omega) (by omega) (by omega) (by omega) h_f h_s) (cw_V 4 C bL_X8_168 bI_X8_multiply bV_X8_multiply bN_X8 bC_X8_multiply ⟨rfl, rfl⟩ (by decide +kernel) ⟨Nat.le_of_ble_eq_true rfl, Nat.le_of_ble_eq_true rfl⟩) rfl hl.1 rfl (Nat.le_of_ble_eq_true rfl) dX8_delay_57 ⟨Nat.le_refl _, Nat.le_refl _⟩) (fun r_8 u_8 H locs hp_8 hW => ?_)
            rcases hp_8 with ⟨rfl, rfl⟩
            have hW : WB G 33 q (eM G q τ (sg ξ1 1 (nI (mulC τ (((i).toInt).toNat) ((((τ.2.1 2 (((i).toInt).toNat))).toInt).toNat) (((j).toInt).toNat) (d + 1) 100)))) s H locs := hW
            refine lv_lstore (lv' := [(7, .long (prdF τ (((i).toInt).toNat) ((((τ.2.1 2 (((i).toInt).toNat))).toInt).toNat) (((j).toInt).toNat) (d + 1))), (6, .int x6), (4, .long x4), (3, .int x3), (0, .ref (q 0)), (1, .int i), (2, .int j)]) C.1 C.2.1 dX8_delay_60 hl (by decide) rfl (fun ls hl => ?_)
            refine lv_lload C.1 C.2.1 dX8_delay_62 (lv_at hl 0 rfl) ?_
            refine lv_lload C.1 C.2.1 dX8_delay_64 (lv_at hl 2 rfl) ?_
            refine W.lcmp C.1 C.2.1 dX8_delay_66 ?_
            refine lv_if_le C.1 C.2.1 (tgt := 77) dX8_delay_67 (by decide) (fun c_9 => ?_) (fun c_9 => ?_)
            · skip
              have k_9 := (lc_le (rfl : ((prdF τ (((i).toInt).toNat) ((((τ.2.1 2 (((i).toInt).toNat))).toInt).toNat) (((j).toInt).toNat) (d + 1))).toInt = ((prdF τ (((i).toInt).toNat) ((((τ.2.1 2 (((i).toInt).toNat))).toInt).toNat) (((j).toInt).toNat) (d + 1))).toInt) (rfl : (x4).toInt = (x4).toInt)).mp c_9
              have eb : bstD τ i.toInt.toNat j.toInt.toNat (d + 1) = bstD τ i.toInt.toNat j.toInt.toNat d := if_neg (by rw [h4] at k_9; exact Int.not_lt.mpr k_9)
              refine lv_iinc (v := (x6 + 1)) (lv' := [(6, .int (x6 + 1)), (7, .long (prdF τ (((i).toInt).toNat) ((((τ.2.1 2 (((i).toInt).toNat))).toInt).toNat) (((j).toInt).toNat) (d + 1))), (4, .long x4), (3, .int x3), (0, .ref (q 0)), (1, .int i), (2, .int j)]) C.1 C.2.1 dX8_delay_77 hl (k := 1) rfl rfl (by decide) rfl (fun ls hl => ?_)
              refine lv_goto C.1 C.2.1 (tgt := 39) dX8_delay_80 (by decide) ?_
              exact ih_39 (d + 1) (sg ξ1 1 (nI (mulC τ (((i).toInt).toNat) ((((τ.2.1 2 (((i).toInt).toNat))).toInt).toNat) (((j).toInt).toNat) (d + 1) 100))) x3 x4 (x6 + 1) (by omega) ((ti_add hd (show (1 : Int32).toInt = 1 from by decide) (by omega) (by omega)).trans (by omega)) (by omega) (by rw [eb]; first | exact h3 | exact e6) (by rw [eb]; first | exact h4 | rfl) _ _ _ hW (lv_sub hl [0, 2, 3, 4, 5, 6] rfl)
            · skip
              have k_9 := (ln_le (rfl : ((prdF τ (((i).toInt).toNat) ((((τ.2.1 2 (((i).toInt).toNat))).toInt).toNat) (((j).toInt).toNat) (d + 1))).toInt = ((prdF τ (((i).toInt).toNat) ((((τ.2.1 2 (((i).toInt).toNat))).toInt).toNat) (((j).toInt).toNat) (d + 1))).toInt) (rfl : (x4).toInt = (x4).toInt)).mp c_9
              have eb : bstD τ i.toInt.toNat j.toInt.toNat (d + 1) = d + 1 := if_pos (by rw [h4] at k_9; exact Int.not_le.mp k_9)
              have e6 : x6 = nI (d + 1) := Int32.toInt_inj.mp (by rw [hd, nI_toInt (by omega)])
              refine lv_lload C.1 C.2.1 dX8_delay_70 (lv_at hl 0 rfl) ?_
              refine lv_lstore (lv' := [(4, .long (prdF τ (((i).toInt).toNat) ((((τ.2.1 2 (((i).toInt).toNat))).toInt).toNat) (((j).toInt).toNat) (d + 1))), (7, .long (prdF τ (((i).toInt).toNat) ((((τ.2.1 2 (((i).toInt).toNat))).toInt).toNat) (((j).toInt).toNat) (d + 1))), (6, .int x6), (3, .int x3), (0, .ref (q 0)), (1, .int i), (2, .int j)]) C.1 C.2.1 dX8_delay_72 hl (by decide) rfl (fun ls hl => ?_)
              refine lv_iload C.1 C.2.1 dX8_delay_74 (lv_at hl 2 rfl) ?_
              refine lv_istore_n (lv' := [(3, .int x6), (4, .long (prdF τ (((i).toInt).toNat) ((((τ.2.1 2 (((i).toInt).toNat))).toInt).toNat) (((j).toInt).toNat) (d + 1))), (7, .long (prdF τ (((i).toInt).toNat) ((((τ.2.1 2 (((i).toInt).toNat))).toInt).toNat) (((j).toInt).toNat) (d + 1))), (6, .int x6), (0, .ref (q 0)), (1, .int i), (2, .int j)]) C.1 C.2.1 dX8_delay_76 rfl hl (by decide) rfl (fun ls hl => ?_)
              refine lv_iinc (v := (x6 + 1)) (lv' := [(6, .int (x6 + 1)), (3, .int x6), (4, .long (prdF τ (((i).toInt).toNat) ((((τ.2.1 2 (((i).toInt).toNat))).toInt).toNat) (((j).toInt).toNat) (d + 1))), (7, .long (prdF τ (((i).toInt).toNat) ((((τ.2.1 2 (((i).toInt).toNat))).toInt).toNat) (((j).toInt).toNat) (d + 1))), (0, .ref (q 0)), (1, .int i), (2, .int j)]) C.1 C.2.1 dX8_delay_77 hl (k := 3) rfl rfl (by decide) rfl (fun ls hl => ?_)
              refine lv_goto C.1 C.2.1 (tgt := 39) dX8_delay_80 (by decide) ?_
              exact ih_39 (d + 1) (sg ξ1 1 (nI (mulC τ (((i).toInt).toNat) ((((τ.2.1 2 (((i).toInt).toNat))).toInt).toNat) (((j).toInt).toNat) (d + 1) 100))) x6 (prdF τ (((i).toInt).toNat) ((((τ.2.1 2 (((i).toInt).toNat))).toInt).toNat) (((j).toInt).toNat) (d + 1)) (x6 + 1) (by omega) ((ti_add hd (show (1 : Int32).toInt = 1 from by decide) (by omega) (by omega)).trans (by omega)) (by omega) (by rw [eb]; first | exact h3 | exact e6) (by rw [eb]; first | exact h4 | rfl) _ _ _ hW (lv_sub hl [0, 2, 1, 4, 5, 6] rfl)
      exact L_39_6 _ 0 (sg ξ 1 (nI (mulC τ (((i).toInt).toNat) ((((τ.2.1 2 (((i).toInt).toNat))).toInt).toNat) (((j).toInt).toNat) 0 100))) 0 (prdF τ (((i).toInt).toNat) ((((τ.2.1 2 (((i).toInt).toNat))).toInt).toNat) (((j).toInt).toNat) 0) 1 (Nat.lt_succ_self _) (by decide) (by omega) rfl rfl _ _ _ hW (lv_sub hl [0, 1, 2, 3, 4, 5] rfl)
    · skip
      have hW : WB G 33 q (eM G q τ ξ) s H locs := hW
      refine lv_if_ne C.1 C.2.1 (tgt := 19) dX8_delay_13 (by decide) (fun c => absurd c (by decide)) (fun _ => ?_)
      refine lv_bipush C.1 C.2.1 (v := (-2)) dX8_delay_16 (by decide) ?_
      subst hQ
      exact r_iret (τ, ξ) C hW hr hk dX8_delay_18 (show sp_delay τ i j = ((-2), τ) from by unfold sp_delay; repeat (first | rw [if_pos (by omega)] | rw [if_neg (by omega)]))
  · skip
    have hW : WB G 33 q (eM G q τ ξ) s H locs := hW
    refine lv_if_eq C.1 C.2.1 (tgt := 16) dX8_delay_5 (by decide) (fun _ => ?_) (fun c => absurd c (by decide))
    refine lv_bipush C.1 C.2.1 (v := (-2)) dX8_delay_16 (by decide) ?_
    subst hQ
    exact r_iret (τ, ξ) C hW hr hk dX8_delay_18 (show sp_delay τ i j = ((-2), τ) from by unfold sp_delay; repeat (first | rw [if_pos (by omega)] | rw [if_neg (by omega)]))
