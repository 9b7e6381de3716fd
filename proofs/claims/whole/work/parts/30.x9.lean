/-! boards of the landed class -/
theorem tn_lin (u x v y : Int32) : (u * x + v * y).toBitVec.toNat % 16 = (u.toBitVec.toNat * x.toBitVec.toNat + v.toBitVec.toNat * y.toBitVec.toNat) % 16 := by
  rw [Int32.toBitVec_add, Int32.toBitVec_mul, Int32.toBitVec_mul, BitVec.toNat_add, BitVec.toNat_mul, BitVec.toNat_mul]
  generalize u.toBitVec.toNat * x.toBitVec.toNat = a
  generalize v.toBitVec.toNat * y.toBitVec.toNat = b
  omega
theorem tn_mask (x : Int32) : (x &&& 15).toBitVec.toNat = x.toBitVec.toNat % 16 := by
  rw [pk_and x (m := 15) 4 (by decide), pk_tn (by omega)]
theorem wave_16 (u x v y : Int32) : (u * (x &&& 15) + v * (y &&& 15)) &&& 15 = (u * x + v * y) &&& 15 := by
  rw [pk_and _ (m := 15) 4 (by decide), pk_and (u * x + v * y) (m := 15) 4 (by decide)]
  congr 1
  show (u * (x &&& 15) + v * (y &&& 15)).toBitVec.toNat % 16 = (u * x + v * y).toBitVec.toNat % 16
  rw [tn_lin, tn_lin, tn_mask, tn_mask]
  simp [Nat.add_mod, Nat.mul_mod]
theorem bmS_16 {U V : Nat → Int32} {x y : Int32} : ∀ n, bmS U V (x &&& 15) (y &&& 15) n = bmS U V x y n
  | 0 => rfl
  | n + 1 => by rw [bmS, bmS, bmS_16 n, wave_16]
theorem kpt_eq {τ ζ : ST} {x y : Int32} (h : ∀ z : Nat, z < 256 → ζ.2.1 2 z = keptB τ (nI (z % 16)) (nI (z / 16))) : kpt ζ x y = keptB τ x y := by
  have a1 := and15 x
  have a2 := and15 y
  unfold kpt
  rw [h _ (by omega)]
  have e1 : nI ((16 * (y &&& 15).toInt + (x &&& 15).toInt).toNat % 16) = x &&& 15 := Int32.toInt_inj.mp (by rw [nI_toInt (by omega)]; omega)
  have e2 : nI ((16 * (y &&& 15).toInt + (x &&& 15).toInt).toNat / 16) = y &&& 15 := Int32.toInt_inj.mp (by rw [nI_toInt (by omega)]; omega)
  rw [e1, e2]
  exact bmS_16 _
def adN (τ : ST) (x y : Int32) (a : Int64) : Nat → Int64 := fun c => τ.2.2 0 c + a * (keptB τ (nI (c % 16) - x) (nI (c / 16) - y)).toInt64
def adL (τ : ST) (x y : Int32) (a : Int64) : ST := sbF τ 0 (cut 256 (adN τ x y a) (τ.2.2 0))
def kpN (ζ : ST) (c : Nat) : Int32 := bmS (ζ.2.1 5) (ζ.2.1 6) (nI (c % 16)) (nI (c / 16)) (ζ.1 0).toInt.toNat
def cvN (ζ : ST) (c : Nat) : Int64 := cvS (ζ.2.2 0) (ζ.2.1 5) (ζ.2.1 6) (nI (c % 16)) (nI (c / 16)) (ζ.1 0).toInt.toNat
def stT (τ : ST) : ST := sbF (sg (sg (sg (sg (sg τ 4 0) 5 0) 7 0) 6 15) 8 15) 0 (cut 256 (fun _ => (0 : Int64)) (τ.2.2 0))
def ptB (τ : ST) : Nat → Nat → Int64
  | 0 => τ.2.2 0
  | k + 1 => cut 256 (adN (sbF τ 0 (ptB τ k)) (τ.2.1 11 k) (τ.2.1 12 k) (τ.2.1 13 k).toInt64) (ptB τ k)
theorem sbF_sbF (τ : ST) (k : Nat) (f g : Nat → Int64) : sbF (sbF τ k f) k g = sbF τ k g := by
  refine Prod.ext rfl (Prod.ext rfl ?_)
  funext a
  show (if a = k then g else (if a = k then f else τ.2.2 a)) = (if a = k then g else τ.2.2 a)
  split <;> rfl
theorem ptB_s (τ : ST) (k : Nat) : adL (sbF τ 0 (ptB τ k)) (τ.2.1 11 k) (τ.2.1 12 k) (τ.2.1 13 k).toInt64 = sbF τ 0 (ptB τ (k + 1)) := sbF_sbF τ 0 _ _
theorem c16m {x : Int32} {g : Nat} (h : x.toInt = (g : Int)) (hg : g < 256) : x - x / 16 * 16 = nI (g % 16) := Int32.toInt_inj.mp ((ti_rem h (show (16 : Int32).toInt = 16 from by decide) (by omega) (by omega)).trans (by rw [nI_toInt (by omega)]; omega))
theorem c16d {x : Int32} {g : Nat} (h : x.toInt = (g : Int)) (hg : g < 256) : x / 16 = nI (g / 16) := Int32.toInt_inj.mp ((ti_div h (show (16 : Int32).toInt = 16 from by decide) (by omega) (by omega)).trans (by rw [nI_toInt (by omega)]; omega))
set_option maxHeartbeats 4000000 in
set_option maxRecDepth 100000 in
theorem c_J13_compare_74951 (l : Launch) (G : GG) (q : Nat → Nat) (nd sz : Nat) (τ ζ : ST) (ρ : RF) (a : Int64) (b : Int64) (h_nd : nd ≤ 6) : Met l yJ13_compare_74951 (WSb yJ13_compare_74951 cJ13_compare_74951 4 (some .int)) (rmA 0 0) (va_Pc [.long a, .long b] (PW G (28 + 3 * nd) q sz (eX G q τ ζ ρ))) (va_Qi (fun (r : Int32) (u : (ST × ST × RF)) => (r = -1 ∧ u = (τ, ζ, ρ) ∧ (a.toInt < b.toInt)) ∨ (r = 0 ∧ u = (τ, ζ, ρ) ∧ (a.toInt = b.toInt)) ∨ (r = 1 ∧ u = (τ, ζ, ρ) ∧ (b.toInt < a.toInt))) (fun u => BW G (28 + 3 * nd) q (eX G q u.1 u.2.1 u.2.2)) (FA (28 + 3 * nd) q sz)) 0 0 (FA (28 + 3 * nd) q sz) := by
  refine Met_B (own := RJ13) rfl (by decide) (Nat.le_of_ble_eq_true rfl) (fun p e s m args below meth c ls hsz C hW hr hk hl QQ hQ => ?_)
  subst hsz
  have hl : lv_has ls 4 [(0, .long a), (2, .long b)] := hl
  refine lv_lload_n C.1 C.2.1 dJ13_compare_74951_0 rfl (lv_at hl 0 rfl) ?_
  refine lv_lload_n C.1 C.2.1 dJ13_compare_74951_1 rfl (lv_at hl 1 rfl) ?_
  refine W.lcmp C.1 C.2.1 dJ13_compare_74951_2 ?_
  refine lv_if_ge C.1 C.2.1 (tgt := 10) dJ13_compare_74951_3 (by decide) (fun c_1 => ?_) (fun c_1 => ?_)
  · skip
    have k_1 := (lc_ge (rfl : (a).toInt = (a).toInt) (rfl : (b).toInt = (b).toInt)).mp c_1
    refine lv_lload_n C.1 C.2.1 dJ13_compare_74951_10 rfl (lv_at hl 0 rfl) ?_
    refine lv_lload_n C.1 C.2.1 dJ13_compare_74951_11 rfl (lv_at hl 1 rfl) ?_
    refine W.lcmp C.1 C.2.1 dJ13_compare_74951_12 ?_
    refine lv_if_ne C.1 C.2.1 (tgt := 20) dJ13_compare_74951_13 (by decide) (fun c_2 => ?_) (fun c_2 => ?_)
    · skip
      have k_2 := (ln_eq (rfl : (a).toInt = (a).toInt) (rfl : (b).toInt = (b).toInt)).mp c_2
      refine lv_iconst C.1 C.2.1 (v := 1) dJ13_compare_74951_20 (by decide) ?_
      subst hQ
      exact r_iret (τ, ζ, ρ) C hW hr hk dJ13_compare_74951_21 (by first | exact Or.inl ⟨rfl, rfl, by omega⟩ | exact Or.inr (Or.inl ⟨rfl, rfl, by omega⟩) | exact Or.inr (Or.inr ⟨rfl, rfl, by omega⟩))
    · skip
      have k_2 := (lc_eq (rfl : (a).toInt = (a).toInt) (rfl : (b).toInt = (b).toInt)).mp c_2
      refine lv_iconst C.1 C.2.1 (v := 0) dJ13_compare_74951_16 (by decide) ?_
      refine lv_goto C.1 C.2.1 (tgt := 21) dJ13_compare_74951_17 (by decide) ?_
      subst hQ
      exact r_iret (τ, ζ, ρ) C hW hr hk dJ13_compare_74951_21 (by first | exact Or.inl ⟨rfl, rfl, by omega⟩ | exact Or.inr (Or.inl ⟨rfl, rfl, by omega⟩) | exact Or.inr (Or.inr ⟨rfl, rfl, by omega⟩))
  · skip
    have k_1 := (ln_ge (rfl : (a).toInt = (a).toInt) (rfl : (b).toInt = (b).toInt)).mp c_1
    refine lv_iconst C.1 C.2.1 (v := (-1)) dJ13_compare_74951_6 (by decide) ?_
    refine lv_goto C.1 C.2.1 (tgt := 21) dJ13_compare_74951_7 (by decide) ?_
    subst hQ
    exact r_iret (τ, ζ, ρ) C hW hr hk dJ13_compare_74951_21 (by first | exact Or.inl ⟨rfl, rfl, by omega⟩ | exact Or.inr (Or.inl ⟨rfl, rfl, by omega⟩) | exact Or.inr (Or.inr ⟨rfl, rfl, by omega⟩))
set_option maxHeartbeats 4000000 in
set_option maxRecDepth 100000 in
theorem c_X7_signOf (l : Launch) (G : GG) (q : Nat → Nat) (nd sz : Nat) (τ ζ : ST) (ρ : RF) (i : Nat) (j : Nat) (h_nd : nd ≤ 6) (hi : i < nd) (hj : j < nd) (h_k : dOk τ ζ i) (h_k2 : dOk τ ζ j) : Met l yX7_signOf (WSb yX7_signOf cX7_signOf 2 (some .int)) (rmA 4 90) (va_Pc [.ref (q (28 + 3 * i)), .ref (q (28 + 3 * j))] (PW G (28 + 3 * nd) q sz (eX G q τ ζ ρ))) (va_Qi (fun (r : Int32) (u : (ST × ST × RF)) => r = sgn (prd τ i j) ∧ u = (τ, ζ, ρ)) (fun u => BW G (28 + 3 * nd) q (eX G q u.1 u.2.1 u.2.2)) (FA (28 + 3 * nd) q sz)) 0 0 (FA (28 + 3 * nd) q sz) := by
  refine Met_B (own := RX7) rfl (by decide) (Nat.le_of_ble_eq_true rfl) (fun p e s m args below meth c ls hsz C hW hr hk hl QQ hQ => ?_)
  subst hsz
  have hl : lv_has ls 2 [(0, .ref (q (28 + 3 * i))), (1, .ref (q (28 + 3 * j)))] := hl
  have b1 := h_k.2.2.2.1
  have b2 := h_k2.2.2.2.1
  refine lv_aload_n C.1 C.2.1 dX7_signOf_0 rfl (lv_at hl 0 rfl) ?_
  refine lv_aload_n C.1 C.2.1 dX7_signOf_1 rfl (lv_at hl 1 rfl) ?_
  refine lv_aload_n C.1 C.2.1 dX7_signOf_2 rfl (lv_at hl 1 rfl) ?_
  refine xG_Dish_delay C hW j (by omega) bF_X7_63 (v := (τ.2.1 2 j)) rfl dX7_signOf_3 ?_
  refine go_l hW (run_V (o := 28 + 3 * i) (As := [.ref (q (28 + 3 * j)), .int (τ.2.1 2 j)]) (rest := []) C hW (by omega) (eX_obj _ _ _ _ _ i) rfl (c_X1_productWith l G q nd _ τ ζ ρ (τ.2.1 2 j) ((((τ.2.1 2 j)).toInt).toNat) i j ((rfl : ((τ.2.1 2 j)).toInt = ((τ.2.1 2 j)).toInt).trans (by omega)) h_nd (by omega) (by omega) h_k h_k2 (by omega)) (cw_V 2 C bL_X7_132 bI_X1_productWith bV_X1_productWith bN_X1 bC_X1_productWith ⟨rfl, rfl⟩ (by decide +kernel) ⟨Nat.le_of_ble_eq_true rfl, Nat.le_of_ble_eq_true rfl⟩) rfl hl.1 rfl (Nat.le_of_ble_eq_true rfl) dX7_signOf_6 ⟨Nat.le_refl _, Nat.le_refl _⟩) (fun r_1 u_1 H locs hp_1 hW => ?_)
  rcases hp_1 with ⟨rfl, rfl⟩
  have hW : WB G (28 + 3 * nd) q (eX G q τ ζ ρ) s H locs := hW
  refine lv_lconst C.1 C.2.1 (v := 0) dX7_signOf_9 (by decide) ?_
  refine go_i hW (run_S (As := [.long (prdF τ i (dl τ i) j ((((τ.2.1 2 j)).toInt).toNat)), .long 0]) (rest := []) C hW (c_J13_compare_74951 l G q nd _ τ ζ ρ (prdF τ i (dl τ i) j ((((τ.2.1 2 j)).toInt).toNat)) 0  h_nd) (cw_S 2 C bL_X7_143 bS_J13_compare_74951 bN_J13 bC_J13_compare_74951 ⟨rfl, rfl⟩ (by decide +kernel) ⟨Nat.le_of_ble_eq_true rfl, Nat.le_of_ble_eq_true rfl⟩) rfl hl.1 rfl (Nat.le_of_ble_eq_true rfl) dX7_signOf_10 ⟨Nat.le_refl _, Nat.le_refl _⟩) (fun r_2 u_2 H locs hp_2 hW => ?_)
  rcases hp_2 with ⟨rfl, rfl, k_2⟩ | ⟨rfl, rfl, k_2⟩ | ⟨rfl, rfl, k_2⟩
  · skip
    have hW : WB G (28 + 3 * nd) q (eX G q τ ζ ρ) s H locs := hW
    rw [show (0 : Int64).toInt = 0 from by decide] at k_2
    subst hQ
    exact r_iret (τ, ζ, ρ) C hW hr hk dX7_signOf_13 ⟨(by show _ = sgn (prdF τ i (dl τ i) j (τ.2.1 2 j).toInt.toNat); unfold sgn; (repeat (first | rw [if_pos (by omega)] | rw [if_neg (by omega)]))), rfl⟩
  · skip
    have hW : WB G (28 + 3 * nd) q (eX G q τ ζ ρ) s H locs := hW
    rw [show (0 : Int64).toInt = 0 from by decide] at k_2
    subst hQ
    exact r_iret (τ, ζ, ρ) C hW hr hk dX7_signOf_13 ⟨(by show _ = sgn (prdF τ i (dl τ i) j (τ.2.1 2 j).toInt.toNat); unfold sgn; (repeat (first | rw [if_pos (by omega)] | rw [if_neg (by omega)]))), rfl⟩
  · skip
    have hW : WB G (28 + 3 * nd) q (eX G q τ ζ ρ) s H locs := hW
    rw [show (0 : Int64).toInt = 0 from by decide] at k_2
    subst hQ
    exact r_iret (τ, ζ, ρ) C hW hr hk dX7_signOf_13 ⟨(by show _ = sgn (prdF τ i (dl τ i) j (τ.2.1 2 j).toInt.toNat); unfold sgn; (repeat (first | rw [if_pos (by omega)] | rw [if_neg (by omega)]))), rfl⟩
set_option maxHeartbeats 4000000 in
set_option maxRecDepth 100000 in
theorem c_X0_addBeam (l : Launch) (G : GG) (q : Nat → Nat) (nd sz : Nat) (τ ζ : ST) (ρ : RF) (x : Int32) (y : Int32) (a : Int64) (h_nd : nd ≤ 6) (h_kt : ∀ z : Nat, z < 256 → ζ.2.1 2 z = keptB τ (nI (z % 16)) (nI (z / 16))) : Met l yX0_addBeam (WSb yX0_addBeam cX0_addBeam 6 none) (rmA 1 22) (va_Pc [.ref (q 14), .int x, .int y, .long a] (PW G (28 + 3 * nd) q sz (eX G q τ ζ ρ))) (va_Qv (fun (u : (ST × ST × RF)) => u = ((adL τ x y a), ζ, ρ)) (fun u => BW G (28 + 3 * nd) q (eX G q u.1 u.2.1 u.2.2)) (FA (28 + 3 * nd) q sz)) 0 0 (FA (28 + 3 * nd) q sz) := by
  refine Met_B (own := RX0) rfl (by decide) (Nat.le_of_ble_eq_true rfl) (fun p e s m args below meth c ls hsz C hW hr hk hl QQ hQ => ?_)
  subst hsz
  have hl : lv_has ls 6 [(0, .ref (q 14)), (1, .int x), (2, .int y), (3, .long a)] := hl
  refine lv_iconst C.1 C.2.1 (v := 0) dX0_addBeam_0 (by decide) ?_
  refine lv_istore (lv' := [(5, .int 0), (0, .ref (q 14)), (1, .int x), (2, .int y), (3, .long a)]) C.1 C.2.1 dX0_addBeam_1 hl (by decide) rfl (fun ls hl => ?_)
  have L_3_1 : ∀ (fuel : Nat) (g : Nat) (x5 : Int32), 256 - g < fuel → (x5.toInt = (g : Int)) → (g ≤ 256) → ∀ (H : Heap) (locs : List Loc) (ls : Array Slot), WB G (28 + 3 * nd) q (eX G q (sbF τ 0 (cut g (adN τ x y a) (τ.2.2 0))) ζ ρ) s H locs → lv_has ls 6 [(5, .int x5), (0, .ref (q 14)), (1, .int x), (2, .int y), (3, .long a)] → W p l e (rmA 1 22) s m args below meth c H locs 0 0 QQ (F0 m 3 ls []) := by
    intro fuel; induction fuel with
    | zero => intro g x5 hf; exact absurd hf (Nat.not_lt_zero _)
    | succ fuel ih_3 =>
      intro g x5 hf hg hgl H locs ls hW hl
      refine lv_iload C.1 C.2.1 dX0_addBeam_3 (lv_at hl 0 rfl) ?_
      refine lv_sipush C.1 C.2.1 (v := 256) dX0_addBeam_5 (by decide) ?_
      refine lv_icmp_ge C.1 C.2.1 (tgt := 48) dX0_addBeam_8 (by decide) (fun c_2 => ?_) (fun c_2 => ?_)
      · skip
        have k_2 := (tc_le (show (256 : Int32).toInt = 256 from by decide) hg).mp c_2
        subst hQ
        exact r_vret ((sbF τ 0 (cut g (adN τ x y a) (τ.2.2 0))), ζ, ρ) C hW hr hk dX0_addBeam_48 (by unfold adL; rw [show g = 256 from by omega])
      · skip
        have k_2 := (tn_le (show (256 : Int32).toInt = 256 from by decide) hg).mp c_2
        refine lv_aload_n C.1 C.2.1 dX0_addBeam_11 rfl (lv_at hl 1 rfl) ?_
        refine xG_Board_cells C hW bF_X0_9 dX0_addBeam_12 ?_
        refine lv_iload C.1 C.2.1 dX0_addBeam_15 (lv_at hl 0 rfl) ?_
        refine lv_dup2_11 C.1 C.2.1 dX0_addBeam_17 rfl rfl ?_
        refine xL_15 C hW g (hg.trans (by omega)) (by omega) (v := ((sbF τ 0 (cut g (adN τ x y a) (τ.2.2 0))).2.2 0 g)) rfl dX0_addBeam_18 ?_
        refine lv_lload_n C.1 C.2.1 dX0_addBeam_19 rfl (lv_at hl 4 rfl) ?_
        refine lv_aload_n C.1 C.2.1 dX0_addBeam_20 rfl (lv_at hl 1 rfl) ?_
        refine lv_iload C.1 C.2.1 dX0_addBeam_21 (lv_at hl 0 rfl) ?_
        refine lv_bipush C.1 C.2.1 (v := 16) dX0_addBeam_23 (by decide) ?_
        refine lv_irem C.1 C.2.1 dX0_addBeam_25 (by decide) ?_
        refine lv_iload_n C.1 C.2.1 dX0_addBeam_26 rfl (lv_at hl 2 rfl) ?_
        refine lv_isub C.1 C.2.1 dX0_addBeam_27 ?_
        refine lv_iload C.1 C.2.1 dX0_addBeam_28 (lv_at hl 0 rfl) ?_
        refine lv_bipush C.1 C.2.1 (v := 16) dX0_addBeam_30 (by decide) ?_
        refine lv_idiv C.1 C.2.1 dX0_addBeam_32 (by decide) ?_
        refine lv_iload_n C.1 C.2.1 dX0_addBeam_33 rfl (lv_at hl 3 rfl) ?_
        refine lv_isub C.1 C.2.1 dX0_addBeam_34 ?_
        refine go_i hW (run_V (o := 14) (As := [.int ((x5 - x5 / 16 * 16) - x), .int ((x5 / 16) - y)]) (rest := [.long a, .long ((sbF τ 0 (cut g (adN τ x y a) (τ.2.2 0))).2.2 0 g), .int x5, .ref (q 15)]) C hW (by omega) rfl rfl (c_X0_keptAt l G q nd _ (sbF τ 0 (cut g (adN τ x y a) (τ.2.2 0))) ζ ρ ((x5 - x5 / 16 * 16) - x) ((x5 / 16) - y)  h_nd) (cw_V 2 C bL_X0_79 bI_X0_keptAt bV_X0_keptAt bN_X0 bC_X0_keptAt ⟨rfl, rfl⟩ (by decide +kernel) ⟨Nat.le_of_ble_eq_true rfl, Nat.le_of_ble_eq_true rfl⟩) rfl hl.1 rfl (Nat.le_of_ble_eq_true rfl) dX0_addBeam_35 ⟨Nat.le_refl _, Nat.le_refl _⟩) (fun r_3 u_3 H locs hp_3 hW => ?_)
        rcases hp_3 with ⟨rfl, rfl⟩
        have hW : WB G (28 + 3 * nd) q (eX G q (sbF τ 0 (cut g (adN τ x y a) (τ.2.2 0))) ζ ρ) s H locs := hW
        have eB : (((sbF τ 0 (cut g (adN τ x y a) (τ.2.2 0))).2.2 0 g) + (a * ((kpt ζ ((x5 - x5 / 16 * 16) - x) ((x5 / 16) - y))).toInt64)) = adN τ x y a g := by
          show cut g (adN τ x y a) (τ.2.2 0) g + a * (kpt ζ ((x5 - x5 / 16 * 16) - x) (x5 / 16 - y)).toInt64 = _
          rw [cut_at, kpt_eq h_kt, c16m hg (by omega), c16d hg (by omega)]; rfl
        refine lv_i2l C.1 C.2.1 dX0_addBeam_38 rfl ?_
        refine lv_lmul C.1 C.2.1 dX0_addBeam_39 ?_
        refine lv_ladd C.1 C.2.1 dX0_addBeam_40 ?_
        refine xS_15 C hW g (hg.trans (by omega)) (by omega) dX0_addBeam_41 (fun H locs hW => ?_)
        refine lv_iinc (v := (x5 + 1)) (lv' := [(5, .int (x5 + 1)), (0, .ref (q 14)), (1, .int x), (2, .int y), (3, .long a)]) C.1 C.2.1 dX0_addBeam_42 hl (k := 0) rfl rfl (by decide) rfl (fun ls hl => ?_)
        refine lv_goto C.1 C.2.1 (tgt := 3) dX0_addBeam_45 (by decide) ?_
        rw [eB, sbF_sb, cut_sL] at hW
        exact ih_3 (g + 1) (x5 + 1) (by omega) ((ti_add hg (show (1 : Int32).toInt = 1 from by decide) (by omega) (by omega)).trans (by omega)) (by omega) _ _ _ hW (lv_sub hl [0, 1, 2, 3, 4] rfl)
  exact L_3_1 _ 0 0 (Nat.lt_succ_self _) (by decide) (by omega) _ _ _ (by rw [cut_0, sbF_self]; exact hW) (lv_sub hl [0, 1, 2, 3, 4] rfl)
set_option maxHeartbeats 4000000 in
set_option maxRecDepth 100000 in
theorem c_X0_startWith (l : Launch) (G : GG) (q : Nat → Nat) (nd sz : Nat) (τ ζ : ST) (ρ : RF) (h_nd : nd ≤ 6) (h_x : 0 ≤ (ζ.1 0).toInt ∧ (ζ.1 0).toInt ≤ 15) : Met l yX0_startWith (WSb yX0_startWith cX0_startWith 3 none) (rmA 2 47) (va_Pc [.ref (q 14), .ref (q 6)] (PW G (28 + 3 * nd) q sz (eX G q τ ζ ρ))) (va_Qv (fun (u : (ST × ST × RF)) => u = ((stT τ), (saF ζ 2 (cut 256 (kpN ζ) (ζ.2.1 2))), ρ)) (fun u => BW G (28 + 3 * nd) q (eX G q u.1 u.2.1 u.2.2)) (FA (28 + 3 * nd) q sz)) 0 0 (FA (28 + 3 * nd) q sz) := by
  refine Met_B (own := RX0) rfl (by decide) (Nat.le_of_ble_eq_true rfl) (fun p e s m args below meth c ls hsz C hW hr hk hl QQ hQ => ?_)
  subst hsz
  have hl : lv_has ls 3 [(0, .ref (q 14)), (1, .ref (q 6))] := hl
  refine lv_aload_n C.1 C.2.1 dX0_startWith_0 rfl (lv_at hl 0 rfl) ?_
  refine lv_iconst C.1 C.2.1 (v := 0) dX0_startWith_1 (by decide) ?_
  refine xP_Board_parts C hW bF_X0_38 dX0_startWith_2 (fun H locs hW => ?_)
  refine lv_aload_n C.1 C.2.1 dX0_startWith_5 rfl (lv_at hl 0 rfl) ?_
  refine lv_iconst C.1 C.2.1 (v := 0) dX0_startWith_6 (by decide) ?_
  refine lv_iconst C.1 C.2.1 (v := 0) dX0_startWith_7 (by decide) ?_
  refine lv_bipush C.1 C.2.1 (v := 15) dX0_startWith_8 (by decide) ?_
  refine lv_bipush C.1 C.2.1 (v := 15) dX0_startWith_10 (by decide) ?_
  refine go_v hW (run_V (o := 14) (As := [.int 0, .int 0, .int 15, .int 15]) (rest := []) C hW (by omega) rfl rfl (c_X0_look l G q nd _ (sg τ 4 0) ζ ρ 0 0 15 15  h_nd) (cw_V 4 C bL_X0_41 bI_X0_look bV_X0_look bN_X0 bC_X0_look ⟨rfl, rfl⟩ (by decide +kernel) ⟨Nat.le_of_ble_eq_true rfl, Nat.le_of_ble_eq_true rfl⟩) rfl hl.1 rfl (Nat.le_of_ble_eq_true rfl) dX0_startWith_12 ⟨Nat.le_refl _, Nat.le_refl _⟩) (fun u_1 H locs hp_1 hW => ?_)
  obtain rfl := hp_1
  have hW : WB G (28 + 3 * nd) q (eX G q (sg (sg (sg (sg (sg τ 4 0) 5 0) 7 0) 6 15) 8 15) ζ ρ) s H locs := hW
  refine lv_aload_n C.1 C.2.1 dX0_startWith_15 rfl (lv_at hl 0 rfl) ?_
  refine xG_Board_cells C hW bF_X0_9 dX0_startWith_16 ?_
  refine lv_lconst C.1 C.2.1 (v := 0) dX0_startWith_19 (by decide) ?_
  refine go_v hW (run_S (As := [.ref (q 15), .long 0]) (rest := []) C hW (c_J7_fill_d0a16 l G (28 + 3 * nd) q _ (eX G q (sg (sg (sg (sg (sg τ 4 0) 5 0) 7 0) 6 15) 8 15) ζ ρ) 15 256 (τ.2.2 0) 0 (by omega) rfl (by decide)) (cw_S 2 C bL_X0_45 bS_J7_fill_d0a16 bN_J7 bC_J7_fill_d0a16 ⟨rfl, rfl⟩ (by decide +kernel) ⟨Nat.le_of_ble_eq_true rfl, Nat.le_of_ble_eq_true rfl⟩) rfl hl.1 rfl (Nat.le_of_ble_eq_true rfl) dX0_startWith_20 ⟨Nat.le_refl _, Nat.le_refl _⟩) (fun _ H locs _ hW => ?_)
  have hW : WB G (28 + 3 * nd) q (eX G q (stT τ) ζ ρ) s H locs := WB.to hW (fun j hj => match j, hj with
    | 0, _ => rfl
    | 1, _ => rfl
    | 2, _ => rfl
    | 3, _ => rfl
    | 4, _ => rfl
    | 5, _ => rfl
    | 6, _ => rfl
    | 7, _ => rfl
    | 8, _ => rfl
    | 9, _ => rfl
    | 10, _ => rfl
    | 11, _ => rfl
    | 12, _ => rfl
    | 13, _ => rfl
    | 14, _ => rfl
    | 15, _ => rfl
    | 16, _ => rfl
    | 17, _ => rfl
    | 18, _ => rfl
    | 19, _ => rfl
    | 20, _ => rfl
    | 21, _ => rfl
    | 22, _ => rfl
    | 23, _ => rfl
    | 24, _ => rfl
    | 25, _ => rfl
    | 26, _ => rfl
    | 27, _ => rfl
    | j + 28, hj => (if_neg (by omega)).trans rfl)
  refine lv_iconst C.1 C.2.1 (v := 0) dX0_startWith_23 (by decide) ?_
  refine lv_istore_n (lv' := [(2, .int 0), (0, .ref (q 14)), (1, .ref (q 6))]) C.1 C.2.1 dX0_startWith_24 rfl hl (by decide) rfl (fun ls hl => ?_)
  have L_25_2 : ∀ (fuel : Nat) (g : Nat) (x2 : Int32), 256 - g < fuel → (x2.toInt = (g : Int)) → (g ≤ 256) → ∀ (H : Heap) (locs : List Loc) (ls : Array Slot), WB G (28 + 3 * nd) q (eX G q (stT τ) (saF ζ 2 (cut g (kpN ζ) (ζ.2.1 2))) ρ) s H locs → lv_has ls 3 [(2, .int x2), (0, .ref (q 14)), (1, .ref (q 6))] → W p l e (rmA 2 47) s m args below meth c H locs 0 0 QQ (F0 m 25 ls []) := by
    intro fuel; induction fuel with
    | zero => intro g x2 hf; exact absurd hf (Nat.not_lt_zero _)
    | succ fuel ih_25 =>
      intro g x2 hf hg hgl H locs ls hW hl
      refine lv_iload_n C.1 C.2.1 dX0_startWith_25 rfl (lv_at hl 0 rfl) ?_
      refine lv_sipush C.1 C.2.1 (v := 256) dX0_startWith_26 (by decide) ?_
      refine lv_icmp_ge C.1 C.2.1 (tgt := 56) dX0_startWith_29 (by decide) (fun c_3 => ?_) (fun c_3 => ?_)
      · skip
        have k_3 := (tc_le (show (256 : Int32).toInt = 256 from by decide) hg).mp c_3
        subst hQ
        exact r_vret ((stT τ), (saF ζ 2 (cut g (kpN ζ) (ζ.2.1 2))), ρ) C hW hr hk dX0_startWith_56 (by rw [show g = 256 from by omega])
      · skip
        have k_3 := (tn_le (show (256 : Int32).toInt = 256 from by decide) hg).mp c_3
        refine lv_aload_n C.1 C.2.1 dX0_startWith_32 rfl (lv_at hl 1 rfl) ?_
        refine xG_Board_kept C hW bF_X0_15 dX0_startWith_33 ?_
        refine lv_iload_n C.1 C.2.1 dX0_startWith_36 rfl (lv_at hl 0 rfl) ?_
        refine lv_aload_n C.1 C.2.1 dX0_startWith_37 rfl (lv_at hl 2 rfl) ?_
        refine lv_iload_n C.1 C.2.1 dX0_startWith_38 rfl (lv_at hl 0 rfl) ?_
        refine lv_bipush C.1 C.2.1 (v := 16) dX0_startWith_39 (by decide) ?_
        refine lv_irem C.1 C.2.1 dX0_startWith_41 (by decide) ?_
        refine lv_iload_n C.1 C.2.1 dX0_startWith_42 rfl (lv_at hl 0 rfl) ?_
        refine lv_bipush C.1 C.2.1 (v := 16) dX0_startWith_43 (by decide) ?_
        refine lv_idiv C.1 C.2.1 dX0_startWith_45 (by decide) ?_
        refine go_i hW (run_V (o := 6) (As := [.int (x2 - x2 / 16 * 16), .int (x2 / 16)]) (rest := [.int x2, .ref (q 16)]) C hW (by omega) rfl rfl (c_X6_beamAt l G q nd _ (stT τ) (saF ζ 2 (cut g (kpN ζ) (ζ.2.1 2))) ρ (x2 - x2 / 16 * 16) (x2 / 16)  h_nd h_x) (cw_V 2 C bL_X0_51 bI_X6_beamAt bV_X6_beamAt bN_X6 bC_X6_beamAt ⟨rfl, rfl⟩ (by decide +kernel) ⟨Nat.le_of_ble_eq_true rfl, Nat.le_of_ble_eq_true rfl⟩) rfl hl.1 rfl (Nat.le_of_ble_eq_true rfl) dX0_startWith_46 ⟨Nat.le_refl _, Nat.le_refl _⟩) (fun r_4 u_4 H locs hp_4 hW => ?_)
        rcases hp_4 with ⟨rfl, rfl⟩
        have hW : WB G (28 + 3 * nd) q (eX G q (stT τ) (saF ζ 2 (cut g (kpN ζ) (ζ.2.1 2))) ρ) s H locs := hW
        have eB : (bmS ((saF ζ 2 (cut g (kpN ζ) (ζ.2.1 2))).2.1 5) ((saF ζ 2 (cut g (kpN ζ) (ζ.2.1 2))).2.1 6) (x2 - x2 / 16 * 16) (x2 / 16) ((saF ζ 2 (cut g (kpN ζ) (ζ.2.1 2))).1 0).toInt.toNat) = kpN ζ g := by show bmS (ζ.2.1 5) (ζ.2.1 6) (x2 - x2 / 16 * 16) (x2 / 16) (ζ.1 0).toInt.toNat = _; rw [c16m hg (by omega), c16d hg (by omega)]; rfl
        refine xS_16 C hW g (hg.trans (by omega)) (by omega) dX0_startWith_49 (fun H locs hW => ?_)
        refine lv_iinc (v := (x2 + 1)) (lv' := [(2, .int (x2 + 1)), (0, .ref (q 14)), (1, .ref (q 6))]) C.1 C.2.1 dX0_startWith_50 hl (k := 0) rfl rfl (by decide) rfl (fun ls hl => ?_)
        refine lv_goto C.1 C.2.1 (tgt := 25) dX0_startWith_53 (by decide) ?_
        rw [eB, saF_sa, cut_sI] at hW
        exact ih_25 (g + 1) (x2 + 1) (by omega) ((ti_add hg (show (1 : Int32).toInt = 1 from by decide) (by omega) (by omega)).trans (by omega)) (by omega) _ _ _ hW (lv_sub hl [0, 1, 2] rfl)
  exact L_25_2 _ 0 0 (Nat.lt_succ_self _) (by decide) (by omega) _ _ _ (by rw [cut_0, saF_self]; exact hW) (lv_sub hl [0, 1, 2] rfl)
set_option maxHeartbeats 4000000 in
set_option maxRecDepth 100000 in
theorem c_X0_sumProducts (l : Launch) (G : GG) (q : Nat → Nat) (nd sz : Nat) (τ ζ : ST) (ρ : RF) (h_nd : nd ≤ 6) (h_x : 0 ≤ (ζ.1 0).toInt ∧ (ζ.1 0).toInt ≤ 15) : Met l yX0_sumProducts (WSb yX0_sumProducts cX0_sumProducts 3 none) (rmA 2 48) (va_Pc [.ref (q 14), .ref (q 6)] (PW G (28 + 3 * nd) q sz (eX G q τ ζ ρ))) (va_Qv (fun (u : (ST × ST × RF)) => u = ((sbF τ 0 (cut 256 (cvN ζ) (τ.2.2 0))), ζ, ρ)) (fun u => BW G (28 + 3 * nd) q (eX G q u.1 u.2.1 u.2.2)) (FA (28 + 3 * nd) q sz)) 0 0 (FA (28 + 3 * nd) q sz) := by
  refine Met_B (own := RX0) rfl (by decide) (Nat.le_of_ble_eq_true rfl) (fun p e s m args below meth c ls hsz C hW hr hk hl QQ hQ => ?_)
  subst hsz
  have hl : lv_has ls 3 [(0, .ref (q 14)), (1, .ref (q 6))] := hl
  refine lv_iconst C.1 C.2.1 (v := 0) dX0_sumProducts_0 (by decide) ?_
  refine lv_istore_n (lv' := [(2, .int 0), (0, .ref (q 14)), (1, .ref (q 6))]) C.1 C.2.1 dX0_sumProducts_1 rfl hl (by decide) rfl (fun ls hl => ?_)
  have L_2_1 : ∀ (fuel : Nat) (g : Nat) (x2 : Int32), 256 - g < fuel → (x2.toInt = (g : Int)) → (g ≤ 256) → ∀ (H : Heap) (locs : List Loc) (ls : Array Slot), WB G (28 + 3 * nd) q (eX G q (sbF τ 0 (cut g (cvN ζ) (τ.2.2 0))) ζ ρ) s H locs → lv_has ls 3 [(2, .int x2), (0, .ref (q 14)), (1, .ref (q 6))] → W p l e (rmA 2 48) s m args below meth c H locs 0 0 QQ (F0 m 2 ls []) := by
    intro fuel; induction fuel with
    | zero => intro g x2 hf; exact absurd hf (Nat.not_lt_zero _)
    | succ fuel ih_2 =>
      intro g x2 hf hg hgl H locs ls hW hl
      refine lv_iload_n C.1 C.2.1 dX0_sumProducts_2 rfl (lv_at hl 0 rfl) ?_
      refine lv_sipush C.1 C.2.1 (v := 256) dX0_sumProducts_3 (by decide) ?_
      refine lv_icmp_ge C.1 C.2.1 (tgt := 33) dX0_sumProducts_6 (by decide) (fun c_2 => ?_) (fun c_2 => ?_)
      · skip
        have k_2 := (tc_le (show (256 : Int32).toInt = 256 from by decide) hg).mp c_2
        subst hQ
        exact r_vret ((sbF τ 0 (cut g (cvN ζ) (τ.2.2 0))), ζ, ρ) C hW hr hk dX0_sumProducts_33 (by rw [show g = 256 from by omega])
      · skip
        have k_2 := (tn_le (show (256 : Int32).toInt = 256 from by decide) hg).mp c_2
        refine lv_aload_n C.1 C.2.1 dX0_sumProducts_9 rfl (lv_at hl 1 rfl) ?_
        refine xG_Board_cells C hW bF_X0_9 dX0_sumProducts_10 ?_
        refine lv_iload_n C.1 C.2.1 dX0_sumProducts_13 rfl (lv_at hl 0 rfl) ?_
        refine lv_aload_n C.1 C.2.1 dX0_sumProducts_14 rfl (lv_at hl 2 rfl) ?_
        refine lv_iload_n C.1 C.2.1 dX0_sumProducts_15 rfl (lv_at hl 0 rfl) ?_
        refine lv_bipush C.1 C.2.1 (v := 16) dX0_sumProducts_16 (by decide) ?_
        refine lv_irem C.1 C.2.1 dX0_sumProducts_18 (by decide) ?_
        refine lv_iload_n C.1 C.2.1 dX0_sumProducts_19 rfl (lv_at hl 0 rfl) ?_
        refine lv_bipush C.1 C.2.1 (v := 16) dX0_sumProducts_20 (by decide) ?_
        refine lv_idiv C.1 C.2.1 dX0_sumProducts_22 (by decide) ?_
        refine go_l hW (run_V (o := 6) (As := [.int (x2 - x2 / 16 * 16), .int (x2 / 16)]) (rest := [.int x2, .ref (q 15)]) C hW (by omega) rfl rfl (c_X6_productsAt l G q nd _ (sbF τ 0 (cut g (cvN ζ) (τ.2.2 0))) ζ ρ (x2 - x2 / 16 * 16) (x2 / 16)  h_nd h_x) (cw_V 2 C bL_X0_57 bI_X6_productsAt bV_X6_productsAt bN_X6 bC_X6_productsAt ⟨rfl, rfl⟩ (by decide +kernel) ⟨Nat.le_of_ble_eq_true rfl, Nat.le_of_ble_eq_true rfl⟩) rfl hl.1 rfl (Nat.le_of_ble_eq_true rfl) dX0_sumProducts_23 ⟨Nat.le_refl _, Nat.le_refl _⟩) (fun r_3 u_3 H locs hp_3 hW => ?_)
        rcases hp_3 with ⟨rfl, rfl⟩
        have hW : WB G (28 + 3 * nd) q (eX G q (sbF τ 0 (cut g (cvN ζ) (τ.2.2 0))) ζ ρ) s H locs := hW
        have eB : (cvS (ζ.2.2 0) (ζ.2.1 5) (ζ.2.1 6) (x2 - x2 / 16 * 16) (x2 / 16) (ζ.1 0).toInt.toNat) = cvN ζ g := by show cvS (ζ.2.2 0) (ζ.2.1 5) (ζ.2.1 6) (x2 - x2 / 16 * 16) (x2 / 16) (ζ.1 0).toInt.toNat = _; rw [c16m hg (by omega), c16d hg (by omega)]; rfl
        refine xS_15 C hW g (hg.trans (by omega)) (by omega) dX0_sumProducts_26 (fun H locs hW => ?_)
        refine lv_iinc (v := (x2 + 1)) (lv' := [(2, .int (x2 + 1)), (0, .ref (q 14)), (1, .ref (q 6))]) C.1 C.2.1 dX0_sumProducts_27 hl (k := 0) rfl rfl (by decide) rfl (fun ls hl => ?_)
        refine lv_goto C.1 C.2.1 (tgt := 2) dX0_sumProducts_30 (by decide) ?_
        rw [eB, sbF_sb, cut_sL] at hW
        exact ih_2 (g + 1) (x2 + 1) (by omega) ((ti_add hg (show (1 : Int32).toInt = 1 from by decide) (by omega) (by omega)).trans (by omega)) (by omega) _ _ _ hW (lv_sub hl [0, 1, 2] rfl)
  exact L_2_1 _ 0 0 (Nat.lt_succ_self _) (by decide) (by omega) _ _ _ (by rw [cut_0, sbF_self]; exact hW) (lv_sub hl [0, 1, 2] rfl)
set_option maxHeartbeats 4000000 in
set_option maxRecDepth 100000 in
theorem c_X0_sumPoints (l : Launch) (G : GG) (q : Nat → Nat) (nd sz : Nat) (τ ζ : ST) (ρ : RF) (h_nd : nd ≤ 6) (h_p : 0 ≤ (τ.1 3).toInt ∧ (τ.1 3).toInt ≤ 10) (h_kt : ∀ z : Nat, z < 256 → ζ.2.1 2 z = keptB τ (nI (z % 16)) (nI (z / 16))) : Met l yX0_sumPoints (WSb yX0_sumPoints cX0_sumPoints 3 none) (rmA 2 47) (va_Pc [.ref (q 14), .ref (q 10)] (PW G (28 + 3 * nd) q sz (eX G q τ ζ ρ))) (va_Qv (fun (u : (ST × ST × RF)) => u = ((sbF τ 0 (ptB τ (τ.1 3).toInt.toNat)), ζ, ρ)) (fun u => BW G (28 + 3 * nd) q (eX G q u.1 u.2.1 u.2.2)) (FA (28 + 3 * nd) q sz)) 0 0 (FA (28 + 3 * nd) q sz) := by
  refine Met_B (own := RX0) rfl (by decide) (Nat.le_of_ble_eq_true rfl) (fun p e s m args below meth c ls hsz C hW hr hk hl QQ hQ => ?_)
  subst hsz
  have hl : lv_has ls 3 [(0, .ref (q 14)), (1, .ref (q 10))] := hl
  refine lv_iconst C.1 C.2.1 (v := 0) dX0_sumPoints_0 (by decide) ?_
  refine lv_istore_n (lv' := [(2, .int 0), (0, .ref (q 14)), (1, .ref (q 10))]) C.1 C.2.1 dX0_sumPoints_1 rfl hl (by decide) rfl (fun ls hl => ?_)
  have L_2_1 : ∀ (fuel : Nat) (t : Nat) (x2 : Int32), (τ.1 3).toInt.toNat - t < fuel → (x2.toInt = (t : Int)) → ((t : Int) ≤ (τ.1 3).toInt) → ∀ (H : Heap) (locs : List Loc) (ls : Array Slot), WB G (28 + 3 * nd) q (eX G q (sbF τ 0 (ptB τ t)) ζ ρ) s H locs → lv_has ls 3 [(2, .int x2), (0, .ref (q 14)), (1, .ref (q 10))] → W p l e (rmA 2 47) s m args below meth c H locs 0 0 QQ (F0 m 2 ls []) := by
    intro fuel; induction fuel with
    | zero => intro t x2 hf; exact absurd hf (Nat.not_lt_zero _)
    | succ fuel ih_2 =>
      intro t x2 hf ht hle H locs ls hW hl
      refine lv_iload_n C.1 C.2.1 dX0_sumPoints_2 rfl (lv_at hl 0 rfl) ?_
      refine lv_aload_n C.1 C.2.1 dX0_sumPoints_3 rfl (lv_at hl 2 rfl) ?_
      refine xG_Points_size C hW bF_X0_61 (v := (τ.1 3)) rfl dX0_sumPoints_4 ?_
      refine lv_icmp_ge C.1 C.2.1 (tgt := 39) dX0_sumPoints_7 (by decide) (fun c_2 => ?_) (fun c_2 => ?_)
      · skip
        have k_2 := (tc_le (rfl : ((τ.1 3)).toInt = ((τ.1 3)).toInt) ht).mp c_2
        subst hQ
        exact r_vret ((sbF τ 0 (ptB τ t)), ζ, ρ) C hW hr hk dX0_sumPoints_39 (by rw [show t = (τ.1 3).toInt.toNat from by omega])
      · skip
        have k_2 := (tn_le (rfl : ((τ.1 3)).toInt = ((τ.1 3)).toInt) ht).mp c_2
        refine lv_aload_n C.1 C.2.1 dX0_sumPoints_10 rfl (lv_at hl 1 rfl) ?_
        refine lv_aload_n C.1 C.2.1 dX0_sumPoints_11 rfl (lv_at hl 2 rfl) ?_
        refine xG_Points_xs C hW bF_X0_66 dX0_sumPoints_12 ?_
        refine lv_iload_n C.1 C.2.1 dX0_sumPoints_15 rfl (lv_at hl 0 rfl) ?_
        refine xL_11 C hW t (ht.trans (by omega)) (by omega) (v := (τ.2.1 11 t)) rfl dX0_sumPoints_16 ?_
        refine lv_aload_n C.1 C.2.1 dX0_sumPoints_17 rfl (lv_at hl 2 rfl) ?_
        refine xG_Points_ys C hW bF_X0_69 dX0_sumPoints_18 ?_
        refine lv_iload_n C.1 C.2.1 dX0_sumPoints_21 rfl (lv_at hl 0 rfl) ?_
        refine xL_12 C hW t (ht.trans (by omega)) (by omega) (v := (τ.2.1 12 t)) rfl dX0_sumPoints_22 ?_
        refine lv_aload_n C.1 C.2.1 dX0_sumPoints_23 rfl (lv_at hl 2 rfl) ?_
        refine xG_Points_fluxes C hW bF_X0_72 dX0_sumPoints_24 ?_
        refine lv_iload_n C.1 C.2.1 dX0_sumPoints_27 rfl (lv_at hl 0 rfl) ?_
        refine xL_13 C hW t (ht.trans (by omega)) (by omega) (v := (τ.2.1 13 t)) rfl dX0_sumPoints_28 ?_
        refine lv_i2l C.1 C.2.1 dX0_sumPoints_29 rfl ?_
        refine go_v hW (run_V (o := 14) (As := [.int (τ.2.1 11 t), .int (τ.2.1 12 t), .long ((τ.2.1 13 t).toInt64)]) (rest := []) C hW (by omega) rfl rfl (c_X0_addBeam l G q nd _ (sbF τ 0 (ptB τ t)) ζ ρ (τ.2.1 11 t) (τ.2.1 12 t) ((τ.2.1 13 t).toInt64)  h_nd h_kt) (cw_V 3 C bL_X0_75 bI_X0_addBeam bV_X0_addBeam bN_X0 bC_X0_addBeam ⟨rfl, rfl⟩ (by decide +kernel) ⟨Nat.le_of_ble_eq_true rfl, Nat.le_of_ble_eq_true rfl⟩) rfl hl.1 rfl (Nat.le_of_ble_eq_true rfl) dX0_sumPoints_30 ⟨Nat.le_refl _, Nat.le_refl _⟩) (fun u_3 H locs hp_3 hW => ?_)
        obtain rfl := hp_3
        have hW : WB G (28 + 3 * nd) q (eX G q (adL (sbF τ 0 (ptB τ t)) (τ.2.1 11 t) (τ.2.1 12 t) ((τ.2.1 13 t).toInt64)) ζ ρ) s H locs := hW
        refine lv_iinc (v := (x2 + 1)) (lv' := [(2, .int (x2 + 1)), (0, .ref (q 14)), (1, .ref (q 10))]) C.1 C.2.1 dX0_sumPoints_33 hl (k := 0) rfl rfl (by decide) rfl (fun ls hl => ?_)
        refine lv_goto C.1 C.2.1 (tgt := 2) dX0_sumPoints_36 (by decide) ?_
        rw [ptB_s] at hW
        exact ih_2 (t + 1) (x2 + 1) (by omega) ((ti_add ht (show (1 : Int32).toInt = 1 from by decide) (by omega) (by omega)).trans (by omega)) (by omega) _ _ _ hW (lv_sub hl [0, 1, 2] rfl)
  exact L_2_1 _ 0 0 (Nat.lt_succ_self _) (by decide) (by omega) _ _ _ (by rw [ptB, sbF_self]; exact hW) (lv_sub hl [0, 1, 2] rfl)
set_option maxHeartbeats 4000000 in
set_option maxRecDepth 100000 in
theorem c_X0_putBack (l : Launch) (G : GG) (q : Nat → Nat) (nd sz : Nat) (τ ζ : ST) (ρ : RF) (h_nd : nd ≤ 6) (h_pt : 0 ≤ (τ.1 4).toInt ∧ (τ.1 4).toInt ≤ 200) (h_p0 : 0 < (τ.1 4).toInt) (h_kt : ∀ z : Nat, z < 256 → ζ.2.1 2 z = keptB τ (nI (z % 16)) (nI (z / 16))) : Met l yX0_putBack (WSb yX0_putBack cX0_putBack 2 none) (rmA 2 47) (va_Pc [.ref (q 14)] (PW G (28 + 3 * nd) q sz (eX G q τ ζ ρ))) (va_Qv (fun (u : (ST × ST × RF)) => u = ((lay (sg τ 4 (τ.1 4 - 1)) (τ.2.1 14 ((τ.1 4).toInt - 1).toNat) (τ.2.2 1 ((τ.1 4).toInt - 1).toNat)), ζ, ρ)) (fun u => BW G (28 + 3 * nd) q (eX G q u.1 u.2.1 u.2.2)) (FA (28 + 3 * nd) q sz)) 0 0 (FA (28 + 3 * nd) q sz) := by
  refine Met_B (own := RX0) rfl (by decide) (Nat.le_of_ble_eq_true rfl) (fun p e s m args below meth c ls hsz C hW hr hk hl QQ hQ => ?_)
  subst hsz
  have hl : lv_has ls 2 [(0, .ref (q 14))] := hl
  refine lv_aload_n C.1 C.2.1 dX0_putBack_0 rfl (lv_at hl 0 rfl) ?_
  refine xG_Board_parts C hW bF_X0_38 (v := (τ.1 4)) rfl dX0_putBack_1 ?_
  refine lv_if_gt C.1 C.2.1 (tgt := 8) dX0_putBack_4 (by decide) (fun c_1 => ?_) (fun c_1 => ?_)
  · skip
    have k_1 := (tc_lt (show (0 : Int32).toInt = 0 from by decide) (rfl : ((τ.1 4)).toInt = ((τ.1 4)).toInt)).mp c_1
    refine lv_aload_n C.1 C.2.1 dX0_putBack_8 rfl (lv_at hl 0 rfl) ?_
    refine lv_dup C.1 C.2.1 dX0_putBack_9 rfl ?_
    refine xG_Board_parts C hW bF_X0_38 (v := (τ.1 4)) rfl dX0_putBack_10 ?_
    refine lv_iconst C.1 C.2.1 (v := 1) dX0_putBack_13 (by decide) ?_
    refine lv_isub C.1 C.2.1 dX0_putBack_14 ?_
    refine xP_Board_parts C hW bF_X0_38 dX0_putBack_15 (fun H locs hW => ?_)
    refine lv_aload_n C.1 C.2.1 dX0_putBack_18 rfl (lv_at hl 0 rfl) ?_
    refine xG_Board_partCells C hW bF_X0_19 dX0_putBack_19 ?_
    refine lv_aload_n C.1 C.2.1 dX0_putBack_22 rfl (lv_at hl 0 rfl) ?_
    refine xG_Board_parts C hW bF_X0_38 (v := ((τ.1 4) - 1)) rfl dX0_putBack_23 ?_
    refine xL_17 C hW (((((τ.1 4)).toInt - 1)).toNat) ((ti_sub (rfl : ((τ.1 4)).toInt = ((τ.1 4)).toInt) (show (1 : Int32).toInt = 1 from by decide) (by omega) (by omega)).trans (by omega)) (by omega) (v := (τ.2.1 14 (((((τ.1 4)).toInt - 1)).toNat))) rfl dX0_putBack_26 ?_
    refine lv_istore_n (lv' := [(1, .int (τ.2.1 14 (((((τ.1 4)).toInt - 1)).toNat))), (0, .ref (q 14))]) C.1 C.2.1 dX0_putBack_27 rfl hl (by decide) rfl (fun ls hl => ?_)
    refine lv_aload_n C.1 C.2.1 dX0_putBack_28 rfl (lv_at hl 1 rfl) ?_
    refine lv_iload_n C.1 C.2.1 dX0_putBack_29 rfl (lv_at hl 0 rfl) ?_
    refine lv_bipush C.1 C.2.1 (v := 16) dX0_putBack_30 (by decide) ?_
    refine lv_irem C.1 C.2.1 dX0_putBack_32 (by decide) ?_
    refine lv_iload_n C.1 C.2.1 dX0_putBack_33 rfl (lv_at hl 0 rfl) ?_
    refine lv_bipush C.1 C.2.1 (v := 16) dX0_putBack_34 (by decide) ?_
    refine lv_idiv C.1 C.2.1 dX0_putBack_36 (by decide) ?_
    refine lv_aload_n C.1 C.2.1 dX0_putBack_37 rfl (lv_at hl 1 rfl) ?_
    refine xG_Board_partAmounts C hW bF_X0_22 dX0_putBack_38 ?_
    refine lv_aload_n C.1 C.2.1 dX0_putBack_41 rfl (lv_at hl 1 rfl) ?_
    refine xG_Board_parts C hW bF_X0_38 (v := ((τ.1 4) - 1)) rfl dX0_putBack_42 ?_
    refine xL_18 C hW (((((τ.1 4)).toInt - 1)).toNat) ((ti_sub (rfl : ((τ.1 4)).toInt = ((τ.1 4)).toInt) (show (1 : Int32).toInt = 1 from by decide) (by omega) (by omega)).trans (by omega)) (by omega) (v := (τ.2.2 1 (((((τ.1 4)).toInt - 1)).toNat))) rfl dX0_putBack_45 ?_
    refine go_v hW (run_V (o := 14) (As := [.int ((τ.2.1 14 (((((τ.1 4)).toInt - 1)).toNat)) - (τ.2.1 14 (((((τ.1 4)).toInt - 1)).toNat)) / 16 * 16), .int ((τ.2.1 14 (((((τ.1 4)).toInt - 1)).toNat)) / 16), .long (τ.2.2 1 (((((τ.1 4)).toInt - 1)).toNat))]) (rest := []) C hW (by omega) rfl rfl (c_X0_addBeam l G q nd _ (sg τ 4 ((τ.1 4) - 1)) ζ ρ ((τ.2.1 14 (((((τ.1 4)).toInt - 1)).toNat)) - (τ.2.1 14 (((((τ.1 4)).toInt - 1)).toNat)) / 16 * 16) ((τ.2.1 14 (((((τ.1 4)).toInt - 1)).toNat)) / 16) (τ.2.2 1 (((((τ.1 4)).toInt - 1)).toNat))  h_nd h_kt) (cw_V 3 C bL_X0_75 bI_X0_addBeam bV_X0_addBeam bN_X0 bC_X0_addBeam ⟨rfl, rfl⟩ (by decide +kernel) ⟨Nat.le_of_ble_eq_true rfl, Nat.le_of_ble_eq_true rfl⟩) rfl hl.1 rfl (Nat.le_of_ble_eq_true rfl) dX0_putBack_46 ⟨Nat.le_refl _, Nat.le_refl _⟩) (fun u_2 H locs hp_2 hW => ?_)
    obtain rfl := hp_2
    have hW : WB G (28 + 3 * nd) q (eX G q (adL (sg τ 4 ((τ.1 4) - 1)) ((τ.2.1 14 (((((τ.1 4)).toInt - 1)).toNat)) - (τ.2.1 14 (((((τ.1 4)).toInt - 1)).toNat)) / 16 * 16) ((τ.2.1 14 (((((τ.1 4)).toInt - 1)).toNat)) / 16) (τ.2.2 1 (((((τ.1 4)).toInt - 1)).toNat))) ζ ρ) s H locs := hW
    subst hQ
    exact r_vret ((adL (sg τ 4 ((τ.1 4) - 1)) ((τ.2.1 14 (((((τ.1 4)).toInt - 1)).toNat)) - (τ.2.1 14 (((((τ.1 4)).toInt - 1)).toNat)) / 16 * 16) ((τ.2.1 14 (((((τ.1 4)).toInt - 1)).toNat)) / 16) (τ.2.2 1 (((((τ.1 4)).toInt - 1)).toNat))), ζ, ρ) C hW hr hk dX0_putBack_49 rfl
  · skip
    have k_1 := (tn_lt (show (0 : Int32).toInt = 0 from by decide) (rfl : ((τ.1 4)).toInt = ((τ.1 4)).toInt)).mp c_1
    exfalso; omega
set_option maxHeartbeats 4000000 in
set_option maxRecDepth 100000 in
theorem c_X0_takeOff (l : Launch) (G : GG) (q : Nat → Nat) (nd sz : Nat) (τ ζ : ST) (ρ : RF) (sh : Int32) (t : Int32) (h_nd : nd ≤ 6) (h_pt : 0 ≤ (τ.1 4).toInt ∧ (τ.1 4).toInt ≤ 200) (h_w : 0 ≤ (τ.1 5).toInt ∧ (τ.1 5).toInt ≤ (τ.1 6).toInt ∧ (τ.1 6).toInt ≤ 15 ∧ 0 ≤ (τ.1 7).toInt ∧ (τ.1 7).toInt ≤ (τ.1 8).toInt ∧ (τ.1 8).toInt ≤ 15) (h_t0 : 0 ≤ t.toInt) (h_kt : ∀ z : Nat, z < 256 → ζ.2.1 2 z = keptB τ (nI (z % 16)) (nI (z / 16))) : Met l yX0_takeOff (WSb yX0_takeOff cX0_takeOff 9 none) (rmA 3 66) (va_Pc [.ref (q 14), .int sh, .int t] (PW G (28 + 3 * nd) q sz (eX G q τ ζ ρ))) (va_Qv (fun (u : (ST × ST × RF)) => u = ((tkN sh t.toInt.toNat τ), ζ, ρ)) (fun u => BW G (28 + 3 * nd) q (eX G q u.1 u.2.1 u.2.2)) (FA (28 + 3 * nd) q sz)) 0 0 (FA (28 + 3 * nd) q sz) := by
  refine Met_B (own := RX0) rfl (by decide) (Nat.le_of_ble_eq_true rfl) (fun p e s m args below meth c ls hsz C hW hr hk hl QQ hQ => ?_)
  subst hsz
  have hl : lv_has ls 9 [(0, .ref (q 14)), (1, .int sh), (2, .int t)] := hl
  have q1 : t.toInt < 2147483648 := Int32.toInt_lt t
  refine lv_ldc2 C.1 C.2.1 C.2.2.2.1 (C.2.2.2.2.1 _ bQ_X0_92) dX0_takeOff_0 ?_
  refine lv_aload_n C.1 C.2.1 dX0_takeOff_3 rfl (lv_at hl 0 rfl) ?_
  refine lv_iconst C.1 C.2.1 (v := 0) dX0_takeOff_4 (by decide) ?_
  refine lv_iconst C.1 C.2.1 (v := 0) dX0_takeOff_5 (by decide) ?_
  refine go_i hW (run_V (o := 14) (As := [.int 0, .int 0]) (rest := [.long 100]) C hW (by omega) rfl rfl (c_X0_keptAt l G q nd _ τ ζ ρ 0 0  h_nd) (cw_V 2 C bL_X0_79 bI_X0_keptAt bV_X0_keptAt bN_X0 bC_X0_keptAt ⟨rfl, rfl⟩ (by decide +kernel) ⟨Nat.le_of_ble_eq_true rfl, Nat.le_of_ble_eq_true rfl⟩) rfl hl.1 rfl (Nat.le_of_ble_eq_true rfl) dX0_takeOff_6 ⟨Nat.le_refl _, Nat.le_refl _⟩) (fun r_1 u_1 H locs hp_1 hW => ?_)
  rcases hp_1 with ⟨rfl, rfl⟩
  have hW : WB G (28 + 3 * nd) q (eX G q τ ζ ρ) s H locs := hW
  refine lv_i2l C.1 C.2.1 dX0_takeOff_9 rfl ?_
  refine lv_lmul C.1 C.2.1 dX0_takeOff_10 ?_
  refine lv_lstore_n (lv' := [(3, .long (100 * (kpt ζ 0 0).toInt64)), (0, .ref (q 14)), (1, .int sh), (2, .int t)]) C.1 C.2.1 dX0_takeOff_11 rfl hl (by decide) rfl (fun ls hl => ?_)
  refine lv_lload_n C.1 C.2.1 dX0_takeOff_12 rfl (lv_at hl 0 rfl) ?_
  refine lv_lconst C.1 C.2.1 (v := 0) dX0_takeOff_13 (by decide) ?_
  refine W.lcmp C.1 C.2.1 dX0_takeOff_14 ?_
  refine lv_if_ne C.1 C.2.1 (tgt := 19) dX0_takeOff_15 (by decide) (fun c_2 => ?_) (fun c_2 => ?_)
  · skip
    have k_2 := (ln_eq (rfl : ((100 * (kpt ζ 0 0).toInt64)).toInt = ((100 * (kpt ζ 0 0).toInt64)).toInt) (show (0 : Int64).toInt = 0 from by decide)).mp c_2
    have hb0 := k_2
    have hdv : ¬ (100 * (kpt ζ 0 0).toInt64) = 0 := fun h => hb0 (by rw [h]; decide)
    refine lv_iconst C.1 C.2.1 (v := 0) dX0_takeOff_19 (by decide) ?_
    refine lv_istore (lv' := [(5, .int 0), (3, .long (100 * (kpt ζ 0 0).toInt64)), (0, .ref (q 14)), (1, .int sh), (2, .int t)]) C.1 C.2.1 dX0_takeOff_20 hl (by decide) rfl (fun ls hl => ?_)
    have L_22_3 : ∀ (fuel : Nat) (k : Nat) (x5 : Int32) (τ1 : ST), t.toInt.toNat - k < fuel → (x5.toInt = (k : Int)) → ((k : Int) ≤ t.toInt) → (tkN sh (t.toInt.toNat - k) τ1 = tkN sh t.toInt.toNat τ) → (0 ≤ (τ1.1 4).toInt ∧ (τ1.1 4).toInt ≤ 200) → (∀ j, ¬ j = 4 → τ1.1 j = τ.1 j) → (∀ z : Nat, z < 256 → ζ.2.1 2 z = keptB τ1 (nI (z % 16)) (nI (z / 16))) → ∀ (H : Heap) (locs : List Loc) (ls : Array Slot), WB G (28 + 3 * nd) q (eX G q τ1 ζ ρ) s H locs → lv_has ls 9 [(5, .int x5), (3, .long (100 * (kpt ζ 0 0).toInt64)), (0, .ref (q 14)), (1, .int sh), (2, .int t)] → W p l e (rmA 3 66) s m args below meth c H locs 0 0 QQ (F0 m 22 ls []) := by
      intro fuel; induction fuel with
      | zero => intro k x5 τ1 hf; exact absurd hf (Nat.not_lt_zero _)
      | succ fuel ih_22 =>
        intro k x5 τ1 hf hk5 hkl htk h_pt1 hreg h_kt1 H locs ls hW hl
        have h_w1 : 0 ≤ (τ1.1 5).toInt ∧ (τ1.1 5).toInt ≤ (τ1.1 6).toInt ∧ (τ1.1 6).toInt ≤ 15 ∧ 0 ≤ (τ1.1 7).toInt ∧ (τ1.1 7).toInt ≤ (τ1.1 8).toInt ∧ (τ1.1 8).toInt ≤ 15 := by rw [hreg 5 (by decide), hreg 6 (by decide), hreg 7 (by decide), hreg 8 (by decide)]; exact h_w
        have hby : by0 τ1 = (100 * (kpt ζ 0 0).toInt64) := by rw [kpt_eq h_kt1]; rfl
        have hb1 : ¬ (by0 τ1).toInt = 0 := by rw [hby]; exact hb0
        refine lv_iload C.1 C.2.1 dX0_takeOff_22 (lv_at hl 0 rfl) ?_
        refine lv_iload_n C.1 C.2.1 dX0_takeOff_24 rfl (lv_at hl 4 rfl) ?_
        refine lv_icmp_ge C.1 C.2.1 (tgt := 121) dX0_takeOff_25 (by decide) (fun c_4 => ?_) (fun c_4 => ?_)
        · skip
          have k_4 := (tc_le (rfl : (t).toInt = (t).toInt) hk5).mp c_4
          have e9 : tkN sh (t.toInt.toNat - k) τ1 = τ1 := by first | (rw [show t.toInt.toNat - k = 0 from by omega]; rfl) | exact tkN_stop (fun h => by omega) _
          rw [e9] at htk
          subst hQ
          exact r_vret (τ1, ζ, ρ) C hW hr hk dX0_takeOff_121 (by rw [← htk])
        · skip
          have k_4 := (tn_le (rfl : (t).toInt = (t).toInt) hk5).mp c_4
          refine lv_aload_n C.1 C.2.1 dX0_takeOff_28 rfl (lv_at hl 2 rfl) ?_
          refine xG_Board_parts C hW bF_X0_38 (v := (τ1.1 4)) rfl dX0_takeOff_29 ?_
          refine lv_sipush C.1 C.2.1 (v := 200) dX0_takeOff_32 (by decide) ?_
          refine lv_icmp_ge C.1 C.2.1 (tgt := 121) dX0_takeOff_35 (by decide) (fun c_5 => ?_) (fun c_5 => ?_)
          · skip
            have k_5 := (tc_le (show (200 : Int32).toInt = 200 from by decide) (rfl : ((τ1.1 4)).toInt = ((τ1.1 4)).toInt)).mp c_5
            have e9 : tkN sh (t.toInt.toNat - k) τ1 = τ1 := by first | (rw [show t.toInt.toNat - k = 0 from by omega]; rfl) | exact tkN_stop (fun h => by omega) _
            rw [e9] at htk
            subst hQ
            exact r_vret (τ1, ζ, ρ) C hW hr hk dX0_takeOff_121 (by rw [← htk])
          · skip
            have k_5 := (tn_le (show (200 : Int32).toInt = 200 from by decide) (rfl : ((τ1.1 4)).toInt = ((τ1.1 4)).toInt)).mp c_5
            refine lv_aload_n C.1 C.2.1 dX0_takeOff_38 rfl (lv_at hl 2 rfl) ?_
            refine go_i hW (run_V (o := 14) (As := []) (rest := []) C hW (by omega) rfl rfl (c_X0_greatestCell l G q nd _ τ1 ζ ρ   h_nd h_w1) (cw_V 0 C bL_X0_94 bI_X0_greatestCell bV_X0_greatestCell bN_X0 bC_X0_greatestCell ⟨rfl, rfl⟩ (by decide +kernel) ⟨Nat.le_of_ble_eq_true rfl, Nat.le_of_ble_eq_true rfl⟩) rfl hl.1 rfl (Nat.le_of_ble_eq_true rfl) dX0_takeOff_39 ⟨Nat.le_refl _, Nat.le_refl _⟩) (fun r_6 u_6 H locs hp_6 hW => ?_)
            rcases hp_6 with ⟨rfl, rfl, k_6⟩
            have hW : WB G (28 + 3 * nd) q (eX G q τ1 ζ ρ) s H locs := hW
            refine lv_istore (lv' := [(6, .int (nI (pk τ1))), (5, .int x5), (3, .long (100 * (kpt ζ 0 0).toInt64)), (0, .ref (q 14)), (1, .int sh), (2, .int t)]) C.1 C.2.1 dX0_takeOff_42 hl (by decide) rfl (fun ls hl => ?_)
            refine lv_aload_n C.1 C.2.1 dX0_takeOff_44 rfl (lv_at hl 3 rfl) ?_
            refine xG_Board_cells C hW bF_X0_9 dX0_takeOff_45 ?_
            refine lv_iload C.1 C.2.1 dX0_takeOff_48 (lv_at hl 0 rfl) ?_
            refine xL_15 C hW (pk τ1) ((nI_toInt (by omega)).trans (by omega)) (by omega) (v := (τ1.2.2 0 (pk τ1))) rfl dX0_takeOff_50 ?_
            refine lv_iload_n C.1 C.2.1 dX0_takeOff_51 rfl (lv_at hl 4 rfl) ?_
            refine lv_i2l C.1 C.2.1 dX0_takeOff_52 rfl ?_
            refine lv_lmul C.1 C.2.1 dX0_takeOff_53 ?_
            refine lv_lload_n C.1 C.2.1 dX0_takeOff_54 rfl (lv_at hl 2 rfl) ?_
            refine lv_ldiv C.1 C.2.1 dX0_takeOff_55 hdv ?_
            refine lv_lstore (lv' := [(7, .long (((τ1.2.2 0 (pk τ1)) * (sh).toInt64) / (100 * (kpt ζ 0 0).toInt64))), (6, .int (nI (pk τ1))), (5, .int x5), (3, .long (100 * (kpt ζ 0 0).toInt64)), (0, .ref (q 14)), (1, .int sh), (2, .int t)]) C.1 C.2.1 dX0_takeOff_56 hl (by decide) rfl (fun ls hl => ?_)
            refine lv_lload C.1 C.2.1 dX0_takeOff_58 (lv_at hl 0 rfl) ?_
            refine lv_lconst C.1 C.2.1 (v := 0) dX0_takeOff_60 (by decide) ?_
            refine W.lcmp C.1 C.2.1 dX0_takeOff_61 ?_
            refine lv_if_ne C.1 C.2.1 (tgt := 66) dX0_takeOff_62 (by decide) (fun c_7 => ?_) (fun c_7 => ?_)
            · skip
              have k_7 := (ln_eq (rfl : ((((τ1.2.2 0 (pk τ1)) * (sh).toInt64) / (100 * (kpt ζ 0 0).toInt64))).toInt = ((((τ1.2.2 0 (pk τ1)) * (sh).toInt64) / (100 * (kpt ζ 0 0).toInt64))).toInt) (show (0 : Int64).toInt = 0 from by decide)).mp c_7
              have ea : tkA τ1 sh = (τ1.2.2 0 (pk τ1) * sh.toInt64) / (100 * (kpt ζ 0 0).toInt64) := by rw [tkA_n hb1, hby]
              have ha0 : ¬ (tkA τ1 sh).toInt = 0 := by rw [ea]; exact k_7
              refine lv_aload_n C.1 C.2.1 dX0_takeOff_66 rfl (lv_at hl 4 rfl) ?_
              refine lv_iload C.1 C.2.1 dX0_takeOff_67 (lv_at hl 1 rfl) ?_
              refine lv_bipush C.1 C.2.1 (v := 16) dX0_takeOff_69 (by decide) ?_
              refine lv_irem C.1 C.2.1 dX0_takeOff_71 (by decide) ?_
              refine lv_iload C.1 C.2.1 dX0_takeOff_72 (lv_at hl 1 rfl) ?_
              refine lv_bipush C.1 C.2.1 (v := 16) dX0_takeOff_74 (by decide) ?_
              refine lv_idiv C.1 C.2.1 dX0_takeOff_76 (by decide) ?_
              refine lv_lload C.1 C.2.1 dX0_takeOff_77 (lv_at hl 0 rfl) ?_
              refine lv_lneg C.1 C.2.1 dX0_takeOff_79 ?_
              refine go_v hW (run_V (o := 14) (As := [.int ((nI (pk τ1)) - (nI (pk τ1)) / 16 * 16), .int ((nI (pk τ1)) / 16), .long (-(((τ1.2.2 0 (pk τ1)) * (sh).toInt64) / (100 * (kpt ζ 0 0).toInt64)))]) (rest := []) C hW (by omega) rfl rfl (c_X0_addBeam l G q nd _ τ1 ζ ρ ((nI (pk τ1)) - (nI (pk τ1)) / 16 * 16) ((nI (pk τ1)) / 16) (-(((τ1.2.2 0 (pk τ1)) * (sh).toInt64) / (100 * (kpt ζ 0 0).toInt64)))  h_nd h_kt1) (cw_V 3 C bL_X0_75 bI_X0_addBeam bV_X0_addBeam bN_X0 bC_X0_addBeam ⟨rfl, rfl⟩ (by decide +kernel) ⟨Nat.le_of_ble_eq_true rfl, Nat.le_of_ble_eq_true rfl⟩) rfl hl.1 rfl (Nat.le_of_ble_eq_true rfl) dX0_takeOff_80 ⟨Nat.le_refl _, Nat.le_refl _⟩) (fun u_8 H locs hp_8 hW => ?_)
              obtain rfl := hp_8
              have hW : WB G (28 + 3 * nd) q (eX G q (adL τ1 ((nI (pk τ1)) - (nI (pk τ1)) / 16 * 16) ((nI (pk τ1)) / 16) (-(((τ1.2.2 0 (pk τ1)) * (sh).toInt64) / (100 * (kpt ζ 0 0).toInt64)))) ζ ρ) s H locs := hW
              refine lv_aload_n C.1 C.2.1 dX0_takeOff_83 rfl (lv_at hl 4 rfl) ?_
              refine xG_Board_partCells C hW bF_X0_19 dX0_takeOff_84 ?_
              refine lv_aload_n C.1 C.2.1 dX0_takeOff_87 rfl (lv_at hl 4 rfl) ?_
              refine xG_Board_parts C hW bF_X0_38 (v := (τ1.1 4)) rfl dX0_takeOff_88 ?_
              refine lv_iload C.1 C.2.1 dX0_takeOff_91 (lv_at hl 1 rfl) ?_
              refine xS_17 C hW ((((τ1.1 4)).toInt).toNat) ((rfl : ((τ1.1 4)).toInt = ((τ1.1 4)).toInt).trans (by omega)) (by omega) dX0_takeOff_93 (fun H locs hW => ?_)
              refine lv_aload_n C.1 C.2.1 dX0_takeOff_94 rfl (lv_at hl 4 rfl) ?_
              refine xG_Board_partAmounts C hW bF_X0_22 dX0_takeOff_95 ?_
              refine lv_aload_n C.1 C.2.1 dX0_takeOff_98 rfl (lv_at hl 4 rfl) ?_
              refine xG_Board_parts C hW bF_X0_38 (v := (τ1.1 4)) rfl dX0_takeOff_99 ?_
              refine lv_lload C.1 C.2.1 dX0_takeOff_102 (lv_at hl 0 rfl) ?_
              refine xS_18 C hW ((((τ1.1 4)).toInt).toNat) ((rfl : ((τ1.1 4)).toInt = ((τ1.1 4)).toInt).trans (by omega)) (by omega) dX0_takeOff_104 (fun H locs hW => ?_)
              refine lv_aload_n C.1 C.2.1 dX0_takeOff_105 rfl (lv_at hl 4 rfl) ?_
              refine lv_dup C.1 C.2.1 dX0_takeOff_106 rfl ?_
              refine xG_Board_parts C hW bF_X0_38 (v := (τ1.1 4)) rfl dX0_takeOff_107 ?_
              refine lv_iconst C.1 C.2.1 (v := 1) dX0_takeOff_110 (by decide) ?_
              refine lv_iadd C.1 C.2.1 dX0_takeOff_111 ?_
              refine xP_Board_parts C hW bF_X0_38 dX0_takeOff_112 (fun H locs hW => ?_)
              refine lv_iinc (v := (x5 + 1)) (lv' := [(5, .int (x5 + 1)), (7, .long (((τ1.2.2 0 (pk τ1)) * (sh).toInt64) / (100 * (kpt ζ 0 0).toInt64))), (6, .int (nI (pk τ1))), (3, .long (100 * (kpt ζ 0 0).toInt64)), (0, .ref (q 14)), (1, .int sh), (2, .int t)]) C.1 C.2.1 dX0_takeOff_115 hl (k := 2) rfl rfl (by decide) rfl (fun ls hl => ?_)
              refine lv_goto C.1 C.2.1 (tgt := 22) dX0_takeOff_118 (by decide) ?_
              exact ih_22 (k + 1) (x5 + 1) (tkT τ1 sh) (by omega) ((ti_add hk5 (show (1 : Int32).toInt = 1 from by decide) (by omega) (by omega)).trans (by omega)) (by omega) (by rw [← htk, show t.toInt.toNat - k = (t.toInt.toNat - (k + 1)) + 1 from by omega, tkN_go (by omega) ha0]) (by have := ti_add (x := τ1.1 4) (y := 1) rfl (show (1 : Int32).toInt = 1 from by decide) (by omega) (by omega); show 0 ≤ (τ1.1 4 + 1).toInt ∧ (τ1.1 4 + 1).toInt ≤ 200; omega) (fun j hj => by rw [← hreg j hj]; exact if_neg hj) h_kt1 _ _ _ (by unfold tkT; rw [ea]; exact hW) (lv_sub hl [0, 3, 4, 5, 6] rfl)
            · skip
              have k_7 := (lc_eq (rfl : ((((τ1.2.2 0 (pk τ1)) * (sh).toInt64) / (100 * (kpt ζ 0 0).toInt64))).toInt = ((((τ1.2.2 0 (pk τ1)) * (sh).toInt64) / (100 * (kpt ζ 0 0).toInt64))).toInt) (show (0 : Int64).toInt = 0 from by decide)).mp c_7
              have ea : tkA τ1 sh = (τ1.2.2 0 (pk τ1) * sh.toInt64) / (100 * (kpt ζ 0 0).toInt64) := by rw [tkA_n hb1, hby]
              have ha0 : (tkA τ1 sh).toInt = 0 := by rw [ea]; exact k_7
              have e9 := tkN_stop (sh := sh) (τ := τ1) (fun h => h.2 ha0) (t.toInt.toNat - k)
              rw [e9] at htk
              subst hQ
              exact r_vret (τ1, ζ, ρ) C hW hr hk dX0_takeOff_65 (by rw [← htk])
    exact L_22_3 _ 0 0 τ (Nat.lt_succ_self _) (by decide) (by omega) rfl h_pt (fun _ _ => rfl) h_kt _ _ _ hW (lv_sub hl [0, 1, 2, 3, 4] rfl)
  · skip
    have k_2 := (lc_eq (rfl : ((100 * (kpt ζ 0 0).toInt64)).toInt = ((100 * (kpt ζ 0 0).toInt64)).toInt) (show (0 : Int64).toInt = 0 from by decide)).mp c_2
    have hb0 : (by0 τ).toInt = 0 := by show (100 * (keptB τ 0 0).toInt64).toInt = 0; rw [← kpt_eq h_kt]; exact k_2
    have e9 := tkN_stop (sh := sh) (τ := τ) (fun h => h.2 (by rw [tkA_0 hb0]; decide)) t.toInt.toNat
    subst hQ
    exact r_vret (τ, ζ, ρ) C hW hr hk dX0_takeOff_18 (by rw [e9])
set_option maxHeartbeats 4000000 in
set_option maxRecDepth 100000 in
theorem c_X7_foundOut (l : Launch) (G : GG) (q : Nat → Nat) (nd sz : Nat) (τ ζ : ST) (ρ : RF) (n : Int32) (h_nd : nd ≤ 6) : Met l yX7_foundOut (WSb yX7_foundOut cX7_foundOut 2 (some .int)) (rmA 0 0) (va_Pc [.ref (q 0), .int n] (PW G (28 + 3 * nd) q sz (eX G q τ ζ ρ))) (va_Qi (fun (r : Int32) (u : (ST × ST × RF)) => r = (-10 - n) ∧ u = ((sg τ 1 n), ζ, ρ)) (fun u => BW G (28 + 3 * nd) q (eX G q u.1 u.2.1 u.2.2)) (FA (28 + 3 * nd) q sz)) 0 0 (FA (28 + 3 * nd) q sz) := by
  refine Met_B (own := RX7) rfl (by decide) (Nat.le_of_ble_eq_true rfl) (fun p e s m args below meth c ls hsz C hW hr hk hl QQ hQ => ?_)
  subst hsz
  have hl : lv_has ls 2 [(0, .ref (q 0)), (1, .int n)] := hl
  refine lv_aload_n C.1 C.2.1 dX7_foundOut_0 rfl (lv_at hl 0 rfl) ?_
  refine lv_iload_n C.1 C.2.1 dX7_foundOut_1 rfl (lv_at hl 1 rfl) ?_
  refine xP_DishHouse_finding C hW bF_X7_248 dX7_foundOut_2 (fun H locs hW => ?_)
  refine lv_bipush C.1 C.2.1 (v := (-10)) dX7_foundOut_5 (by decide) ?_
  refine lv_iload_n C.1 C.2.1 dX7_foundOut_7 rfl (lv_at hl 1 rfl) ?_
  refine lv_isub C.1 C.2.1 dX7_foundOut_8 ?_
  subst hQ
  exact r_iret ((sg τ 1 n), ζ, ρ) C hW hr hk dX7_foundOut_9 (⟨rfl, rfl⟩)
