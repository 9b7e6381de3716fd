/-! the landed class: small static methods, and one dish -/
theorem ti_max {x y : Int32} {a b : Int} (hx : x.toInt = a) (hy : y.toInt = b) : (if x < y then y else x).toInt = max a b := by
  split
  · next h => have := (tc_lt hx hy).mp h; rw [hy]; omega
  · next h => have := (tn_lt hx hy).mp h; rw [hx]; omega
theorem ti_min {x y : Int32} {a b : Int} (hx : x.toInt = a) (hy : y.toInt = b) : (if y < x then y else x).toInt = min a b := by
  split
  · next h => have := (tc_lt hy hx).mp h; rw [hy]; omega
  · next h => have := (tn_lt hy hx).mp h; rw [hx]; omega
theorem ti_abs {x : Int32} {a : Int} (hx : x.toInt = a) (h : -2147483648 < a) : (if 0 ≤ x then x else 0 - x).toInt = (if 0 ≤ a then a else -a) := by
  have h0 : (0 : Int32).toInt = 0 := by decide
  have hb : a < 2147483648 := by rw [← hx]; exact Int32.toInt_lt x
  by_cases c : 0 ≤ x
  · have := (tc_le h0 hx).mp c
    rw [if_pos c, if_pos this, hx]
  · have := (tn_le h0 hx).mp c
    rw [if_neg c, if_neg this, ti_sub h0 hx (by omega) (by omega)]; omega
/-- how many flags lie on an item -/
def flcN (τ : ST) (i j : Nat) : Nat → Nat
  | 0 => 0
  | k + 1 => flcN τ i j k + (if (τ.2.1 8 k).toInt = i ∧ (τ.2.1 9 k).toInt ≤ j ∧ (j : Int) ≤ (τ.2.1 10 k).toInt then 1 else 0)
def flc (τ : ST) (i j : Nat) : Nat := flcN τ i j (τ.1 2).toInt.toNat
theorem flcN_0 {τ : ST} {i j : Nat} : ∀ k, flcN τ i j k = 0 ↔ ∀ f : Nat, f < k → ¬ ((τ.2.1 8 f).toInt = i ∧ (τ.2.1 9 f).toInt ≤ j ∧ (j : Int) ≤ (τ.2.1 10 f).toInt)
  | 0 => ⟨fun _ f hf => absurd hf (Nat.not_lt_zero _), fun _ => rfl⟩
  | k + 1 => by
    have ih := flcN_0 (τ := τ) (i := i) (j := j) k
    constructor
    · intro h f hf
      unfold flcN at h
      rcases Nat.lt_succ_iff_lt_or_eq.mp hf with h1 | h1
      · exact ih.mp (by omega) f h1
      · subst h1
        intro hh
        rw [if_pos hh] at h
        omega
    · intro h
      unfold flcN
      rw [if_neg (h k (by omega)), ih.mpr (fun f hf => h f (by omega))]
theorem flcN_le (τ : ST) (i j : Nat) : ∀ k, flcN τ i j k ≤ k
  | 0 => Nat.le_refl _
  | k + 1 => by have := flcN_le τ i j k; unfold flcN; split <;> omega
theorem smp_iff {τ : ST} {d i : Nat} (hf : 0 ≤ (τ.1 2).toInt) : smp τ d i ↔ ¬ (τ.2.1 4 d).toInt = 0 ∧ (i : Int) < (τ.2.1 6 d).toInt ∧ flc τ d i = 0 := by
  unfold smp flc
  rw [flcN_0]
  constructor
  · exact fun h => ⟨h.1, h.2.1, fun f hf1 => h.2.2 f (by omega)⟩
  · exact fun h => ⟨h.1, h.2.1, fun f hf1 => h.2.2 f (by omega)⟩
/-- what the extras hold of a dish -/
def dOk (τ ζ : ST) (i : Nat) : Prop := ζ.2.1 0 i = (if (τ.2.1 4 i).toInt = 0 then -1 else τ.2.1 6 i) ∧ (0 ≤ (τ.2.1 6 i).toInt ∧ (τ.2.1 6 i).toInt ≤ 100) ∧ (0 ≤ (τ.1 2).toInt ∧ (τ.1 2).toInt ≤ 40) ∧ (0 ≤ (τ.2.1 2 i).toInt ∧ (τ.2.1 2 i).toInt ≤ 30) ∧ ∀ j, j < 100 → ζ.2.1 1 (100 * i + j) = nI (flc τ i j)
theorem dOk_len {τ ζ : ST} {i : Nat} (h : dOk τ ζ i) : ((τ.2.1 4 i).toInt = 0 ∧ (ζ.2.1 0 i).toInt = -1) ∨ (¬ (τ.2.1 4 i).toInt = 0 ∧ (ζ.2.1 0 i).toInt = (τ.2.1 6 i).toInt) := by
  by_cases c : (τ.2.1 4 i).toInt = 0
  · exact Or.inl ⟨c, by rw [h.1, if_pos c]; decide⟩
  · exact Or.inr ⟨c, by rw [h.1, if_neg c]⟩
theorem dOk_smp {τ ζ : ST} {i j : Nat} (h : dOk τ ζ i) (hj : j < 100) : smp τ i j ↔ (j : Int) < (ζ.2.1 0 i).toInt ∧ (ζ.2.1 1 (100 * i + j)).toInt = 0 := by
  have hl := dOk_len h
  have hb := flcN_le τ i j (τ.1 2).toInt.toNat
  have h3 := h.2.2.1
  have e : (ζ.2.1 1 (100 * i + j)).toInt = (flc τ i j : Int) := by rw [h.2.2.2.2 j hj]; exact nI_toInt (by unfold flc; omega)
  rw [smp_iff h3.1, e]
  omega
theorem smp_lt {τ ζ : ST} {i j : Nat} (h : dOk τ ζ i) (hs : smp τ i j) : j < 100 := by have := hs.2.1; have := h.2.1; omega
def clp (v : Int32) : Int32 := if v.toInt < -500 then -500 else if 500 < v.toInt then 500 else v
theorem clp_64 (v : Int32) : (clp v).toInt64 = (if 500 < v.toInt then 500 else if v.toInt < -500 then -500 else v.toInt64) := by
  unfold clp
  by_cases h1 : v.toInt < -500
  · rw [if_pos h1, if_neg (by omega), if_pos h1]; decide
  · rw [if_neg h1]
    by_cases h2 : 500 < v.toInt
    · rw [if_pos h2, if_pos h2]; decide
    · rw [if_neg h2, if_neg h2, if_neg h1]
set_option maxHeartbeats 4000000 in
set_option maxRecDepth 100000 in
theorem c_X7_isWithin (l : Launch) (G : GG) (q : Nat → Nat) (nd sz : Nat) (τ ζ : ST) (ρ : RF) (n : Int32) (a : Int32) (b : Int32) (nZ : Int) (aZ : Int) (bZ : Int) (hn : n.toInt = nZ) (ha : a.toInt = aZ) (hb : b.toInt = bZ) (h_nd : nd ≤ 6) : Met l yX7_isWithin (WSb yX7_isWithin cX7_isWithin 3 (some .boolean)) (rmA 0 0) (va_Pc [.int n, .int a, .int b] (PW G (28 + 3 * nd) q sz (eX G q τ ζ ρ))) (va_Qi (fun (r : Int32) (u : (ST × ST × RF)) => (r = 1 ∧ u = (τ, ζ, ρ) ∧ (aZ ≤ nZ) ∧ (nZ ≤ bZ)) ∨ (r = 0 ∧ u = (τ, ζ, ρ) ∧ (¬ (aZ ≤ nZ ∧ nZ ≤ bZ)))) (fun u => BW G (28 + 3 * nd) q (eX G q u.1 u.2.1 u.2.2)) (FA (28 + 3 * nd) q sz)) 0 0 (FA (28 + 3 * nd) q sz) := by
  refine Met_B (own := RX7) rfl (by decide) (Nat.le_of_ble_eq_true rfl) (fun p e s m args below meth c ls hsz C hW hr hk hl QQ hQ => ?_)
  subst hsz
  have hl : lv_has ls 3 [(0, .int n), (1, .int a), (2, .int b)] := hl
  refine lv_iload_n C.1 C.2.1 dX7_isWithin_0 rfl (lv_at hl 0 rfl) ?_
  refine lv_iload_n C.1 C.2.1 dX7_isWithin_1 rfl (lv_at hl 1 rfl) ?_
  refine lv_icmp_lt C.1 C.2.1 (tgt := 14) dX7_isWithin_2 (by decide) (fun c_1 => ?_) (fun c_1 => ?_)
  · skip
    have k_1 := (tc_lt hn ha).mp c_1
    refine lv_iconst C.1 C.2.1 (v := 0) dX7_isWithin_14 (by decide) ?_
    subst hQ
    exact r_zret (τ, ζ, ρ) C hW hr rfl hk dX7_isWithin_15 (by first | exact Or.inl ⟨rfl, rfl, (by omega), (by omega)⟩ | exact Or.inr (⟨rfl, rfl, (by omega)⟩))
  · skip
    have k_1 := (tn_lt hn ha).mp c_1
    refine lv_iload_n C.1 C.2.1 dX7_isWithin_5 rfl (lv_at hl 0 rfl) ?_
    refine lv_iload_n C.1 C.2.1 dX7_isWithin_6 rfl (lv_at hl 2 rfl) ?_
    refine lv_icmp_gt C.1 C.2.1 (tgt := 14) dX7_isWithin_7 (by decide) (fun c_2 => ?_) (fun c_2 => ?_)
    · skip
      have k_2 := (tc_lt hb hn).mp c_2
      refine lv_iconst C.1 C.2.1 (v := 0) dX7_isWithin_14 (by decide) ?_
      subst hQ
      exact r_zret (τ, ζ, ρ) C hW hr rfl hk dX7_isWithin_15 (by first | exact Or.inl ⟨rfl, rfl, (by omega), (by omega)⟩ | exact Or.inr (⟨rfl, rfl, (by omega)⟩))
    · skip
      have k_2 := (tn_lt hb hn).mp c_2
      refine lv_iconst C.1 C.2.1 (v := 1) dX7_isWithin_10 (by decide) ?_
      refine lv_goto C.1 C.2.1 (tgt := 15) dX7_isWithin_11 (by decide) ?_
      subst hQ
      exact r_zret (τ, ζ, ρ) C hW hr rfl hk dX7_isWithin_15 (by first | exact Or.inl ⟨rfl, rfl, (by omega), (by omega)⟩ | exact Or.inr (⟨rfl, rfl, (by omega)⟩))
set_option maxHeartbeats 4000000 in
set_option maxRecDepth 100000 in
theorem c_X7_isForm (l : Launch) (G : GG) (q : Nat → Nat) (nd sz : Nat) (τ ζ : ST) (ρ : RF) (f : Int32) (h_nd : nd ≤ 6) : Met l yX7_isForm (WSb yX7_isForm cX7_isForm 1 (some .boolean)) (rmA 0 0) (va_Pc [.int f] (PW G (28 + 3 * nd) q sz (eX G q τ ζ ρ))) (va_Qi (fun (r : Int32) (u : (ST × ST × RF)) => (r = 1 ∧ u = (τ, ζ, ρ) ∧ (0 ≤ f.toInt) ∧ (f.toInt ≤ 2)) ∨ (r = 0 ∧ u = (τ, ζ, ρ) ∧ (¬ (0 ≤ f.toInt ∧ f.toInt ≤ 2)))) (fun u => BW G (28 + 3 * nd) q (eX G q u.1 u.2.1 u.2.2)) (FA (28 + 3 * nd) q sz)) 0 0 (FA (28 + 3 * nd) q sz) := by
  refine Met_B (own := RX7) rfl (by decide) (Nat.le_of_ble_eq_true rfl) (fun p e s m args below meth c ls hsz C hW hr hk hl QQ hQ => ?_)
  subst hsz
  have hl : lv_has ls 1 [(0, .int f)] := hl
  refine lv_iload_n C.1 C.2.1 dX7_isForm_0 rfl (lv_at hl 0 rfl) ?_
  refine lv_if_lt C.1 C.2.1 (tgt := 13) dX7_isForm_1 (by decide) (fun c_1 => ?_) (fun c_1 => ?_)
  · skip
    have k_1 := (tc_lt (rfl : (f).toInt = (f).toInt) (show (0 : Int32).toInt = 0 from by decide)).mp c_1
    refine lv_iconst C.1 C.2.1 (v := 0) dX7_isForm_13 (by decide) ?_
    subst hQ
    exact r_zret (τ, ζ, ρ) C hW hr rfl hk dX7_isForm_14 (by first | exact Or.inl ⟨rfl, rfl, (by omega), (by omega)⟩ | exact Or.inr (⟨rfl, rfl, (by omega)⟩))
  · skip
    have k_1 := (tn_lt (rfl : (f).toInt = (f).toInt) (show (0 : Int32).toInt = 0 from by decide)).mp c_1
    refine lv_iload_n C.1 C.2.1 dX7_isForm_4 rfl (lv_at hl 0 rfl) ?_
    refine lv_iconst C.1 C.2.1 (v := 2) dX7_isForm_5 (by decide) ?_
    refine lv_icmp_gt C.1 C.2.1 (tgt := 13) dX7_isForm_6 (by decide) (fun c_2 => ?_) (fun c_2 => ?_)
    · skip
      have k_2 := (tc_lt (show (2 : Int32).toInt = 2 from by decide) (rfl : (f).toInt = (f).toInt)).mp c_2
      refine lv_iconst C.1 C.2.1 (v := 0) dX7_isForm_13 (by decide) ?_
      subst hQ
      exact r_zret (τ, ζ, ρ) C hW hr rfl hk dX7_isForm_14 (by first | exact Or.inl ⟨rfl, rfl, (by omega), (by omega)⟩ | exact Or.inr (⟨rfl, rfl, (by omega)⟩))
    · skip
      have k_2 := (tn_lt (show (2 : Int32).toInt = 2 from by decide) (rfl : (f).toInt = (f).toInt)).mp c_2
      refine lv_iconst C.1 C.2.1 (v := 1) dX7_isForm_9 (by decide) ?_
      refine lv_goto C.1 C.2.1 (tgt := 14) dX7_isForm_10 (by decide) ?_
      subst hQ
      exact r_zret (τ, ζ, ρ) C hW hr rfl hk dX7_isForm_14 (by first | exact Or.inl ⟨rfl, rfl, (by omega), (by omega)⟩ | exact Or.inr (⟨rfl, rfl, (by omega)⟩))
set_option maxHeartbeats 4000000 in
set_option maxRecDepth 100000 in
theorem c_X7_isCell (l : Launch) (G : GG) (q : Nat → Nat) (nd sz : Nat) (τ ζ : ST) (ρ : RF) (x : Int32) (y : Int32) (h_nd : nd ≤ 6) : Met l yX7_isCell (WSb yX7_isCell cX7_isCell 2 (some .boolean)) (rmA 0 0) (va_Pc [.int x, .int y] (PW G (28 + 3 * nd) q sz (eX G q τ ζ ρ))) (va_Qi (fun (r : Int32) (u : (ST × ST × RF)) => (r = 1 ∧ u = (τ, ζ, ρ) ∧ (0 ≤ x.toInt) ∧ (x.toInt ≤ 15) ∧ (0 ≤ y.toInt) ∧ (y.toInt ≤ 15)) ∨ (r = 0 ∧ u = (τ, ζ, ρ) ∧ (¬ (0 ≤ x.toInt ∧ x.toInt ≤ 15 ∧ 0 ≤ y.toInt ∧ y.toInt ≤ 15)))) (fun u => BW G (28 + 3 * nd) q (eX G q u.1 u.2.1 u.2.2)) (FA (28 + 3 * nd) q sz)) 0 0 (FA (28 + 3 * nd) q sz) := by
  refine Met_B (own := RX7) rfl (by decide) (Nat.le_of_ble_eq_true rfl) (fun p e s m args below meth c ls hsz C hW hr hk hl QQ hQ => ?_)
  subst hsz
  have hl : lv_has ls 2 [(0, .int x), (1, .int y)] := hl
  refine lv_iload_n C.1 C.2.1 dX7_isCell_0 rfl (lv_at hl 0 rfl) ?_
  refine lv_if_lt C.1 C.2.1 (tgt := 24) dX7_isCell_1 (by decide) (fun c_1 => ?_) (fun c_1 => ?_)
  · skip
    have k_1 := (tc_lt (rfl : (x).toInt = (x).toInt) (show (0 : Int32).toInt = 0 from by decide)).mp c_1
    refine lv_iconst C.1 C.2.1 (v := 0) dX7_isCell_24 (by decide) ?_
    subst hQ
    exact r_zret (τ, ζ, ρ) C hW hr rfl hk dX7_isCell_25 (by first | exact Or.inl ⟨rfl, rfl, (by omega), (by omega), (by omega), (by omega)⟩ | exact Or.inr (⟨rfl, rfl, (by omega)⟩))
  · skip
    have k_1 := (tn_lt (rfl : (x).toInt = (x).toInt) (show (0 : Int32).toInt = 0 from by decide)).mp c_1
    refine lv_iload_n C.1 C.2.1 dX7_isCell_4 rfl (lv_at hl 0 rfl) ?_
    refine lv_bipush C.1 C.2.1 (v := 16) dX7_isCell_5 (by decide) ?_
    refine lv_icmp_ge C.1 C.2.1 (tgt := 24) dX7_isCell_7 (by decide) (fun c_2 => ?_) (fun c_2 => ?_)
    · skip
      have k_2 := (tc_le (show (16 : Int32).toInt = 16 from by decide) (rfl : (x).toInt = (x).toInt)).mp c_2
      refine lv_iconst C.1 C.2.1 (v := 0) dX7_isCell_24 (by decide) ?_
      subst hQ
      exact r_zret (τ, ζ, ρ) C hW hr rfl hk dX7_isCell_25 (by first | exact Or.inl ⟨rfl, rfl, (by omega), (by omega), (by omega), (by omega)⟩ | exact Or.inr (⟨rfl, rfl, (by omega)⟩))
    · skip
      have k_2 := (tn_le (show (16 : Int32).toInt = 16 from by decide) (rfl : (x).toInt = (x).toInt)).mp c_2
      refine lv_iload_n C.1 C.2.1 dX7_isCell_10 rfl (lv_at hl 1 rfl) ?_
      refine lv_if_lt C.1 C.2.1 (tgt := 24) dX7_isCell_11 (by decide) (fun c_3 => ?_) (fun c_3 => ?_)
      · skip
        have k_3 := (tc_lt (rfl : (y).toInt = (y).toInt) (show (0 : Int32).toInt = 0 from by decide)).mp c_3
        refine lv_iconst C.1 C.2.1 (v := 0) dX7_isCell_24 (by decide) ?_
        subst hQ
        exact r_zret (τ, ζ, ρ) C hW hr rfl hk dX7_isCell_25 (by first | exact Or.inl ⟨rfl, rfl, (by omega), (by omega), (by omega), (by omega)⟩ | exact Or.inr (⟨rfl, rfl, (by omega)⟩))
      · skip
        have k_3 := (tn_lt (rfl : (y).toInt = (y).toInt) (show (0 : Int32).toInt = 0 from by decide)).mp c_3
        refine lv_iload_n C.1 C.2.1 dX7_isCell_14 rfl (lv_at hl 1 rfl) ?_
        refine lv_bipush C.1 C.2.1 (v := 16) dX7_isCell_15 (by decide) ?_
        refine lv_icmp_ge C.1 C.2.1 (tgt := 24) dX7_isCell_17 (by decide) (fun c_4 => ?_) (fun c_4 => ?_)
        · skip
          have k_4 := (tc_le (show (16 : Int32).toInt = 16 from by decide) (rfl : (y).toInt = (y).toInt)).mp c_4
          refine lv_iconst C.1 C.2.1 (v := 0) dX7_isCell_24 (by decide) ?_
          subst hQ
          exact r_zret (τ, ζ, ρ) C hW hr rfl hk dX7_isCell_25 (by first | exact Or.inl ⟨rfl, rfl, (by omega), (by omega), (by omega), (by omega)⟩ | exact Or.inr (⟨rfl, rfl, (by omega)⟩))
        · skip
          have k_4 := (tn_le (show (16 : Int32).toInt = 16 from by decide) (rfl : (y).toInt = (y).toInt)).mp c_4
          refine lv_iconst C.1 C.2.1 (v := 1) dX7_isCell_20 (by decide) ?_
          refine lv_goto C.1 C.2.1 (tgt := 25) dX7_isCell_21 (by decide) ?_
          subst hQ
          exact r_zret (τ, ζ, ρ) C hW hr rfl hk dX7_isCell_25 (by first | exact Or.inl ⟨rfl, rfl, (by omega), (by omega), (by omega), (by omega)⟩ | exact Or.inr (⟨rfl, rfl, (by omega)⟩))
set_option maxHeartbeats 4000000 in
set_option maxRecDepth 100000 in
theorem c_X1_isLost (l : Launch) (G : GG) (q : Nat → Nat) (nd sz : Nat) (τ ζ : ST) (ρ : RF) (i : Nat) (h_nd : nd ≤ 6) (hi : i < nd) : Met l yX1_isLost (WSb yX1_isLost cX1_isLost 1 (some .boolean)) (rmA 0 0) (va_Pc [.ref (q (28 + 3 * i))] (PW G (28 + 3 * nd) q sz (eX G q τ ζ ρ))) (va_Qi (fun (r : Int32) (u : (ST × ST × RF)) => (r = 1 ∧ u = (τ, ζ, ρ) ∧ ((ζ.2.1 0 i).toInt = -1)) ∨ (r = 0 ∧ u = (τ, ζ, ρ) ∧ (¬ (ζ.2.1 0 i).toInt = -1))) (fun u => BW G (28 + 3 * nd) q (eX G q u.1 u.2.1 u.2.2)) (FA (28 + 3 * nd) q sz)) 0 0 (FA (28 + 3 * nd) q sz) := by
  refine Met_B (own := RX1) rfl (by decide) (Nat.le_of_ble_eq_true rfl) (fun p e s m args below meth c ls hsz C hW hr hk hl QQ hQ => ?_)
  subst hsz
  have hl : lv_has ls 1 [(0, .ref (q (28 + 3 * i)))] := hl
  refine lv_aload_n C.1 C.2.1 dX1_isLost_0 rfl (lv_at hl 0 rfl) ?_
  refine xG_Dish_length C hW i (by omega) bF_X1_21 (v := (ζ.2.1 0 i)) rfl dX1_isLost_1 ?_
  refine lv_iconst C.1 C.2.1 (v := (-1)) dX1_isLost_4 (by decide) ?_
  refine lv_icmp_ne C.1 C.2.1 (tgt := 12) dX1_isLost_5 (by decide) (fun c_1 => ?_) (fun c_1 => ?_)
  · skip
    have k_1 := (tn_eq (rfl : ((ζ.2.1 0 i)).toInt = ((ζ.2.1 0 i)).toInt) (show (-1 : Int32).toInt = -1 from by decide)).mp c_1
    refine lv_iconst C.1 C.2.1 (v := 0) dX1_isLost_12 (by decide) ?_
    subst hQ
    exact r_zret (τ, ζ, ρ) C hW hr rfl hk dX1_isLost_13 (by first | exact Or.inl ⟨rfl, rfl, (by omega)⟩ | exact Or.inr (⟨rfl, rfl, (by omega)⟩))
  · skip
    have k_1 := (tc_eq (rfl : ((ζ.2.1 0 i)).toInt = ((ζ.2.1 0 i)).toInt) (show (-1 : Int32).toInt = -1 from by decide)).mp c_1
    refine lv_iconst C.1 C.2.1 (v := 1) dX1_isLost_8 (by decide) ?_
    refine lv_goto C.1 C.2.1 (tgt := 13) dX1_isLost_9 (by decide) ?_
    subst hQ
    exact r_zret (τ, ζ, ρ) C hW hr rfl hk dX1_isLost_13 (by first | exact Or.inl ⟨rfl, rfl, (by omega)⟩ | exact Or.inr (⟨rfl, rfl, (by omega)⟩))
set_option maxHeartbeats 4000000 in
set_option maxRecDepth 100000 in
theorem c_X1_hasItem (l : Launch) (G : GG) (q : Nat → Nat) (nd sz : Nat) (τ ζ : ST) (ρ : RF) (a : Int32) (i : Nat) (h_nd : nd ≤ 6) (hi : i < nd) : Met l yX1_hasItem (WSb yX1_hasItem cX1_hasItem 2 (some .boolean)) (rmA 0 0) (va_Pc [.ref (q (28 + 3 * i)), .int a] (PW G (28 + 3 * nd) q sz (eX G q τ ζ ρ))) (va_Qi (fun (r : Int32) (u : (ST × ST × RF)) => (r = 1 ∧ u = (τ, ζ, ρ) ∧ (0 ≤ a.toInt) ∧ (a.toInt < (ζ.2.1 0 i).toInt)) ∨ (r = 0 ∧ u = (τ, ζ, ρ) ∧ (¬ (0 ≤ a.toInt ∧ a.toInt < (ζ.2.1 0 i).toInt)))) (fun u => BW G (28 + 3 * nd) q (eX G q u.1 u.2.1 u.2.2)) (FA (28 + 3 * nd) q sz)) 0 0 (FA (28 + 3 * nd) q sz) := by
  refine Met_B (own := RX1) rfl (by decide) (Nat.le_of_ble_eq_true rfl) (fun p e s m args below meth c ls hsz C hW hr hk hl QQ hQ => ?_)
  subst hsz
  have hl : lv_has ls 2 [(0, .ref (q (28 + 3 * i))), (1, .int a)] := hl
  refine lv_iload_n C.1 C.2.1 dX1_hasItem_0 rfl (lv_at hl 1 rfl) ?_
  refine lv_if_lt C.1 C.2.1 (tgt := 16) dX1_hasItem_1 (by decide) (fun c_1 => ?_) (fun c_1 => ?_)
  · skip
    have k_1 := (tc_lt (rfl : (a).toInt = (a).toInt) (show (0 : Int32).toInt = 0 from by decide)).mp c_1
    refine lv_iconst C.1 C.2.1 (v := 0) dX1_hasItem_16 (by decide) ?_
    subst hQ
    exact r_zret (τ, ζ, ρ) C hW hr rfl hk dX1_hasItem_17 (by first | exact Or.inl ⟨rfl, rfl, (by omega), (by omega)⟩ | exact Or.inr (⟨rfl, rfl, (by omega)⟩))
  · skip
    have k_1 := (tn_lt (rfl : (a).toInt = (a).toInt) (show (0 : Int32).toInt = 0 from by decide)).mp c_1
    refine lv_iload_n C.1 C.2.1 dX1_hasItem_4 rfl (lv_at hl 1 rfl) ?_
    refine lv_aload_n C.1 C.2.1 dX1_hasItem_5 rfl (lv_at hl 0 rfl) ?_
    refine xG_Dish_length C hW i (by omega) bF_X1_21 (v := (ζ.2.1 0 i)) rfl dX1_hasItem_6 ?_
    refine lv_icmp_ge C.1 C.2.1 (tgt := 16) dX1_hasItem_9 (by decide) (fun c_2 => ?_) (fun c_2 => ?_)
    · skip
      have k_2 := (tc_le (rfl : ((ζ.2.1 0 i)).toInt = ((ζ.2.1 0 i)).toInt) (rfl : (a).toInt = (a).toInt)).mp c_2
      refine lv_iconst C.1 C.2.1 (v := 0) dX1_hasItem_16 (by decide) ?_
      subst hQ
      exact r_zret (τ, ζ, ρ) C hW hr rfl hk dX1_hasItem_17 (by first | exact Or.inl ⟨rfl, rfl, (by omega), (by omega)⟩ | exact Or.inr (⟨rfl, rfl, (by omega)⟩))
    · skip
      have k_2 := (tn_le (rfl : ((ζ.2.1 0 i)).toInt = ((ζ.2.1 0 i)).toInt) (rfl : (a).toInt = (a).toInt)).mp c_2
      refine lv_iconst C.1 C.2.1 (v := 1) dX1_hasItem_12 (by decide) ?_
      refine lv_goto C.1 C.2.1 (tgt := 17) dX1_hasItem_13 (by decide) ?_
      subst hQ
      exact r_zret (τ, ζ, ρ) C hW hr rfl hk dX1_hasItem_17 (by first | exact Or.inl ⟨rfl, rfl, (by omega), (by omega)⟩ | exact Or.inr (⟨rfl, rfl, (by omega)⟩))
