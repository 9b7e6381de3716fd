/-! dishes, reels, flags, points, window, parts, sources, orders: what each call answers and changes, as pure functions; the reference's walks -/
def saF (τ : ST) (k : Nat) (f : Nat → Int32) : ST := (τ.1, va_up τ.2.1 k f, τ.2.2)
theorem saF_self (τ : ST) (k : Nat) : saF τ k (τ.2.1 k) = τ := by
  unfold saF
  refine Prod.ext rfl (Prod.ext (funext fun j => ?_) rfl)
  by_cases h : j = k
  · subst h; simp [va_up]
  · simp [va_up, h]
theorem saF_sa (τ : ST) (k j : Nat) (f : Nat → Int32) (v : Int32) : sa (saF τ k f) k j v = saF τ k (upd f j v) := by
  unfold saF sa
  refine Prod.ext rfl (Prod.ext (funext fun i => ?_) rfl)
  by_cases h : i = k
  · subst h; simp [va_up]
  · simp [va_up, h]
def zrow (f : Nat → Int32) (d k : Nat) : Nat → Int32 := fun j => if 100 * d ≤ j ∧ j < 100 * d + k then 0 else f j
theorem zrow_0 (f : Nat → Int32) (d : Nat) : zrow f d 0 = f := funext fun j => if_neg (by omega)
theorem zrow_s (f : Nat → Int32) (d k : Nat) : upd (zrow f d k) (100 * d + k) 0 = zrow f d (k + 1) := by
  funext j
  simp only [upd, zrow]
  repeat' split
  all_goals first | rfl | omega
theorem cpy_0 (f g : Nat → Int32) (a b : Nat) : va_cpy f g a b 0 = g := funext fun j => if_neg (by omega)
theorem cpy_s (f g : Nat → Int32) (a b k : Nat) : upd (va_cpy f g a b k) (b + k) (f (a + k)) = va_cpy f g a b (k + 1) := by
  funext j
  simp only [upd, va_cpy]
  by_cases h : j = b + k
  · subst h
    rw [if_pos rfl, if_pos (by omega)]
    congr 1
    omega
  · rw [if_neg h]
    by_cases h2 : b ≤ j ∧ j < b + k
    · rw [if_pos h2, if_pos (by omega)]
    · rw [if_neg h2, if_neg (by omega)]
def nrw (f v : Int32) : Int32 := if f.toInt = 0 then v.toInt8.toInt32 else if f.toInt = 1 then v.toInt16.toInt32 else v
def sp_dish (τ : ST) (x y : Int32) : Int32 × ST := if (-100 ≤ x.toInt ∧ x.toInt ≤ 100) ∧ -100 ≤ y.toInt ∧ y.toInt ≤ 100 then (if (τ.1 0).toInt = 6 then (-3, τ) else (τ.1 0 + 1 - 1, sg (sa (sa (sa τ 0 (τ.1 0).toInt.toNat x) 1 (τ.1 0).toInt.toNat y) 3 (τ.1 0).toInt.toNat 1) 0 (τ.1 0 + 1))) else (-2, τ)
def sp_tune (τ : ST) (d w g : Int32) : Int32 × ST := if (0 ≤ d.toInt ∧ d.toInt < (τ.1 0).toInt) ∧ (0 ≤ w.toInt ∧ w.toInt ≤ 30) ∧ (-9 ≤ g.toInt ∧ g.toInt ≤ 9) ∧ ¬ g.toInt = 0 then (1, sa (sa τ 2 d.toInt.toNat w) 3 d.toInt.toNat g) else (-2, τ)
def sp_reel (τ : ST) (d f n : Int32) : Int32 × ST := if (0 ≤ d.toInt ∧ d.toInt < (τ.1 0).toInt) ∧ (0 ≤ f.toInt ∧ f.toInt ≤ 2) ∧ n.toInt ≤ 100 then (if n.toInt < 0 then (-10 - 5, sg τ 1 5) else (n, saF (sa (sa (sa τ 4 d.toInt.toNat 1) 5 d.toInt.toNat f) 6 d.toInt.toNat n) 7 (zrow (τ.2.1 7) d.toInt.toNat 100))) else (-2, τ)
def sp_lose (τ : ST) (d : Int32) : Int32 × ST := if (0 ≤ d.toInt ∧ d.toInt < (τ.1 0).toInt) then (if (τ.2.1 4 d.toInt.toNat).toInt = 0 then (-10 - 1, sg τ 1 1) else (τ.2.1 6 d.toInt.toNat, sa τ 4 d.toInt.toNat 0)) else (-2, τ)
def sp_put (τ : ST) (d f i v : Int32) : Int32 × ST := if (0 ≤ d.toInt ∧ d.toInt < (τ.1 0).toInt) ∧ (0 ≤ f.toInt ∧ f.toInt ≤ 2) then (if (τ.2.1 4 d.toInt.toNat).toInt = 0 then (-10 - 1, sg τ 1 1) else if ¬ (τ.2.1 5 d.toInt.toNat).toInt = f.toInt then (-10 - 3, sg τ 1 3) else if 0 ≤ i.toInt ∧ i.toInt < (τ.2.1 6 d.toInt.toNat).toInt then (1, sa τ 7 (100 * d.toInt + i.toInt).toNat (nrw f v)) else (-10 - 2, sg τ 1 2)) else (-2, τ)
def sp_get (τ : ST) (d f i : Int32) : Int32 × ST := if (0 ≤ d.toInt ∧ d.toInt < (τ.1 0).toInt) ∧ (0 ≤ f.toInt ∧ f.toInt ≤ 2) then (if (τ.2.1 4 d.toInt.toNat).toInt = 0 then (-2147483648, sg τ 1 1) else if ¬ (τ.2.1 5 d.toInt.toNat).toInt = f.toInt then (-2147483648, sg τ 1 3) else if 0 ≤ i.toInt ∧ i.toInt < (τ.2.1 6 d.toInt.toNat).toInt then (τ.2.1 7 (100 * d.toInt + i.toInt).toNat, τ) else (-2147483648, sg τ 1 2)) else (-2147483648, τ)
def sp_copy (τ : ST) (d i e j n : Int32) : Int32 × ST := if (0 ≤ d.toInt ∧ d.toInt < (τ.1 0).toInt) ∧ (0 ≤ e.toInt ∧ e.toInt < (τ.1 0).toInt) then (if (τ.2.1 4 d.toInt.toNat).toInt = 0 ∨ (τ.2.1 4 e.toInt.toNat).toInt = 0 then (-10 - 1, sg τ 1 1) else if ¬ (τ.2.1 5 d.toInt.toNat).toInt = (τ.2.1 5 e.toInt.toNat).toInt then (-10 - 4, sg τ 1 4) else if 0 ≤ i.toInt ∧ 0 ≤ j.toInt ∧ 0 ≤ n.toInt ∧ i.toInt + n.toInt ≤ (τ.2.1 6 d.toInt.toNat).toInt ∧ j.toInt + n.toInt ≤ (τ.2.1 6 e.toInt.toNat).toInt then (1, saF τ 7 (va_cpy (τ.2.1 7) (τ.2.1 7) (100 * d.toInt.toNat + i.toInt.toNat) (100 * e.toInt.toNat + j.toInt.toNat) n.toInt.toNat)) else (-10 - 2, sg τ 1 2)) else (-2, τ)
def sp_flag (τ : ST) (d x y : Int32) : Int32 × ST := if (0 ≤ d.toInt ∧ d.toInt < (τ.1 0).toInt) ∧ 0 ≤ x.toInt ∧ x.toInt ≤ y.toInt ∧ y.toInt ≤ 99 then (if (τ.1 2).toInt = 40 then (-3, τ) else (τ.1 2 + 1, sg (sa (sa (sa τ 8 (τ.1 2).toInt.toNat d) 9 (τ.1 2).toInt.toNat x) 10 (τ.1 2).toInt.toNat y) 2 (τ.1 2 + 1))) else (-2, τ)
def sp_unflag (τ : ST) : Int32 × ST := if (τ.1 2).toInt = 0 then (-4, τ) else (τ.1 2 - 1, sg τ 2 (τ.1 2 - 1))
def sp_point (τ : ST) (x y f : Int32) : Int32 × ST := if (0 ≤ x.toInt ∧ x.toInt ≤ 15 ∧ 0 ≤ y.toInt ∧ y.toInt ≤ 15) ∧ -1000 ≤ f.toInt ∧ f.toInt ≤ 1000 then (if (τ.1 3).toInt = 10 then (-3, τ) else (τ.1 3 + 1, sg (sa (sa (sa τ 11 (τ.1 3).toInt.toNat x) 12 (τ.1 3).toInt.toNat y) 13 (τ.1 3).toInt.toNat f) 3 (τ.1 3 + 1))) else (-2, τ)
def sp_dark (τ : ST) : Int32 × ST := (τ.1 3, sg τ 3 0)
def sp_at (τ : ST) (x y : Int32) : Int64 × ST := if 0 ≤ x.toInt ∧ x.toInt ≤ 15 ∧ 0 ≤ y.toInt ∧ y.toInt ≤ 15 then (τ.2.2 0 (16 * y.toInt + x.toInt).toNat, τ) else (-9223372036854775808, τ)
def sp_window (τ : ST) (x y z w : Int32) : Int32 × ST := if (0 ≤ x.toInt ∧ x.toInt ≤ 15 ∧ 0 ≤ y.toInt ∧ y.toInt ≤ 15) ∧ (0 ≤ z.toInt ∧ z.toInt ≤ 15 ∧ 0 ≤ w.toInt ∧ w.toInt ≤ 15) ∧ x.toInt ≤ z.toInt ∧ y.toInt ≤ w.toInt then ((z - x + 1) * (w - y + 1), sg (sg (sg (sg τ 5 x) 6 z) 7 y) 8 w) else (-2, τ)
def sp_part (τ : ST) (k w : Int32) : Int64 × ST := if (0 ≤ k.toInt ∧ k.toInt < (τ.1 4).toInt) ∧ 0 ≤ w.toInt ∧ w.toInt ≤ 1 then (if w.toInt = 0 then ((τ.2.1 14 k.toInt.toNat).toInt64, τ) else (τ.2.2 1 k.toInt.toNat, τ)) else (-9223372036854775808, τ)
def sp_source (τ : ST) (s a b : Int32) : Int32 × ST := if (0 ≤ s.toInt ∧ s.toInt ≤ 7) ∧ 0 ≤ a.toInt ∧ a.toInt < b.toInt ∧ b.toInt ≤ 1440 then (1, sa (sa (sa τ 15 s.toInt.toNat 1) 16 s.toInt.toNat a) 17 s.toInt.toNat b) else (-2, τ)
def okO (τ : ST) (kd a b : Int32) : Prop := (kd.toInt = 0 ∧ 0 ≤ a.toInt ∧ a.toInt ≤ 600 ∧ b.toInt = 0) ∨ (kd.toInt = 1 ∧ 0 ≤ a.toInt ∧ a.toInt ≤ 359 ∧ b.toInt = 0) ∨ (kd.toInt = 2 ∧ 1 ≤ a.toInt ∧ a.toInt ≤ 600 ∧ 0 ≤ b.toInt ∧ b.toInt ≤ 7) ∨ (kd.toInt = 3 ∧ 0 ≤ a.toInt ∧ a.toInt < (τ.1 9).toInt ∧ 1 ≤ b.toInt ∧ b.toInt ≤ 50) ∨ (kd.toInt = 4 ∧ 1 ≤ a.toInt ∧ a.toInt ≤ 600 ∧ b.toInt = 0) ∨ (kd.toInt = 5 ∧ a.toInt = 0 ∧ b.toInt = 0)
noncomputable def sp_order (τ : ST) (kd a b : Int32) : Int32 × ST := cIf (okO τ kd a b) (if (τ.1 9).toInt = 60 then (-3, τ) else (τ.1 9 + 1 - 1, sg (sa (sa (sa τ 18 (τ.1 9).toInt.toNat kd) 19 (τ.1 9).toInt.toNat a) 20 (τ.1 9).toInt.toNat b) 9 (τ.1 9 + 1))) (-2, τ)
def sp_wipe (τ : ST) : Int32 × ST := (τ.1 9, sg τ 9 0)
def sp_told (τ : ST) (w : Int32) : Int32 × ST := if 10 ≤ w.toInt ∧ w.toInt ≤ 17 then (τ.2.1 21 (w.toInt - 10).toNat, τ) else if w.toInt = 0 then (τ.1 10, τ) else if w.toInt = 1 then (τ.1 11, τ) else if w.toInt = 2 then (τ.1 12, τ) else if w.toInt = 3 then (τ.1 13, τ) else if w.toInt = 4 then (τ.1 14, τ) else if w.toInt = 5 then (τ.1 15, τ) else (-2, τ)
def sp_count (τ : ST) (w : Int32) : Int32 × ST := if w.toInt = 0 then (τ.1 0, τ) else if w.toInt = 1 then (τ.1 2, τ) else if w.toInt = 2 then (τ.1 3, τ) else if w.toInt = 3 then (τ.1 4, τ) else if w.toInt = 4 then (τ.1 9, τ) else if w.toInt = 5 then ((τ.1 6 - τ.1 5 + 1) * (τ.1 8 - τ.1 7 + 1), τ) else if w.toInt = 6 then (τ.1 1, τ) else (-2, τ)
set_option maxHeartbeats 4000000 in
set_option maxRecDepth 100000 in
theorem c_X8_dish (l : Launch) (G : GG) (q : Nat → Nat) (sz : Nat) (τ ξ : ST) (x : Int32) (y : Int32) (h_d : 0 ≤ (τ.1 0).toInt ∧ (τ.1 0).toInt ≤ 6) : Met l yX8_dish (WSb yX8_dish cX8_dish 3 (some .int)) (rmA 1 25) (va_Pc [.ref (q 0), .int x, .int y] (PW G 33 q sz (eM G q τ ξ))) (va_Qi (fun (r : Int32) (u : (ST × ST)) => sp_dish τ x y = (r, u.1)) (fun u => BW G 33 q (eM G q u.1 u.2)) (FA 33 q sz)) 0 0 (FA 33 q sz) := by
  refine Met_B (own := RX8) rfl (by decide) (Nat.le_of_ble_eq_true rfl) (fun p e s m args below meth c ls hsz C hW hr hk hl QQ hQ => ?_)
  subst hsz
  have hl : lv_has ls 3 [(0, .ref (q 0)), (1, .int x), (2, .int y)] := hl
  refine lv_iload_n C.1 C.2.1 dX8_dish_0 rfl (lv_at hl 1 rfl) ?_
  refine lv_i2l C.1 C.2.1 dX8_dish_1 rfl ?_
  refine lv_ldc2 C.1 C.2.1 C.2.2.2.1 (C.2.2.2.2.1 _ bQ_X8_125) dX8_dish_2 ?_
  refine lv_ldc2 C.1 C.2.1 C.2.2.2.1 (C.2.2.2.2.1 _ bQ_X8_127) dX8_dish_5 ?_
  refine go_i hW (run_S (As := [.long ((x).toInt64), .long (-100), .long 100]) (rest := []) C hW (c_X8_in l G q _ τ ξ ((x).toInt64) (-100) 100 ((x).toInt) (-100) 100 (ti_i2l (rfl : (x).toInt = (x).toInt)) (show (-100 : Int64).toInt = -100 from by decide) (show (100 : Int64).toInt = 100 from by decide)) (cw_S 3 C bL_X8_121 bS_X8_in bN_X8 bC_X8_in ⟨rfl, rfl⟩ (by decide +kernel) ⟨Nat.le_of_ble_eq_true rfl, Nat.le_of_ble_eq_true rfl⟩) rfl hl.1 rfl (Nat.le_of_ble_eq_true rfl) dX8_dish_8 ⟨Nat.le_refl _, Nat.le_refl _⟩) (fun r_1 u_1 H locs hp_1 hW => ?_)
  rcases hp_1 with ⟨rfl, rfl, k_1_0, k_1_1⟩ | ⟨rfl, rfl, k_1⟩
  · skip
    have hW : WB G 33 q (eM G q τ ξ) s H locs := hW
    refine lv_if_eq C.1 C.2.1 (tgt := 28) dX8_dish_11 (by decide) (fun c => absurd c (by decide)) (fun _ => ?_)
    refine lv_iload_n C.1 C.2.1 dX8_dish_14 rfl (lv_at hl 2 rfl) ?_
    refine lv_i2l C.1 C.2.1 dX8_dish_15 rfl ?_
    refine lv_ldc2 C.1 C.2.1 C.2.2.2.1 (C.2.2.2.2.1 _ bQ_X8_125) dX8_dish_16 ?_
    refine lv_ldc2 C.1 C.2.1 C.2.2.2.1 (C.2.2.2.2.1 _ bQ_X8_127) dX8_dish_19 ?_
    refine go_i hW (run_S (As := [.long ((y).toInt64), .long (-100), .long 100]) (rest := []) C hW (c_X8_in l G q _ τ ξ ((y).toInt64) (-100) 100 ((y).toInt) (-100) 100 (ti_i2l (rfl : (y).toInt = (y).toInt)) (show (-100 : Int64).toInt = -100 from by decide) (show (100 : Int64).toInt = 100 from by decide)) (cw_S 3 C bL_X8_121 bS_X8_in bN_X8 bC_X8_in ⟨rfl, rfl⟩ (by decide +kernel) ⟨Nat.le_of_ble_eq_true rfl, Nat.le_of_ble_eq_true rfl⟩) rfl hl.1 rfl (Nat.le_of_ble_eq_true rfl) dX8_dish_22 ⟨Nat.le_refl _, Nat.le_refl _⟩) (fun r_3 u_3 H locs hp_3 hW => ?_)
    rcases hp_3 with ⟨rfl, rfl, k_3_0, k_3_1⟩ | ⟨rfl, rfl, k_3⟩
    · skip
      have hW : WB G 33 q (eM G q τ ξ) s H locs := hW
      refine lv_if_ne C.1 C.2.1 (tgt := 31) dX8_dish_25 (by decide) (fun _ => ?_) (fun c => absurd c (by decide))
      refine lv_aload_n C.1 C.2.1 dX8_dish_31 rfl (lv_at hl 0 rfl) ?_
      refine mG_dishes C hW (v := (τ.1 0)) rfl dX8_dish_32 ?_
      refine lv_bipush C.1 C.2.1 (v := 6) dX8_dish_35 (by decide) ?_
      refine lv_icmp_ne C.1 C.2.1 (tgt := 43) dX8_dish_37 (by decide) (fun c_5 => ?_) (fun c_5 => ?_)
      · skip
        have k_5 := (tn_eq (rfl : ((τ.1 0)).toInt = ((τ.1 0)).toInt) (show (6 : Int32).toInt = 6 from by decide)).mp c_5
        refine lv_aload_n C.1 C.2.1 dX8_dish_43 rfl (lv_at hl 0 rfl) ?_
        refine mG_placeX C hW dX8_dish_44 ?_
        refine lv_aload_n C.1 C.2.1 dX8_dish_47 rfl (lv_at hl 0 rfl) ?_
        refine mG_dishes C hW (v := (τ.1 0)) rfl dX8_dish_48 ?_
        refine lv_iload_n C.1 C.2.1 dX8_dish_51 rfl (lv_at hl 1 rfl) ?_
        refine mS_placeX C hW ((((τ.1 0)).toInt).toNat) ((rfl : ((τ.1 0)).toInt = ((τ.1 0)).toInt).trans (by omega)) (by omega) dX8_dish_52 (fun H locs hW => ?_)
        refine lv_aload_n C.1 C.2.1 dX8_dish_53 rfl (lv_at hl 0 rfl) ?_
        refine mG_placeY C hW dX8_dish_54 ?_
        refine lv_aload_n C.1 C.2.1 dX8_dish_57 rfl (lv_at hl 0 rfl) ?_
        refine mG_dishes C hW (v := (τ.1 0)) rfl dX8_dish_58 ?_
        refine lv_iload_n C.1 C.2.1 dX8_dish_61 rfl (lv_at hl 2 rfl) ?_
        refine mS_placeY C hW ((((τ.1 0)).toInt).toNat) ((rfl : ((τ.1 0)).toInt = ((τ.1 0)).toInt).trans (by omega)) (by omega) dX8_dish_62 (fun H locs hW => ?_)
        refine lv_aload_n C.1 C.2.1 dX8_dish_63 rfl (lv_at hl 0 rfl) ?_
        refine mG_gains C hW dX8_dish_64 ?_
        refine lv_aload_n C.1 C.2.1 dX8_dish_67 rfl (lv_at hl 0 rfl) ?_
        refine mG_dishes C hW (v := (τ.1 0)) rfl dX8_dish_68 ?_
        refine lv_iconst C.1 C.2.1 (v := 1) dX8_dish_71 (by decide) ?_
        refine mS_gains C hW ((((τ.1 0)).toInt).toNat) ((rfl : ((τ.1 0)).toInt = ((τ.1 0)).toInt).trans (by omega)) (by omega) dX8_dish_72 (fun H locs hW => ?_)
        refine lv_aload_n C.1 C.2.1 dX8_dish_73 rfl (lv_at hl 0 rfl) ?_
        refine lv_dup C.1 C.2.1 dX8_dish_74 rfl ?_
        refine mG_dishes C hW (v := (τ.1 0)) rfl dX8_dish_75 ?_
        refine lv_iconst C.1 C.2.1 (v := 1) dX8_dish_78 (by decide) ?_
        refine lv_iadd C.1 C.2.1 dX8_dish_79 ?_
        refine mP_dishes C hW dX8_dish_80 (fun H locs hW => ?_)
        refine lv_aload_n C.1 C.2.1 dX8_dish_83 rfl (lv_at hl 0 rfl) ?_
        refine mG_dishes C hW (v := ((τ.1 0) + 1)) rfl dX8_dish_84 ?_
        refine lv_iconst C.1 C.2.1 (v := 1) dX8_dish_87 (by decide) ?_
        refine lv_isub C.1 C.2.1 dX8_dish_88 ?_
        subst hQ
        exact r_iret ((sg (sa (sa (sa τ 0 ((((τ.1 0)).toInt).toNat) x) 1 ((((τ.1 0)).toInt).toNat) y) 3 ((((τ.1 0)).toInt).toNat) 1) 0 ((τ.1 0) + 1)), ξ) C hW hr hk dX8_dish_89 (show sp_dish τ x y = ((((τ.1 0) + 1) - 1), (sg (sa (sa (sa τ 0 ((((τ.1 0)).toInt).toNat) x) 1 ((((τ.1 0)).toInt).toNat) y) 3 ((((τ.1 0)).toInt).toNat) 1) 0 ((τ.1 0) + 1))) from by unfold sp_dish; (repeat (first | rw [if_pos (by omega)] | rw [if_neg (by omega)])); first | done | rfl)
      · skip
        have k_5 := (tc_eq (rfl : ((τ.1 0)).toInt = ((τ.1 0)).toInt) (show (6 : Int32).toInt = 6 from by decide)).mp c_5
        refine lv_bipush C.1 C.2.1 (v := (-3)) dX8_dish_40 (by decide) ?_
        subst hQ
        exact r_iret (τ, ξ) C hW hr hk dX8_dish_42 (show sp_dish τ x y = ((-3), τ) from by unfold sp_dish; (repeat (first | rw [if_pos (by omega)] | rw [if_neg (by omega)])); first | done | rfl)
    · skip
      have hW : WB G 33 q (eM G q τ ξ) s H locs := hW
      refine lv_if_ne C.1 C.2.1 (tgt := 31) dX8_dish_25 (by decide) (fun c => absurd c (by decide)) (fun _ => ?_)
      refine lv_bipush C.1 C.2.1 (v := (-2)) dX8_dish_28 (by decide) ?_
      subst hQ
      exact r_iret (τ, ξ) C hW hr hk dX8_dish_30 (show sp_dish τ x y = ((-2), τ) from by unfold sp_dish; (repeat (first | rw [if_pos (by omega)] | rw [if_neg (by omega)])); first | done | rfl)
  · skip
    have hW : WB G 33 q (eM G q τ ξ) s H locs := hW
    refine lv_if_eq C.1 C.2.1 (tgt := 28) dX8_dish_11 (by decide) (fun _ => ?_) (fun c => absurd c (by decide))
    refine lv_bipush C.1 C.2.1 (v := (-2)) dX8_dish_28 (by decide) ?_
    subst hQ
    exact r_iret (τ, ξ) C hW hr hk dX8_dish_30 (show sp_dish τ x y = ((-2), τ) from by unfold sp_dish; (repeat (first | rw [if_pos (by omega)] | rw [if_neg (by omega)])); first | done | rfl)
set_option maxHeartbeats 4000000 in
set_option maxRecDepth 100000 in
theorem c_X8_tune (l : Launch) (G : GG) (q : Nat → Nat) (sz : Nat) (τ ξ : ST) (d : Int32) (w : Int32) (g : Int32) (h_d : 0 ≤ (τ.1 0).toInt ∧ (τ.1 0).toInt ≤ 6) : Met l yX8_tune (WSb yX8_tune cX8_tune 4 (some .int)) (rmA 2 46) (va_Pc [.ref (q 0), .int d, .int w, .int g] (PW G 33 q sz (eM G q τ ξ))) (va_Qi (fun (r : Int32) (u : (ST × ST)) => sp_tune τ d w g = (r, u.1)) (fun u => BW G 33 q (eM G q u.1 u.2)) (FA 33 q sz)) 0 0 (FA 33 q sz) := by
  refine Met_B (own := RX8) rfl (by decide) (Nat.le_of_ble_eq_true rfl) (fun p e s m args below meth c ls hsz C hW hr hk hl QQ hQ => ?_)
  subst hsz
  have hl : lv_has ls 4 [(0, .ref (q 0)), (1, .int d), (2, .int w), (3, .int g)] := hl
  refine lv_aload_n C.1 C.2.1 dX8_tune_0 rfl (lv_at hl 0 rfl) ?_
  refine lv_iload_n C.1 C.2.1 dX8_tune_1 rfl (lv_at hl 1 rfl) ?_
  refine go_i hW (run_V (o := 0) (As := [.int d]) (rest := []) C hW (by decide) rfl rfl (c_X8_isDish l G q _ τ ξ d  h_d) (cw_V 1 C bL_X8_129 bI_X8_isDish bV_X8_isDish bN_X8 bC_X8_isDish ⟨rfl, rfl⟩ (by decide +kernel) ⟨Nat.le_of_ble_eq_true rfl, Nat.le_of_ble_eq_true rfl⟩) rfl hl.1 rfl (Nat.le_of_ble_eq_true rfl) dX8_tune_2 ⟨Nat.le_refl _, Nat.le_refl _⟩) (fun r_1 u_1 H locs hp_1 hW => ?_)
  rcases hp_1 with ⟨rfl, rfl, k_1_0, k_1_1⟩ | ⟨rfl, rfl, k_1⟩
  · skip
    have hW : WB G 33 q (eM G q τ ξ) s H locs := hW
    refine lv_if_eq C.1 C.2.1 (tgt := 38) dX8_tune_5 (by decide) (fun c => absurd c (by decide)) (fun _ => ?_)
    refine lv_iload_n C.1 C.2.1 dX8_tune_8 rfl (lv_at hl 2 rfl) ?_
    refine lv_i2l C.1 C.2.1 dX8_tune_9 rfl ?_
    refine lv_lconst C.1 C.2.1 (v := 0) dX8_tune_10 (by decide) ?_
    refine lv_ldc2 C.1 C.2.1 C.2.2.2.1 (C.2.2.2.2.1 _ bQ_X8_133) dX8_tune_11 ?_
    refine go_i hW (run_S (As := [.long ((w).toInt64), .long 0, .long 30]) (rest := []) C hW (c_X8_in l G q _ τ ξ ((w).toInt64) 0 30 ((w).toInt) 0 30 (ti_i2l (rfl : (w).toInt = (w).toInt)) (show (0 : Int64).toInt = 0 from by decide) (show (30 : Int64).toInt = 30 from by decide)) (cw_S 3 C bL_X8_121 bS_X8_in bN_X8 bC_X8_in ⟨rfl, rfl⟩ (by decide +kernel) ⟨Nat.le_of_ble_eq_true rfl, Nat.le_of_ble_eq_true rfl⟩) rfl hl.1 rfl (Nat.le_of_ble_eq_true rfl) dX8_tune_14 ⟨Nat.le_refl _, Nat.le_refl _⟩) (fun r_3 u_3 H locs hp_3 hW => ?_)
    rcases hp_3 with ⟨rfl, rfl, k_3_0, k_3_1⟩ | ⟨rfl, rfl, k_3⟩
    · skip
      have hW : WB G 33 q (eM G q τ ξ) s H locs := hW
      refine lv_if_eq C.1 C.2.1 (tgt := 38) dX8_tune_17 (by decide) (fun c => absurd c (by decide)) (fun _ => ?_)
      refine lv_iload_n C.1 C.2.1 dX8_tune_20 rfl (lv_at hl 3 rfl) ?_
      refine lv_i2l C.1 C.2.1 dX8_tune_21 rfl ?_
      refine lv_ldc2 C.1 C.2.1 C.2.2.2.1 (C.2.2.2.2.1 _ bQ_X8_135) dX8_tune_22 ?_
      refine lv_ldc2 C.1 C.2.1 C.2.2.2.1 (C.2.2.2.2.1 _ bQ_X8_137) dX8_tune_25 ?_
      refine go_i hW (run_S (As := [.long ((g).toInt64), .long (-9), .long 9]) (rest := []) C hW (c_X8_in l G q _ τ ξ ((g).toInt64) (-9) 9 ((g).toInt) (-9) 9 (ti_i2l (rfl : (g).toInt = (g).toInt)) (show (-9 : Int64).toInt = -9 from by decide) (show (9 : Int64).toInt = 9 from by decide)) (cw_S 3 C bL_X8_121 bS_X8_in bN_X8 bC_X8_in ⟨rfl, rfl⟩ (by decide +kernel) ⟨Nat.le_of_ble_eq_true rfl, Nat.le_of_ble_eq_true rfl⟩) rfl hl.1 rfl (Nat.le_of_ble_eq_true rfl) dX8_tune_28 ⟨Nat.le_refl _, Nat.le_refl _⟩) (fun r_5 u_5 H locs hp_5 hW => ?_)
      rcases hp_5 with ⟨rfl, rfl, k_5_0, k_5_1⟩ | ⟨rfl, rfl, k_5⟩
      · skip
        have hW : WB G 33 q (eM G q τ ξ) s H locs := hW
        refine lv_if_eq C.1 C.2.1 (tgt := 38) dX8_tune_31 (by decide) (fun c => absurd c (by decide)) (fun _ => ?_)
        refine lv_iload_n C.1 C.2.1 dX8_tune_34 rfl (lv_at hl 3 rfl) ?_
        refine lv_if_ne C.1 C.2.1 (tgt := 41) dX8_tune_35 (by decide) (fun c_7 => ?_) (fun c_7 => ?_)
        · skip
          have k_7 := (tn_eq (rfl : (g).toInt = (g).toInt) (show (0 : Int32).toInt = 0 from by decide)).mp c_7
          refine lv_aload_n C.1 C.2.1 dX8_tune_41 rfl (lv_at hl 0 rfl) ?_
          refine mG_delays C hW dX8_tune_42 ?_
          refine lv_iload_n C.1 C.2.1 dX8_tune_45 rfl (lv_at hl 1 rfl) ?_
          refine lv_iload_n C.1 C.2.1 dX8_tune_46 rfl (lv_at hl 2 rfl) ?_
          refine mS_delays C hW (((d).toInt).toNat) ((rfl : (d).toInt = (d).toInt).trans (by omega)) (by omega) dX8_tune_47 (fun H locs hW => ?_)
          refine lv_aload_n C.1 C.2.1 dX8_tune_48 rfl (lv_at hl 0 rfl) ?_
          refine mG_gains C hW dX8_tune_49 ?_
          refine lv_iload_n C.1 C.2.1 dX8_tune_52 rfl (lv_at hl 1 rfl) ?_
          refine lv_iload_n C.1 C.2.1 dX8_tune_53 rfl (lv_at hl 3 rfl) ?_
          refine mS_gains C hW (((d).toInt).toNat) ((rfl : (d).toInt = (d).toInt).trans (by omega)) (by omega) dX8_tune_54 (fun H locs hW => ?_)
          refine lv_iconst C.1 C.2.1 (v := 1) dX8_tune_55 (by decide) ?_
          subst hQ
          exact r_iret ((sa (sa τ 2 (((d).toInt).toNat) w) 3 (((d).toInt).toNat) g), ξ) C hW hr hk dX8_tune_56 (show sp_tune τ d w g = (1, (sa (sa τ 2 (((d).toInt).toNat) w) 3 (((d).toInt).toNat) g)) from by unfold sp_tune; (repeat (first | rw [if_pos (by omega)] | rw [if_neg (by omega)])); first | done | rfl)
        · skip
          have k_7 := (tc_eq (rfl : (g).toInt = (g).toInt) (show (0 : Int32).toInt = 0 from by decide)).mp c_7
          refine lv_bipush C.1 C.2.1 (v := (-2)) dX8_tune_38 (by decide) ?_
          subst hQ
          exact r_iret (τ, ξ) C hW hr hk dX8_tune_40 (show sp_tune τ d w g = ((-2), τ) from by unfold sp_tune; (repeat (first | rw [if_pos (by omega)] | rw [if_neg (by omega)])); first | done | rfl)
      · skip
        have hW : WB G 33 q (eM G q τ ξ) s H locs := hW
        refine lv_if_eq C.1 C.2.1 (tgt := 38) dX8_tune_31 (by decide) (fun _ => ?_) (fun c => absurd c (by decide))
        refine lv_bipush C.1 C.2.1 (v := (-2)) dX8_tune_38 (by decide) ?_
        subst hQ
        exact r_iret (τ, ξ) C hW hr hk dX8_tune_40 (show sp_tune τ d w g = ((-2), τ) from by unfold sp_tune; (repeat (first | rw [if_pos (by omega)] | rw [if_neg (by omega)])); first | done | rfl)
    · skip
      have hW : WB G 33 q (eM G q τ ξ) s H locs := hW
      refine lv_if_eq C.1 C.2.1 (tgt := 38) dX8_tune_17 (by decide) (fun _ => ?_) (fun c => absurd c (by decide))
      refine lv_bipush C.1 C.2.1 (v := (-2)) dX8_tune_38 (by decide) ?_
      subst hQ
      exact r_iret (τ, ξ) C hW hr hk dX8_tune_40 (show sp_tune τ d w g = ((-2), τ) from by unfold sp_tune; (repeat (first | rw [if_pos (by omega)] | rw [if_neg (by omega)])); first | done | rfl)
  · skip
    have hW : WB G 33 q (eM G q τ ξ) s H locs := hW
    refine lv_if_eq C.1 C.2.1 (tgt := 38) dX8_tune_5 (by decide) (fun _ => ?_) (fun c => absurd c (by decide))
    refine lv_bipush C.1 C.2.1 (v := (-2)) dX8_tune_38 (by decide) ?_
    subst hQ
    exact r_iret (τ, ξ) C hW hr hk dX8_tune_40 (show sp_tune τ d w g = ((-2), τ) from by unfold sp_tune; (repeat (first | rw [if_pos (by omega)] | rw [if_neg (by omega)])); first | done | rfl)
set_option maxHeartbeats 4000000 in
set_option maxRecDepth 100000 in
theorem c_X8_reel (l : Launch) (G : GG) (q : Nat → Nat) (sz : Nat) (τ ξ : ST) (d : Int32) (f : Int32) (n : Int32) (h_d : 0 ≤ (τ.1 0).toInt ∧ (τ.1 0).toInt ≤ 6) : Met l yX8_reel (WSb yX8_reel cX8_reel 5 (some .int)) (rmA 2 46) (va_Pc [.ref (q 0), .int d, .int f, .int n] (PW G 33 q sz (eM G q τ ξ))) (va_Qi (fun (r : Int32) (u : (ST × ST)) => sp_reel τ d f n = (r, u.1)) (fun u => BW G 33 q (eM G q u.1 u.2)) (FA 33 q sz)) 0 0 (FA 33 q sz) := by
  refine Met_B (own := RX8) rfl (by decide) (Nat.le_of_ble_eq_true rfl) (fun p e s m args below meth c ls hsz C hW hr hk hl QQ hQ => ?_)
  subst hsz
  have hl : lv_has ls 5 [(0, .ref (q 0)), (1, .int d), (2, .int f), (3, .int n)] := hl
  refine lv_aload_n C.1 C.2.1 dX8_reel_0 rfl (lv_at hl 0 rfl) ?_
  refine lv_iload_n C.1 C.2.1 dX8_reel_1 rfl (lv_at hl 1 rfl) ?_
  refine go_i hW (run_V (o := 0) (As := [.int d]) (rest := []) C hW (by decide) rfl rfl (c_X8_isDish l G q _ τ ξ d  h_d) (cw_V 1 C bL_X8_129 bI_X8_isDish bV_X8_isDish bN_X8 bC_X8_isDish ⟨rfl, rfl⟩ (by decide +kernel) ⟨Nat.le_of_ble_eq_true rfl, Nat.le_of_ble_eq_true rfl⟩) rfl hl.1 rfl (Nat.le_of_ble_eq_true rfl) dX8_reel_2 ⟨Nat.le_refl _, Nat.le_refl _⟩) (fun r_1 u_1 H locs hp_1 hW => ?_)
  rcases hp_1 with ⟨rfl, rfl, k_1_0, k_1_1⟩ | ⟨rfl, rfl, k_1⟩
  · skip
    have hW : WB G 33 q (eM G q τ ξ) s H locs := hW
    refine lv_if_eq C.1 C.2.1 (tgt := 26) dX8_reel_5 (by decide) (fun c => absurd c (by decide)) (fun _ => ?_)
    refine lv_iload_n C.1 C.2.1 dX8_reel_8 rfl (lv_at hl 2 rfl) ?_
    refine lv_i2l C.1 C.2.1 dX8_reel_9 rfl ?_
    refine lv_lconst C.1 C.2.1 (v := 0) dX8_reel_10 (by decide) ?_
    refine lv_ldc2 C.1 C.2.1 C.2.2.2.1 (C.2.2.2.2.1 _ bQ_X8_139) dX8_reel_11 ?_
    refine go_i hW (run_S (As := [.long ((f).toInt64), .long 0, .long 2]) (rest := []) C hW (c_X8_in l G q _ τ ξ ((f).toInt64) 0 2 ((f).toInt) 0 2 (ti_i2l (rfl : (f).toInt = (f).toInt)) (show (0 : Int64).toInt = 0 from by decide) (show (2 : Int64).toInt = 2 from by decide)) (cw_S 3 C bL_X8_121 bS_X8_in bN_X8 bC_X8_in ⟨rfl, rfl⟩ (by decide +kernel) ⟨Nat.le_of_ble_eq_true rfl, Nat.le_of_ble_eq_true rfl⟩) rfl hl.1 rfl (Nat.le_of_ble_eq_true rfl) dX8_reel_14 ⟨Nat.le_refl _, Nat.le_refl _⟩) (fun r_3 u_3 H locs hp_3 hW => ?_)
    rcases hp_3 with ⟨rfl, rfl, k_3_0, k_3_1⟩ | ⟨rfl, rfl, k_3⟩
    · skip
      have hW : WB G 33 q (eM G q τ ξ) s H locs := hW
      refine lv_if_eq C.1 C.2.1 (tgt := 26) dX8_reel_17 (by decide) (fun c => absurd c (by decide)) (fun _ => ?_)
      refine lv_iload_n C.1 C.2.1 dX8_reel_20 rfl (lv_at hl 3 rfl) ?_
      refine lv_bipush C.1 C.2.1 (v := 100) dX8_reel_21 (by decide) ?_
      refine lv_icmp_le C.1 C.2.1 (tgt := 29) dX8_reel_23 (by decide) (fun c_5 => ?_) (fun c_5 => ?_)
      · skip
        have k_5 := (tc_le (rfl : (n).toInt = (n).toInt) (show (100 : Int32).toInt = 100 from by decide)).mp c_5
        refine lv_iload_n C.1 C.2.1 dX8_reel_29 rfl (lv_at hl 3 rfl) ?_
        refine lv_if_ge C.1 C.2.1 (tgt := 39) dX8_reel_30 (by decide) (fun c_6 => ?_) (fun c_6 => ?_)
        · skip
          have k_6 := (tc_le (show (0 : Int32).toInt = 0 from by decide) (rfl : (n).toInt = (n).toInt)).mp c_6
          refine lv_aload_n C.1 C.2.1 dX8_reel_39 rfl (lv_at hl 0 rfl) ?_
          refine mG_isThere C hW dX8_reel_40 ?_
          refine lv_iload_n C.1 C.2.1 dX8_reel_43 rfl (lv_at hl 1 rfl) ?_
          refine lv_iconst C.1 C.2.1 (v := 1) dX8_reel_44 (by decide) ?_
          refine mS_isThere C hW (((d).toInt).toNat) ((rfl : (d).toInt = (d).toInt).trans (by omega)) (by omega) (by decide) dX8_reel_45 (fun H locs hW => ?_)
          refine lv_aload_n C.1 C.2.1 dX8_reel_46 rfl (lv_at hl 0 rfl) ?_
          refine mG_forms C hW dX8_reel_47 ?_
          refine lv_iload_n C.1 C.2.1 dX8_reel_50 rfl (lv_at hl 1 rfl) ?_
          refine lv_iload_n C.1 C.2.1 dX8_reel_51 rfl (lv_at hl 2 rfl) ?_
          refine mS_forms C hW (((d).toInt).toNat) ((rfl : (d).toInt = (d).toInt).trans (by omega)) (by omega) dX8_reel_52 (fun H locs hW => ?_)
          refine lv_aload_n C.1 C.2.1 dX8_reel_53 rfl (lv_at hl 0 rfl) ?_
          refine mG_sizes C hW dX8_reel_54 ?_
          refine lv_iload_n C.1 C.2.1 dX8_reel_57 rfl (lv_at hl 1 rfl) ?_
          refine lv_iload_n C.1 C.2.1 dX8_reel_58 rfl (lv_at hl 3 rfl) ?_
          refine mS_sizes C hW (((d).toInt).toNat) ((rfl : (d).toInt = (d).toInt).trans (by omega)) (by omega) dX8_reel_59 (fun H locs hW => ?_)
          refine lv_iconst C.1 C.2.1 (v := 0) dX8_reel_60 (by decide) ?_
          refine lv_istore (lv' := [(4, .int 0), (0, .ref (q 0)), (1, .int d), (2, .int f), (3, .int n)]) C.1 C.2.1 dX8_reel_61 hl (by decide) rfl (fun ls hl => ?_)
          have L_63_7 : ∀ (fuel : Nat) (t : Nat) (x4 : Int32), 100 - t < fuel → (x4.toInt = (t : Int)) → (t ≤ 100) → ∀ (H : Heap) (locs : List Loc) (ls : Array Slot), WB G 33 q (eM G q (saF (sa (sa (sa τ 4 (d.toInt).toNat 1) 5 (d.toInt).toNat f) 6 (d.toInt).toNat n) 7 (zrow (τ.2.1 7) d.toInt.toNat t)) ξ) s H locs → lv_has ls 5 [(4, .int x4), (0, .ref (q 0)), (1, .int d), (2, .int f), (3, .int n)] → W p l e (rmA 2 46) s m args below meth c H locs 0 0 QQ (F0 m 63 ls []) := by
            intro fuel; induction fuel with
            | zero => intro t x4 hf; exact absurd hf (Nat.not_lt_zero _)
            | succ fuel ih_63 =>
              intro t x4 hf ht hle H locs ls hW hl
              refine lv_iload C.1 C.2.1 dX8_reel_63 (lv_at hl 0 rfl) ?_
              refine lv_bipush C.1 C.2.1 (v := 100) dX8_reel_65 (by decide) ?_
              refine lv_icmp_ge C.1 C.2.1 (tgt := 89) dX8_reel_67 (by decide) (fun c_8 => ?_) (fun c_8 => ?_)
              · skip
                have k_8 := (tc_le (show (100 : Int32).toInt = 100 from by decide) ht).mp c_8
                refine lv_iload_n C.1 C.2.1 dX8_reel_89 rfl (lv_at hl 4 rfl) ?_
                subst hQ
                exact r_iret ((saF (sa (sa (sa τ 4 (d.toInt).toNat 1) 5 (d.toInt).toNat f) 6 (d.toInt).toNat n) 7 (zrow (τ.2.1 7) d.toInt.toNat t)), ξ) C hW hr hk dX8_reel_90 (show sp_reel τ d f n = (n, (saF (sa (sa (sa τ 4 (d.toInt).toNat 1) 5 (d.toInt).toNat f) 6 (d.toInt).toNat n) 7 (zrow (τ.2.1 7) d.toInt.toNat t))) from by unfold sp_reel; (repeat (first | rw [if_pos (by omega)] | rw [if_neg (by omega)])); rw [show t = 100 from by omega])
              · skip
                have k_8 := (tn_le (show (100 : Int32).toInt = 100 from by decide) ht).mp c_8
                refine lv_aload_n C.1 C.2.1 dX8_reel_70 rfl (lv_at hl 1 rfl) ?_
                refine mG_items C hW dX8_reel_71 ?_
                refine lv_bipush C.1 C.2.1 (v := 100) dX8_reel_74 (by decide) ?_
                refine lv_iload_n C.1 C.2.1 dX8_reel_76 rfl (lv_at hl 2 rfl) ?_
                refine lv_imul C.1 C.2.1 dX8_reel_77 ?_
                refine lv_iload C.1 C.2.1 dX8_reel_78 (lv_at hl 0 rfl) ?_
                refine lv_iadd C.1 C.2.1 dX8_reel_80 ?_
                refine lv_iconst C.1 C.2.1 (v := 0) dX8_reel_81 (by decide) ?_
                refine mS_items C hW ((((100 * (d).toInt) + (t : Int))).toNat) ((ti_add (ti_mul (show (100 : Int32).toInt = 100 from by decide) (rfl : (d).toInt = (d).toInt) (by omega) (by omega)) ht (by omega) (by omega)).trans (by omega)) (by omega) dX8_reel_82 (fun H locs hW => ?_)
                refine lv_iinc (v := (x4 + 1)) (lv' := [(4, .int (x4 + 1)), (0, .ref (q 0)), (1, .int d), (2, .int f), (3, .int n)]) C.1 C.2.1 dX8_reel_83 hl (k := 0) rfl rfl (by decide) rfl (fun ls hl => ?_)
                refine lv_goto C.1 C.2.1 (tgt := 63) dX8_reel_86 (by decide) ?_
                rw [show (100 * d.toInt + (t : Int)).toNat = 100 * d.toInt.toNat + t from by omega, saF_sa, zrow_s] at hW
                exact ih_63 (t + 1) (x4 + 1) (by omega) ((ti_add ht (show (1 : Int32).toInt = 1 from by decide) (by omega) (by omega)).trans (by omega)) (by omega) _ _ _ hW (lv_sub hl [0, 1, 2, 3, 4] rfl)
          exact L_63_7 _ 0 0 (Nat.lt_succ_self _) (by decide) (by omega) _ _ _ (by rw [zrow_0]; exact (saF_self _ 7).symm ▸ hW) (lv_sub hl [0, 1, 2, 3, 4] rfl)
        · skip
          have k_6 := (tn_le (show (0 : Int32).toInt = 0 from by decide) (rfl : (n).toInt = (n).toInt)).mp c_6
          refine lv_aload_n C.1 C.2.1 dX8_reel_33 rfl (lv_at hl 0 rfl) ?_
          refine lv_iconst C.1 C.2.1 (v := 5) dX8_reel_34 (by decide) ?_
          refine go_i hW (run_V (o := 0) (As := [.int 5]) (rest := []) C hW (by decide) rfl rfl (c_X8_meets l G q _ τ ξ 5  ) (cw_V 1 C bL_X8_141 bI_X8_meets bV_X8_meets bN_X8 bC_X8_meets ⟨rfl, rfl⟩ (by decide +kernel) ⟨Nat.le_of_ble_eq_true rfl, Nat.le_of_ble_eq_true rfl⟩) rfl hl.1 rfl (Nat.le_of_ble_eq_true rfl) dX8_reel_35 ⟨Nat.le_refl _, Nat.le_refl _⟩) (fun r_9 u_9 H locs hp_9 hW => ?_)
          rcases hp_9 with ⟨rfl, rfl⟩
          have hW : WB G 33 q (eM G q (sg τ 1 5) ξ) s H locs := hW
          subst hQ
          exact r_iret ((sg τ 1 5), ξ) C hW hr hk dX8_reel_38 (show sp_reel τ d f n = ((-10 - 5), (sg τ 1 5)) from by unfold sp_reel; (repeat (first | rw [if_pos (by omega)] | rw [if_neg (by omega)])); first | done | rfl)
      · skip
        have k_5 := (tn_le (rfl : (n).toInt = (n).toInt) (show (100 : Int32).toInt = 100 from by decide)).mp c_5
        refine lv_bipush C.1 C.2.1 (v := (-2)) dX8_reel_26 (by decide) ?_
        subst hQ
        exact r_iret (τ, ξ) C hW hr hk dX8_reel_28 (show sp_reel τ d f n = ((-2), τ) from by unfold sp_reel; (repeat (first | rw [if_pos (by omega)] | rw [if_neg (by omega)])); first | done | rfl)
    · skip
      have hW : WB G 33 q (eM G q τ ξ) s H locs := hW
      refine lv_if_eq C.1 C.2.1 (tgt := 26) dX8_reel_17 (by decide) (fun _ => ?_) (fun c => absurd c (by decide))
      refine lv_bipush C.1 C.2.1 (v := (-2)) dX8_reel_26 (by decide) ?_
      subst hQ
      exact r_iret (τ, ξ) C hW hr hk dX8_reel_28 (show sp_reel τ d f n = ((-2), τ) from by unfold sp_reel; (repeat (first | rw [if_pos (by omega)] | rw [if_neg (by omega)])); first | done | rfl)
  · skip
    have hW : WB G 33 q (eM G q τ ξ) s H locs := hW
    refine lv_if_eq C.1 C.2.1 (tgt := 26) dX8_reel_5 (by decide) (fun _ => ?_) (fun c => absurd c (by decide))
    refine lv_bipush C.1 C.2.1 (v := (-2)) dX8_reel_26 (by decide) ?_
    subst hQ
    exact r_iret (τ, ξ) C hW hr hk dX8_reel_28 (show sp_reel τ d f n = ((-2), τ) from by unfold sp_reel; (repeat (first | rw [if_pos (by omega)] | rw [if_neg (by omega)])); first | done | rfl)
set_option maxHeartbeats 4000000 in
set_option maxRecDepth 100000 in
theorem c_X8_lose (l : Launch) (G : GG) (q : Nat → Nat) (sz : Nat) (τ ξ : ST) (d : Int32) (h_d : 0 ≤ (τ.1 0).toInt ∧ (τ.1 0).toInt ≤ 6) : Met l yX8_lose (WSb yX8_lose cX8_lose 2 (some .int)) (rmA 2 46) (va_Pc [.ref (q 0), .int d] (PW G 33 q sz (eM G q τ ξ))) (va_Qi (fun (r : Int32) (u : (ST × ST)) => sp_lose τ d = (r, u.1)) (fun u => BW G 33 q (eM G q u.1 u.2)) (FA 33 q sz)) 0 0 (FA 33 q sz) := by
  refine Met_B (own := RX8) rfl (by decide) (Nat.le_of_ble_eq_true rfl) (fun p e s m args below meth c ls hsz C hW hr hk hl QQ hQ => ?_)
  subst hsz
  have hl : lv_has ls 2 [(0, .ref (q 0)), (1, .int d)] := hl
  refine lv_aload_n C.1 C.2.1 dX8_lose_0 rfl (lv_at hl 0 rfl) ?_
  refine lv_iload_n C.1 C.2.1 dX8_lose_1 rfl (lv_at hl 1 rfl) ?_
  refine go_i hW (run_V (o := 0) (As := [.int d]) (rest := []) C hW (by decide) rfl rfl (c_X8_isDish l G q _ τ ξ d  h_d) (cw_V 1 C bL_X8_129 bI_X8_isDish bV_X8_isDish bN_X8 bC_X8_isDish ⟨rfl, rfl⟩ (by decide +kernel) ⟨Nat.le_of_ble_eq_true rfl, Nat.le_of_ble_eq_true rfl⟩) rfl hl.1 rfl (Nat.le_of_ble_eq_true rfl) dX8_lose_2 ⟨Nat.le_refl _, Nat.le_refl _⟩) (fun r_1 u_1 H locs hp_1 hW => ?_)
  rcases hp_1 with ⟨rfl, rfl, k_1_0, k_1_1⟩ | ⟨rfl, rfl, k_1⟩
  · skip
    have hW : WB G 33 q (eM G q τ ξ) s H locs := hW
    refine lv_if_ne C.1 C.2.1 (tgt := 11) dX8_lose_5 (by decide) (fun _ => ?_) (fun c => absurd c (by decide))
    refine lv_aload_n C.1 C.2.1 dX8_lose_11 rfl (lv_at hl 0 rfl) ?_
    refine mG_isThere C hW dX8_lose_12 ?_
    refine lv_iload_n C.1 C.2.1 dX8_lose_15 rfl (lv_at hl 1 rfl) ?_
    refine mL_isThere C hW (((d).toInt).toNat) ((rfl : (d).toInt = (d).toInt).trans (by omega)) (by omega) (v := (τ.2.1 4 (((d).toInt).toNat))) rfl dX8_lose_16 ?_
    refine lv_if_ne C.1 C.2.1 (tgt := 26) dX8_lose_17 (by decide) (fun c_3 => ?_) (fun c_3 => ?_)
    · skip
      have k_3 := (tn_eq (rfl : ((τ.2.1 4 (((d).toInt).toNat))).toInt = ((τ.2.1 4 (((d).toInt).toNat))).toInt) (show (0 : Int32).toInt = 0 from by decide)).mp c_3
      refine lv_aload_n C.1 C.2.1 dX8_lose_26 rfl (lv_at hl 0 rfl) ?_
      refine mG_isThere C hW dX8_lose_27 ?_
      refine lv_iload_n C.1 C.2.1 dX8_lose_30 rfl (lv_at hl 1 rfl) ?_
      refine lv_iconst C.1 C.2.1 (v := 0) dX8_lose_31 (by decide) ?_
      refine mS_isThere C hW (((d).toInt).toNat) ((rfl : (d).toInt = (d).toInt).trans (by omega)) (by omega) (by decide) dX8_lose_32 (fun H locs hW => ?_)
      refine lv_aload_n C.1 C.2.1 dX8_lose_33 rfl (lv_at hl 0 rfl) ?_
      refine mG_sizes C hW dX8_lose_34 ?_
      refine lv_iload_n C.1 C.2.1 dX8_lose_37 rfl (lv_at hl 1 rfl) ?_
      refine mL_sizes C hW (((d).toInt).toNat) ((rfl : (d).toInt = (d).toInt).trans (by omega)) (by omega) (v := (τ.2.1 6 (((d).toInt).toNat))) rfl dX8_lose_38 ?_
      subst hQ
      exact r_iret ((sa τ 4 (((d).toInt).toNat) 0), ξ) C hW hr hk dX8_lose_39 (show sp_lose τ d = ((τ.2.1 6 (((d).toInt).toNat)), (sa τ 4 (((d).toInt).toNat) 0)) from by unfold sp_lose; (repeat (first | rw [if_pos (by omega)] | rw [if_neg (by omega)])); first | done | rfl)
    · skip
      have k_3 := (tc_eq (rfl : ((τ.2.1 4 (((d).toInt).toNat))).toInt = ((τ.2.1 4 (((d).toInt).toNat))).toInt) (show (0 : Int32).toInt = 0 from by decide)).mp c_3
      refine lv_aload_n C.1 C.2.1 dX8_lose_20 rfl (lv_at hl 0 rfl) ?_
      refine lv_iconst C.1 C.2.1 (v := 1) dX8_lose_21 (by decide) ?_
      refine go_i hW (run_V (o := 0) (As := [.int 1]) (rest := []) C hW (by decide) rfl rfl (c_X8_meets l G q _ τ ξ 1  ) (cw_V 1 C bL_X8_141 bI_X8_meets bV_X8_meets bN_X8 bC_X8_meets ⟨rfl, rfl⟩ (by decide +kernel) ⟨Nat.le_of_ble_eq_true rfl, Nat.le_of_ble_eq_true rfl⟩) rfl hl.1 rfl (Nat.le_of_ble_eq_true rfl) dX8_lose_22 ⟨Nat.le_refl _, Nat.le_refl _⟩) (fun r_4 u_4 H locs hp_4 hW => ?_)
      rcases hp_4 with ⟨rfl, rfl⟩
      have hW : WB G 33 q (eM G q (sg τ 1 1) ξ) s H locs := hW
      subst hQ
      exact r_iret ((sg τ 1 1), ξ) C hW hr hk dX8_lose_25 (show sp_lose τ d = ((-10 - 1), (sg τ 1 1)) from by unfold sp_lose; (repeat (first | rw [if_pos (by omega)] | rw [if_neg (by omega)])); first | done | rfl)
  · skip
    have hW : WB G 33 q (eM G q τ ξ) s H locs := hW
    refine lv_if_ne C.1 C.2.1 (tgt := 11) dX8_lose_5 (by decide) (fun c => absurd c (by decide)) (fun _ => ?_)
    refine lv_bipush C.1 C.2.1 (v := (-2)) dX8_lose_8 (by decide) ?_
    subst hQ
    exact r_iret (τ, ξ) C hW hr hk dX8_lose_10 (show sp_lose τ d = ((-2), τ) from by unfold sp_lose; (repeat (first | rw [if_pos (by omega)] | rw [if_neg (by omega)])); first | done | rfl)
set_option maxHeartbeats 4000000 in
set_option maxRecDepth 100000 in
theorem c_X8_put (l : Launch) (G : GG) (q : Nat → Nat) (sz : Nat) (τ ξ : ST) (d : Int32) (f : Int32) (i : Int32) (v : Int32) (h_d : 0 ≤ (τ.1 0).toInt ∧ (τ.1 0).toInt ≤ 6) (h_s : ∀ d : Nat, d < 6 → 0 ≤ (τ.2.1 6 d).toInt ∧ (τ.2.1 6 d).toInt ≤ 100) : Met l yX8_put (WSb yX8_put cX8_put 6 (some .int)) (rmA 2 48) (va_Pc [.ref (q 0), .int d, .int f, .int i, .int v] (PW G 33 q sz (eM G q τ ξ))) (va_Qi (fun (r : Int32) (u : (ST × ST)) => sp_put τ d f i v = (r, u.1)) (fun u => BW G 33 q (eM G q u.1 u.2)) (FA 33 q sz)) 0 0 (FA 33 q sz) := by
  refine Met_B (own := RX8) rfl (by decide) (Nat.le_of_ble_eq_true rfl) (fun p e s m args below meth c ls hsz C hW hr hk hl QQ hQ => ?_)
  subst hsz
  have hl : lv_has ls 6 [(0, .ref (q 0)), (1, .int d), (2, .int f), (3, .int i), (4, .int v)] := hl
  have l1 := h_s d.toInt.toNat
  refine lv_aload_n C.1 C.2.1 dX8_put_0 rfl (lv_at hl 0 rfl) ?_
  refine lv_iload_n C.1 C.2.1 dX8_put_1 rfl (lv_at hl 1 rfl) ?_
  refine go_i hW (run_V (o := 0) (As := [.int d]) (rest := []) C hW (by decide) rfl rfl (c_X8_isDish l G q _ τ ξ d  h_d) (cw_V 1 C bL_X8_129 bI_X8_isDish bV_X8_isDish bN_X8 bC_X8_isDish ⟨rfl, rfl⟩ (by decide +kernel) ⟨Nat.le_of_ble_eq_true rfl, Nat.le_of_ble_eq_true rfl⟩) rfl hl.1 rfl (Nat.le_of_ble_eq_true rfl) dX8_put_2 ⟨Nat.le_refl _, Nat.le_refl _⟩) (fun r_1 u_1 H locs hp_1 hW => ?_)
  rcases hp_1 with ⟨rfl, rfl, k_1_0, k_1_1⟩ | ⟨rfl, rfl, k_1⟩
  · skip
    have hW : WB G 33 q (eM G q τ ξ) s H locs := hW
    refine lv_if_eq C.1 C.2.1 (tgt := 20) dX8_put_5 (by decide) (fun c => absurd c (by decide)) (fun _ => ?_)
    refine lv_iload_n C.1 C.2.1 dX8_put_8 rfl (lv_at hl 2 rfl) ?_
    refine lv_i2l C.1 C.2.1 dX8_put_9 rfl ?_
    refine lv_lconst C.1 C.2.1 (v := 0) dX8_put_10 (by decide) ?_
    refine lv_ldc2 C.1 C.2.1 C.2.2.2.1 (C.2.2.2.2.1 _ bQ_X8_139) dX8_put_11 ?_
    refine go_i hW (run_S (As := [.long ((f).toInt64), .long 0, .long 2]) (rest := []) C hW (c_X8_in l G q _ τ ξ ((f).toInt64) 0 2 ((f).toInt) 0 2 (ti_i2l (rfl : (f).toInt = (f).toInt)) (show (0 : Int64).toInt = 0 from by decide) (show (2 : Int64).toInt = 2 from by decide)) (cw_S 3 C bL_X8_121 bS_X8_in bN_X8 bC_X8_in ⟨rfl, rfl⟩ (by decide +kernel) ⟨Nat.le_of_ble_eq_true rfl, Nat.le_of_ble_eq_true rfl⟩) rfl hl.1 rfl (Nat.le_of_ble_eq_true rfl) dX8_put_14 ⟨Nat.le_refl _, Nat.le_refl _⟩) (fun r_3 u_3 H locs hp_3 hW => ?_)
    rcases hp_3 with ⟨rfl, rfl, k_3_0, k_3_1⟩ | ⟨rfl, rfl, k_3⟩
    · skip
      have hW : WB G 33 q (eM G q τ ξ) s H locs := hW
      refine lv_if_ne C.1 C.2.1 (tgt := 23) dX8_put_17 (by decide) (fun _ => ?_) (fun c => absurd c (by decide))
      refine lv_aload_n C.1 C.2.1 dX8_put_23 rfl (lv_at hl 0 rfl) ?_
      refine lv_iload_n C.1 C.2.1 dX8_put_24 rfl (lv_at hl 1 rfl) ?_
      refine lv_iload_n C.1 C.2.1 dX8_put_25 rfl (lv_at hl 2 rfl) ?_
      refine lv_iload_n C.1 C.2.1 dX8_put_26 rfl (lv_at hl 3 rfl) ?_
      refine go_i hW (run_V (o := 0) (As := [.int d, .int f, .int i]) (rest := []) C hW (by decide) rfl rfl (c_X8_lacks l G q _ τ ξ d f i (((d).toInt).toNat) ((rfl : (d).toInt = (d).toInt).trans (by omega)) (by omega) (h_s d.toInt.toNat (by omega))) (cw_V 3 C bL_X8_145 bI_X8_lacks bV_X8_lacks bN_X8 bC_X8_lacks ⟨rfl, rfl⟩ (by decide +kernel) ⟨Nat.le_of_ble_eq_true rfl, Nat.le_of_ble_eq_true rfl⟩) rfl hl.1 rfl (Nat.le_of_ble_eq_true rfl) dX8_put_27 ⟨Nat.le_refl _, Nat.le_refl _⟩) (fun r_5 u_5 H locs hp_5 hW => ?_)
      rcases hp_5 with ⟨rfl, rfl, k_5⟩ | ⟨rfl, rfl, k_5_0, k_5_1⟩ | ⟨rfl, rfl, k_5_0, k_5_1, k_5_2, k_5_3⟩ | ⟨rfl, rfl, k_5_0, k_5_1, k_5_2⟩
      · skip
        have hW : WB G 33 q (eM G q τ ξ) s H locs := hW
        refine lv_istore (lv' := [(5, .int 1), (0, .ref (q 0)), (1, .int d), (2, .int f), (3, .int i), (4, .int v)]) C.1 C.2.1 dX8_put_30 hl (by decide) rfl (fun ls hl => ?_)
        refine lv_iload C.1 C.2.1 dX8_put_32 (lv_at hl 0 rfl) ?_
        refine lv_if_le C.1 C.2.1 (tgt := 44) dX8_put_34 (by decide) (fun c => absurd c (by decide)) (fun _ => ?_)
        refine lv_aload_n C.1 C.2.1 dX8_put_37 rfl (lv_at hl 1 rfl) ?_
        refine lv_iload C.1 C.2.1 dX8_put_38 (lv_at hl 0 rfl) ?_
        refine go_i hW (run_V (o := 0) (As := [.int 1]) (rest := []) C hW (by decide) rfl rfl (c_X8_meets l G q _ τ ξ 1  ) (cw_V 1 C bL_X8_141 bI_X8_meets bV_X8_meets bN_X8 bC_X8_meets ⟨rfl, rfl⟩ (by decide +kernel) ⟨Nat.le_of_ble_eq_true rfl, Nat.le_of_ble_eq_true rfl⟩) rfl hl.1 rfl (Nat.le_of_ble_eq_true rfl) dX8_put_40 ⟨Nat.le_refl _, Nat.le_refl _⟩) (fun r_7 u_7 H locs hp_7 hW => ?_)
        rcases hp_7 with ⟨rfl, rfl⟩
        have hW : WB G 33 q (eM G q (sg τ 1 1) ξ) s H locs := hW
        subst hQ
        exact r_iret ((sg τ 1 1), ξ) C hW hr hk dX8_put_43 (show sp_put τ d f i v = ((-10 - 1), (sg τ 1 1)) from by unfold sp_put nrw; (repeat (first | rw [if_pos (by omega)] | rw [if_neg (by omega)])); first | done | rfl)
      · skip
        have hW : WB G 33 q (eM G q τ ξ) s H locs := hW
        refine lv_istore (lv' := [(5, .int 3), (0, .ref (q 0)), (1, .int d), (2, .int f), (3, .int i), (4, .int v)]) C.1 C.2.1 dX8_put_30 hl (by decide) rfl (fun ls hl => ?_)
        refine lv_iload C.1 C.2.1 dX8_put_32 (lv_at hl 0 rfl) ?_
        refine lv_if_le C.1 C.2.1 (tgt := 44) dX8_put_34 (by decide) (fun c => absurd c (by decide)) (fun _ => ?_)
        refine lv_aload_n C.1 C.2.1 dX8_put_37 rfl (lv_at hl 1 rfl) ?_
        refine lv_iload C.1 C.2.1 dX8_put_38 (lv_at hl 0 rfl) ?_
        refine go_i hW (run_V (o := 0) (As := [.int 3]) (rest := []) C hW (by decide) rfl rfl (c_X8_meets l G q _ τ ξ 3  ) (cw_V 1 C bL_X8_141 bI_X8_meets bV_X8_meets bN_X8 bC_X8_meets ⟨rfl, rfl⟩ (by decide +kernel) ⟨Nat.le_of_ble_eq_true rfl, Nat.le_of_ble_eq_true rfl⟩) rfl hl.1 rfl (Nat.le_of_ble_eq_true rfl) dX8_put_40 ⟨Nat.le_refl _, Nat.le_refl _⟩) (fun r_9 u_9 H locs hp_9 hW => ?_)
        rcases hp_9 with ⟨rfl, rfl⟩
        have hW : WB G 33 q (eM G q (sg τ 1 3) ξ) s H locs := hW
        subst hQ
        exact r_iret ((sg τ 1 3), ξ) C hW hr hk dX8_put_43 (show sp_put τ d f i v = ((-10 - 3), (sg τ 1 3)) from by unfold sp_put nrw; (repeat (first | rw [if_pos (by omega)] | rw [if_neg (by omega)])); first | done | rfl)
      · skip
        have hW : WB G 33 q (eM G q τ ξ) s H locs := hW
        refine lv_istore (lv' := [(5, .int 0), (0, .ref (q 0)), (1, .int d), (2, .int f), (3, .int i), (4, .int v)]) C.1 C.2.1 dX8_put_30 hl (by decide) rfl (fun ls hl => ?_)
        refine lv_iload C.1 C.2.1 dX8_put_32 (lv_at hl 0 rfl) ?_
        refine lv_if_le C.1 C.2.1 (tgt := 44) dX8_put_34 (by decide) (fun _ => ?_) (fun c => absurd c (by decide))
        refine lv_aload_n C.1 C.2.1 dX8_put_44 rfl (lv_at hl 1 rfl) ?_
        refine mG_items C hW dX8_put_45 ?_
        refine lv_bipush C.1 C.2.1 (v := 100) dX8_put_48 (by decide) ?_
        refine lv_iload_n C.1 C.2.1 dX8_put_50 rfl (lv_at hl 2 rfl) ?_
        refine lv_imul C.1 C.2.1 dX8_put_51 ?_
        refine lv_iload_n C.1 C.2.1 dX8_put_52 rfl (lv_at hl 4 rfl) ?_
        refine lv_iadd C.1 C.2.1 dX8_put_53 ?_
        refine lv_iload_n C.1 C.2.1 dX8_put_54 rfl (lv_at hl 3 rfl) ?_
        refine lv_if_ne C.1 C.2.1 (tgt := 64) dX8_put_55 (by decide) (fun c_11 => ?_) (fun c_11 => ?_)
        · skip
          have k_11 := (tn_eq (rfl : (f).toInt = (f).toInt) (show (0 : Int32).toInt = 0 from by decide)).mp c_11
          refine lv_iload_n C.1 C.2.1 dX8_put_64 rfl (lv_at hl 3 rfl) ?_
          refine lv_iconst C.1 C.2.1 (v := 1) dX8_put_65 (by decide) ?_
          refine lv_icmp_ne C.1 C.2.1 (tgt := 75) dX8_put_66 (by decide) (fun c_12 => ?_) (fun c_12 => ?_)
          · skip
            have k_12 := (tn_eq (rfl : (f).toInt = (f).toInt) (show (1 : Int32).toInt = 1 from by decide)).mp c_12
            refine lv_iload C.1 C.2.1 dX8_put_75 (lv_at hl 5 rfl) ?_
            refine mS_items C hW ((((100 * (d).toInt) + (i).toInt)).toNat) ((ti_add (ti_mul (show (100 : Int32).toInt = 100 from by decide) (rfl : (d).toInt = (d).toInt) (by omega) (by omega)) (rfl : (i).toInt = (i).toInt) (by omega) (by omega)).trans (by omega)) (by omega) dX8_put_77 (fun H locs hW => ?_)
            refine lv_iconst C.1 C.2.1 (v := 1) dX8_put_78 (by decide) ?_
            subst hQ
            exact r_iret ((sa τ 7 ((((100 * (d).toInt) + (i).toInt)).toNat) v), ξ) C hW hr hk dX8_put_79 (show sp_put τ d f i v = (1, (sa τ 7 ((((100 * (d).toInt) + (i).toInt)).toNat) v)) from by unfold sp_put nrw; (repeat (first | rw [if_pos (by omega)] | rw [if_neg (by omega)])); first | done | rfl)
          · skip
            have k_12 := (tc_eq (rfl : (f).toInt = (f).toInt) (show (1 : Int32).toInt = 1 from by decide)).mp c_12
            refine lv_iload C.1 C.2.1 dX8_put_69 (lv_at hl 5 rfl) ?_
            refine lv_i2s C.1 C.2.1 dX8_put_71 rfl ?_
            refine lv_goto C.1 C.2.1 (tgt := 77) dX8_put_72 (by decide) ?_
            refine mS_items C hW ((((100 * (d).toInt) + (i).toInt)).toNat) ((ti_add (ti_mul (show (100 : Int32).toInt = 100 from by decide) (rfl : (d).toInt = (d).toInt) (by omega) (by omega)) (rfl : (i).toInt = (i).toInt) (by omega) (by omega)).trans (by omega)) (by omega) dX8_put_77 (fun H locs hW => ?_)
            refine lv_iconst C.1 C.2.1 (v := 1) dX8_put_78 (by decide) ?_
            subst hQ
            exact r_iret ((sa τ 7 ((((100 * (d).toInt) + (i).toInt)).toNat) (v.toInt16.toInt32)), ξ) C hW hr hk dX8_put_79 (show sp_put τ d f i v = (1, (sa τ 7 ((((100 * (d).toInt) + (i).toInt)).toNat) (v.toInt16.toInt32))) from by unfold sp_put nrw; (repeat (first | rw [if_pos (by omega)] | rw [if_neg (by omega)])); first | done | rfl)
        · skip
          have k_11 := (tc_eq (rfl : (f).toInt = (f).toInt) (show (0 : Int32).toInt = 0 from by decide)).mp c_11
          refine lv_iload C.1 C.2.1 dX8_put_58 (lv_at hl 5 rfl) ?_
          refine lv_i2b C.1 C.2.1 dX8_put_60 rfl ?_
          refine lv_goto C.1 C.2.1 (tgt := 77) dX8_put_61 (by decide) ?_
          refine mS_items C hW ((((100 * (d).toInt) + (i).toInt)).toNat) ((ti_add (ti_mul (show (100 : Int32).toInt = 100 from by decide) (rfl : (d).toInt = (d).toInt) (by omega) (by omega)) (rfl : (i).toInt = (i).toInt) (by omega) (by omega)).trans (by omega)) (by omega) dX8_put_77 (fun H locs hW => ?_)
          refine lv_iconst C.1 C.2.1 (v := 1) dX8_put_78 (by decide) ?_
          subst hQ
          exact r_iret ((sa τ 7 ((((100 * (d).toInt) + (i).toInt)).toNat) (v.toInt8.toInt32)), ξ) C hW hr hk dX8_put_79 (show sp_put τ d f i v = (1, (sa τ 7 ((((100 * (d).toInt) + (i).toInt)).toNat) (v.toInt8.toInt32))) from by unfold sp_put nrw; (repeat (first | rw [if_pos (by omega)] | rw [if_neg (by omega)])); first | done | rfl)
      · skip
        have hW : WB G 33 q (eM G q τ ξ) s H locs := hW
        refine lv_istore (lv' := [(5, .int 2), (0, .ref (q 0)), (1, .int d), (2, .int f), (3, .int i), (4, .int v)]) C.1 C.2.1 dX8_put_30 hl (by decide) rfl (fun ls hl => ?_)
        refine lv_iload C.1 C.2.1 dX8_put_32 (lv_at hl 0 rfl) ?_
        refine lv_if_le C.1 C.2.1 (tgt := 44) dX8_put_34 (by decide) (fun c => absurd c (by decide)) (fun _ => ?_)
        refine lv_aload_n C.1 C.2.1 dX8_put_37 rfl (lv_at hl 1 rfl) ?_
        refine lv_iload C.1 C.2.1 dX8_put_38 (lv_at hl 0 rfl) ?_
        refine go_i hW (run_V (o := 0) (As := [.int 2]) (rest := []) C hW (by decide) rfl rfl (c_X8_meets l G q _ τ ξ 2  ) (cw_V 1 C bL_X8_141 bI_X8_meets bV_X8_meets bN_X8 bC_X8_meets ⟨rfl, rfl⟩ (by decide +kernel) ⟨Nat.le_of_ble_eq_true rfl, Nat.le_of_ble_eq_true rfl⟩) rfl hl.1 rfl (Nat.le_of_ble_eq_true rfl) dX8_put_40 ⟨Nat.le_refl _, Nat.le_refl _⟩) (fun r_14 u_14 H locs hp_14 hW => ?_)
        rcases hp_14 with ⟨rfl, rfl⟩
        have hW : WB G 33 q (eM G q (sg τ 1 2) ξ) s H locs := hW
        subst hQ
        exact r_iret ((sg τ 1 2), ξ) C hW hr hk dX8_put_43 (show sp_put τ d f i v = ((-10 - 2), (sg τ 1 2)) from by unfold sp_put nrw; (repeat (first | rw [if_pos (by omega)] | rw [if_neg (by omega)])); first | done | rfl)
    · skip
      have hW : WB G 33 q (eM G q τ ξ) s H locs := hW
      refine lv_if_ne C.1 C.2.1 (tgt := 23) dX8_put_17 (by decide) (fun c => absurd c (by decide)) (fun _ => ?_)
      refine lv_bipush C.1 C.2.1 (v := (-2)) dX8_put_20 (by decide) ?_
      subst hQ
      exact r_iret (τ, ξ) C hW hr hk dX8_put_22 (show sp_put τ d f i v = ((-2), τ) from by unfold sp_put nrw; (repeat (first | rw [if_pos (by omega)] | rw [if_neg (by omega)])); first | done | rfl)
  · skip
    have hW : WB G 33 q (eM G q τ ξ) s H locs := hW
    refine lv_if_eq C.1 C.2.1 (tgt := 20) dX8_put_5 (by decide) (fun _ => ?_) (fun c => absurd c (by decide))
    refine lv_bipush C.1 C.2.1 (v := (-2)) dX8_put_20 (by decide) ?_
    subst hQ
    exact r_iret (τ, ξ) C hW hr hk dX8_put_22 (show sp_put τ d f i v = ((-2), τ) from by unfold sp_put nrw; (repeat (first | rw [if_pos (by omega)] | rw [if_neg (by omega)])); first | done | rfl)
set_option maxHeartbeats 4000000 in
set_option maxRecDepth 100000 in
theorem c_X8_get (l : Launch) (G : GG) (q : Nat → Nat) (sz : Nat) (τ ξ : ST) (d : Int32) (f : Int32) (i : Int32) (h_d : 0 ≤ (τ.1 0).toInt ∧ (τ.1 0).toInt ≤ 6) (h_s : ∀ d : Nat, d < 6 → 0 ≤ (τ.2.1 6 d).toInt ∧ (τ.2.1 6 d).toInt ≤ 100) : Met l yX8_get (WSb yX8_get cX8_get 5 (some .int)) (rmA 2 48) (va_Pc [.ref (q 0), .int d, .int f, .int i] (PW G 33 q sz (eM G q τ ξ))) (va_Qi (fun (r : Int32) (u : (ST × ST)) => sp_get τ d f i = (r, u.1)) (fun u => BW G 33 q (eM G q u.1 u.2)) (FA 33 q sz)) 0 0 (FA 33 q sz) := by
  refine Met_B (own := RX8) rfl (by decide) (Nat.le_of_ble_eq_true rfl) (fun p e s m args below meth c ls hsz C hW hr hk hl QQ hQ => ?_)
  subst hsz
  have hl : lv_has ls 5 [(0, .ref (q 0)), (1, .int d), (2, .int f), (3, .int i)] := hl
  have l1 := h_s d.toInt.toNat
  refine lv_aload_n C.1 C.2.1 dX8_get_0 rfl (lv_at hl 0 rfl) ?_
  refine lv_iload_n C.1 C.2.1 dX8_get_1 rfl (lv_at hl 1 rfl) ?_
  refine go_i hW (run_V (o := 0) (As := [.int d]) (rest := []) C hW (by decide) rfl rfl (c_X8_isDish l G q _ τ ξ d  h_d) (cw_V 1 C bL_X8_129 bI_X8_isDish bV_X8_isDish bN_X8 bC_X8_isDish ⟨rfl, rfl⟩ (by decide +kernel) ⟨Nat.le_of_ble_eq_true rfl, Nat.le_of_ble_eq_true rfl⟩) rfl hl.1 rfl (Nat.le_of_ble_eq_true rfl) dX8_get_2 ⟨Nat.le_refl _, Nat.le_refl _⟩) (fun r_1 u_1 H locs hp_1 hW => ?_)
  rcases hp_1 with ⟨rfl, rfl, k_1_0, k_1_1⟩ | ⟨rfl, rfl, k_1⟩
  · skip
    have hW : WB G 33 q (eM G q τ ξ) s H locs := hW
    refine lv_if_eq C.1 C.2.1 (tgt := 20) dX8_get_5 (by decide) (fun c => absurd c (by decide)) (fun _ => ?_)
    refine lv_iload_n C.1 C.2.1 dX8_get_8 rfl (lv_at hl 2 rfl) ?_
    refine lv_i2l C.1 C.2.1 dX8_get_9 rfl ?_
    refine lv_lconst C.1 C.2.1 (v := 0) dX8_get_10 (by decide) ?_
    refine lv_ldc2 C.1 C.2.1 C.2.2.2.1 (C.2.2.2.2.1 _ bQ_X8_139) dX8_get_11 ?_
    refine go_i hW (run_S (As := [.long ((f).toInt64), .long 0, .long 2]) (rest := []) C hW (c_X8_in l G q _ τ ξ ((f).toInt64) 0 2 ((f).toInt) 0 2 (ti_i2l (rfl : (f).toInt = (f).toInt)) (show (0 : Int64).toInt = 0 from by decide) (show (2 : Int64).toInt = 2 from by decide)) (cw_S 3 C bL_X8_121 bS_X8_in bN_X8 bC_X8_in ⟨rfl, rfl⟩ (by decide +kernel) ⟨Nat.le_of_ble_eq_true rfl, Nat.le_of_ble_eq_true rfl⟩) rfl hl.1 rfl (Nat.le_of_ble_eq_true rfl) dX8_get_14 ⟨Nat.le_refl _, Nat.le_refl _⟩) (fun r_3 u_3 H locs hp_3 hW => ?_)
    rcases hp_3 with ⟨rfl, rfl, k_3_0, k_3_1⟩ | ⟨rfl, rfl, k_3⟩
    · skip
      have hW : WB G 33 q (eM G q τ ξ) s H locs := hW
      refine lv_if_ne C.1 C.2.1 (tgt := 23) dX8_get_17 (by decide) (fun _ => ?_) (fun c => absurd c (by decide))
      refine lv_aload_n C.1 C.2.1 dX8_get_23 rfl (lv_at hl 0 rfl) ?_
      refine lv_iload_n C.1 C.2.1 dX8_get_24 rfl (lv_at hl 1 rfl) ?_
      refine lv_iload_n C.1 C.2.1 dX8_get_25 rfl (lv_at hl 2 rfl) ?_
      refine lv_iload_n C.1 C.2.1 dX8_get_26 rfl (lv_at hl 3 rfl) ?_
      refine go_i hW (run_V (o := 0) (As := [.int d, .int f, .int i]) (rest := []) C hW (by decide) rfl rfl (c_X8_lacks l G q _ τ ξ d f i (((d).toInt).toNat) ((rfl : (d).toInt = (d).toInt).trans (by omega)) (by omega) (h_s d.toInt.toNat (by omega))) (cw_V 3 C bL_X8_145 bI_X8_lacks bV_X8_lacks bN_X8 bC_X8_lacks ⟨rfl, rfl⟩ (by decide +kernel) ⟨Nat.le_of_ble_eq_true rfl, Nat.le_of_ble_eq_true rfl⟩) rfl hl.1 rfl (Nat.le_of_ble_eq_true rfl) dX8_get_27 ⟨Nat.le_refl _, Nat.le_refl _⟩) (fun r_5 u_5 H locs hp_5 hW => ?_)
      rcases hp_5 with ⟨rfl, rfl, k_5⟩ | ⟨rfl, rfl, k_5_0, k_5_1⟩ | ⟨rfl, rfl, k_5_0, k_5_1, k_5_2, k_5_3⟩ | ⟨rfl, rfl, k_5_0, k_5_1, k_5_2⟩
      · skip
        have hW : WB G 33 q (eM G q τ ξ) s H locs := hW
        refine lv_istore (lv' := [(4, .int 1), (0, .ref (q 0)), (1, .int d), (2, .int f), (3, .int i)]) C.1 C.2.1 dX8_get_30 hl (by decide) rfl (fun ls hl => ?_)
        refine lv_iload C.1 C.2.1 dX8_get_32 (lv_at hl 0 rfl) ?_
        refine lv_if_le C.1 C.2.1 (tgt := 46) dX8_get_34 (by decide) (fun c => absurd c (by decide)) (fun _ => ?_)
        refine lv_aload_n C.1 C.2.1 dX8_get_37 rfl (lv_at hl 1 rfl) ?_
        refine lv_iload C.1 C.2.1 dX8_get_38 (lv_at hl 0 rfl) ?_
        refine mP_finding C hW dX8_get_40 (fun H locs hW => ?_)
        refine lv_ldc C.1 C.2.1 C.2.2.2.1 (C.2.2.2.2.1 _ bQ_X8_149) dX8_get_43 ?_
        subst hQ
        exact r_iret ((sg τ 1 1), ξ) C hW hr hk dX8_get_45 (show sp_get τ d f i = ((-2147483648), (sg τ 1 1)) from by unfold sp_get; (repeat (first | rw [if_pos (by omega)] | rw [if_neg (by omega)])); first | done | rfl)
      · skip
        have hW : WB G 33 q (eM G q τ ξ) s H locs := hW
        refine lv_istore (lv' := [(4, .int 3), (0, .ref (q 0)), (1, .int d), (2, .int f), (3, .int i)]) C.1 C.2.1 dX8_get_30 hl (by decide) rfl (fun ls hl => ?_)
        refine lv_iload C.1 C.2.1 dX8_get_32 (lv_at hl 0 rfl) ?_
        refine lv_if_le C.1 C.2.1 (tgt := 46) dX8_get_34 (by decide) (fun c => absurd c (by decide)) (fun _ => ?_)
        refine lv_aload_n C.1 C.2.1 dX8_get_37 rfl (lv_at hl 1 rfl) ?_
        refine lv_iload C.1 C.2.1 dX8_get_38 (lv_at hl 0 rfl) ?_
        refine mP_finding C hW dX8_get_40 (fun H locs hW => ?_)
        refine lv_ldc C.1 C.2.1 C.2.2.2.1 (C.2.2.2.2.1 _ bQ_X8_149) dX8_get_43 ?_
        subst hQ
        exact r_iret ((sg τ 1 3), ξ) C hW hr hk dX8_get_45 (show sp_get τ d f i = ((-2147483648), (sg τ 1 3)) from by unfold sp_get; (repeat (first | rw [if_pos (by omega)] | rw [if_neg (by omega)])); first | done | rfl)
      · skip
        have hW : WB G 33 q (eM G q τ ξ) s H locs := hW
        refine lv_istore (lv' := [(4, .int 0), (0, .ref (q 0)), (1, .int d), (2, .int f), (3, .int i)]) C.1 C.2.1 dX8_get_30 hl (by decide) rfl (fun ls hl => ?_)
        refine lv_iload C.1 C.2.1 dX8_get_32 (lv_at hl 0 rfl) ?_
        refine lv_if_le C.1 C.2.1 (tgt := 46) dX8_get_34 (by decide) (fun _ => ?_) (fun c => absurd c (by decide))
        refine lv_aload_n C.1 C.2.1 dX8_get_46 rfl (lv_at hl 1 rfl) ?_
        refine mG_items C hW dX8_get_47 ?_
        refine lv_bipush C.1 C.2.1 (v := 100) dX8_get_50 (by decide) ?_
        refine lv_iload_n C.1 C.2.1 dX8_get_52 rfl (lv_at hl 2 rfl) ?_
        refine lv_imul C.1 C.2.1 dX8_get_53 ?_
        refine lv_iload_n C.1 C.2.1 dX8_get_54 rfl (lv_at hl 4 rfl) ?_
        refine lv_iadd C.1 C.2.1 dX8_get_55 ?_
        refine mL_items C hW ((((100 * (d).toInt) + (i).toInt)).toNat) ((ti_add (ti_mul (show (100 : Int32).toInt = 100 from by decide) (rfl : (d).toInt = (d).toInt) (by omega) (by omega)) (rfl : (i).toInt = (i).toInt) (by omega) (by omega)).trans (by omega)) (by omega) (v := (τ.2.1 7 ((((100 * (d).toInt) + (i).toInt)).toNat))) rfl dX8_get_56 ?_
        subst hQ
        exact r_iret (τ, ξ) C hW hr hk dX8_get_57 (show sp_get τ d f i = ((τ.2.1 7 ((((100 * (d).toInt) + (i).toInt)).toNat)), τ) from by unfold sp_get; (repeat (first | rw [if_pos (by omega)] | rw [if_neg (by omega)])); first | done | rfl)
      · skip
        have hW : WB G 33 q (eM G q τ ξ) s H locs := hW
        refine lv_istore (lv' := [(4, .int 2), (0, .ref (q 0)), (1, .int d), (2, .int f), (3, .int i)]) C.1 C.2.1 dX8_get_30 hl (by decide) rfl (fun ls hl => ?_)
        refine lv_iload C.1 C.2.1 dX8_get_32 (lv_at hl 0 rfl) ?_
        refine lv_if_le C.1 C.2.1 (tgt := 46) dX8_get_34 (by decide) (fun c => absurd c (by decide)) (fun _ => ?_)
        refine lv_aload_n C.1 C.2.1 dX8_get_37 rfl (lv_at hl 1 rfl) ?_
        refine lv_iload C.1 C.2.1 dX8_get_38 (lv_at hl 0 rfl) ?_
        refine mP_finding C hW dX8_get_40 (fun H locs hW => ?_)
        refine lv_ldc C.1 C.2.1 C.2.2.2.1 (C.2.2.2.2.1 _ bQ_X8_149) dX8_get_43 ?_
        subst hQ
        exact r_iret ((sg τ 1 2), ξ) C hW hr hk dX8_get_45 (show sp_get τ d f i = ((-2147483648), (sg τ 1 2)) from by unfold sp_get; (repeat (first | rw [if_pos (by omega)] | rw [if_neg (by omega)])); first | done | rfl)
    · skip
      have hW : WB G 33 q (eM G q τ ξ) s H locs := hW
      refine lv_if_ne C.1 C.2.1 (tgt := 23) dX8_get_17 (by decide) (fun c => absurd c (by decide)) (fun _ => ?_)
      refine lv_ldc C.1 C.2.1 C.2.2.2.1 (C.2.2.2.2.1 _ bQ_X8_149) dX8_get_20 ?_
      subst hQ
      exact r_iret (τ, ξ) C hW hr hk dX8_get_22 (show sp_get τ d f i = ((-2147483648), τ) from by unfold sp_get; (repeat (first | rw [if_pos (by omega)] | rw [if_neg (by omega)])); first | done | rfl)
  · skip
    have hW : WB G 33 q (eM G q τ ξ) s H locs := hW
    refine lv_if_eq C.1 C.2.1 (tgt := 20) dX8_get_5 (by decide) (fun _ => ?_) (fun c => absurd c (by decide))
    refine lv_ldc C.1 C.2.1 C.2.2.2.1 (C.2.2.2.2.1 _ bQ_X8_149) dX8_get_20 ?_
    subst hQ
    exact r_iret (τ, ξ) C hW hr hk dX8_get_22 (show sp_get τ d f i = ((-2147483648), τ) from by unfold sp_get; (repeat (first | rw [if_pos (by omega)] | rw [if_neg (by omega)])); first | done | rfl)
set_option maxHeartbeats 4000000 in
set_option maxRecDepth 100000 in
theorem c_X8_flag (l : Launch) (G : GG) (q : Nat → Nat) (sz : Nat) (τ ξ : ST) (d : Int32) (x : Int32) (y : Int32) (h_d : 0 ≤ (τ.1 0).toInt ∧ (τ.1 0).toInt ≤ 6) (h_f : 0 ≤ (τ.1 2).toInt ∧ (τ.1 2).toInt ≤ 40) : Met l yX8_flag (WSb yX8_flag cX8_flag 4 (some .int)) (rmA 2 46) (va_Pc [.ref (q 0), .int d, .int x, .int y] (PW G 33 q sz (eM G q τ ξ))) (va_Qi (fun (r : Int32) (u : (ST × ST)) => sp_flag τ d x y = (r, u.1)) (fun u => BW G 33 q (eM G q u.1 u.2)) (FA 33 q sz)) 0 0 (FA 33 q sz) := by
  refine Met_B (own := RX8) rfl (by decide) (Nat.le_of_ble_eq_true rfl) (fun p e s m args below meth c ls hsz C hW hr hk hl QQ hQ => ?_)
  subst hsz
  have hl : lv_has ls 4 [(0, .ref (q 0)), (1, .int d), (2, .int x), (3, .int y)] := hl
  refine lv_aload_n C.1 C.2.1 dX8_flag_0 rfl (lv_at hl 0 rfl) ?_
  refine lv_iload_n C.1 C.2.1 dX8_flag_1 rfl (lv_at hl 1 rfl) ?_
  refine go_i hW (run_V (o := 0) (As := [.int d]) (rest := []) C hW (by decide) rfl rfl (c_X8_isDish l G q _ τ ξ d  h_d) (cw_V 1 C bL_X8_129 bI_X8_isDish bV_X8_isDish bN_X8 bC_X8_isDish ⟨rfl, rfl⟩ (by decide +kernel) ⟨Nat.le_of_ble_eq_true rfl, Nat.le_of_ble_eq_true rfl⟩) rfl hl.1 rfl (Nat.le_of_ble_eq_true rfl) dX8_flag_2 ⟨Nat.le_refl _, Nat.le_refl _⟩) (fun r_1 u_1 H locs hp_1 hW => ?_)
  rcases hp_1 with ⟨rfl, rfl, k_1_0, k_1_1⟩ | ⟨rfl, rfl, k_1⟩
  · skip
    have hW : WB G 33 q (eM G q τ ξ) s H locs := hW
    refine lv_if_eq C.1 C.2.1 (tgt := 23) dX8_flag_5 (by decide) (fun c => absurd c (by decide)) (fun _ => ?_)
    refine lv_iload_n C.1 C.2.1 dX8_flag_8 rfl (lv_at hl 2 rfl) ?_
    refine lv_if_lt C.1 C.2.1 (tgt := 23) dX8_flag_9 (by decide) (fun c_3 => ?_) (fun c_3 => ?_)
    · skip
      have k_3 := (tc_lt (rfl : (x).toInt = (x).toInt) (show (0 : Int32).toInt = 0 from by decide)).mp c_3
      refine lv_bipush C.1 C.2.1 (v := (-2)) dX8_flag_23 (by decide) ?_
      subst hQ
      exact r_iret (τ, ξ) C hW hr hk dX8_flag_25 (show sp_flag τ d x y = ((-2), τ) from by unfold sp_flag; (repeat (first | rw [if_pos (by omega)] | rw [if_neg (by omega)])); first | done | rfl)
    · skip
      have k_3 := (tn_lt (rfl : (x).toInt = (x).toInt) (show (0 : Int32).toInt = 0 from by decide)).mp c_3
      refine lv_iload_n C.1 C.2.1 dX8_flag_12 rfl (lv_at hl 2 rfl) ?_
      refine lv_iload_n C.1 C.2.1 dX8_flag_13 rfl (lv_at hl 3 rfl) ?_
      refine lv_icmp_gt C.1 C.2.1 (tgt := 23) dX8_flag_14 (by decide) (fun c_4 => ?_) (fun c_4 => ?_)
      · skip
        have k_4 := (tc_lt (rfl : (y).toInt = (y).toInt) (rfl : (x).toInt = (x).toInt)).mp c_4
        refine lv_bipush C.1 C.2.1 (v := (-2)) dX8_flag_23 (by decide) ?_
        subst hQ
        exact r_iret (τ, ξ) C hW hr hk dX8_flag_25 (show sp_flag τ d x y = ((-2), τ) from by unfold sp_flag; (repeat (first | rw [if_pos (by omega)] | rw [if_neg (by omega)])); first | done | rfl)
      · skip
        have k_4 := (tn_lt (rfl : (y).toInt = (y).toInt) (rfl : (x).toInt = (x).toInt)).mp c_4
        refine lv_iload_n C.1 C.2.1 dX8_flag_17 rfl (lv_at hl 3 rfl) ?_
        refine lv_bipush C.1 C.2.1 (v := 99) dX8_flag_18 (by decide) ?_
        refine lv_icmp_le C.1 C.2.1 (tgt := 26) dX8_flag_20 (by decide) (fun c_5 => ?_) (fun c_5 => ?_)
        · skip
          have k_5 := (tc_le (rfl : (y).toInt = (y).toInt) (show (99 : Int32).toInt = 99 from by decide)).mp c_5
          refine lv_aload_n C.1 C.2.1 dX8_flag_26 rfl (lv_at hl 0 rfl) ?_
          refine mG_flags C hW (v := (τ.1 2)) rfl dX8_flag_27 ?_
          refine lv_bipush C.1 C.2.1 (v := 40) dX8_flag_30 (by decide) ?_
          refine lv_icmp_ne C.1 C.2.1 (tgt := 38) dX8_flag_32 (by decide) (fun c_6 => ?_) (fun c_6 => ?_)
          · skip
            have k_6 := (tn_eq (rfl : ((τ.1 2)).toInt = ((τ.1 2)).toInt) (show (40 : Int32).toInt = 40 from by decide)).mp c_6
            refine lv_aload_n C.1 C.2.1 dX8_flag_38 rfl (lv_at hl 0 rfl) ?_
            refine mG_flagDish C hW dX8_flag_39 ?_
            refine lv_aload_n C.1 C.2.1 dX8_flag_42 rfl (lv_at hl 0 rfl) ?_
            refine mG_flags C hW (v := (τ.1 2)) rfl dX8_flag_43 ?_
            refine lv_iload_n C.1 C.2.1 dX8_flag_46 rfl (lv_at hl 1 rfl) ?_
            refine mS_flagDish C hW ((((τ.1 2)).toInt).toNat) ((rfl : ((τ.1 2)).toInt = ((τ.1 2)).toInt).trans (by omega)) (by omega) dX8_flag_47 (fun H locs hW => ?_)
            refine lv_aload_n C.1 C.2.1 dX8_flag_48 rfl (lv_at hl 0 rfl) ?_
            refine mG_flagFrom C hW dX8_flag_49 ?_
            refine lv_aload_n C.1 C.2.1 dX8_flag_52 rfl (lv_at hl 0 rfl) ?_
            refine mG_flags C hW (v := (τ.1 2)) rfl dX8_flag_53 ?_
            refine lv_iload_n C.1 C.2.1 dX8_flag_56 rfl (lv_at hl 2 rfl) ?_
            refine mS_flagFrom C hW ((((τ.1 2)).toInt).toNat) ((rfl : ((τ.1 2)).toInt = ((τ.1 2)).toInt).trans (by omega)) (by omega) dX8_flag_57 (fun H locs hW => ?_)
            refine lv_aload_n C.1 C.2.1 dX8_flag_58 rfl (lv_at hl 0 rfl) ?_
            refine mG_flagTo C hW dX8_flag_59 ?_
            refine lv_aload_n C.1 C.2.1 dX8_flag_62 rfl (lv_at hl 0 rfl) ?_
            refine mG_flags C hW (v := (τ.1 2)) rfl dX8_flag_63 ?_
            refine lv_iload_n C.1 C.2.1 dX8_flag_66 rfl (lv_at hl 3 rfl) ?_
            refine mS_flagTo C hW ((((τ.1 2)).toInt).toNat) ((rfl : ((τ.1 2)).toInt = ((τ.1 2)).toInt).trans (by omega)) (by omega) dX8_flag_67 (fun H locs hW => ?_)
            refine lv_aload_n C.1 C.2.1 dX8_flag_68 rfl (lv_at hl 0 rfl) ?_
            refine lv_dup C.1 C.2.1 dX8_flag_69 rfl ?_
            refine mG_flags C hW (v := (τ.1 2)) rfl dX8_flag_70 ?_
            refine lv_iconst C.1 C.2.1 (v := 1) dX8_flag_73 (by decide) ?_
            refine lv_iadd C.1 C.2.1 dX8_flag_74 ?_
            refine mP_flags C hW dX8_flag_75 (fun H locs hW => ?_)
            refine lv_aload_n C.1 C.2.1 dX8_flag_78 rfl (lv_at hl 0 rfl) ?_
            refine mG_flags C hW (v := ((τ.1 2) + 1)) rfl dX8_flag_79 ?_
            subst hQ
            exact r_iret ((sg (sa (sa (sa τ 8 ((((τ.1 2)).toInt).toNat) d) 9 ((((τ.1 2)).toInt).toNat) x) 10 ((((τ.1 2)).toInt).toNat) y) 2 ((τ.1 2) + 1)), ξ) C hW hr hk dX8_flag_82 (show sp_flag τ d x y = (((τ.1 2) + 1), (sg (sa (sa (sa τ 8 ((((τ.1 2)).toInt).toNat) d) 9 ((((τ.1 2)).toInt).toNat) x) 10 ((((τ.1 2)).toInt).toNat) y) 2 ((τ.1 2) + 1))) from by unfold sp_flag; (repeat (first | rw [if_pos (by omega)] | rw [if_neg (by omega)])); first | done | rfl)
          · skip
            have k_6 := (tc_eq (rfl : ((τ.1 2)).toInt = ((τ.1 2)).toInt) (show (40 : Int32).toInt = 40 from by decide)).mp c_6
            refine lv_bipush C.1 C.2.1 (v := (-3)) dX8_flag_35 (by decide) ?_
            subst hQ
            exact r_iret (τ, ξ) C hW hr hk dX8_flag_37 (show sp_flag τ d x y = ((-3), τ) from by unfold sp_flag; (repeat (first | rw [if_pos (by omega)] | rw [if_neg (by omega)])); first | done | rfl)
        · skip
          have k_5 := (tn_le (rfl : (y).toInt = (y).toInt) (show (99 : Int32).toInt = 99 from by decide)).mp c_5
          refine lv_bipush C.1 C.2.1 (v := (-2)) dX8_flag_23 (by decide) ?_
          subst hQ
          exact r_iret (τ, ξ) C hW hr hk dX8_flag_25 (show sp_flag τ d x y = ((-2), τ) from by unfold sp_flag; (repeat (first | rw [if_pos (by omega)] | rw [if_neg (by omega)])); first | done | rfl)
  · skip
    have hW : WB G 33 q (eM G q τ ξ) s H locs := hW
    refine lv_if_eq C.1 C.2.1 (tgt := 23) dX8_flag_5 (by decide) (fun _ => ?_) (fun c => absurd c (by decide))
    refine lv_bipush C.1 C.2.1 (v := (-2)) dX8_flag_23 (by decide) ?_
    subst hQ
    exact r_iret (τ, ξ) C hW hr hk dX8_flag_25 (show sp_flag τ d x y = ((-2), τ) from by unfold sp_flag; (repeat (first | rw [if_pos (by omega)] | rw [if_neg (by omega)])); first | done | rfl)
set_option maxHeartbeats 4000000 in
set_option maxRecDepth 100000 in
theorem c_X8_unflag (l : Launch) (G : GG) (q : Nat → Nat) (sz : Nat) (τ ξ : ST) (h_f : 0 ≤ (τ.1 2).toInt ∧ (τ.1 2).toInt ≤ 40) : Met l yX8_unflag (WSb yX8_unflag cX8_unflag 1 (some .int)) (rmA 0 0) (va_Pc [.ref (q 0)] (PW G 33 q sz (eM G q τ ξ))) (va_Qi (fun (r : Int32) (u : (ST × ST)) => sp_unflag τ = (r, u.1)) (fun u => BW G 33 q (eM G q u.1 u.2)) (FA 33 q sz)) 0 0 (FA 33 q sz) := by
  refine Met_B (own := RX8) rfl (by decide) (Nat.le_of_ble_eq_true rfl) (fun p e s m args below meth c ls hsz C hW hr hk hl QQ hQ => ?_)
  subst hsz
  have hl : lv_has ls 1 [(0, .ref (q 0))] := hl
  refine lv_aload_n C.1 C.2.1 dX8_unflag_0 rfl (lv_at hl 0 rfl) ?_
  refine mG_flags C hW (v := (τ.1 2)) rfl dX8_unflag_1 ?_
  refine lv_if_ne C.1 C.2.1 (tgt := 10) dX8_unflag_4 (by decide) (fun c_1 => ?_) (fun c_1 => ?_)
  · skip
    have k_1 := (tn_eq (rfl : ((τ.1 2)).toInt = ((τ.1 2)).toInt) (show (0 : Int32).toInt = 0 from by decide)).mp c_1
    refine lv_aload_n C.1 C.2.1 dX8_unflag_10 rfl (lv_at hl 0 rfl) ?_
    refine lv_dup C.1 C.2.1 dX8_unflag_11 rfl ?_
    refine mG_flags C hW (v := (τ.1 2)) rfl dX8_unflag_12 ?_
    refine lv_iconst C.1 C.2.1 (v := 1) dX8_unflag_15 (by decide) ?_
    refine lv_isub C.1 C.2.1 dX8_unflag_16 ?_
    refine mP_flags C hW dX8_unflag_17 (fun H locs hW => ?_)
    refine lv_aload_n C.1 C.2.1 dX8_unflag_20 rfl (lv_at hl 0 rfl) ?_
    refine mG_flags C hW (v := ((τ.1 2) - 1)) rfl dX8_unflag_21 ?_
    subst hQ
    exact r_iret ((sg τ 2 ((τ.1 2) - 1)), ξ) C hW hr hk dX8_unflag_24 (show sp_unflag τ  = (((τ.1 2) - 1), (sg τ 2 ((τ.1 2) - 1))) from by unfold sp_unflag; (repeat (first | rw [if_pos (by omega)] | rw [if_neg (by omega)])); first | done | rfl)
  · skip
    have k_1 := (tc_eq (rfl : ((τ.1 2)).toInt = ((τ.1 2)).toInt) (show (0 : Int32).toInt = 0 from by decide)).mp c_1
    refine lv_bipush C.1 C.2.1 (v := (-4)) dX8_unflag_7 (by decide) ?_
    subst hQ
    exact r_iret (τ, ξ) C hW hr hk dX8_unflag_9 (show sp_unflag τ  = ((-4), τ) from by unfold sp_unflag; (repeat (first | rw [if_pos (by omega)] | rw [if_neg (by omega)])); first | done | rfl)
set_option maxHeartbeats 4000000 in
set_option maxRecDepth 100000 in
theorem c_X8_point (l : Launch) (G : GG) (q : Nat → Nat) (sz : Nat) (τ ξ : ST) (x : Int32) (y : Int32) (f : Int32) (h_p : 0 ≤ (τ.1 3).toInt ∧ (τ.1 3).toInt ≤ 10) : Met l yX8_point (WSb yX8_point cX8_point 4 (some .int)) (rmA 2 46) (va_Pc [.ref (q 0), .int x, .int y, .int f] (PW G 33 q sz (eM G q τ ξ))) (va_Qi (fun (r : Int32) (u : (ST × ST)) => sp_point τ x y f = (r, u.1)) (fun u => BW G 33 q (eM G q u.1 u.2)) (FA 33 q sz)) 0 0 (FA 33 q sz) := by
  refine Met_B (own := RX8) rfl (by decide) (Nat.le_of_ble_eq_true rfl) (fun p e s m args below meth c ls hsz C hW hr hk hl QQ hQ => ?_)
  subst hsz
  have hl : lv_has ls 4 [(0, .ref (q 0)), (1, .int x), (2, .int y), (3, .int f)] := hl
  refine lv_iload_n C.1 C.2.1 dX8_point_0 rfl (lv_at hl 1 rfl) ?_
  refine lv_iload_n C.1 C.2.1 dX8_point_1 rfl (lv_at hl 2 rfl) ?_
  refine go_i hW (run_S (As := [.int x, .int y]) (rest := []) C hW (c_X8_isCell l G q _ τ ξ x y  ) (cw_S 2 C bL_X8_215 bS_X8_isCell bN_X8 bC_X8_isCell ⟨rfl, rfl⟩ (by decide +kernel) ⟨Nat.le_of_ble_eq_true rfl, Nat.le_of_ble_eq_true rfl⟩) rfl hl.1 rfl (Nat.le_of_ble_eq_true rfl) dX8_point_2 ⟨Nat.le_refl _, Nat.le_refl _⟩) (fun r_1 u_1 H locs hp_1 hW => ?_)
  rcases hp_1 with ⟨rfl, rfl, k_1_0, k_1_1, k_1_2, k_1_3⟩ | ⟨rfl, rfl, k_1⟩
  · skip
    have hW : WB G 33 q (eM G q τ ξ) s H locs := hW
    refine lv_if_eq C.1 C.2.1 (tgt := 22) dX8_point_5 (by decide) (fun c => absurd c (by decide)) (fun _ => ?_)
    refine lv_iload_n C.1 C.2.1 dX8_point_8 rfl (lv_at hl 3 rfl) ?_
    refine lv_i2l C.1 C.2.1 dX8_point_9 rfl ?_
    refine lv_ldc2 C.1 C.2.1 C.2.2.2.1 (C.2.2.2.2.1 _ bQ_X8_202) dX8_point_10 ?_
    refine lv_ldc2 C.1 C.2.1 C.2.2.2.1 (C.2.2.2.2.1 _ bQ_X8_204) dX8_point_13 ?_
    refine go_i hW (run_S (As := [.long ((f).toInt64), .long (-1000), .long 1000]) (rest := []) C hW (c_X8_in l G q _ τ ξ ((f).toInt64) (-1000) 1000 ((f).toInt) (-1000) 1000 (ti_i2l (rfl : (f).toInt = (f).toInt)) (show (-1000 : Int64).toInt = -1000 from by decide) (show (1000 : Int64).toInt = 1000 from by decide)) (cw_S 3 C bL_X8_121 bS_X8_in bN_X8 bC_X8_in ⟨rfl, rfl⟩ (by decide +kernel) ⟨Nat.le_of_ble_eq_true rfl, Nat.le_of_ble_eq_true rfl⟩) rfl hl.1 rfl (Nat.le_of_ble_eq_true rfl) dX8_point_16 ⟨Nat.le_refl _, Nat.le_refl _⟩) (fun r_3 u_3 H locs hp_3 hW => ?_)
    rcases hp_3 with ⟨rfl, rfl, k_3_0, k_3_1⟩ | ⟨rfl, rfl, k_3⟩
    · skip
      have hW : WB G 33 q (eM G q τ ξ) s H locs := hW
      refine lv_if_ne C.1 C.2.1 (tgt := 25) dX8_point_19 (by decide) (fun _ => ?_) (fun c => absurd c (by decide))
      refine lv_aload_n C.1 C.2.1 dX8_point_25 rfl (lv_at hl 0 rfl) ?_
      refine mG_points C hW (v := (τ.1 3)) rfl dX8_point_26 ?_
      refine lv_bipush C.1 C.2.1 (v := 10) dX8_point_29 (by decide) ?_
      refine lv_icmp_ne C.1 C.2.1 (tgt := 37) dX8_point_31 (by decide) (fun c_5 => ?_) (fun c_5 => ?_)
      · skip
        have k_5 := (tn_eq (rfl : ((τ.1 3)).toInt = ((τ.1 3)).toInt) (show (10 : Int32).toInt = 10 from by decide)).mp c_5
        refine lv_aload_n C.1 C.2.1 dX8_point_37 rfl (lv_at hl 0 rfl) ?_
        refine mG_pointX C hW dX8_point_38 ?_
        refine lv_aload_n C.1 C.2.1 dX8_point_41 rfl (lv_at hl 0 rfl) ?_
        refine mG_points C hW (v := (τ.1 3)) rfl dX8_point_42 ?_
        refine lv_iload_n C.1 C.2.1 dX8_point_45 rfl (lv_at hl 1 rfl) ?_
        refine mS_pointX C hW ((((τ.1 3)).toInt).toNat) ((rfl : ((τ.1 3)).toInt = ((τ.1 3)).toInt).trans (by omega)) (by omega) dX8_point_46 (fun H locs hW => ?_)
        refine lv_aload_n C.1 C.2.1 dX8_point_47 rfl (lv_at hl 0 rfl) ?_
        refine mG_pointY C hW dX8_point_48 ?_
        refine lv_aload_n C.1 C.2.1 dX8_point_51 rfl (lv_at hl 0 rfl) ?_
        refine mG_points C hW (v := (τ.1 3)) rfl dX8_point_52 ?_
        refine lv_iload_n C.1 C.2.1 dX8_point_55 rfl (lv_at hl 2 rfl) ?_
        refine mS_pointY C hW ((((τ.1 3)).toInt).toNat) ((rfl : ((τ.1 3)).toInt = ((τ.1 3)).toInt).trans (by omega)) (by omega) dX8_point_56 (fun H locs hW => ?_)
        refine lv_aload_n C.1 C.2.1 dX8_point_57 rfl (lv_at hl 0 rfl) ?_
        refine mG_flux C hW dX8_point_58 ?_
        refine lv_aload_n C.1 C.2.1 dX8_point_61 rfl (lv_at hl 0 rfl) ?_
        refine mG_points C hW (v := (τ.1 3)) rfl dX8_point_62 ?_
        refine lv_iload_n C.1 C.2.1 dX8_point_65 rfl (lv_at hl 3 rfl) ?_
        refine mS_flux C hW ((((τ.1 3)).toInt).toNat) ((rfl : ((τ.1 3)).toInt = ((τ.1 3)).toInt).trans (by omega)) (by omega) dX8_point_66 (fun H locs hW => ?_)
        refine lv_aload_n C.1 C.2.1 dX8_point_67 rfl (lv_at hl 0 rfl) ?_
        refine lv_dup C.1 C.2.1 dX8_point_68 rfl ?_
        refine mG_points C hW (v := (τ.1 3)) rfl dX8_point_69 ?_
        refine lv_iconst C.1 C.2.1 (v := 1) dX8_point_72 (by decide) ?_
        refine lv_iadd C.1 C.2.1 dX8_point_73 ?_
        refine mP_points C hW dX8_point_74 (fun H locs hW => ?_)
        refine lv_aload_n C.1 C.2.1 dX8_point_77 rfl (lv_at hl 0 rfl) ?_
        refine mG_points C hW (v := ((τ.1 3) + 1)) rfl dX8_point_78 ?_
        subst hQ
        exact r_iret ((sg (sa (sa (sa τ 11 ((((τ.1 3)).toInt).toNat) x) 12 ((((τ.1 3)).toInt).toNat) y) 13 ((((τ.1 3)).toInt).toNat) f) 3 ((τ.1 3) + 1)), ξ) C hW hr hk dX8_point_81 (show sp_point τ x y f = (((τ.1 3) + 1), (sg (sa (sa (sa τ 11 ((((τ.1 3)).toInt).toNat) x) 12 ((((τ.1 3)).toInt).toNat) y) 13 ((((τ.1 3)).toInt).toNat) f) 3 ((τ.1 3) + 1))) from by unfold sp_point; (repeat (first | rw [if_pos (by omega)] | rw [if_neg (by omega)])); first | done | rfl)
      · skip
        have k_5 := (tc_eq (rfl : ((τ.1 3)).toInt = ((τ.1 3)).toInt) (show (10 : Int32).toInt = 10 from by decide)).mp c_5
        refine lv_bipush C.1 C.2.1 (v := (-3)) dX8_point_34 (by decide) ?_
        subst hQ
        exact r_iret (τ, ξ) C hW hr hk dX8_point_36 (show sp_point τ x y f = ((-3), τ) from by unfold sp_point; (repeat (first | rw [if_pos (by omega)] | rw [if_neg (by omega)])); first | done | rfl)
    · skip
      have hW : WB G 33 q (eM G q τ ξ) s H locs := hW
      refine lv_if_ne C.1 C.2.1 (tgt := 25) dX8_point_19 (by decide) (fun c => absurd c (by decide)) (fun _ => ?_)
      refine lv_bipush C.1 C.2.1 (v := (-2)) dX8_point_22 (by decide) ?_
      subst hQ
      exact r_iret (τ, ξ) C hW hr hk dX8_point_24 (show sp_point τ x y f = ((-2), τ) from by unfold sp_point; (repeat (first | rw [if_pos (by omega)] | rw [if_neg (by omega)])); first | done | rfl)
  · skip
    have hW : WB G 33 q (eM G q τ ξ) s H locs := hW
    refine lv_if_eq C.1 C.2.1 (tgt := 22) dX8_point_5 (by decide) (fun _ => ?_) (fun c => absurd c (by decide))
    refine lv_bipush C.1 C.2.1 (v := (-2)) dX8_point_22 (by decide) ?_
    subst hQ
    exact r_iret (τ, ξ) C hW hr hk dX8_point_24 (show sp_point τ x y f = ((-2), τ) from by unfold sp_point; (repeat (first | rw [if_pos (by omega)] | rw [if_neg (by omega)])); first | done | rfl)
set_option maxHeartbeats 4000000 in
set_option maxRecDepth 100000 in
theorem c_X8_dark (l : Launch) (G : GG) (q : Nat → Nat) (sz : Nat) (τ ξ : ST) : Met l yX8_dark (WSb yX8_dark cX8_dark 2 (some .int)) (rmA 0 0) (va_Pc [.ref (q 0)] (PW G 33 q sz (eM G q τ ξ))) (va_Qi (fun (r : Int32) (u : (ST × ST)) => sp_dark τ = (r, u.1)) (fun u => BW G 33 q (eM G q u.1 u.2)) (FA 33 q sz)) 0 0 (FA 33 q sz) := by
  refine Met_B (own := RX8) rfl (by decide) (Nat.le_of_ble_eq_true rfl) (fun p e s m args below meth c ls hsz C hW hr hk hl QQ hQ => ?_)
  subst hsz
  have hl : lv_has ls 2 [(0, .ref (q 0))] := hl
  refine lv_aload_n C.1 C.2.1 dX8_dark_0 rfl (lv_at hl 0 rfl) ?_
  refine mG_points C hW (v := (τ.1 3)) rfl dX8_dark_1 ?_
  refine lv_istore_n (lv' := [(1, .int (τ.1 3)), (0, .ref (q 0))]) C.1 C.2.1 dX8_dark_4 rfl hl (by decide) rfl (fun ls hl => ?_)
  refine lv_aload_n C.1 C.2.1 dX8_dark_5 rfl (lv_at hl 1 rfl) ?_
  refine lv_iconst C.1 C.2.1 (v := 0) dX8_dark_6 (by decide) ?_
  refine mP_points C hW dX8_dark_7 (fun H locs hW => ?_)
  refine lv_iload_n C.1 C.2.1 dX8_dark_10 rfl (lv_at hl 0 rfl) ?_
  subst hQ
  exact r_iret ((sg τ 3 0), ξ) C hW hr hk dX8_dark_11 (show sp_dark τ  = ((τ.1 3), (sg τ 3 0)) from by unfold sp_dark; (repeat (first | rw [if_pos (by omega)] | rw [if_neg (by omega)])); first | done | rfl)
set_option maxHeartbeats 4000000 in
set_option maxRecDepth 100000 in
theorem c_X8_at (l : Launch) (G : GG) (q : Nat → Nat) (sz : Nat) (τ ξ : ST) (x : Int32) (y : Int32) : Met l yX8_at (WSb yX8_at cX8_at 3 (some .long)) (rmA 2 46) (va_Pc [.ref (q 0), .int x, .int y] (PW G 33 q sz (eM G q τ ξ))) (va_Ql (fun (r : Int64) (u : (ST × ST)) => sp_at τ x y = (r, u.1)) (fun u => BW G 33 q (eM G q u.1 u.2)) (FA 33 q sz)) 0 0 (FA 33 q sz) := by
  refine Met_B (own := RX8) rfl (by decide) (Nat.le_of_ble_eq_true rfl) (fun p e s m args below meth c ls hsz C hW hr hk hl QQ hQ => ?_)
  subst hsz
  have hl : lv_has ls 3 [(0, .ref (q 0)), (1, .int x), (2, .int y)] := hl
  refine lv_iload_n C.1 C.2.1 dX8_at_0 rfl (lv_at hl 1 rfl) ?_
  refine lv_iload_n C.1 C.2.1 dX8_at_1 rfl (lv_at hl 2 rfl) ?_
  refine go_i hW (run_S (As := [.int x, .int y]) (rest := []) C hW (c_X8_isCell l G q _ τ ξ x y  ) (cw_S 2 C bL_X8_215 bS_X8_isCell bN_X8 bC_X8_isCell ⟨rfl, rfl⟩ (by decide +kernel) ⟨Nat.le_of_ble_eq_true rfl, Nat.le_of_ble_eq_true rfl⟩) rfl hl.1 rfl (Nat.le_of_ble_eq_true rfl) dX8_at_2 ⟨Nat.le_refl _, Nat.le_refl _⟩) (fun r_1 u_1 H locs hp_1 hW => ?_)
  rcases hp_1 with ⟨rfl, rfl, k_1_0, k_1_1, k_1_2, k_1_3⟩ | ⟨rfl, rfl, k_1⟩
  · skip
    have hW : WB G 33 q (eM G q τ ξ) s H locs := hW
    refine lv_if_eq C.1 C.2.1 (tgt := 22) dX8_at_5 (by decide) (fun c => absurd c (by decide)) (fun _ => ?_)
    refine lv_aload_n C.1 C.2.1 dX8_at_8 rfl (lv_at hl 0 rfl) ?_
    refine mG_board C hW dX8_at_9 ?_
    refine lv_bipush C.1 C.2.1 (v := 16) dX8_at_12 (by decide) ?_
    refine lv_iload_n C.1 C.2.1 dX8_at_14 rfl (lv_at hl 2 rfl) ?_
    refine lv_imul C.1 C.2.1 dX8_at_15 ?_
    refine lv_iload_n C.1 C.2.1 dX8_at_16 rfl (lv_at hl 1 rfl) ?_
    refine lv_iadd C.1 C.2.1 dX8_at_17 ?_
    refine mL_board C hW ((((16 * (y).toInt) + (x).toInt)).toNat) ((ti_add (ti_mul (show (16 : Int32).toInt = 16 from by decide) (rfl : (y).toInt = (y).toInt) (by omega) (by omega)) (rfl : (x).toInt = (x).toInt) (by omega) (by omega)).trans (by omega)) (by omega) (v := (τ.2.2 0 ((((16 * (y).toInt) + (x).toInt)).toNat))) rfl dX8_at_18 ?_
    refine lv_goto C.1 C.2.1 (tgt := 25) dX8_at_19 (by decide) ?_
    subst hQ
    exact r_lret (τ, ξ) C hW hr hk dX8_at_25 (show sp_at τ x y = ((τ.2.2 0 ((((16 * (y).toInt) + (x).toInt)).toNat)), τ) from by unfold sp_at; (repeat (first | rw [if_pos (by omega)] | rw [if_neg (by omega)])); first | done | rfl)
  · skip
    have hW : WB G 33 q (eM G q τ ξ) s H locs := hW
    refine lv_if_eq C.1 C.2.1 (tgt := 22) dX8_at_5 (by decide) (fun _ => ?_) (fun c => absurd c (by decide))
    refine lv_ldc2 C.1 C.2.1 C.2.2.2.1 (C.2.2.2.2.1 _ bQ_X8_175) dX8_at_22 ?_
    subst hQ
    exact r_lret (τ, ξ) C hW hr hk dX8_at_25 (show sp_at τ x y = ((-9223372036854775808), τ) from by unfold sp_at; (repeat (first | rw [if_pos (by omega)] | rw [if_neg (by omega)])); first | done | rfl)
set_option maxHeartbeats 4000000 in
set_option maxRecDepth 100000 in
theorem c_X8_window (l : Launch) (G : GG) (q : Nat → Nat) (sz : Nat) (τ ξ : ST) (x : Int32) (y : Int32) (z : Int32) (w : Int32) : Met l yX8_window (WSb yX8_window cX8_window 5 (some .int)) (rmA 2 46) (va_Pc [.ref (q 0), .int x, .int y, .int z, .int w] (PW G 33 q sz (eM G q τ ξ))) (va_Qi (fun (r : Int32) (u : (ST × ST)) => sp_window τ x y z w = (r, u.1)) (fun u => BW G 33 q (eM G q u.1 u.2)) (FA 33 q sz)) 0 0 (FA 33 q sz) := by
  refine Met_B (own := RX8) rfl (by decide) (Nat.le_of_ble_eq_true rfl) (fun p e s m args below meth c ls hsz C hW hr hk hl QQ hQ => ?_)
  subst hsz
  have hl : lv_has ls 5 [(0, .ref (q 0)), (1, .int x), (2, .int y), (3, .int z), (4, .int w)] := hl
  refine lv_iload_n C.1 C.2.1 dX8_window_0 rfl (lv_at hl 1 rfl) ?_
  refine lv_iload_n C.1 C.2.1 dX8_window_1 rfl (lv_at hl 2 rfl) ?_
  refine go_i hW (run_S (As := [.int x, .int y]) (rest := []) C hW (c_X8_isCell l G q _ τ ξ x y  ) (cw_S 2 C bL_X8_215 bS_X8_isCell bN_X8 bC_X8_isCell ⟨rfl, rfl⟩ (by decide +kernel) ⟨Nat.le_of_ble_eq_true rfl, Nat.le_of_ble_eq_true rfl⟩) rfl hl.1 rfl (Nat.le_of_ble_eq_true rfl) dX8_window_2 ⟨Nat.le_refl _, Nat.le_refl _⟩) (fun r_1 u_1 H locs hp_1 hW => ?_)
  rcases hp_1 with ⟨rfl, rfl, k_1_0, k_1_1, k_1_2, k_1_3⟩ | ⟨rfl, rfl, k_1⟩
  · skip
    have hW : WB G 33 q (eM G q τ ξ) s H locs := hW
    refine lv_if_eq C.1 C.2.1 (tgt := 28) dX8_window_5 (by decide) (fun c => absurd c (by decide)) (fun _ => ?_)
    refine lv_iload_n C.1 C.2.1 dX8_window_8 rfl (lv_at hl 3 rfl) ?_
    refine lv_iload C.1 C.2.1 dX8_window_9 (lv_at hl 4 rfl) ?_
    refine go_i hW (run_S (As := [.int z, .int w]) (rest := []) C hW (c_X8_isCell l G q _ τ ξ z w  ) (cw_S 2 C bL_X8_215 bS_X8_isCell bN_X8 bC_X8_isCell ⟨rfl, rfl⟩ (by decide +kernel) ⟨Nat.le_of_ble_eq_true rfl, Nat.le_of_ble_eq_true rfl⟩) rfl hl.1 rfl (Nat.le_of_ble_eq_true rfl) dX8_window_11 ⟨Nat.le_refl _, Nat.le_refl _⟩) (fun r_3 u_3 H locs hp_3 hW => ?_)
    rcases hp_3 with ⟨rfl, rfl, k_3_0, k_3_1, k_3_2, k_3_3⟩ | ⟨rfl, rfl, k_3⟩
    · skip
      have hW : WB G 33 q (eM G q τ ξ) s H locs := hW
      refine lv_if_eq C.1 C.2.1 (tgt := 28) dX8_window_14 (by decide) (fun c => absurd c (by decide)) (fun _ => ?_)
      refine lv_iload_n C.1 C.2.1 dX8_window_17 rfl (lv_at hl 1 rfl) ?_
      refine lv_iload_n C.1 C.2.1 dX8_window_18 rfl (lv_at hl 3 rfl) ?_
      refine lv_icmp_gt C.1 C.2.1 (tgt := 28) dX8_window_19 (by decide) (fun c_5 => ?_) (fun c_5 => ?_)
      · skip
        have k_5 := (tc_lt (rfl : (z).toInt = (z).toInt) (rfl : (x).toInt = (x).toInt)).mp c_5
        refine lv_bipush C.1 C.2.1 (v := (-2)) dX8_window_28 (by decide) ?_
        subst hQ
        exact r_iret (τ, ξ) C hW hr hk dX8_window_30 (show sp_window τ x y z w = ((-2), τ) from by unfold sp_window; (repeat (first | rw [if_pos (by omega)] | rw [if_neg (by omega)])); first | done | rfl)
      · skip
        have k_5 := (tn_lt (rfl : (z).toInt = (z).toInt) (rfl : (x).toInt = (x).toInt)).mp c_5
        refine lv_iload_n C.1 C.2.1 dX8_window_22 rfl (lv_at hl 2 rfl) ?_
        refine lv_iload C.1 C.2.1 dX8_window_23 (lv_at hl 4 rfl) ?_
        refine lv_icmp_le C.1 C.2.1 (tgt := 31) dX8_window_25 (by decide) (fun c_6 => ?_) (fun c_6 => ?_)
        · skip
          have k_6 := (tc_le (rfl : (y).toInt = (y).toInt) (rfl : (w).toInt = (w).toInt)).mp c_6
          refine lv_aload_n C.1 C.2.1 dX8_window_31 rfl (lv_at hl 0 rfl) ?_
          refine lv_iload_n C.1 C.2.1 dX8_window_32 rfl (lv_at hl 1 rfl) ?_
          refine mP_lowX C hW dX8_window_33 (fun H locs hW => ?_)
          refine lv_aload_n C.1 C.2.1 dX8_window_36 rfl (lv_at hl 0 rfl) ?_
          refine lv_iload_n C.1 C.2.1 dX8_window_37 rfl (lv_at hl 3 rfl) ?_
          refine mP_highX C hW dX8_window_38 (fun H locs hW => ?_)
          refine lv_aload_n C.1 C.2.1 dX8_window_41 rfl (lv_at hl 0 rfl) ?_
          refine lv_iload_n C.1 C.2.1 dX8_window_42 rfl (lv_at hl 2 rfl) ?_
          refine mP_lowY C hW dX8_window_43 (fun H locs hW => ?_)
          refine lv_aload_n C.1 C.2.1 dX8_window_46 rfl (lv_at hl 0 rfl) ?_
          refine lv_iload C.1 C.2.1 dX8_window_47 (lv_at hl 4 rfl) ?_
          refine mP_highY C hW dX8_window_49 (fun H locs hW => ?_)
          refine lv_aload_n C.1 C.2.1 dX8_window_52 rfl (lv_at hl 0 rfl) ?_
          refine go_i hW (run_V (o := 0) (As := []) (rest := []) C hW (by decide) rfl rfl (c_X8_cells l G q _ (sg (sg (sg (sg τ 5 x) 6 z) 7 y) 8 w) ξ   ) (cw_V 0 C bL_X8_228 bI_X8_cells bV_X8_cells bN_X8 bC_X8_cells ⟨rfl, rfl⟩ (by decide +kernel) ⟨Nat.le_of_ble_eq_true rfl, Nat.le_of_ble_eq_true rfl⟩) rfl hl.1 rfl (Nat.le_of_ble_eq_true rfl) dX8_window_53 ⟨Nat.le_refl _, Nat.le_refl _⟩) (fun r_7 u_7 H locs hp_7 hW => ?_)
          rcases hp_7 with ⟨rfl, rfl⟩
          have hW : WB G 33 q (eM G q (sg (sg (sg (sg τ 5 x) 6 z) 7 y) 8 w) ξ) s H locs := hW
          subst hQ
          exact r_iret ((sg (sg (sg (sg τ 5 x) 6 z) 7 y) 8 w), ξ) C hW hr hk dX8_window_56 (show sp_window τ x y z w = ((((sg (sg (sg (sg τ 5 x) 6 z) 7 y) 8 w).1 6 - (sg (sg (sg (sg τ 5 x) 6 z) 7 y) 8 w).1 5 + 1) * ((sg (sg (sg (sg τ 5 x) 6 z) 7 y) 8 w).1 8 - (sg (sg (sg (sg τ 5 x) 6 z) 7 y) 8 w).1 7 + 1)), (sg (sg (sg (sg τ 5 x) 6 z) 7 y) 8 w)) from by unfold sp_window; (repeat (first | rw [if_pos (by omega)] | rw [if_neg (by omega)])); first | done | rfl)
        · skip
          have k_6 := (tn_le (rfl : (y).toInt = (y).toInt) (rfl : (w).toInt = (w).toInt)).mp c_6
          refine lv_bipush C.1 C.2.1 (v := (-2)) dX8_window_28 (by decide) ?_
          subst hQ
          exact r_iret (τ, ξ) C hW hr hk dX8_window_30 (show sp_window τ x y z w = ((-2), τ) from by unfold sp_window; (repeat (first | rw [if_pos (by omega)] | rw [if_neg (by omega)])); first | done | rfl)
    · skip
      have hW : WB G 33 q (eM G q τ ξ) s H locs := hW
      refine lv_if_eq C.1 C.2.1 (tgt := 28) dX8_window_14 (by decide) (fun _ => ?_) (fun c => absurd c (by decide))
      refine lv_bipush C.1 C.2.1 (v := (-2)) dX8_window_28 (by decide) ?_
      subst hQ
      exact r_iret (τ, ξ) C hW hr hk dX8_window_30 (show sp_window τ x y z w = ((-2), τ) from by unfold sp_window; (repeat (first | rw [if_pos (by omega)] | rw [if_neg (by omega)])); first | done | rfl)
  · skip
    have hW : WB G 33 q (eM G q τ ξ) s H locs := hW
    refine lv_if_eq C.1 C.2.1 (tgt := 28) dX8_window_5 (by decide) (fun _ => ?_) (fun c => absurd c (by decide))
    refine lv_bipush C.1 C.2.1 (v := (-2)) dX8_window_28 (by decide) ?_
    subst hQ
    exact r_iret (τ, ξ) C hW hr hk dX8_window_30 (show sp_window τ x y z w = ((-2), τ) from by unfold sp_window; (repeat (first | rw [if_pos (by omega)] | rw [if_neg (by omega)])); first | done | rfl)
set_option maxHeartbeats 4000000 in
set_option maxRecDepth 100000 in
theorem c_X8_part (l : Launch) (G : GG) (q : Nat → Nat) (sz : Nat) (τ ξ : ST) (k : Int32) (w : Int32) (h_pt : 0 ≤ (τ.1 4).toInt ∧ (τ.1 4).toInt ≤ 200) : Met l yX8_part (WSb yX8_part cX8_part 3 (some .long)) (rmA 1 25) (va_Pc [.ref (q 0), .int k, .int w] (PW G 33 q sz (eM G q τ ξ))) (va_Ql (fun (r : Int64) (u : (ST × ST)) => sp_part τ k w = (r, u.1)) (fun u => BW G 33 q (eM G q u.1 u.2)) (FA 33 q sz)) 0 0 (FA 33 q sz) := by
  refine Met_B (own := RX8) rfl (by decide) (Nat.le_of_ble_eq_true rfl) (fun p e s m args below meth c ls hsz C hW hr hk hl QQ hQ => ?_)
  subst hsz
  have hl : lv_has ls 3 [(0, .ref (q 0)), (1, .int k), (2, .int w)] := hl
  refine lv_iload_n C.1 C.2.1 dX8_part_0 rfl (lv_at hl 1 rfl) ?_
  refine lv_i2l C.1 C.2.1 dX8_part_1 rfl ?_
  refine lv_lconst C.1 C.2.1 (v := 0) dX8_part_2 (by decide) ?_
  refine lv_aload_n C.1 C.2.1 dX8_part_3 rfl (lv_at hl 0 rfl) ?_
  refine mG_parts C hW (v := (τ.1 4)) rfl dX8_part_4 ?_
  refine lv_iconst C.1 C.2.1 (v := 1) dX8_part_7 (by decide) ?_
  refine lv_isub C.1 C.2.1 dX8_part_8 ?_
  refine lv_i2l C.1 C.2.1 dX8_part_9 rfl ?_
  refine go_i hW (run_S (As := [.long ((k).toInt64), .long 0, .long (((τ.1 4) - 1).toInt64)]) (rest := []) C hW (c_X8_in l G q _ τ ξ ((k).toInt64) 0 (((τ.1 4) - 1).toInt64) ((k).toInt) 0 (((τ.1 4)).toInt - 1) (ti_i2l (rfl : (k).toInt = (k).toInt)) (show (0 : Int64).toInt = 0 from by decide) (ti_i2l (ti_sub (rfl : ((τ.1 4)).toInt = ((τ.1 4)).toInt) (show (1 : Int32).toInt = 1 from by decide) (by omega) (by omega)))) (cw_S 3 C bL_X8_121 bS_X8_in bN_X8 bC_X8_in ⟨rfl, rfl⟩ (by decide +kernel) ⟨Nat.le_of_ble_eq_true rfl, Nat.le_of_ble_eq_true rfl⟩) rfl hl.1 rfl (Nat.le_of_ble_eq_true rfl) dX8_part_10 ⟨Nat.le_refl _, Nat.le_refl _⟩) (fun r_1 u_1 H locs hp_1 hW => ?_)
  rcases hp_1 with ⟨rfl, rfl, k_1_0, k_1_1⟩ | ⟨rfl, rfl, k_1⟩
  · skip
    have hW : WB G 33 q (eM G q τ ξ) s H locs := hW
    refine lv_if_eq C.1 C.2.1 (tgt := 26) dX8_part_13 (by decide) (fun c => absurd c (by decide)) (fun _ => ?_)
    refine lv_iload_n C.1 C.2.1 dX8_part_16 rfl (lv_at hl 2 rfl) ?_
    refine lv_i2l C.1 C.2.1 dX8_part_17 rfl ?_
    refine lv_lconst C.1 C.2.1 (v := 0) dX8_part_18 (by decide) ?_
    refine lv_lconst C.1 C.2.1 (v := 1) dX8_part_19 (by decide) ?_
    refine go_i hW (run_S (As := [.long ((w).toInt64), .long 0, .long 1]) (rest := []) C hW (c_X8_in l G q _ τ ξ ((w).toInt64) 0 1 ((w).toInt) 0 1 (ti_i2l (rfl : (w).toInt = (w).toInt)) (show (0 : Int64).toInt = 0 from by decide) (show (1 : Int64).toInt = 1 from by decide)) (cw_S 3 C bL_X8_121 bS_X8_in bN_X8 bC_X8_in ⟨rfl, rfl⟩ (by decide +kernel) ⟨Nat.le_of_ble_eq_true rfl, Nat.le_of_ble_eq_true rfl⟩) rfl hl.1 rfl (Nat.le_of_ble_eq_true rfl) dX8_part_20 ⟨Nat.le_refl _, Nat.le_refl _⟩) (fun r_3 u_3 H locs hp_3 hW => ?_)
    rcases hp_3 with ⟨rfl, rfl, k_3_0, k_3_1⟩ | ⟨rfl, rfl, k_3⟩
    · skip
      have hW : WB G 33 q (eM G q τ ξ) s H locs := hW
      refine lv_if_ne C.1 C.2.1 (tgt := 30) dX8_part_23 (by decide) (fun _ => ?_) (fun c => absurd c (by decide))
      refine lv_iload_n C.1 C.2.1 dX8_part_30 rfl (lv_at hl 2 rfl) ?_
      refine lv_if_ne C.1 C.2.1 (tgt := 44) dX8_part_31 (by decide) (fun c_5 => ?_) (fun c_5 => ?_)
      · skip
        have k_5 := (tn_eq (rfl : (w).toInt = (w).toInt) (show (0 : Int32).toInt = 0 from by decide)).mp c_5
        refine lv_aload_n C.1 C.2.1 dX8_part_44 rfl (lv_at hl 0 rfl) ?_
        refine mG_partA C hW dX8_part_45 ?_
        refine lv_iload_n C.1 C.2.1 dX8_part_48 rfl (lv_at hl 1 rfl) ?_
        refine mL_partA C hW (((k).toInt).toNat) ((rfl : (k).toInt = (k).toInt).trans (by omega)) (by omega) (v := (τ.2.2 1 (((k).toInt).toNat))) rfl dX8_part_49 ?_
        subst hQ
        exact r_lret (τ, ξ) C hW hr hk dX8_part_50 (show sp_part τ k w = ((τ.2.2 1 (((k).toInt).toNat)), τ) from by unfold sp_part; (repeat (first | rw [if_pos (by omega)] | rw [if_neg (by omega)])); first | done | rfl)
      · skip
        have k_5 := (tc_eq (rfl : (w).toInt = (w).toInt) (show (0 : Int32).toInt = 0 from by decide)).mp c_5
        refine lv_aload_n C.1 C.2.1 dX8_part_34 rfl (lv_at hl 0 rfl) ?_
        refine mG_partCell C hW dX8_part_35 ?_
        refine lv_iload_n C.1 C.2.1 dX8_part_38 rfl (lv_at hl 1 rfl) ?_
        refine mL_partCell C hW (((k).toInt).toNat) ((rfl : (k).toInt = (k).toInt).trans (by omega)) (by omega) (v := (τ.2.1 14 (((k).toInt).toNat))) rfl dX8_part_39 ?_
        refine lv_i2l C.1 C.2.1 dX8_part_40 rfl ?_
        refine lv_goto C.1 C.2.1 (tgt := 50) dX8_part_41 (by decide) ?_
        subst hQ
        exact r_lret (τ, ξ) C hW hr hk dX8_part_50 (show sp_part τ k w = ((τ.2.1 14 (((k).toInt).toNat)).toInt64, τ) from by unfold sp_part; (repeat (first | rw [if_pos (by omega)] | rw [if_neg (by omega)])); first | done | rfl)
    · skip
      have hW : WB G 33 q (eM G q τ ξ) s H locs := hW
      refine lv_if_ne C.1 C.2.1 (tgt := 30) dX8_part_23 (by decide) (fun c => absurd c (by decide)) (fun _ => ?_)
      refine lv_ldc2 C.1 C.2.1 C.2.2.2.1 (C.2.2.2.2.1 _ bQ_X8_175) dX8_part_26 ?_
      subst hQ
      exact r_lret (τ, ξ) C hW hr hk dX8_part_29 (show sp_part τ k w = ((-9223372036854775808), τ) from by unfold sp_part; (repeat (first | rw [if_pos (by omega)] | rw [if_neg (by omega)])); first | done | rfl)
  · skip
    have hW : WB G 33 q (eM G q τ ξ) s H locs := hW
    refine lv_if_eq C.1 C.2.1 (tgt := 26) dX8_part_13 (by decide) (fun _ => ?_) (fun c => absurd c (by decide))
    refine lv_ldc2 C.1 C.2.1 C.2.2.2.1 (C.2.2.2.2.1 _ bQ_X8_175) dX8_part_26 ?_
    subst hQ
    exact r_lret (τ, ξ) C hW hr hk dX8_part_29 (show sp_part τ k w = ((-9223372036854775808), τ) from by unfold sp_part; (repeat (first | rw [if_pos (by omega)] | rw [if_neg (by omega)])); first | done | rfl)
set_option maxHeartbeats 4000000 in
set_option maxRecDepth 100000 in
theorem c_X8_source (l : Launch) (G : GG) (q : Nat → Nat) (sz : Nat) (τ ξ : ST) (o : Int32) (a : Int32) (b : Int32) : Met l yX8_source (WSb yX8_source cX8_source 4 (some .int)) (rmA 1 25) (va_Pc [.ref (q 0), .int o, .int a, .int b] (PW G 33 q sz (eM G q τ ξ))) (va_Qi (fun (r : Int32) (u : (ST × ST)) => sp_source τ o a b = (r, u.1)) (fun u => BW G 33 q (eM G q u.1 u.2)) (FA 33 q sz)) 0 0 (FA 33 q sz) := by
  refine Met_B (own := RX8) rfl (by decide) (Nat.le_of_ble_eq_true rfl) (fun p e s m args below meth c ls hsz C hW hr hk hl QQ hQ => ?_)
  subst hsz
  have hl : lv_has ls 4 [(0, .ref (q 0)), (1, .int o), (2, .int a), (3, .int b)] := hl
  refine lv_iload_n C.1 C.2.1 dX8_source_0 rfl (lv_at hl 1 rfl) ?_
  refine lv_i2l C.1 C.2.1 dX8_source_1 rfl ?_
  refine lv_lconst C.1 C.2.1 (v := 0) dX8_source_2 (by decide) ?_
  refine lv_ldc2 C.1 C.2.1 C.2.2.2.1 (C.2.2.2.2.1 _ bQ_X8_248) dX8_source_3 ?_
  refine go_i hW (run_S (As := [.long ((o).toInt64), .long 0, .long 7]) (rest := []) C hW (c_X8_in l G q _ τ ξ ((o).toInt64) 0 7 ((o).toInt) 0 7 (ti_i2l (rfl : (o).toInt = (o).toInt)) (show (0 : Int64).toInt = 0 from by decide) (show (7 : Int64).toInt = 7 from by decide)) (cw_S 3 C bL_X8_121 bS_X8_in bN_X8 bC_X8_in ⟨rfl, rfl⟩ (by decide +kernel) ⟨Nat.le_of_ble_eq_true rfl, Nat.le_of_ble_eq_true rfl⟩) rfl hl.1 rfl (Nat.le_of_ble_eq_true rfl) dX8_source_6 ⟨Nat.le_refl _, Nat.le_refl _⟩) (fun r_1 u_1 H locs hp_1 hW => ?_)
  rcases hp_1 with ⟨rfl, rfl, k_1_0, k_1_1⟩ | ⟨rfl, rfl, k_1⟩
  · skip
    have hW : WB G 33 q (eM G q τ ξ) s H locs := hW
    refine lv_if_eq C.1 C.2.1 (tgt := 28) dX8_source_9 (by decide) (fun c => absurd c (by decide)) (fun _ => ?_)
    refine lv_iload_n C.1 C.2.1 dX8_source_12 rfl (lv_at hl 2 rfl) ?_
    refine lv_if_lt C.1 C.2.1 (tgt := 28) dX8_source_13 (by decide) (fun c_3 => ?_) (fun c_3 => ?_)
    · skip
      have k_3 := (tc_lt (rfl : (a).toInt = (a).toInt) (show (0 : Int32).toInt = 0 from by decide)).mp c_3
      refine lv_bipush C.1 C.2.1 (v := (-2)) dX8_source_28 (by decide) ?_
      subst hQ
      exact r_iret (τ, ξ) C hW hr hk dX8_source_30 (show sp_source τ o a b = ((-2), τ) from by unfold sp_source; (repeat (first | rw [if_pos (by omega)] | rw [if_neg (by omega)])); first | done | rfl)
    · skip
      have k_3 := (tn_lt (rfl : (a).toInt = (a).toInt) (show (0 : Int32).toInt = 0 from by decide)).mp c_3
      refine lv_iload_n C.1 C.2.1 dX8_source_16 rfl (lv_at hl 2 rfl) ?_
      refine lv_iload_n C.1 C.2.1 dX8_source_17 rfl (lv_at hl 3 rfl) ?_
      refine lv_icmp_ge C.1 C.2.1 (tgt := 28) dX8_source_18 (by decide) (fun c_4 => ?_) (fun c_4 => ?_)
      · skip
        have k_4 := (tc_le (rfl : (b).toInt = (b).toInt) (rfl : (a).toInt = (a).toInt)).mp c_4
        refine lv_bipush C.1 C.2.1 (v := (-2)) dX8_source_28 (by decide) ?_
        subst hQ
        exact r_iret (τ, ξ) C hW hr hk dX8_source_30 (show sp_source τ o a b = ((-2), τ) from by unfold sp_source; (repeat (first | rw [if_pos (by omega)] | rw [if_neg (by omega)])); first | done | rfl)
      · skip
        have k_4 := (tn_le (rfl : (b).toInt = (b).toInt) (rfl : (a).toInt = (a).toInt)).mp c_4
        refine lv_iload_n C.1 C.2.1 dX8_source_21 rfl (lv_at hl 3 rfl) ?_
        refine lv_sipush C.1 C.2.1 (v := 1440) dX8_source_22 (by decide) ?_
        refine lv_icmp_le C.1 C.2.1 (tgt := 31) dX8_source_25 (by decide) (fun c_5 => ?_) (fun c_5 => ?_)
        · skip
          have k_5 := (tc_le (rfl : (b).toInt = (b).toInt) (show (1440 : Int32).toInt = 1440 from by decide)).mp c_5
          refine lv_aload_n C.1 C.2.1 dX8_source_31 rfl (lv_at hl 0 rfl) ?_
          refine mG_rises C hW dX8_source_32 ?_
          refine lv_iload_n C.1 C.2.1 dX8_source_35 rfl (lv_at hl 1 rfl) ?_
          refine lv_iconst C.1 C.2.1 (v := 1) dX8_source_36 (by decide) ?_
          refine mS_rises C hW (((o).toInt).toNat) ((rfl : (o).toInt = (o).toInt).trans (by omega)) (by omega) (by decide) dX8_source_37 (fun H locs hW => ?_)
          refine lv_aload_n C.1 C.2.1 dX8_source_38 rfl (lv_at hl 0 rfl) ?_
          refine mG_riseAt C hW dX8_source_39 ?_
          refine lv_iload_n C.1 C.2.1 dX8_source_42 rfl (lv_at hl 1 rfl) ?_
          refine lv_iload_n C.1 C.2.1 dX8_source_43 rfl (lv_at hl 2 rfl) ?_
          refine mS_riseAt C hW (((o).toInt).toNat) ((rfl : (o).toInt = (o).toInt).trans (by omega)) (by omega) dX8_source_44 (fun H locs hW => ?_)
          refine lv_aload_n C.1 C.2.1 dX8_source_45 rfl (lv_at hl 0 rfl) ?_
          refine mG_setAt C hW dX8_source_46 ?_
          refine lv_iload_n C.1 C.2.1 dX8_source_49 rfl (lv_at hl 1 rfl) ?_
          refine lv_iload_n C.1 C.2.1 dX8_source_50 rfl (lv_at hl 3 rfl) ?_
          refine mS_setAt C hW (((o).toInt).toNat) ((rfl : (o).toInt = (o).toInt).trans (by omega)) (by omega) dX8_source_51 (fun H locs hW => ?_)
          refine lv_iconst C.1 C.2.1 (v := 1) dX8_source_52 (by decide) ?_
          subst hQ
          exact r_iret ((sa (sa (sa τ 15 (((o).toInt).toNat) 1) 16 (((o).toInt).toNat) a) 17 (((o).toInt).toNat) b), ξ) C hW hr hk dX8_source_53 (show sp_source τ o a b = (1, (sa (sa (sa τ 15 (((o).toInt).toNat) 1) 16 (((o).toInt).toNat) a) 17 (((o).toInt).toNat) b)) from by unfold sp_source; (repeat (first | rw [if_pos (by omega)] | rw [if_neg (by omega)])); first | done | rfl)
        · skip
          have k_5 := (tn_le (rfl : (b).toInt = (b).toInt) (show (1440 : Int32).toInt = 1440 from by decide)).mp c_5
          refine lv_bipush C.1 C.2.1 (v := (-2)) dX8_source_28 (by decide) ?_
          subst hQ
          exact r_iret (τ, ξ) C hW hr hk dX8_source_30 (show sp_source τ o a b = ((-2), τ) from by unfold sp_source; (repeat (first | rw [if_pos (by omega)] | rw [if_neg (by omega)])); first | done | rfl)
  · skip
    have hW : WB G 33 q (eM G q τ ξ) s H locs := hW
    refine lv_if_eq C.1 C.2.1 (tgt := 28) dX8_source_9 (by decide) (fun _ => ?_) (fun c => absurd c (by decide))
    refine lv_bipush C.1 C.2.1 (v := (-2)) dX8_source_28 (by decide) ?_
    subst hQ
    exact r_iret (τ, ξ) C hW hr hk dX8_source_30 (show sp_source τ o a b = ((-2), τ) from by unfold sp_source; (repeat (first | rw [if_pos (by omega)] | rw [if_neg (by omega)])); first | done | rfl)
set_option maxHeartbeats 4000000 in
set_option maxRecDepth 100000 in
theorem c_X8_isOrder (l : Launch) (G : GG) (q : Nat → Nat) (sz : Nat) (τ ξ : ST) (kd : Int32) (a : Int32) (b : Int32) (h_o : 0 ≤ (τ.1 9).toInt ∧ (τ.1 9).toInt ≤ 60) : Met l yX8_isOrder (WSb yX8_isOrder cX8_isOrder 4 (some .boolean)) (rmA 1 25) (va_Pc [.ref (q 0), .int kd, .int a, .int b] (PW G 33 q sz (eM G q τ ξ))) (va_Qi (fun (r : Int32) (u : (ST × ST)) => (r = 1 ∧ u = (τ, ξ) ∧ ((kd.toInt = 0 ∧ 0 ≤ a.toInt ∧ a.toInt ≤ 600 ∧ b.toInt = 0) ∨ (kd.toInt = 1 ∧ 0 ≤ a.toInt ∧ a.toInt ≤ 359 ∧ b.toInt = 0) ∨ (kd.toInt = 2 ∧ 1 ≤ a.toInt ∧ a.toInt ≤ 600 ∧ 0 ≤ b.toInt ∧ b.toInt ≤ 7) ∨ (kd.toInt = 3 ∧ 0 ≤ a.toInt ∧ a.toInt < (τ.1 9).toInt ∧ 1 ≤ b.toInt ∧ b.toInt ≤ 50) ∨ (kd.toInt = 4 ∧ 1 ≤ a.toInt ∧ a.toInt ≤ 600 ∧ b.toInt = 0) ∨ (kd.toInt = 5 ∧ a.toInt = 0 ∧ b.toInt = 0))) ∨ (r = 0 ∧ u = (τ, ξ) ∧ (¬ ((kd.toInt = 0 ∧ 0 ≤ a.toInt ∧ a.toInt ≤ 600 ∧ b.toInt = 0) ∨ (kd.toInt = 1 ∧ 0 ≤ a.toInt ∧ a.toInt ≤ 359 ∧ b.toInt = 0) ∨ (kd.toInt = 2 ∧ 1 ≤ a.toInt ∧ a.toInt ≤ 600 ∧ 0 ≤ b.toInt ∧ b.toInt ≤ 7) ∨ (kd.toInt = 3 ∧ 0 ≤ a.toInt ∧ a.toInt < (τ.1 9).toInt ∧ 1 ≤ b.toInt ∧ b.toInt ≤ 50) ∨ (kd.toInt = 4 ∧ 1 ≤ a.toInt ∧ a.toInt ≤ 600 ∧ b.toInt = 0) ∨ (kd.toInt = 5 ∧ a.toInt = 0 ∧ b.toInt = 0))))) (fun u => BW G 33 q (eM G q u.1 u.2)) (FA 33 q sz)) 0 0 (FA 33 q sz) := by
  refine Met_B (own := RX8) rfl (by decide) (Nat.le_of_ble_eq_true rfl) (fun p e s m args below meth c ls hsz C hW hr hk hl QQ hQ => ?_)
  subst hsz
  have hl : lv_has ls 4 [(0, .ref (q 0)), (1, .int kd), (2, .int a), (3, .int b)] := hl
  refine lv_iload_n C.1 C.2.1 dX8_isOrder_0 rfl (lv_at hl 1 rfl) ?_
  have e_1 : (kd).toInt = (kd).toInt := (rfl : (kd).toInt = (kd).toInt)
  by_cases c_1_0 : (kd).toInt = 0
  · skip
    refine lv_tableIn C.1 C.2.1 dX8_isOrder_1 (off := 35) (tgt := 36) (by omega) (by omega) (by rw [show (kd).toInt = 0 by omega]; rfl) (by decide) ?_
    refine lv_iload_n C.1 C.2.1 dX8_isOrder_36 rfl (lv_at hl 2 rfl) ?_
    refine lv_i2l C.1 C.2.1 dX8_isOrder_37 rfl ?_
    refine lv_lconst C.1 C.2.1 (v := 0) dX8_isOrder_38 (by decide) ?_
    refine lv_ldc2 C.1 C.2.1 C.2.2.2.1 (C.2.2.2.2.1 _ bQ_X8_250) dX8_isOrder_39 ?_
    refine go_i hW (run_S (As := [.long ((a).toInt64), .long 0, .long 600]) (rest := []) C hW (c_X8_in l G q _ τ ξ ((a).toInt64) 0 600 ((a).toInt) 0 600 (ti_i2l (rfl : (a).toInt = (a).toInt)) (show (0 : Int64).toInt = 0 from by decide) (show (600 : Int64).toInt = 600 from by decide)) (cw_S 3 C bL_X8_121 bS_X8_in bN_X8 bC_X8_in ⟨rfl, rfl⟩ (by decide +kernel) ⟨Nat.le_of_ble_eq_true rfl, Nat.le_of_ble_eq_true rfl⟩) rfl hl.1 rfl (Nat.le_of_ble_eq_true rfl) dX8_isOrder_42 ⟨Nat.le_refl _, Nat.le_refl _⟩) (fun r_2 u_2 H locs hp_2 hW => ?_)
    rcases hp_2 with ⟨rfl, rfl, k_2_0, k_2_1⟩ | ⟨rfl, rfl, k_2⟩
    · skip
      have hW : WB G 33 q (eM G q τ ξ) s H locs := hW
      refine lv_if_eq C.1 C.2.1 (tgt := 56) dX8_isOrder_45 (by decide) (fun c => absurd c (by decide)) (fun _ => ?_)
      refine lv_iload_n C.1 C.2.1 dX8_isOrder_48 rfl (lv_at hl 3 rfl) ?_
      refine lv_if_ne C.1 C.2.1 (tgt := 56) dX8_isOrder_49 (by decide) (fun c_4 => ?_) (fun c_4 => ?_)
      · skip
        have k_4 := (tn_eq (rfl : (b).toInt = (b).toInt) (show (0 : Int32).toInt = 0 from by decide)).mp c_4
        refine lv_iconst C.1 C.2.1 (v := 0) dX8_isOrder_56 (by decide) ?_
        subst hQ
        exact r_zret (τ, ξ) C hW hr rfl hk dX8_isOrder_57 (by first | exact Or.inl ⟨rfl, rfl, (by omega)⟩ | exact Or.inr (⟨rfl, rfl, (by omega)⟩))
      · skip
        have k_4 := (tc_eq (rfl : (b).toInt = (b).toInt) (show (0 : Int32).toInt = 0 from by decide)).mp c_4
        refine lv_iconst C.1 C.2.1 (v := 1) dX8_isOrder_52 (by decide) ?_
        refine lv_goto C.1 C.2.1 (tgt := 57) dX8_isOrder_53 (by decide) ?_
        subst hQ
        exact r_zret (τ, ξ) C hW hr rfl hk dX8_isOrder_57 (by first | exact Or.inl ⟨rfl, rfl, (by omega)⟩ | exact Or.inr (⟨rfl, rfl, (by omega)⟩))
    · skip
      have hW : WB G 33 q (eM G q τ ξ) s H locs := hW
      refine lv_if_eq C.1 C.2.1 (tgt := 56) dX8_isOrder_45 (by decide) (fun _ => ?_) (fun c => absurd c (by decide))
      refine lv_iconst C.1 C.2.1 (v := 0) dX8_isOrder_56 (by decide) ?_
      subst hQ
      exact r_zret (τ, ξ) C hW hr rfl hk dX8_isOrder_57 (by first | exact Or.inl ⟨rfl, rfl, (by omega)⟩ | exact Or.inr (⟨rfl, rfl, (by omega)⟩))
  by_cases c_1_1 : (kd).toInt = 1
  · skip
    refine lv_tableIn C.1 C.2.1 dX8_isOrder_1 (off := 57) (tgt := 58) (by omega) (by omega) (by rw [show (kd).toInt = 1 by omega]; rfl) (by decide) ?_
    refine lv_iload_n C.1 C.2.1 dX8_isOrder_58 rfl (lv_at hl 2 rfl) ?_
    refine lv_i2l C.1 C.2.1 dX8_isOrder_59 rfl ?_
    refine lv_lconst C.1 C.2.1 (v := 0) dX8_isOrder_60 (by decide) ?_
    refine lv_ldc2 C.1 C.2.1 C.2.2.2.1 (C.2.2.2.2.1 _ bQ_X8_252) dX8_isOrder_61 ?_
    refine go_i hW (run_S (As := [.long ((a).toInt64), .long 0, .long 359]) (rest := []) C hW (c_X8_in l G q _ τ ξ ((a).toInt64) 0 359 ((a).toInt) 0 359 (ti_i2l (rfl : (a).toInt = (a).toInt)) (show (0 : Int64).toInt = 0 from by decide) (show (359 : Int64).toInt = 359 from by decide)) (cw_S 3 C bL_X8_121 bS_X8_in bN_X8 bC_X8_in ⟨rfl, rfl⟩ (by decide +kernel) ⟨Nat.le_of_ble_eq_true rfl, Nat.le_of_ble_eq_true rfl⟩) rfl hl.1 rfl (Nat.le_of_ble_eq_true rfl) dX8_isOrder_64 ⟨Nat.le_refl _, Nat.le_refl _⟩) (fun r_6 u_6 H locs hp_6 hW => ?_)
    rcases hp_6 with ⟨rfl, rfl, k_6_0, k_6_1⟩ | ⟨rfl, rfl, k_6⟩
    · skip
      have hW : WB G 33 q (eM G q τ ξ) s H locs := hW
      refine lv_if_eq C.1 C.2.1 (tgt := 78) dX8_isOrder_67 (by decide) (fun c => absurd c (by decide)) (fun _ => ?_)
      refine lv_iload_n C.1 C.2.1 dX8_isOrder_70 rfl (lv_at hl 3 rfl) ?_
      refine lv_if_ne C.1 C.2.1 (tgt := 78) dX8_isOrder_71 (by decide) (fun c_8 => ?_) (fun c_8 => ?_)
      · skip
        have k_8 := (tn_eq (rfl : (b).toInt = (b).toInt) (show (0 : Int32).toInt = 0 from by decide)).mp c_8
        refine lv_iconst C.1 C.2.1 (v := 0) dX8_isOrder_78 (by decide) ?_
        subst hQ
        exact r_zret (τ, ξ) C hW hr rfl hk dX8_isOrder_79 (by first | exact Or.inl ⟨rfl, rfl, (by omega)⟩ | exact Or.inr (⟨rfl, rfl, (by omega)⟩))
      · skip
        have k_8 := (tc_eq (rfl : (b).toInt = (b).toInt) (show (0 : Int32).toInt = 0 from by decide)).mp c_8
        refine lv_iconst C.1 C.2.1 (v := 1) dX8_isOrder_74 (by decide) ?_
        refine lv_goto C.1 C.2.1 (tgt := 79) dX8_isOrder_75 (by decide) ?_
        subst hQ
        exact r_zret (τ, ξ) C hW hr rfl hk dX8_isOrder_79 (by first | exact Or.inl ⟨rfl, rfl, (by omega)⟩ | exact Or.inr (⟨rfl, rfl, (by omega)⟩))
    · skip
      have hW : WB G 33 q (eM G q τ ξ) s H locs := hW
      refine lv_if_eq C.1 C.2.1 (tgt := 78) dX8_isOrder_67 (by decide) (fun _ => ?_) (fun c => absurd c (by decide))
      refine lv_iconst C.1 C.2.1 (v := 0) dX8_isOrder_78 (by decide) ?_
      subst hQ
      exact r_zret (τ, ξ) C hW hr rfl hk dX8_isOrder_79 (by first | exact Or.inl ⟨rfl, rfl, (by omega)⟩ | exact Or.inr (⟨rfl, rfl, (by omega)⟩))
  by_cases c_1_2 : (kd).toInt = 2
  · skip
    refine lv_tableIn C.1 C.2.1 dX8_isOrder_1 (off := 79) (tgt := 80) (by omega) (by omega) (by rw [show (kd).toInt = 2 by omega]; rfl) (by decide) ?_
    refine lv_iload_n C.1 C.2.1 dX8_isOrder_80 rfl (lv_at hl 2 rfl) ?_
    refine lv_i2l C.1 C.2.1 dX8_isOrder_81 rfl ?_
    refine lv_lconst C.1 C.2.1 (v := 1) dX8_isOrder_82 (by decide) ?_
    refine lv_ldc2 C.1 C.2.1 C.2.2.2.1 (C.2.2.2.2.1 _ bQ_X8_250) dX8_isOrder_83 ?_
    refine go_i hW (run_S (As := [.long ((a).toInt64), .long 1, .long 600]) (rest := []) C hW (c_X8_in l G q _ τ ξ ((a).toInt64) 1 600 ((a).toInt) 1 600 (ti_i2l (rfl : (a).toInt = (a).toInt)) (show (1 : Int64).toInt = 1 from by decide) (show (600 : Int64).toInt = 600 from by decide)) (cw_S 3 C bL_X8_121 bS_X8_in bN_X8 bC_X8_in ⟨rfl, rfl⟩ (by decide +kernel) ⟨Nat.le_of_ble_eq_true rfl, Nat.le_of_ble_eq_true rfl⟩) rfl hl.1 rfl (Nat.le_of_ble_eq_true rfl) dX8_isOrder_86 ⟨Nat.le_refl _, Nat.le_refl _⟩) (fun r_10 u_10 H locs hp_10 hW => ?_)
    rcases hp_10 with ⟨rfl, rfl, k_10_0, k_10_1⟩ | ⟨rfl, rfl, k_10⟩
    · skip
      have hW : WB G 33 q (eM G q τ ξ) s H locs := hW
      refine lv_if_eq C.1 C.2.1 (tgt := 108) dX8_isOrder_89 (by decide) (fun c => absurd c (by decide)) (fun _ => ?_)
      refine lv_iload_n C.1 C.2.1 dX8_isOrder_92 rfl (lv_at hl 3 rfl) ?_
      refine lv_i2l C.1 C.2.1 dX8_isOrder_93 rfl ?_
      refine lv_lconst C.1 C.2.1 (v := 0) dX8_isOrder_94 (by decide) ?_
      refine lv_ldc2 C.1 C.2.1 C.2.2.2.1 (C.2.2.2.2.1 _ bQ_X8_248) dX8_isOrder_95 ?_
      refine go_i hW (run_S (As := [.long ((b).toInt64), .long 0, .long 7]) (rest := []) C hW (c_X8_in l G q _ τ ξ ((b).toInt64) 0 7 ((b).toInt) 0 7 (ti_i2l (rfl : (b).toInt = (b).toInt)) (show (0 : Int64).toInt = 0 from by decide) (show (7 : Int64).toInt = 7 from by decide)) (cw_S 3 C bL_X8_121 bS_X8_in bN_X8 bC_X8_in ⟨rfl, rfl⟩ (by decide +kernel) ⟨Nat.le_of_ble_eq_true rfl, Nat.le_of_ble_eq_true rfl⟩) rfl hl.1 rfl (Nat.le_of_ble_eq_true rfl) dX8_isOrder_98 ⟨Nat.le_refl _, Nat.le_refl _⟩) (fun r_12 u_12 H locs hp_12 hW => ?_)
      rcases hp_12 with ⟨rfl, rfl, k_12_0, k_12_1⟩ | ⟨rfl, rfl, k_12⟩
      · skip
        have hW : WB G 33 q (eM G q τ ξ) s H locs := hW
        refine lv_if_eq C.1 C.2.1 (tgt := 108) dX8_isOrder_101 (by decide) (fun c => absurd c (by decide)) (fun _ => ?_)
        refine lv_iconst C.1 C.2.1 (v := 1) dX8_isOrder_104 (by decide) ?_
        refine lv_goto C.1 C.2.1 (tgt := 109) dX8_isOrder_105 (by decide) ?_
        subst hQ
        exact r_zret (τ, ξ) C hW hr rfl hk dX8_isOrder_109 (by first | exact Or.inl ⟨rfl, rfl, (by omega)⟩ | exact Or.inr (⟨rfl, rfl, (by omega)⟩))
      · skip
        have hW : WB G 33 q (eM G q τ ξ) s H locs := hW
        refine lv_if_eq C.1 C.2.1 (tgt := 108) dX8_isOrder_101 (by decide) (fun _ => ?_) (fun c => absurd c (by decide))
        refine lv_iconst C.1 C.2.1 (v := 0) dX8_isOrder_108 (by decide) ?_
        subst hQ
        exact r_zret (τ, ξ) C hW hr rfl hk dX8_isOrder_109 (by first | exact Or.inl ⟨rfl, rfl, (by omega)⟩ | exact Or.inr (⟨rfl, rfl, (by omega)⟩))
    · skip
      have hW : WB G 33 q (eM G q τ ξ) s H locs := hW
      refine lv_if_eq C.1 C.2.1 (tgt := 108) dX8_isOrder_89 (by decide) (fun _ => ?_) (fun c => absurd c (by decide))
      refine lv_iconst C.1 C.2.1 (v := 0) dX8_isOrder_108 (by decide) ?_
      subst hQ
      exact r_zret (τ, ξ) C hW hr rfl hk dX8_isOrder_109 (by first | exact Or.inl ⟨rfl, rfl, (by omega)⟩ | exact Or.inr (⟨rfl, rfl, (by omega)⟩))
  by_cases c_1_3 : (kd).toInt = 3
  · skip
    refine lv_tableIn C.1 C.2.1 dX8_isOrder_1 (off := 109) (tgt := 110) (by omega) (by omega) (by rw [show (kd).toInt = 3 by omega]; rfl) (by decide) ?_
    refine lv_iload_n C.1 C.2.1 dX8_isOrder_110 rfl (lv_at hl 2 rfl) ?_
    refine lv_i2l C.1 C.2.1 dX8_isOrder_111 rfl ?_
    refine lv_lconst C.1 C.2.1 (v := 0) dX8_isOrder_112 (by decide) ?_
    refine lv_aload_n C.1 C.2.1 dX8_isOrder_113 rfl (lv_at hl 0 rfl) ?_
    refine mG_orders C hW (v := (τ.1 9)) rfl dX8_isOrder_114 ?_
    refine lv_iconst C.1 C.2.1 (v := 1) dX8_isOrder_117 (by decide) ?_
    refine lv_isub C.1 C.2.1 dX8_isOrder_118 ?_
    refine lv_i2l C.1 C.2.1 dX8_isOrder_119 rfl ?_
    refine go_i hW (run_S (As := [.long ((a).toInt64), .long 0, .long (((τ.1 9) - 1).toInt64)]) (rest := []) C hW (c_X8_in l G q _ τ ξ ((a).toInt64) 0 (((τ.1 9) - 1).toInt64) ((a).toInt) 0 (((τ.1 9)).toInt - 1) (ti_i2l (rfl : (a).toInt = (a).toInt)) (show (0 : Int64).toInt = 0 from by decide) (ti_i2l (ti_sub (rfl : ((τ.1 9)).toInt = ((τ.1 9)).toInt) (show (1 : Int32).toInt = 1 from by decide) (by omega) (by omega)))) (cw_S 3 C bL_X8_121 bS_X8_in bN_X8 bC_X8_in ⟨rfl, rfl⟩ (by decide +kernel) ⟨Nat.le_of_ble_eq_true rfl, Nat.le_of_ble_eq_true rfl⟩) rfl hl.1 rfl (Nat.le_of_ble_eq_true rfl) dX8_isOrder_120 ⟨Nat.le_refl _, Nat.le_refl _⟩) (fun r_16 u_16 H locs hp_16 hW => ?_)
    rcases hp_16 with ⟨rfl, rfl, k_16_0, k_16_1⟩ | ⟨rfl, rfl, k_16⟩
    · skip
      have hW : WB G 33 q (eM G q τ ξ) s H locs := hW
      refine lv_if_eq C.1 C.2.1 (tgt := 142) dX8_isOrder_123 (by decide) (fun c => absurd c (by decide)) (fun _ => ?_)
      refine lv_iload_n C.1 C.2.1 dX8_isOrder_126 rfl (lv_at hl 3 rfl) ?_
      refine lv_i2l C.1 C.2.1 dX8_isOrder_127 rfl ?_
      refine lv_lconst C.1 C.2.1 (v := 1) dX8_isOrder_128 (by decide) ?_
      refine lv_ldc2 C.1 C.2.1 C.2.2.2.1 (C.2.2.2.2.1 _ bQ_X8_239) dX8_isOrder_129 ?_
      refine go_i hW (run_S (As := [.long ((b).toInt64), .long 1, .long 50]) (rest := []) C hW (c_X8_in l G q _ τ ξ ((b).toInt64) 1 50 ((b).toInt) 1 50 (ti_i2l (rfl : (b).toInt = (b).toInt)) (show (1 : Int64).toInt = 1 from by decide) (show (50 : Int64).toInt = 50 from by decide)) (cw_S 3 C bL_X8_121 bS_X8_in bN_X8 bC_X8_in ⟨rfl, rfl⟩ (by decide +kernel) ⟨Nat.le_of_ble_eq_true rfl, Nat.le_of_ble_eq_true rfl⟩) rfl hl.1 rfl (Nat.le_of_ble_eq_true rfl) dX8_isOrder_132 ⟨Nat.le_refl _, Nat.le_refl _⟩) (fun r_18 u_18 H locs hp_18 hW => ?_)
      rcases hp_18 with ⟨rfl, rfl, k_18_0, k_18_1⟩ | ⟨rfl, rfl, k_18⟩
      · skip
        have hW : WB G 33 q (eM G q τ ξ) s H locs := hW
        refine lv_if_eq C.1 C.2.1 (tgt := 142) dX8_isOrder_135 (by decide) (fun c => absurd c (by decide)) (fun _ => ?_)
        refine lv_iconst C.1 C.2.1 (v := 1) dX8_isOrder_138 (by decide) ?_
        refine lv_goto C.1 C.2.1 (tgt := 143) dX8_isOrder_139 (by decide) ?_
        subst hQ
        exact r_zret (τ, ξ) C hW hr rfl hk dX8_isOrder_143 (by first | exact Or.inl ⟨rfl, rfl, (by omega)⟩ | exact Or.inr (⟨rfl, rfl, (by omega)⟩))
      · skip
        have hW : WB G 33 q (eM G q τ ξ) s H locs := hW
        refine lv_if_eq C.1 C.2.1 (tgt := 142) dX8_isOrder_135 (by decide) (fun _ => ?_) (fun c => absurd c (by decide))
        refine lv_iconst C.1 C.2.1 (v := 0) dX8_isOrder_142 (by decide) ?_
        subst hQ
        exact r_zret (τ, ξ) C hW hr rfl hk dX8_isOrder_143 (by first | exact Or.inl ⟨rfl, rfl, (by omega)⟩ | exact Or.inr (⟨rfl, rfl, (by omega)⟩))
    · skip
      have hW : WB G 33 q (eM G q τ ξ) s H locs := hW
      refine lv_if_eq C.1 C.2.1 (tgt := 142) dX8_isOrder_123 (by decide) (fun _ => ?_) (fun c => absurd c (by decide))
      refine lv_iconst C.1 C.2.1 (v := 0) dX8_isOrder_142 (by decide) ?_
      subst hQ
      exact r_zret (τ, ξ) C hW hr rfl hk dX8_isOrder_143 (by first | exact Or.inl ⟨rfl, rfl, (by omega)⟩ | exact Or.inr (⟨rfl, rfl, (by omega)⟩))
  by_cases c_1_4 : (kd).toInt = 4
  · skip
    refine lv_tableIn C.1 C.2.1 dX8_isOrder_1 (off := 143) (tgt := 144) (by omega) (by omega) (by rw [show (kd).toInt = 4 by omega]; rfl) (by decide) ?_
    refine lv_iload_n C.1 C.2.1 dX8_isOrder_144 rfl (lv_at hl 2 rfl) ?_
    refine lv_i2l C.1 C.2.1 dX8_isOrder_145 rfl ?_
    refine lv_lconst C.1 C.2.1 (v := 1) dX8_isOrder_146 (by decide) ?_
    refine lv_ldc2 C.1 C.2.1 C.2.2.2.1 (C.2.2.2.2.1 _ bQ_X8_250) dX8_isOrder_147 ?_
    refine go_i hW (run_S (As := [.long ((a).toInt64), .long 1, .long 600]) (rest := []) C hW (c_X8_in l G q _ τ ξ ((a).toInt64) 1 600 ((a).toInt) 1 600 (ti_i2l (rfl : (a).toInt = (a).toInt)) (show (1 : Int64).toInt = 1 from by decide) (show (600 : Int64).toInt = 600 from by decide)) (cw_S 3 C bL_X8_121 bS_X8_in bN_X8 bC_X8_in ⟨rfl, rfl⟩ (by decide +kernel) ⟨Nat.le_of_ble_eq_true rfl, Nat.le_of_ble_eq_true rfl⟩) rfl hl.1 rfl (Nat.le_of_ble_eq_true rfl) dX8_isOrder_150 ⟨Nat.le_refl _, Nat.le_refl _⟩) (fun r_22 u_22 H locs hp_22 hW => ?_)
    rcases hp_22 with ⟨rfl, rfl, k_22_0, k_22_1⟩ | ⟨rfl, rfl, k_22⟩
    · skip
      have hW : WB G 33 q (eM G q τ ξ) s H locs := hW
      refine lv_if_eq C.1 C.2.1 (tgt := 164) dX8_isOrder_153 (by decide) (fun c => absurd c (by decide)) (fun _ => ?_)
      refine lv_iload_n C.1 C.2.1 dX8_isOrder_156 rfl (lv_at hl 3 rfl) ?_
      refine lv_if_ne C.1 C.2.1 (tgt := 164) dX8_isOrder_157 (by decide) (fun c_24 => ?_) (fun c_24 => ?_)
      · skip
        have k_24 := (tn_eq (rfl : (b).toInt = (b).toInt) (show (0 : Int32).toInt = 0 from by decide)).mp c_24
        refine lv_iconst C.1 C.2.1 (v := 0) dX8_isOrder_164 (by decide) ?_
        subst hQ
        exact r_zret (τ, ξ) C hW hr rfl hk dX8_isOrder_165 (by first | exact Or.inl ⟨rfl, rfl, (by omega)⟩ | exact Or.inr (⟨rfl, rfl, (by omega)⟩))
      · skip
        have k_24 := (tc_eq (rfl : (b).toInt = (b).toInt) (show (0 : Int32).toInt = 0 from by decide)).mp c_24
        refine lv_iconst C.1 C.2.1 (v := 1) dX8_isOrder_160 (by decide) ?_
        refine lv_goto C.1 C.2.1 (tgt := 165) dX8_isOrder_161 (by decide) ?_
        subst hQ
        exact r_zret (τ, ξ) C hW hr rfl hk dX8_isOrder_165 (by first | exact Or.inl ⟨rfl, rfl, (by omega)⟩ | exact Or.inr (⟨rfl, rfl, (by omega)⟩))
    · skip
      have hW : WB G 33 q (eM G q τ ξ) s H locs := hW
      refine lv_if_eq C.1 C.2.1 (tgt := 164) dX8_isOrder_153 (by decide) (fun _ => ?_) (fun c => absurd c (by decide))
      refine lv_iconst C.1 C.2.1 (v := 0) dX8_isOrder_164 (by decide) ?_
      subst hQ
      exact r_zret (τ, ξ) C hW hr rfl hk dX8_isOrder_165 (by first | exact Or.inl ⟨rfl, rfl, (by omega)⟩ | exact Or.inr (⟨rfl, rfl, (by omega)⟩))
  refine lv_tableOut C.1 C.2.1 dX8_isOrder_1 (tgt := 166) (by omega) (by decide) ?_
  refine lv_iload_n C.1 C.2.1 dX8_isOrder_166 rfl (lv_at hl 1 rfl) ?_
  refine lv_iconst C.1 C.2.1 (v := 5) dX8_isOrder_167 (by decide) ?_
  refine lv_icmp_ne C.1 C.2.1 (tgt := 183) dX8_isOrder_168 (by decide) (fun c_26 => ?_) (fun c_26 => ?_)
  · skip
    have k_26 := (tn_eq (rfl : (kd).toInt = (kd).toInt) (show (5 : Int32).toInt = 5 from by decide)).mp c_26
    refine lv_iconst C.1 C.2.1 (v := 0) dX8_isOrder_183 (by decide) ?_
    subst hQ
    exact r_zret (τ, ξ) C hW hr rfl hk dX8_isOrder_184 (by first | exact Or.inl ⟨rfl, rfl, (by omega)⟩ | exact Or.inr (⟨rfl, rfl, (by omega)⟩))
  · skip
    have k_26 := (tc_eq (rfl : (kd).toInt = (kd).toInt) (show (5 : Int32).toInt = 5 from by decide)).mp c_26
    refine lv_iload_n C.1 C.2.1 dX8_isOrder_171 rfl (lv_at hl 2 rfl) ?_
    refine lv_if_ne C.1 C.2.1 (tgt := 183) dX8_isOrder_172 (by decide) (fun c_27 => ?_) (fun c_27 => ?_)
    · skip
      have k_27 := (tn_eq (rfl : (a).toInt = (a).toInt) (show (0 : Int32).toInt = 0 from by decide)).mp c_27
      refine lv_iconst C.1 C.2.1 (v := 0) dX8_isOrder_183 (by decide) ?_
      subst hQ
      exact r_zret (τ, ξ) C hW hr rfl hk dX8_isOrder_184 (by first | exact Or.inl ⟨rfl, rfl, (by omega)⟩ | exact Or.inr (⟨rfl, rfl, (by omega)⟩))
    · skip
      have k_27 := (tc_eq (rfl : (a).toInt = (a).toInt) (show (0 : Int32).toInt = 0 from by decide)).mp c_27
      refine lv_iload_n C.1 C.2.1 dX8_isOrder_175 rfl (lv_at hl 3 rfl) ?_
      refine lv_if_ne C.1 C.2.1 (tgt := 183) dX8_isOrder_176 (by decide) (fun c_28 => ?_) (fun c_28 => ?_)
      · skip
        have k_28 := (tn_eq (rfl : (b).toInt = (b).toInt) (show (0 : Int32).toInt = 0 from by decide)).mp c_28
        refine lv_iconst C.1 C.2.1 (v := 0) dX8_isOrder_183 (by decide) ?_
        subst hQ
        exact r_zret (τ, ξ) C hW hr rfl hk dX8_isOrder_184 (by first | exact Or.inl ⟨rfl, rfl, (by omega)⟩ | exact Or.inr (⟨rfl, rfl, (by omega)⟩))
      · skip
        have k_28 := (tc_eq (rfl : (b).toInt = (b).toInt) (show (0 : Int32).toInt = 0 from by decide)).mp c_28
        refine lv_iconst C.1 C.2.1 (v := 1) dX8_isOrder_179 (by decide) ?_
        refine lv_goto C.1 C.2.1 (tgt := 184) dX8_isOrder_180 (by decide) ?_
        subst hQ
        exact r_zret (τ, ξ) C hW hr rfl hk dX8_isOrder_184 (by first | exact Or.inl ⟨rfl, rfl, (by omega)⟩ | exact Or.inr (⟨rfl, rfl, (by omega)⟩))
set_option maxHeartbeats 4000000 in
set_option maxRecDepth 100000 in
theorem c_X8_order (l : Launch) (G : GG) (q : Nat → Nat) (sz : Nat) (τ ξ : ST) (kd : Int32) (a : Int32) (b : Int32) (h_o : 0 ≤ (τ.1 9).toInt ∧ (τ.1 9).toInt ≤ 60) : Met l yX8_order (WSb yX8_order cX8_order 4 (some .int)) (rmA 2 48) (va_Pc [.ref (q 0), .int kd, .int a, .int b] (PW G 33 q sz (eM G q τ ξ))) (va_Qi (fun (r : Int32) (u : (ST × ST)) => sp_order τ kd a b = (r, u.1)) (fun u => BW G 33 q (eM G q u.1 u.2)) (FA 33 q sz)) 0 0 (FA 33 q sz) := by
  refine Met_B (own := RX8) rfl (by decide) (Nat.le_of_ble_eq_true rfl) (fun p e s m args below meth c ls hsz C hW hr hk hl QQ hQ => ?_)
  subst hsz
  have hl : lv_has ls 4 [(0, .ref (q 0)), (1, .int kd), (2, .int a), (3, .int b)] := hl
  refine lv_aload_n C.1 C.2.1 dX8_order_0 rfl (lv_at hl 0 rfl) ?_
  refine lv_iload_n C.1 C.2.1 dX8_order_1 rfl (lv_at hl 1 rfl) ?_
  refine lv_iload_n C.1 C.2.1 dX8_order_2 rfl (lv_at hl 2 rfl) ?_
  refine lv_iload_n C.1 C.2.1 dX8_order_3 rfl (lv_at hl 3 rfl) ?_
  refine go_i hW (run_V (o := 0) (As := [.int kd, .int a, .int b]) (rest := []) C hW (by decide) rfl rfl (c_X8_isOrder l G q _ τ ξ kd a b  h_o) (cw_V 3 C bL_X8_257 bI_X8_isOrder bV_X8_isOrder bN_X8 bC_X8_isOrder ⟨rfl, rfl⟩ (by decide +kernel) ⟨Nat.le_of_ble_eq_true rfl, Nat.le_of_ble_eq_true rfl⟩) rfl hl.1 rfl (Nat.le_of_ble_eq_true rfl) dX8_order_4 ⟨Nat.le_refl _, Nat.le_refl _⟩) (fun r_1 u_1 H locs hp_1 hW => ?_)
  rcases hp_1 with ⟨rfl, rfl, k_1⟩ | ⟨rfl, rfl, k_1⟩
  · skip
    have hW : WB G 33 q (eM G q τ ξ) s H locs := hW
    refine lv_if_ne C.1 C.2.1 (tgt := 13) dX8_order_7 (by decide) (fun _ => ?_) (fun c => absurd c (by decide))
    refine lv_aload_n C.1 C.2.1 dX8_order_13 rfl (lv_at hl 0 rfl) ?_
    refine mG_orders C hW (v := (τ.1 9)) rfl dX8_order_14 ?_
    refine lv_bipush C.1 C.2.1 (v := 60) dX8_order_17 (by decide) ?_
    refine lv_icmp_ne C.1 C.2.1 (tgt := 25) dX8_order_19 (by decide) (fun c_3 => ?_) (fun c_3 => ?_)
    · skip
      have k_3 := (tn_eq (rfl : ((τ.1 9)).toInt = ((τ.1 9)).toInt) (show (60 : Int32).toInt = 60 from by decide)).mp c_3
      refine lv_aload_n C.1 C.2.1 dX8_order_25 rfl (lv_at hl 0 rfl) ?_
      refine mG_kinds C hW dX8_order_26 ?_
      refine lv_aload_n C.1 C.2.1 dX8_order_29 rfl (lv_at hl 0 rfl) ?_
      refine mG_orders C hW (v := (τ.1 9)) rfl dX8_order_30 ?_
      refine lv_iload_n C.1 C.2.1 dX8_order_33 rfl (lv_at hl 1 rfl) ?_
      refine mS_kinds C hW ((((τ.1 9)).toInt).toNat) ((rfl : ((τ.1 9)).toInt = ((τ.1 9)).toInt).trans (by omega)) (by omega) dX8_order_34 (fun H locs hW => ?_)
      refine lv_aload_n C.1 C.2.1 dX8_order_35 rfl (lv_at hl 0 rfl) ?_
      refine mG_first C hW dX8_order_36 ?_
      refine lv_aload_n C.1 C.2.1 dX8_order_39 rfl (lv_at hl 0 rfl) ?_
      refine mG_orders C hW (v := (τ.1 9)) rfl dX8_order_40 ?_
      refine lv_iload_n C.1 C.2.1 dX8_order_43 rfl (lv_at hl 2 rfl) ?_
      refine mS_first C hW ((((τ.1 9)).toInt).toNat) ((rfl : ((τ.1 9)).toInt = ((τ.1 9)).toInt).trans (by omega)) (by omega) dX8_order_44 (fun H locs hW => ?_)
      refine lv_aload_n C.1 C.2.1 dX8_order_45 rfl (lv_at hl 0 rfl) ?_
      refine mG_second C hW dX8_order_46 ?_
      refine lv_aload_n C.1 C.2.1 dX8_order_49 rfl (lv_at hl 0 rfl) ?_
      refine mG_orders C hW (v := (τ.1 9)) rfl dX8_order_50 ?_
      refine lv_iload_n C.1 C.2.1 dX8_order_53 rfl (lv_at hl 3 rfl) ?_
      refine mS_second C hW ((((τ.1 9)).toInt).toNat) ((rfl : ((τ.1 9)).toInt = ((τ.1 9)).toInt).trans (by omega)) (by omega) dX8_order_54 (fun H locs hW => ?_)
      refine lv_aload_n C.1 C.2.1 dX8_order_55 rfl (lv_at hl 0 rfl) ?_
      refine lv_dup C.1 C.2.1 dX8_order_56 rfl ?_
      refine mG_orders C hW (v := (τ.1 9)) rfl dX8_order_57 ?_
      refine lv_iconst C.1 C.2.1 (v := 1) dX8_order_60 (by decide) ?_
      refine lv_iadd C.1 C.2.1 dX8_order_61 ?_
      refine mP_orders C hW dX8_order_62 (fun H locs hW => ?_)
      refine lv_aload_n C.1 C.2.1 dX8_order_65 rfl (lv_at hl 0 rfl) ?_
      refine mG_orders C hW (v := ((τ.1 9) + 1)) rfl dX8_order_66 ?_
      refine lv_iconst C.1 C.2.1 (v := 1) dX8_order_69 (by decide) ?_
      refine lv_isub C.1 C.2.1 dX8_order_70 ?_
      subst hQ
      exact r_iret ((sg (sa (sa (sa τ 18 ((((τ.1 9)).toInt).toNat) kd) 19 ((((τ.1 9)).toInt).toNat) a) 20 ((((τ.1 9)).toInt).toNat) b) 9 ((τ.1 9) + 1)), ξ) C hW hr hk dX8_order_71 (show sp_order τ kd a b = ((((τ.1 9) + 1) - 1), (sg (sa (sa (sa τ 18 ((((τ.1 9)).toInt).toNat) kd) 19 ((((τ.1 9)).toInt).toNat) a) 20 ((((τ.1 9)).toInt).toNat) b) 9 ((τ.1 9) + 1))) from by unfold sp_order; (first | rw [cIf_pos (show okO τ kd a b by unfold okO; assumption)] | rw [cIf_neg (show ¬ okO τ kd a b by unfold okO; assumption)]); (repeat (first | rw [if_pos (by omega)] | rw [if_neg (by omega)])); first | done | rfl)
    · skip
      have k_3 := (tc_eq (rfl : ((τ.1 9)).toInt = ((τ.1 9)).toInt) (show (60 : Int32).toInt = 60 from by decide)).mp c_3
      refine lv_bipush C.1 C.2.1 (v := (-3)) dX8_order_22 (by decide) ?_
      subst hQ
      exact r_iret (τ, ξ) C hW hr hk dX8_order_24 (show sp_order τ kd a b = ((-3), τ) from by unfold sp_order; (first | rw [cIf_pos (show okO τ kd a b by unfold okO; assumption)] | rw [cIf_neg (show ¬ okO τ kd a b by unfold okO; assumption)]); (repeat (first | rw [if_pos (by omega)] | rw [if_neg (by omega)])); first | done | rfl)
  · skip
    have hW : WB G 33 q (eM G q τ ξ) s H locs := hW
    refine lv_if_ne C.1 C.2.1 (tgt := 13) dX8_order_7 (by decide) (fun c => absurd c (by decide)) (fun _ => ?_)
    refine lv_bipush C.1 C.2.1 (v := (-2)) dX8_order_10 (by decide) ?_
    subst hQ
    exact r_iret (τ, ξ) C hW hr hk dX8_order_12 (show sp_order τ kd a b = ((-2), τ) from by unfold sp_order; (first | rw [cIf_pos (show okO τ kd a b by unfold okO; assumption)] | rw [cIf_neg (show ¬ okO τ kd a b by unfold okO; assumption)]); (repeat (first | rw [if_pos (by omega)] | rw [if_neg (by omega)])); first | done | rfl)
set_option maxHeartbeats 4000000 in
set_option maxRecDepth 100000 in
theorem c_X8_wipe (l : Launch) (G : GG) (q : Nat → Nat) (sz : Nat) (τ ξ : ST) : Met l yX8_wipe (WSb yX8_wipe cX8_wipe 2 (some .int)) (rmA 0 0) (va_Pc [.ref (q 0)] (PW G 33 q sz (eM G q τ ξ))) (va_Qi (fun (r : Int32) (u : (ST × ST)) => sp_wipe τ = (r, u.1)) (fun u => BW G 33 q (eM G q u.1 u.2)) (FA 33 q sz)) 0 0 (FA 33 q sz) := by
  refine Met_B (own := RX8) rfl (by decide) (Nat.le_of_ble_eq_true rfl) (fun p e s m args below meth c ls hsz C hW hr hk hl QQ hQ => ?_)
  subst hsz
  have hl : lv_has ls 2 [(0, .ref (q 0))] := hl
  refine lv_aload_n C.1 C.2.1 dX8_wipe_0 rfl (lv_at hl 0 rfl) ?_
  refine mG_orders C hW (v := (τ.1 9)) rfl dX8_wipe_1 ?_
  refine lv_istore_n (lv' := [(1, .int (τ.1 9)), (0, .ref (q 0))]) C.1 C.2.1 dX8_wipe_4 rfl hl (by decide) rfl (fun ls hl => ?_)
  refine lv_aload_n C.1 C.2.1 dX8_wipe_5 rfl (lv_at hl 1 rfl) ?_
  refine lv_iconst C.1 C.2.1 (v := 0) dX8_wipe_6 (by decide) ?_
  refine mP_orders C hW dX8_wipe_7 (fun H locs hW => ?_)
  refine lv_iload_n C.1 C.2.1 dX8_wipe_10 rfl (lv_at hl 0 rfl) ?_
  subst hQ
  exact r_iret ((sg τ 9 0), ξ) C hW hr hk dX8_wipe_11 (show sp_wipe τ  = ((τ.1 9), (sg τ 9 0)) from by unfold sp_wipe; (repeat (first | rw [if_pos (by omega)] | rw [if_neg (by omega)])); first | done | rfl)
set_option maxHeartbeats 4000000 in
set_option maxRecDepth 100000 in
theorem c_X8_told (l : Launch) (G : GG) (q : Nat → Nat) (sz : Nat) (τ ξ : ST) (w : Int32) : Met l yX8_told (WSb yX8_told cX8_told 2 (some .int)) (rmA 1 25) (va_Pc [.ref (q 0), .int w] (PW G 33 q sz (eM G q τ ξ))) (va_Qi (fun (r : Int32) (u : (ST × ST)) => sp_told τ w = (r, u.1)) (fun u => BW G 33 q (eM G q u.1 u.2)) (FA 33 q sz)) 0 0 (FA 33 q sz) := by
  refine Met_B (own := RX8) rfl (by decide) (Nat.le_of_ble_eq_true rfl) (fun p e s m args below meth c ls hsz C hW hr hk hl QQ hQ => ?_)
  subst hsz
  have hl : lv_has ls 2 [(0, .ref (q 0)), (1, .int w)] := hl
  refine lv_iload_n C.1 C.2.1 dX8_told_0 rfl (lv_at hl 1 rfl) ?_
  refine lv_i2l C.1 C.2.1 dX8_told_1 rfl ?_
  refine lv_ldc2 C.1 C.2.1 C.2.2.2.1 (C.2.2.2.2.1 _ bQ_X8_296) dX8_told_2 ?_
  refine lv_ldc2 C.1 C.2.1 C.2.2.2.1 (C.2.2.2.2.1 _ bQ_X8_298) dX8_told_5 ?_
  refine go_i hW (run_S (As := [.long ((w).toInt64), .long 10, .long 17]) (rest := []) C hW (c_X8_in l G q _ τ ξ ((w).toInt64) 10 17 ((w).toInt) 10 17 (ti_i2l (rfl : (w).toInt = (w).toInt)) (show (10 : Int64).toInt = 10 from by decide) (show (17 : Int64).toInt = 17 from by decide)) (cw_S 3 C bL_X8_121 bS_X8_in bN_X8 bC_X8_in ⟨rfl, rfl⟩ (by decide +kernel) ⟨Nat.le_of_ble_eq_true rfl, Nat.le_of_ble_eq_true rfl⟩) rfl hl.1 rfl (Nat.le_of_ble_eq_true rfl) dX8_told_8 ⟨Nat.le_refl _, Nat.le_refl _⟩) (fun r_1 u_1 H locs hp_1 hW => ?_)
  rcases hp_1 with ⟨rfl, rfl, k_1_0, k_1_1⟩ | ⟨rfl, rfl, k_1⟩
  · skip
    have hW : WB G 33 q (eM G q τ ξ) s H locs := hW
    refine lv_if_eq C.1 C.2.1 (tgt := 24) dX8_told_11 (by decide) (fun c => absurd c (by decide)) (fun _ => ?_)
    refine lv_aload_n C.1 C.2.1 dX8_told_14 rfl (lv_at hl 0 rfl) ?_
    refine mG_watchedOf C hW dX8_told_15 ?_
    refine lv_iload_n C.1 C.2.1 dX8_told_18 rfl (lv_at hl 1 rfl) ?_
    refine lv_bipush C.1 C.2.1 (v := 10) dX8_told_19 (by decide) ?_
    refine lv_isub C.1 C.2.1 dX8_told_21 ?_
    refine mL_watchedOf C hW ((((w).toInt - 10)).toNat) ((ti_sub (rfl : (w).toInt = (w).toInt) (show (10 : Int32).toInt = 10 from by decide) (by omega) (by omega)).trans (by omega)) (by omega) (v := (τ.2.1 21 ((((w).toInt - 10)).toNat))) rfl dX8_told_22 ?_
    subst hQ
    exact r_iret (τ, ξ) C hW hr hk dX8_told_23 (show sp_told τ w = ((τ.2.1 21 ((((w).toInt - 10)).toNat)), τ) from by unfold sp_told; (repeat (first | rw [if_pos (by omega)] | rw [if_neg (by omega)])); first | done | rfl)
  · skip
    have hW : WB G 33 q (eM G q τ ξ) s H locs := hW
    refine lv_if_eq C.1 C.2.1 (tgt := 24) dX8_told_11 (by decide) (fun _ => ?_) (fun c => absurd c (by decide))
    refine lv_iload_n C.1 C.2.1 dX8_told_24 rfl (lv_at hl 1 rfl) ?_
    have e_4 : (w).toInt = (w).toInt := (rfl : (w).toInt = (w).toInt)
    by_cases c_4_0 : (w).toInt = 0
    · skip
      refine lv_tableIn C.1 C.2.1 dX8_told_25 (off := 39) (tgt := 64) (by omega) (by omega) (by rw [show (w).toInt = 0 by omega]; rfl) (by decide) ?_
      refine lv_aload_n C.1 C.2.1 dX8_told_64 rfl (lv_at hl 0 rfl) ?_
      refine mG_minute C hW (v := (τ.1 10)) rfl dX8_told_65 ?_
      subst hQ
      exact r_iret (τ, ξ) C hW hr hk dX8_told_68 (show sp_told τ w = ((τ.1 10), τ) from by unfold sp_told; (repeat (first | rw [if_pos (by omega)] | rw [if_neg (by omega)])); first | done | rfl)
    by_cases c_4_1 : (w).toInt = 1
    · skip
      refine lv_tableIn C.1 C.2.1 dX8_told_25 (off := 44) (tgt := 69) (by omega) (by omega) (by rw [show (w).toInt = 1 by omega]; rfl) (by decide) ?_
      refine lv_aload_n C.1 C.2.1 dX8_told_69 rfl (lv_at hl 0 rfl) ?_
      refine mG_azimuth C hW (v := (τ.1 11)) rfl dX8_told_70 ?_
      subst hQ
      exact r_iret (τ, ξ) C hW hr hk dX8_told_73 (show sp_told τ w = ((τ.1 11), τ) from by unfold sp_told; (repeat (first | rw [if_pos (by omega)] | rw [if_neg (by omega)])); first | done | rfl)
    by_cases c_4_2 : (w).toInt = 2
    · skip
      refine lv_tableIn C.1 C.2.1 dX8_told_25 (off := 49) (tgt := 74) (by omega) (by omega) (by rw [show (w).toInt = 2 by omega]; rfl) (by decide) ?_
      refine lv_aload_n C.1 C.2.1 dX8_told_74 rfl (lv_at hl 0 rfl) ?_
      refine mG_watched C hW (v := (τ.1 12)) rfl dX8_told_75 ?_
      subst hQ
      exact r_iret (τ, ξ) C hW hr hk dX8_told_78 (show sp_told τ w = ((τ.1 12), τ) from by unfold sp_told; (repeat (first | rw [if_pos (by omega)] | rw [if_neg (by omega)])); first | done | rfl)
    by_cases c_4_3 : (w).toInt = 3
    · skip
      refine lv_tableIn C.1 C.2.1 dX8_told_25 (off := 54) (tgt := 79) (by omega) (by omega) (by rw [show (w).toInt = 3 by omega]; rfl) (by decide) ?_
      refine lv_aload_n C.1 C.2.1 dX8_told_79 rfl (lv_at hl 0 rfl) ?_
      refine mG_done C hW (v := (τ.1 13)) rfl dX8_told_80 ?_
      subst hQ
      exact r_iret (τ, ξ) C hW hr hk dX8_told_83 (show sp_told τ w = ((τ.1 13), τ) from by unfold sp_told; (repeat (first | rw [if_pos (by omega)] | rw [if_neg (by omega)])); first | done | rfl)
    by_cases c_4_4 : (w).toInt = 4
    · skip
      refine lv_tableIn C.1 C.2.1 dX8_told_25 (off := 59) (tgt := 84) (by omega) (by omega) (by rw [show (w).toInt = 4 by omega]; rfl) (by decide) ?_
      refine lv_aload_n C.1 C.2.1 dX8_told_84 rfl (lv_at hl 0 rfl) ?_
      refine mG_endedAt C hW (v := (τ.1 14)) rfl dX8_told_85 ?_
      subst hQ
      exact r_iret (τ, ξ) C hW hr hk dX8_told_88 (show sp_told τ w = ((τ.1 14), τ) from by unfold sp_told; (repeat (first | rw [if_pos (by omega)] | rw [if_neg (by omega)])); first | done | rfl)
    by_cases c_4_5 : (w).toInt = 5
    · skip
      refine lv_tableIn C.1 C.2.1 dX8_told_25 (off := 64) (tgt := 89) (by omega) (by omega) (by rw [show (w).toInt = 5 by omega]; rfl) (by decide) ?_
      refine lv_aload_n C.1 C.2.1 dX8_told_89 rfl (lv_at hl 0 rfl) ?_
      refine mG_turning C hW (v := (τ.1 15)) rfl dX8_told_90 ?_
      subst hQ
      exact r_iret (τ, ξ) C hW hr hk dX8_told_93 (show sp_told τ w = ((τ.1 15), τ) from by unfold sp_told; (repeat (first | rw [if_pos (by omega)] | rw [if_neg (by omega)])); first | done | rfl)
    refine lv_tableOut C.1 C.2.1 dX8_told_25 (tgt := 94) (by omega) (by decide) ?_
    refine lv_bipush C.1 C.2.1 (v := (-2)) dX8_told_94 (by decide) ?_
    subst hQ
    exact r_iret (τ, ξ) C hW hr hk dX8_told_96 (show sp_told τ w = ((-2), τ) from by unfold sp_told; (repeat (first | rw [if_pos (by omega)] | rw [if_neg (by omega)])); first | done | rfl)
set_option maxHeartbeats 4000000 in
set_option maxRecDepth 100000 in
theorem c_X8_count (l : Launch) (G : GG) (q : Nat → Nat) (sz : Nat) (τ ξ : ST) (w : Int32) : Met l yX8_count (WSb yX8_count cX8_count 2 (some .int)) (rmA 1 20) (va_Pc [.ref (q 0), .int w] (PW G 33 q sz (eM G q τ ξ))) (va_Qi (fun (r : Int32) (u : (ST × ST)) => sp_count τ w = (r, u.1)) (fun u => BW G 33 q (eM G q u.1 u.2)) (FA 33 q sz)) 0 0 (FA 33 q sz) := by
  refine Met_B (own := RX8) rfl (by decide) (Nat.le_of_ble_eq_true rfl) (fun p e s m args below meth c ls hsz C hW hr hk hl QQ hQ => ?_)
  subst hsz
  have hl : lv_has ls 2 [(0, .ref (q 0)), (1, .int w)] := hl
  refine lv_iload_n C.1 C.2.1 dX8_count_0 rfl (lv_at hl 1 rfl) ?_
  have e_1 : (w).toInt = (w).toInt := (rfl : (w).toInt = (w).toInt)
  by_cases c_1_0 : (w).toInt = 0
  · skip
    refine lv_tableIn C.1 C.2.1 dX8_count_1 (off := 43) (tgt := 44) (by omega) (by omega) (by rw [show (w).toInt = 0 by omega]; rfl) (by decide) ?_
    refine lv_aload_n C.1 C.2.1 dX8_count_44 rfl (lv_at hl 0 rfl) ?_
    refine mG_dishes C hW (v := (τ.1 0)) rfl dX8_count_45 ?_
    subst hQ
    exact r_iret (τ, ξ) C hW hr hk dX8_count_48 (show sp_count τ w = ((τ.1 0), τ) from by unfold sp_count; (repeat (first | rw [if_pos (by omega)] | rw [if_neg (by omega)])); first | done | rfl)
  by_cases c_1_1 : (w).toInt = 1
  · skip
    refine lv_tableIn C.1 C.2.1 dX8_count_1 (off := 48) (tgt := 49) (by omega) (by omega) (by rw [show (w).toInt = 1 by omega]; rfl) (by decide) ?_
    refine lv_aload_n C.1 C.2.1 dX8_count_49 rfl (lv_at hl 0 rfl) ?_
    refine mG_flags C hW (v := (τ.1 2)) rfl dX8_count_50 ?_
    subst hQ
    exact r_iret (τ, ξ) C hW hr hk dX8_count_53 (show sp_count τ w = ((τ.1 2), τ) from by unfold sp_count; (repeat (first | rw [if_pos (by omega)] | rw [if_neg (by omega)])); first | done | rfl)
  by_cases c_1_2 : (w).toInt = 2
  · skip
    refine lv_tableIn C.1 C.2.1 dX8_count_1 (off := 53) (tgt := 54) (by omega) (by omega) (by rw [show (w).toInt = 2 by omega]; rfl) (by decide) ?_
    refine lv_aload_n C.1 C.2.1 dX8_count_54 rfl (lv_at hl 0 rfl) ?_
    refine mG_points C hW (v := (τ.1 3)) rfl dX8_count_55 ?_
    subst hQ
    exact r_iret (τ, ξ) C hW hr hk dX8_count_58 (show sp_count τ w = ((τ.1 3), τ) from by unfold sp_count; (repeat (first | rw [if_pos (by omega)] | rw [if_neg (by omega)])); first | done | rfl)
  by_cases c_1_3 : (w).toInt = 3
  · skip
    refine lv_tableIn C.1 C.2.1 dX8_count_1 (off := 58) (tgt := 59) (by omega) (by omega) (by rw [show (w).toInt = 3 by omega]; rfl) (by decide) ?_
    refine lv_aload_n C.1 C.2.1 dX8_count_59 rfl (lv_at hl 0 rfl) ?_
    refine mG_parts C hW (v := (τ.1 4)) rfl dX8_count_60 ?_
    subst hQ
    exact r_iret (τ, ξ) C hW hr hk dX8_count_63 (show sp_count τ w = ((τ.1 4), τ) from by unfold sp_count; (repeat (first | rw [if_pos (by omega)] | rw [if_neg (by omega)])); first | done | rfl)
  by_cases c_1_4 : (w).toInt = 4
  · skip
    refine lv_tableIn C.1 C.2.1 dX8_count_1 (off := 63) (tgt := 64) (by omega) (by omega) (by rw [show (w).toInt = 4 by omega]; rfl) (by decide) ?_
    refine lv_aload_n C.1 C.2.1 dX8_count_64 rfl (lv_at hl 0 rfl) ?_
    refine mG_orders C hW (v := (τ.1 9)) rfl dX8_count_65 ?_
    subst hQ
    exact r_iret (τ, ξ) C hW hr hk dX8_count_68 (show sp_count τ w = ((τ.1 9), τ) from by unfold sp_count; (repeat (first | rw [if_pos (by omega)] | rw [if_neg (by omega)])); first | done | rfl)
  by_cases c_1_5 : (w).toInt = 5
  · skip
    refine lv_tableIn C.1 C.2.1 dX8_count_1 (off := 68) (tgt := 69) (by omega) (by omega) (by rw [show (w).toInt = 5 by omega]; rfl) (by decide) ?_
    refine lv_aload_n C.1 C.2.1 dX8_count_69 rfl (lv_at hl 0 rfl) ?_
    refine go_i hW (run_V (o := 0) (As := []) (rest := []) C hW (by decide) rfl rfl (c_X8_cells l G q _ τ ξ   ) (cw_V 0 C bL_X8_228 bI_X8_cells bV_X8_cells bN_X8 bC_X8_cells ⟨rfl, rfl⟩ (by decide +kernel) ⟨Nat.le_of_ble_eq_true rfl, Nat.le_of_ble_eq_true rfl⟩) rfl hl.1 rfl (Nat.le_of_ble_eq_true rfl) dX8_count_70 ⟨Nat.le_refl _, Nat.le_refl _⟩) (fun r_2 u_2 H locs hp_2 hW => ?_)
    rcases hp_2 with ⟨rfl, rfl⟩
    have hW : WB G 33 q (eM G q τ ξ) s H locs := hW
    subst hQ
    exact r_iret (τ, ξ) C hW hr hk dX8_count_73 (show sp_count τ w = (((τ.1 6 - τ.1 5 + 1) * (τ.1 8 - τ.1 7 + 1)), τ) from by unfold sp_count; (repeat (first | rw [if_pos (by omega)] | rw [if_neg (by omega)])); first | done | rfl)
  by_cases c_1_6 : (w).toInt = 6
  · skip
    refine lv_tableIn C.1 C.2.1 dX8_count_1 (off := 73) (tgt := 74) (by omega) (by omega) (by rw [show (w).toInt = 6 by omega]; rfl) (by decide) ?_
    refine lv_aload_n C.1 C.2.1 dX8_count_74 rfl (lv_at hl 0 rfl) ?_
    refine mG_finding C hW (v := (τ.1 1)) rfl dX8_count_75 ?_
    subst hQ
    exact r_iret (τ, ξ) C hW hr hk dX8_count_78 (show sp_count τ w = ((τ.1 1), τ) from by unfold sp_count; (repeat (first | rw [if_pos (by omega)] | rw [if_neg (by omega)])); first | done | rfl)
  refine lv_tableOut C.1 C.2.1 dX8_count_1 (tgt := 79) (by omega) (by decide) ?_
  refine lv_bipush C.1 C.2.1 (v := (-2)) dX8_count_79 (by decide) ?_
  subst hQ
  exact r_iret (τ, ξ) C hW hr hk dX8_count_81 (show sp_count τ w = ((-2), τ) from by unfold sp_count; (repeat (first | rw [if_pos (by omega)] | rw [if_neg (by omega)])); first | done | rfl)
