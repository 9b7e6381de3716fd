/-! Arrays.fill; a dish's methods -/
set_option maxHeartbeats 4000000 in
theorem c_J7_fill_53178 (l : Launch) (G : GG) (n : Nat) (q : Nat → Nat) (sz : Nat) (E : Nat → va_E) (o z : Nat) (f : Nat → Int32) (v : Int32) (ho : o < n) (he : E o = .inl (G.2.1.1, z, .inl (f))) (hz : z < 2147483648) : Met l yJ7_fill_53178 (WSb yJ7_fill_53178 cJ7_fill_53178 4 none) (rmA 0 0) (va_Pc [.ref (q o), .int v] (PW G n q sz E)) (va_Qv (fun (_ : Unit) => True) (fun _ => BW G n q (va_up E o (.inl (G.2.1.1, z, .inl (cut z (fun _ => v) f))))) (FA n q sz)) 0 0 (FA n q sz) := by
  refine Met_B (own := RJ7) rfl (by decide) (Nat.le_of_ble_eq_true rfl) (fun p e s m args below meth c ls hsz C hW hr hk hl QQ hQ => ?_)
  subst hsz
  have hl : lv_has ls 4 [(0, .ref (q o)), (1, .int v)] := hl
  refine lv_iconst C.1 C.2.1 (v := 0) dJ7_fill_53178_0 (by decide) ?_
  refine lv_istore_n (lv' := [(2, .int 0), (0, .ref (q o)), (1, .int v)]) C.1 C.2.1 dJ7_fill_53178_1 rfl hl (by decide) rfl (fun ls hl => ?_)
  refine lv_aload_n C.1 C.2.1 dJ7_fill_53178_2 rfl (lv_at hl 1 rfl) ?_
  refine r_alenI C hW ho he (v := nI z) rfl dJ7_fill_53178_3 ?_
  refine lv_istore_n (lv' := [(3, .int (nI z)), (2, .int 0), (0, .ref (q o)), (1, .int v)]) C.1 C.2.1 dJ7_fill_53178_4 rfl hl (by decide) rfl (fun ls hl => ?_)
  have Lp : ∀ (fuel k : Nat) (x : Int32), z - k < fuel → x.toInt = (k : Int) → k ≤ z → ∀ (H : Heap) (locs : List Loc) (ls : Array Slot), WB G n q (va_up E o (.inl (G.2.1.1, z, .inl (cut k (fun _ => v) f)))) s H locs → lv_has ls 4 [(3, .int (nI z)), (2, .int x), (0, .ref (q o)), (1, .int v)] → W p l e (rmA 0 0) s m args below meth c H locs 0 0 QQ (F0 m 5 ls []) := by
    intro fuel; induction fuel with
    | zero => intro k x hf; exact absurd hf (Nat.not_lt_zero _)
    | succ fuel ih =>
      intro k x hf hx0 hkz H locs ls hW hl
      refine lv_iload_n C.1 C.2.1 dJ7_fill_53178_5 rfl (lv_at hl 1 rfl) ?_
      refine lv_iload_n C.1 C.2.1 dJ7_fill_53178_6 rfl (lv_at hl 0 rfl) ?_
      refine lv_icmp_ge C.1 C.2.1 (tgt := 20) dJ7_fill_53178_7 (by decide) (fun c1 => ?_) (fun c1 => ?_)
      · have k1 := (tc_le (nI_toInt hz) hx0).mp c1
        have e1 : k = z := by omega
        rw [e1] at hW
        subst hQ
        exact r_vret (EE := fun _ => (va_up E o (.inl (G.2.1.1, z, .inl (cut z (fun _ => v) f))))) () C hW hr hk dJ7_fill_53178_20 trivial
      · have k1 := (tn_le (nI_toInt hz) hx0).mp c1
        refine lv_aload_n C.1 C.2.1 dJ7_fill_53178_10 rfl (lv_at hl 2 rfl) ?_
        refine lv_iload_n C.1 C.2.1 dJ7_fill_53178_11 rfl (lv_at hl 1 rfl) ?_
        refine lv_iload_n C.1 C.2.1 dJ7_fill_53178_12 rfl (lv_at hl 3 rfl) ?_
        refine r_iast C hW (o := o) (z := z) (f := cut k (fun _ => v) f) ho (if_pos rfl) (k := k) hx0 (by omega) dJ7_fill_53178_13 (E' := (va_up E o (.inl (G.2.1.1, z, .inl (cut (k + 1) (fun _ => v) f))))) (fun j hj => ?_) (fun H locs hW => ?_)
        · have e2 : upd (cut k (fun _ => v) f) k v = cut (k + 1) (fun _ => v) f := cut_sI k (fun _ => v) f
          rw [e2]; unfold va_up; split <;> first | rfl | (rename_i h1; simp [h1])
        · refine lv_iinc (v := (x + 1)) (lv' := [(2, .int (x + 1)), (3, .int (nI z)), (0, .ref (q o)), (1, .int v)]) C.1 C.2.1 dJ7_fill_53178_14 hl (k := 1) rfl rfl (by decide) rfl (fun ls hl => ?_)
          refine lv_goto C.1 C.2.1 (tgt := 5) dJ7_fill_53178_17 (by decide) ?_
          exact ih (k + 1) (x + 1) (by omega) ((ti_add hx0 (show (1 : Int32).toInt = 1 from by decide) (by omega) (by omega)).trans (by omega)) (by omega) H locs ls hW (lv_sub hl [1, 0, 2, 3] rfl)
  exact Lp _ 0 0 (Nat.lt_succ_self _) (by decide) (Nat.zero_le _) _ _ _ (WB.to hW (fun j hj => by rw [cut_0]; unfold va_up; split <;> first | rfl | (rename_i h1; rw [h1, he]))) (lv_sub hl [0, 1, 2, 3] rfl)
set_option maxHeartbeats 4000000 in
theorem c_J7_fill_d0a16 (l : Launch) (G : GG) (n : Nat) (q : Nat → Nat) (sz : Nat) (E : Nat → va_E) (o z : Nat) (f : Nat → Int64) (v : Int64) (ho : o < n) (he : E o = .inl (G.2.1.2.1, z, .inr (.inl (f)))) (hz : z < 2147483648) : Met l yJ7_fill_d0a16 (WSb yJ7_fill_d0a16 cJ7_fill_d0a16 5 none) (rmA 0 0) (va_Pc [.ref (q o), .long v] (PW G n q sz E)) (va_Qv (fun (_ : Unit) => True) (fun _ => BW G n q (va_up E o (.inl (G.2.1.2.1, z, .inr (.inl (cut z (fun _ => v) f)))))) (FA n q sz)) 0 0 (FA n q sz) := by
  refine Met_B (own := RJ7) rfl (by decide) (Nat.le_of_ble_eq_true rfl) (fun p e s m args below meth c ls hsz C hW hr hk hl QQ hQ => ?_)
  subst hsz
  have hl : lv_has ls 5 [(0, .ref (q o)), (1, .long v)] := hl
  refine lv_iconst C.1 C.2.1 (v := 0) dJ7_fill_d0a16_0 (by decide) ?_
  refine lv_istore_n (lv' := [(3, .int 0), (0, .ref (q o)), (1, .long v)]) C.1 C.2.1 dJ7_fill_d0a16_1 rfl hl (by decide) rfl (fun ls hl => ?_)
  refine lv_aload_n C.1 C.2.1 dJ7_fill_d0a16_2 rfl (lv_at hl 1 rfl) ?_
  refine r_alenL C hW ho he (v := nI z) rfl dJ7_fill_d0a16_3 ?_
  refine lv_istore (lv' := [(4, .int (nI z)), (3, .int 0), (0, .ref (q o)), (1, .long v)]) C.1 C.2.1 dJ7_fill_d0a16_4 hl (by decide) rfl (fun ls hl => ?_)
  have Lp : ∀ (fuel k : Nat) (x : Int32), z - k < fuel → x.toInt = (k : Int) → k ≤ z → ∀ (H : Heap) (locs : List Loc) (ls : Array Slot), WB G n q (va_up E o (.inl (G.2.1.2.1, z, .inr (.inl (cut k (fun _ => v) f))))) s H locs → lv_has ls 5 [(4, .int (nI z)), (3, .int x), (0, .ref (q o)), (1, .long v)] → W p l e (rmA 0 0) s m args below meth c H locs 0 0 QQ (F0 m 6 ls []) := by
    intro fuel; induction fuel with
    | zero => intro k x hf; exact absurd hf (Nat.not_lt_zero _)
    | succ fuel ih =>
      intro k x hf hx0 hkz H locs ls hW hl
      refine lv_iload_n C.1 C.2.1 dJ7_fill_d0a16_6 rfl (lv_at hl 1 rfl) ?_
      refine lv_iload C.1 C.2.1 dJ7_fill_d0a16_7 (lv_at hl 0 rfl) ?_
      refine lv_icmp_ge C.1 C.2.1 (tgt := 22) dJ7_fill_d0a16_9 (by decide) (fun c1 => ?_) (fun c1 => ?_)
      · have k1 := (tc_le (nI_toInt hz) hx0).mp c1
        have e1 : k = z := by omega
        rw [e1] at hW
        subst hQ
        exact r_vret (EE := fun _ => (va_up E o (.inl (G.2.1.2.1, z, .inr (.inl (cut z (fun _ => v) f)))))) () C hW hr hk dJ7_fill_d0a16_22 trivial
      · have k1 := (tn_le (nI_toInt hz) hx0).mp c1
        refine lv_aload_n C.1 C.2.1 dJ7_fill_d0a16_12 rfl (lv_at hl 2 rfl) ?_
        refine lv_iload_n C.1 C.2.1 dJ7_fill_d0a16_13 rfl (lv_at hl 1 rfl) ?_
        refine lv_lload_n C.1 C.2.1 dJ7_fill_d0a16_14 rfl (lv_at hl 3 rfl) ?_
        refine r_last C hW (o := o) (z := z) (f := cut k (fun _ => v) f) ho (if_pos rfl) (k := k) hx0 (by omega) dJ7_fill_d0a16_15 (E' := (va_up E o (.inl (G.2.1.2.1, z, .inr (.inl (cut (k + 1) (fun _ => v) f)))))) (fun j hj => ?_) (fun H locs hW => ?_)
        · have e2 : vp_updL (cut k (fun _ => v) f) k v = cut (k + 1) (fun _ => v) f := cut_sL k (fun _ => v) f
          rw [e2]; unfold va_up; split <;> first | rfl | (rename_i h1; simp [h1])
        · refine lv_iinc (v := (x + 1)) (lv' := [(3, .int (x + 1)), (4, .int (nI z)), (0, .ref (q o)), (1, .long v)]) C.1 C.2.1 dJ7_fill_d0a16_16 hl (k := 1) rfl rfl (by decide) rfl (fun ls hl => ?_)
          refine lv_goto C.1 C.2.1 (tgt := 6) dJ7_fill_d0a16_19 (by decide) ?_
          exact ih (k + 1) (x + 1) (by omega) ((ti_add hx0 (show (1 : Int32).toInt = 1 from by decide) (by omega) (by omega)).trans (by omega)) (by omega) H locs ls hW (lv_sub hl [1, 0, 2, 3] rfl)
  exact Lp _ 0 0 (Nat.lt_succ_self _) (by decide) (Nat.zero_le _) _ _ _ (WB.to hW (fun j hj => by rw [cut_0]; unfold va_up; split <;> first | rfl | (rename_i h1; rw [h1, he]))) (lv_sub hl [0, 1, 2, 3] rfl)
set_option maxHeartbeats 4000000 in
set_option maxRecDepth 100000 in
theorem c_X1_hasSpan (l : Launch) (G : GG) (q : Nat → Nat) (nd sz : Nat) (τ ζ : ST) (ρ : RF) (a : Int32) (b : Int32) (i : Nat) (h_nd : nd ≤ 6) (hi : i < nd) : Met l yX1_hasSpan (WSb yX1_hasSpan cX1_hasSpan 3 (some .boolean)) (rmA 0 0) (va_Pc [.ref (q (28 + 3 * i)), .int a, .int b] (PW G (28 + 3 * nd) q sz (eX G q τ ζ ρ))) (va_Qi (fun (r : Int32) (u : (ST × ST × RF)) => (r = 1 ∧ u = (τ, ζ, ρ) ∧ (0 ≤ a.toInt) ∧ (0 ≤ b.toInt) ∧ (a.toInt + b.toInt ≤ (ζ.2.1 0 i).toInt)) ∨ (r = 0 ∧ u = (τ, ζ, ρ) ∧ (¬ (0 ≤ a.toInt ∧ 0 ≤ b.toInt ∧ a.toInt + b.toInt ≤ (ζ.2.1 0 i).toInt)))) (fun u => BW G (28 + 3 * nd) q (eX G q u.1 u.2.1 u.2.2)) (FA (28 + 3 * nd) q sz)) 0 0 (FA (28 + 3 * nd) q sz) := by
  refine Met_B (own := RX1) rfl (by decide) (Nat.le_of_ble_eq_true rfl) (fun p e s m args below meth c ls hsz C hW hr hk hl QQ hQ => ?_)
  subst hsz
  have hl : lv_has ls 3 [(0, .ref (q (28 + 3 * i))), (1, .int a), (2, .int b)] := hl
  have q1 : a.toInt < 2147483648 := Int32.toInt_lt a
  have q2 : b.toInt < 2147483648 := Int32.toInt_lt b
  have q3 : -2147483648 ≤ a.toInt := Int32.le_toInt a
  have q4 : -2147483648 ≤ b.toInt := Int32.le_toInt b
  refine lv_iload_n C.1 C.2.1 dX1_hasSpan_0 rfl (lv_at hl 1 rfl) ?_
  refine lv_if_lt C.1 C.2.1 (tgt := 26) dX1_hasSpan_1 (by decide) (fun c_1 => ?_) (fun c_1 => ?_)
  · skip
    have k_1 := (tc_lt (rfl : (a).toInt = (a).toInt) (show (0 : Int32).toInt = 0 from by decide)).mp c_1
    refine lv_iconst C.1 C.2.1 (v := 0) dX1_hasSpan_26 (by decide) ?_
    subst hQ
    exact r_zret (τ, ζ, ρ) C hW hr rfl hk dX1_hasSpan_27 (by first | exact Or.inl ⟨rfl, rfl, (by omega), (by omega), (by omega)⟩ | exact Or.inr (⟨rfl, rfl, (by omega)⟩))
  · skip
    have k_1 := (tn_lt (rfl : (a).toInt = (a).toInt) (show (0 : Int32).toInt = 0 from by decide)).mp c_1
    refine lv_iload_n C.1 C.2.1 dX1_hasSpan_4 rfl (lv_at hl 2 rfl) ?_
    refine lv_if_lt C.1 C.2.1 (tgt := 26) dX1_hasSpan_5 (by decide) (fun c_2 => ?_) (fun c_2 => ?_)
    · skip
      have k_2 := (tc_lt (rfl : (b).toInt = (b).toInt) (show (0 : Int32).toInt = 0 from by decide)).mp c_2
      refine lv_iconst C.1 C.2.1 (v := 0) dX1_hasSpan_26 (by decide) ?_
      subst hQ
      exact r_zret (τ, ζ, ρ) C hW hr rfl hk dX1_hasSpan_27 (by first | exact Or.inl ⟨rfl, rfl, (by omega), (by omega), (by omega)⟩ | exact Or.inr (⟨rfl, rfl, (by omega)⟩))
    · skip
      have k_2 := (tn_lt (rfl : (b).toInt = (b).toInt) (show (0 : Int32).toInt = 0 from by decide)).mp c_2
      refine lv_iload_n C.1 C.2.1 dX1_hasSpan_8 rfl (lv_at hl 1 rfl) ?_
      refine lv_i2l C.1 C.2.1 dX1_hasSpan_9 rfl ?_
      refine lv_iload_n C.1 C.2.1 dX1_hasSpan_10 rfl (lv_at hl 2 rfl) ?_
      refine lv_i2l C.1 C.2.1 dX1_hasSpan_11 rfl ?_
      refine lv_ladd C.1 C.2.1 dX1_hasSpan_12 ?_
      refine lv_aload_n C.1 C.2.1 dX1_hasSpan_13 rfl (lv_at hl 0 rfl) ?_
      refine xG_Dish_length C hW i (by omega) bF_X1_21 (v := (ζ.2.1 0 i)) rfl dX1_hasSpan_14 ?_
      refine lv_i2l C.1 C.2.1 dX1_hasSpan_17 rfl ?_
      refine W.lcmp C.1 C.2.1 dX1_hasSpan_18 ?_
      refine lv_if_gt C.1 C.2.1 (tgt := 26) dX1_hasSpan_19 (by decide) (fun c_3 => ?_) (fun c_3 => ?_)
      · skip
        have k_3 := (lc_gt (tl_add (ti_i2l (rfl : (a).toInt = (a).toInt)) (ti_i2l (rfl : (b).toInt = (b).toInt)) (by omega) (by omega)) (ti_i2l (rfl : ((ζ.2.1 0 i)).toInt = ((ζ.2.1 0 i)).toInt))).mp c_3
        refine lv_iconst C.1 C.2.1 (v := 0) dX1_hasSpan_26 (by decide) ?_
        subst hQ
        exact r_zret (τ, ζ, ρ) C hW hr rfl hk dX1_hasSpan_27 (by first | exact Or.inl ⟨rfl, rfl, (by omega), (by omega), (by omega)⟩ | exact Or.inr (⟨rfl, rfl, (by omega)⟩))
      · skip
        have k_3 := (ln_gt (tl_add (ti_i2l (rfl : (a).toInt = (a).toInt)) (ti_i2l (rfl : (b).toInt = (b).toInt)) (by omega) (by omega)) (ti_i2l (rfl : ((ζ.2.1 0 i)).toInt = ((ζ.2.1 0 i)).toInt))).mp c_3
        refine lv_iconst C.1 C.2.1 (v := 1) dX1_hasSpan_22 (by decide) ?_
        refine lv_goto C.1 C.2.1 (tgt := 27) dX1_hasSpan_23 (by decide) ?_
        subst hQ
        exact r_zret (τ, ζ, ρ) C hW hr rfl hk dX1_hasSpan_27 (by first | exact Or.inl ⟨rfl, rfl, (by omega), (by omega), (by omega)⟩ | exact Or.inr (⟨rfl, rfl, (by omega)⟩))
set_option maxHeartbeats 4000000 in
set_option maxRecDepth 100000 in
theorem c_X1_faultOf (l : Launch) (G : GG) (q : Nat → Nat) (nd sz : Nat) (τ ζ : ST) (ρ : RF) (f : Int32) (a : Int32) (i : Nat) (h_nd : nd ≤ 6) (hi : i < nd) : Met l yX1_faultOf (WSb yX1_faultOf cX1_faultOf 3 (some .int)) (rmA 1 21) (va_Pc [.ref (q (28 + 3 * i)), .int f, .int a] (PW G (28 + 3 * nd) q sz (eX G q τ ζ ρ))) (va_Qi (fun (r : Int32) (u : (ST × ST × RF)) => (r = 1 ∧ u = (τ, ζ, ρ) ∧ ((ζ.2.1 0 i).toInt = -1)) ∨ (r = 3 ∧ u = (τ, ζ, ρ) ∧ (¬ (ζ.2.1 0 i).toInt = -1) ∧ (¬ f.toInt = (τ.2.1 5 i).toInt)) ∨ (r = 0 ∧ u = (τ, ζ, ρ) ∧ (¬ (ζ.2.1 0 i).toInt = -1) ∧ (f.toInt = (τ.2.1 5 i).toInt) ∧ (0 ≤ a.toInt) ∧ (a.toInt < (ζ.2.1 0 i).toInt)) ∨ (r = 2 ∧ u = (τ, ζ, ρ) ∧ (¬ (ζ.2.1 0 i).toInt = -1) ∧ (f.toInt = (τ.2.1 5 i).toInt) ∧ (¬ (0 ≤ a.toInt ∧ a.toInt < (ζ.2.1 0 i).toInt)))) (fun u => BW G (28 + 3 * nd) q (eX G q u.1 u.2.1 u.2.2)) (FA (28 + 3 * nd) q sz)) 0 0 (FA (28 + 3 * nd) q sz) := by
  refine Met_B (own := RX1) rfl (by decide) (Nat.le_of_ble_eq_true rfl) (fun p e s m args below meth c ls hsz C hW hr hk hl QQ hQ => ?_)
  subst hsz
  have hl : lv_has ls 3 [(0, .ref (q (28 + 3 * i))), (1, .int f), (2, .int a)] := hl
  refine lv_aload_n C.1 C.2.1 dX1_faultOf_0 rfl (lv_at hl 0 rfl) ?_
  refine go_i hW (run_V (o := 28 + 3 * i) (As := []) (rest := []) C hW (by omega) (eX_obj _ _ _ _ _ i) rfl (c_X1_isLost l G q nd _ τ ζ ρ  i h_nd (by omega)) (cw_V 0 C bL_X1_43 bI_X1_isLost bV_X1_isLost bN_X1 bC_X1_isLost ⟨rfl, rfl⟩ (by decide +kernel) ⟨Nat.le_of_ble_eq_true rfl, Nat.le_of_ble_eq_true rfl⟩) rfl hl.1 rfl (Nat.le_of_ble_eq_true rfl) dX1_faultOf_1 ⟨Nat.le_refl _, Nat.le_refl _⟩) (fun r_1 u_1 H locs hp_1 hW => ?_)
  rcases hp_1 with ⟨rfl, rfl, k_1⟩ | ⟨rfl, rfl, k_1⟩
  · skip
    have hW : WB G (28 + 3 * nd) q (eX G q τ ζ ρ) s H locs := hW
    refine lv_if_eq C.1 C.2.1 (tgt := 9) dX1_faultOf_4 (by decide) (fun c => absurd c (by decide)) (fun _ => ?_)
    refine lv_iconst C.1 C.2.1 (v := 1) dX1_faultOf_7 (by decide) ?_
    subst hQ
    exact r_iret (τ, ζ, ρ) C hW hr hk dX1_faultOf_8 (by first | exact Or.inl ⟨rfl, rfl, (by omega)⟩ | exact Or.inr (Or.inl ⟨rfl, rfl, (by omega), (by omega)⟩) | exact Or.inr (Or.inr (Or.inl ⟨rfl, rfl, (by omega), (by omega), (by omega), (by omega)⟩)) | exact Or.inr (Or.inr (Or.inr (⟨rfl, rfl, (by omega), (by omega), (by omega)⟩))))
  · skip
    have hW : WB G (28 + 3 * nd) q (eX G q τ ζ ρ) s H locs := hW
    refine lv_if_eq C.1 C.2.1 (tgt := 9) dX1_faultOf_4 (by decide) (fun _ => ?_) (fun c => absurd c (by decide))
    refine lv_iload_n C.1 C.2.1 dX1_faultOf_9 rfl (lv_at hl 1 rfl) ?_
    refine lv_aload_n C.1 C.2.1 dX1_faultOf_10 rfl (lv_at hl 0 rfl) ?_
    refine xG_Dish_form C hW i (by omega) bF_X1_18 (v := (τ.2.1 5 i)) rfl dX1_faultOf_11 ?_
    refine lv_icmp_eq C.1 C.2.1 (tgt := 19) dX1_faultOf_14 (by decide) (fun c_4 => ?_) (fun c_4 => ?_)
    · skip
      have k_4 := (tc_eq (rfl : (f).toInt = (f).toInt) (rfl : ((τ.2.1 5 i)).toInt = ((τ.2.1 5 i)).toInt)).mp c_4
      refine lv_aload_n C.1 C.2.1 dX1_faultOf_19 rfl (lv_at hl 0 rfl) ?_
      refine lv_iload_n C.1 C.2.1 dX1_faultOf_20 rfl (lv_at hl 2 rfl) ?_
      refine go_i hW (run_V (o := 28 + 3 * i) (As := [.int a]) (rest := []) C hW (by omega) (eX_obj _ _ _ _ _ i) rfl (c_X1_hasItem l G q nd _ τ ζ ρ a i h_nd (by omega)) (cw_V 1 C bL_X1_47 bI_X1_hasItem bV_X1_hasItem bN_X1 bC_X1_hasItem ⟨rfl, rfl⟩ (by decide +kernel) ⟨Nat.le_of_ble_eq_true rfl, Nat.le_of_ble_eq_true rfl⟩) rfl hl.1 rfl (Nat.le_of_ble_eq_true rfl) dX1_faultOf_21 ⟨Nat.le_refl _, Nat.le_refl _⟩) (fun r_5 u_5 H locs hp_5 hW => ?_)
      rcases hp_5 with ⟨rfl, rfl, k_5_0, k_5_1⟩ | ⟨rfl, rfl, k_5⟩
      · skip
        have hW : WB G (28 + 3 * nd) q (eX G q τ ζ ρ) s H locs := hW
        refine lv_if_eq C.1 C.2.1 (tgt := 31) dX1_faultOf_24 (by decide) (fun c => absurd c (by decide)) (fun _ => ?_)
        refine lv_iconst C.1 C.2.1 (v := 0) dX1_faultOf_27 (by decide) ?_
        refine lv_goto C.1 C.2.1 (tgt := 32) dX1_faultOf_28 (by decide) ?_
        subst hQ
        exact r_iret (τ, ζ, ρ) C hW hr hk dX1_faultOf_32 (by first | exact Or.inl ⟨rfl, rfl, (by omega)⟩ | exact Or.inr (Or.inl ⟨rfl, rfl, (by omega), (by omega)⟩) | exact Or.inr (Or.inr (Or.inl ⟨rfl, rfl, (by omega), (by omega), (by omega), (by omega)⟩)) | exact Or.inr (Or.inr (Or.inr (⟨rfl, rfl, (by omega), (by omega), (by omega)⟩))))
      · skip
        have hW : WB G (28 + 3 * nd) q (eX G q τ ζ ρ) s H locs := hW
        refine lv_if_eq C.1 C.2.1 (tgt := 31) dX1_faultOf_24 (by decide) (fun _ => ?_) (fun c => absurd c (by decide))
        refine lv_iconst C.1 C.2.1 (v := 2) dX1_faultOf_31 (by decide) ?_
        subst hQ
        exact r_iret (τ, ζ, ρ) C hW hr hk dX1_faultOf_32 (by first | exact Or.inl ⟨rfl, rfl, (by omega)⟩ | exact Or.inr (Or.inl ⟨rfl, rfl, (by omega), (by omega)⟩) | exact Or.inr (Or.inr (Or.inl ⟨rfl, rfl, (by omega), (by omega), (by omega), (by omega)⟩)) | exact Or.inr (Or.inr (Or.inr (⟨rfl, rfl, (by omega), (by omega), (by omega)⟩))))
    · skip
      have k_4 := (tn_eq (rfl : (f).toInt = (f).toInt) (rfl : ((τ.2.1 5 i)).toInt = ((τ.2.1 5 i)).toInt)).mp c_4
      refine lv_iconst C.1 C.2.1 (v := 3) dX1_faultOf_17 (by decide) ?_
      subst hQ
      exact r_iret (τ, ζ, ρ) C hW hr hk dX1_faultOf_18 (by first | exact Or.inl ⟨rfl, rfl, (by omega)⟩ | exact Or.inr (Or.inl ⟨rfl, rfl, (by omega), (by omega)⟩) | exact Or.inr (Or.inr (Or.inl ⟨rfl, rfl, (by omega), (by omega), (by omega), (by omega)⟩)) | exact Or.inr (Or.inr (Or.inr (⟨rfl, rfl, (by omega), (by omega), (by omega)⟩))))
set_option maxHeartbeats 4000000 in
set_option maxRecDepth 100000 in
theorem c_X1_load (l : Launch) (G : GG) (q : Nat → Nat) (nd sz : Nat) (τ ζ : ST) (ρ : RF) (a : Int32) (aN : Nat) (i : Nat) (ha : a.toInt = (aN : Int)) (h_nd : nd ≤ 6) (hi : i < nd) (ha1 : (aN : Int) < (ζ.2.1 0 i).toInt) (ha2 : aN < 100) : Met l yX1_load (WSb yX1_load cX1_load 2 (some .int)) (rmA 1 21) (va_Pc [.ref (q (28 + 3 * i)), .int a] (PW G (28 + 3 * nd) q sz (eX G q τ ζ ρ))) (va_Qi (fun (r : Int32) (u : (ST × ST × RF)) => r = τ.2.1 7 (100 * i + aN) ∧ u = (τ, ζ, ρ)) (fun u => BW G (28 + 3 * nd) q (eX G q u.1 u.2.1 u.2.2)) (FA (28 + 3 * nd) q sz)) 0 0 (FA (28 + 3 * nd) q sz) := by
  refine Met_B (own := RX1) rfl (by decide) (Nat.le_of_ble_eq_true rfl) (fun p e s m args below meth c ls hsz C hW hr hk hl QQ hQ => ?_)
  subst hsz
  have hl : lv_has ls 2 [(0, .ref (q (28 + 3 * i))), (1, .int a)] := hl
  refine lv_aload_n C.1 C.2.1 dX1_load_0 rfl (lv_at hl 0 rfl) ?_
  refine lv_iload_n C.1 C.2.1 dX1_load_1 rfl (lv_at hl 1 rfl) ?_
  refine go_i hW (run_V (o := 28 + 3 * i) (As := [.int a]) (rest := []) C hW (by omega) (eX_obj _ _ _ _ _ i) rfl (c_X1_hasItem l G q nd _ τ ζ ρ a i h_nd (by omega)) (cw_V 1 C bL_X1_47 bI_X1_hasItem bV_X1_hasItem bN_X1 bC_X1_hasItem ⟨rfl, rfl⟩ (by decide +kernel) ⟨Nat.le_of_ble_eq_true rfl, Nat.le_of_ble_eq_true rfl⟩) rfl hl.1 rfl (Nat.le_of_ble_eq_true rfl) dX1_load_2 ⟨Nat.le_refl _, Nat.le_refl _⟩) (fun r_1 u_1 H locs hp_1 hW => ?_)
  rcases hp_1 with ⟨rfl, rfl, k_1_0, k_1_1⟩ | ⟨rfl, rfl, k_1⟩
  · skip
    have hW : WB G (28 + 3 * nd) q (eX G q τ ζ ρ) s H locs := hW
    refine lv_if_eq C.1 C.2.1 (tgt := 17) dX1_load_5 (by decide) (fun c => absurd c (by decide)) (fun _ => ?_)
    refine lv_aload_n C.1 C.2.1 dX1_load_8 rfl (lv_at hl 0 rfl) ?_
    refine xG_Dish_items C hW i (by omega) bF_X1_24 dX1_load_9 ?_
    refine lv_iload_n C.1 C.2.1 dX1_load_12 rfl (lv_at hl 1 rfl) ?_
    refine xL_items C hW i (by omega) aN (ha.trans (by omega)) (by omega) (v := (τ.2.1 7 (100 * i + aN))) rfl dX1_load_13 ?_
    refine lv_goto C.1 C.2.1 (tgt := 18) dX1_load_14 (by decide) ?_
    subst hQ
    exact r_iret (τ, ζ, ρ) C hW hr hk dX1_load_18 (⟨rfl, rfl⟩)
  · skip
    have hW : WB G (28 + 3 * nd) q (eX G q τ ζ ρ) s H locs := hW
    exfalso; omega
set_option maxHeartbeats 4000000 in
set_option maxRecDepth 100000 in
theorem c_X1_store (l : Launch) (G : GG) (q : Nat → Nat) (nd sz : Nat) (τ ζ : ST) (ρ : RF) (a : Int32) (v : Int32) (aN : Nat) (i : Nat) (ha : a.toInt = (aN : Int)) (h_nd : nd ≤ 6) (hi : i < nd) (ha1 : (aN : Int) < (ζ.2.1 0 i).toInt) (ha2 : aN < 100) : Met l yX1_store (WSb yX1_store cX1_store 3 none) (rmA 1 21) (va_Pc [.ref (q (28 + 3 * i)), .int a, .int v] (PW G (28 + 3 * nd) q sz (eX G q τ ζ ρ))) (va_Qv (fun (u : (ST × ST × RF)) => u = ((sa τ 7 (100 * i + aN) (nrw (τ.2.1 5 i) v)), ζ, ρ)) (fun u => BW G (28 + 3 * nd) q (eX G q u.1 u.2.1 u.2.2)) (FA (28 + 3 * nd) q sz)) 0 0 (FA (28 + 3 * nd) q sz) := by
  refine Met_B (own := RX1) rfl (by decide) (Nat.le_of_ble_eq_true rfl) (fun p e s m args below meth c ls hsz C hW hr hk hl QQ hQ => ?_)
  subst hsz
  have hl : lv_has ls 3 [(0, .ref (q (28 + 3 * i))), (1, .int a), (2, .int v)] := hl
  refine lv_aload_n C.1 C.2.1 dX1_store_0 rfl (lv_at hl 0 rfl) ?_
  refine lv_iload_n C.1 C.2.1 dX1_store_1 rfl (lv_at hl 1 rfl) ?_
  refine go_i hW (run_V (o := 28 + 3 * i) (As := [.int a]) (rest := []) C hW (by omega) (eX_obj _ _ _ _ _ i) rfl (c_X1_hasItem l G q nd _ τ ζ ρ a i h_nd (by omega)) (cw_V 1 C bL_X1_47 bI_X1_hasItem bV_X1_hasItem bN_X1 bC_X1_hasItem ⟨rfl, rfl⟩ (by decide +kernel) ⟨Nat.le_of_ble_eq_true rfl, Nat.le_of_ble_eq_true rfl⟩) rfl hl.1 rfl (Nat.le_of_ble_eq_true rfl) dX1_store_2 ⟨Nat.le_refl _, Nat.le_refl _⟩) (fun r_1 u_1 H locs hp_1 hW => ?_)
  rcases hp_1 with ⟨rfl, rfl, k_1_0, k_1_1⟩ | ⟨rfl, rfl, k_1⟩
  · skip
    have hW : WB G (28 + 3 * nd) q (eX G q τ ζ ρ) s H locs := hW
    refine lv_if_ne C.1 C.2.1 (tgt := 9) dX1_store_5 (by decide) (fun _ => ?_) (fun c => absurd c (by decide))
    refine lv_aload_n C.1 C.2.1 dX1_store_9 rfl (lv_at hl 0 rfl) ?_
    refine xG_Dish_form C hW i (by omega) bF_X1_18 (v := (τ.2.1 5 i)) rfl dX1_store_10 ?_
    refine lv_if_ne C.1 C.2.1 (tgt := 27) dX1_store_13 (by decide) (fun c_3 => ?_) (fun c_3 => ?_)
    · skip
      have k_3 := (tn_eq (rfl : ((τ.2.1 5 i)).toInt = ((τ.2.1 5 i)).toInt) (show (0 : Int32).toInt = 0 from by decide)).mp c_3
      refine lv_aload_n C.1 C.2.1 dX1_store_27 rfl (lv_at hl 0 rfl) ?_
      refine xG_Dish_form C hW i (by omega) bF_X1_18 (v := (τ.2.1 5 i)) rfl dX1_store_28 ?_
      refine lv_iconst C.1 C.2.1 (v := 1) dX1_store_31 (by decide) ?_
      refine lv_icmp_ne C.1 C.2.1 (tgt := 46) dX1_store_32 (by decide) (fun c_4 => ?_) (fun c_4 => ?_)
      · skip
        have k_4 := (tn_eq (rfl : ((τ.2.1 5 i)).toInt = ((τ.2.1 5 i)).toInt) (show (1 : Int32).toInt = 1 from by decide)).mp c_4
        refine lv_aload_n C.1 C.2.1 dX1_store_46 rfl (lv_at hl 0 rfl) ?_
        refine xG_Dish_items C hW i (by omega) bF_X1_24 dX1_store_47 ?_
        refine lv_iload_n C.1 C.2.1 dX1_store_50 rfl (lv_at hl 1 rfl) ?_
        refine lv_iload_n C.1 C.2.1 dX1_store_51 rfl (lv_at hl 2 rfl) ?_
        refine xS_items C hW (by omega) i (by omega) aN (ha.trans (by omega)) (by omega) dX1_store_52 (fun H locs hW => ?_)
        subst hQ
        exact r_vret ((sa τ 7 (100 * i + aN) v), ζ, ρ) C hW hr hk dX1_store_53 (by congr 1; congr 1; unfold nrw; (repeat (first | rw [if_pos (by omega)] | rw [if_neg (by omega)])); first | done | rfl)
      · skip
        have k_4 := (tc_eq (rfl : ((τ.2.1 5 i)).toInt = ((τ.2.1 5 i)).toInt) (show (1 : Int32).toInt = 1 from by decide)).mp c_4
        refine lv_aload_n C.1 C.2.1 dX1_store_35 rfl (lv_at hl 0 rfl) ?_
        refine xG_Dish_items C hW i (by omega) bF_X1_24 dX1_store_36 ?_
        refine lv_iload_n C.1 C.2.1 dX1_store_39 rfl (lv_at hl 1 rfl) ?_
        refine lv_iload_n C.1 C.2.1 dX1_store_40 rfl (lv_at hl 2 rfl) ?_
        refine lv_i2s C.1 C.2.1 dX1_store_41 rfl ?_
        refine xS_items C hW (by omega) i (by omega) aN (ha.trans (by omega)) (by omega) dX1_store_42 (fun H locs hW => ?_)
        refine lv_goto C.1 C.2.1 (tgt := 53) dX1_store_43 (by decide) ?_
        subst hQ
        exact r_vret ((sa τ 7 (100 * i + aN) (v.toInt16.toInt32)), ζ, ρ) C hW hr hk dX1_store_53 (by congr 1; congr 1; unfold nrw; (repeat (first | rw [if_pos (by omega)] | rw [if_neg (by omega)])); first | done | rfl)
    · skip
      have k_3 := (tc_eq (rfl : ((τ.2.1 5 i)).toInt = ((τ.2.1 5 i)).toInt) (show (0 : Int32).toInt = 0 from by decide)).mp c_3
      refine lv_aload_n C.1 C.2.1 dX1_store_16 rfl (lv_at hl 0 rfl) ?_
      refine xG_Dish_items C hW i (by omega) bF_X1_24 dX1_store_17 ?_
      refine lv_iload_n C.1 C.2.1 dX1_store_20 rfl (lv_at hl 1 rfl) ?_
      refine lv_iload_n C.1 C.2.1 dX1_store_21 rfl (lv_at hl 2 rfl) ?_
      refine lv_i2b C.1 C.2.1 dX1_store_22 rfl ?_
      refine xS_items C hW (by omega) i (by omega) aN (ha.trans (by omega)) (by omega) dX1_store_23 (fun H locs hW => ?_)
      refine lv_goto C.1 C.2.1 (tgt := 53) dX1_store_24 (by decide) ?_
      subst hQ
      exact r_vret ((sa τ 7 (100 * i + aN) (v.toInt8.toInt32)), ζ, ρ) C hW hr hk dX1_store_53 (by congr 1; congr 1; unfold nrw; (repeat (first | rw [if_pos (by omega)] | rw [if_neg (by omega)])); first | done | rfl)
  · skip
    have hW : WB G (28 + 3 * nd) q (eX G q τ ζ ρ) s H locs := hW
    exfalso; omega
set_option maxHeartbeats 4000000 in
set_option maxRecDepth 100000 in
theorem c_X1_hasUsable (l : Launch) (G : GG) (q : Nat → Nat) (nd sz : Nat) (τ ζ : ST) (ρ : RF) (a : Int32) (aN : Nat) (i : Nat) (ha : a.toInt = (aN : Int)) (h_nd : nd ≤ 6) (hi : i < nd) (h_k : dOk τ ζ i) : Met l yX1_hasUsable (WSb yX1_hasUsable cX1_hasUsable 2 (some .boolean)) (rmA 1 21) (va_Pc [.ref (q (28 + 3 * i)), .int a] (PW G (28 + 3 * nd) q sz (eX G q τ ζ ρ))) (va_Qi (fun (r : Int32) (u : (ST × ST × RF)) => (r = 1 ∧ u = (τ, ζ, ρ) ∧ (smp τ i aN)) ∨ (r = 0 ∧ u = (τ, ζ, ρ) ∧ (¬ smp τ i aN))) (fun u => BW G (28 + 3 * nd) q (eX G q u.1 u.2.1 u.2.2)) (FA (28 + 3 * nd) q sz)) 0 0 (FA (28 + 3 * nd) q sz) := by
  refine Met_B (own := RX1) rfl (by decide) (Nat.le_of_ble_eq_true rfl) (fun p e s m args below meth c ls hsz C hW hr hk hl QQ hQ => ?_)
  subst hsz
  have hl : lv_has ls 2 [(0, .ref (q (28 + 3 * i))), (1, .int a)] := hl
  have hlen := dOk_len h_k
  have hb := h_k.2.1
  refine lv_aload_n C.1 C.2.1 dX1_hasUsable_0 rfl (lv_at hl 0 rfl) ?_
  refine lv_iload_n C.1 C.2.1 dX1_hasUsable_1 rfl (lv_at hl 1 rfl) ?_
  refine go_i hW (run_V (o := 28 + 3 * i) (As := [.int a]) (rest := []) C hW (by omega) (eX_obj _ _ _ _ _ i) rfl (c_X1_hasItem l G q nd _ τ ζ ρ a i h_nd (by omega)) (cw_V 1 C bL_X1_47 bI_X1_hasItem bV_X1_hasItem bN_X1 bC_X1_hasItem ⟨rfl, rfl⟩ (by decide +kernel) ⟨Nat.le_of_ble_eq_true rfl, Nat.le_of_ble_eq_true rfl⟩) rfl hl.1 rfl (Nat.le_of_ble_eq_true rfl) dX1_hasUsable_2 ⟨Nat.le_refl _, Nat.le_refl _⟩) (fun r_1 u_1 H locs hp_1 hW => ?_)
  rcases hp_1 with ⟨rfl, rfl, k_1_0, k_1_1⟩ | ⟨rfl, rfl, k_1⟩
  · skip
    have hW : WB G (28 + 3 * nd) q (eX G q τ ζ ρ) s H locs := hW
    refine lv_if_eq C.1 C.2.1 (tgt := 21) dX1_hasUsable_5 (by decide) (fun c => absurd c (by decide)) (fun _ => ?_)
    refine lv_aload_n C.1 C.2.1 dX1_hasUsable_8 rfl (lv_at hl 0 rfl) ?_
    refine xG_Dish_flagged C hW i (by omega) bF_X1_28 dX1_hasUsable_9 ?_
    refine lv_iload_n C.1 C.2.1 dX1_hasUsable_12 rfl (lv_at hl 1 rfl) ?_
    refine xL_flagged C hW i (by omega) aN (ha.trans (by omega)) (by omega) (v := (ζ.2.1 1 (100 * i + aN))) rfl dX1_hasUsable_13 ?_
    refine lv_if_ne C.1 C.2.1 (tgt := 21) dX1_hasUsable_14 (by decide) (fun c_3 => ?_) (fun c_3 => ?_)
    · skip
      have k_3 := (tn_eq (rfl : ((ζ.2.1 1 (100 * i + aN))).toInt = ((ζ.2.1 1 (100 * i + aN))).toInt) (show (0 : Int32).toInt = 0 from by decide)).mp c_3
      refine lv_iconst C.1 C.2.1 (v := 0) dX1_hasUsable_21 (by decide) ?_
      subst hQ
      exact r_zret (τ, ζ, ρ) C hW hr rfl hk dX1_hasUsable_22 (by first | exact Or.inl ⟨rfl, rfl, (dOk_smp h_k (by omega)).mpr ⟨by omega, by omega⟩⟩ | exact Or.inr ⟨rfl, rfl, fun h => by have h1 := smp_lt h_k h; have h2 := (dOk_smp h_k h1).mp h; omega⟩)
    · skip
      have k_3 := (tc_eq (rfl : ((ζ.2.1 1 (100 * i + aN))).toInt = ((ζ.2.1 1 (100 * i + aN))).toInt) (show (0 : Int32).toInt = 0 from by decide)).mp c_3
      refine lv_iconst C.1 C.2.1 (v := 1) dX1_hasUsable_17 (by decide) ?_
      refine lv_goto C.1 C.2.1 (tgt := 22) dX1_hasUsable_18 (by decide) ?_
      subst hQ
      exact r_zret (τ, ζ, ρ) C hW hr rfl hk dX1_hasUsable_22 (by first | exact Or.inl ⟨rfl, rfl, (dOk_smp h_k (by omega)).mpr ⟨by omega, by omega⟩⟩ | exact Or.inr ⟨rfl, rfl, fun h => by have h1 := smp_lt h_k h; have h2 := (dOk_smp h_k h1).mp h; omega⟩)
  · skip
    have hW : WB G (28 + 3 * nd) q (eX G q τ ζ ρ) s H locs := hW
    refine lv_if_eq C.1 C.2.1 (tgt := 21) dX1_hasUsable_5 (by decide) (fun _ => ?_) (fun c => absurd c (by decide))
    refine lv_iconst C.1 C.2.1 (v := 0) dX1_hasUsable_21 (by decide) ?_
    subst hQ
    exact r_zret (τ, ζ, ρ) C hW hr rfl hk dX1_hasUsable_22 (by first | exact Or.inl ⟨rfl, rfl, (dOk_smp h_k (by omega)).mpr ⟨by omega, by omega⟩⟩ | exact Or.inr ⟨rfl, rfl, fun h => by have h1 := smp_lt h_k h; have h2 := (dOk_smp h_k h1).mp h; omega⟩)
set_option maxHeartbeats 4000000 in
set_option maxRecDepth 100000 in
theorem c_X1_sampleAt (l : Launch) (G : GG) (q : Nat → Nat) (nd sz : Nat) (τ ζ : ST) (ρ : RF) (a : Int32) (aN : Nat) (i : Nat) (ha : a.toInt = (aN : Int)) (h_nd : nd ≤ 6) (hi : i < nd) (ha1 : (aN : Int) < (ζ.2.1 0 i).toInt) (ha2 : aN < 100) : Met l yX1_sampleAt (WSb yX1_sampleAt cX1_sampleAt 2 (some .int)) (rmA 2 42) (va_Pc [.ref (q (28 + 3 * i)), .int a] (PW G (28 + 3 * nd) q sz (eX G q τ ζ ρ))) (va_Qi (fun (r : Int32) (u : (ST × ST × RF)) => r = clp (τ.2.1 7 (100 * i + aN)) ∧ u = (τ, ζ, ρ)) (fun u => BW G (28 + 3 * nd) q (eX G q u.1 u.2.1 u.2.2)) (FA (28 + 3 * nd) q sz)) 0 0 (FA (28 + 3 * nd) q sz) := by
  refine Met_B (own := RX1) rfl (by decide) (Nat.le_of_ble_eq_true rfl) (fun p e s m args below meth c ls hsz C hW hr hk hl QQ hQ => ?_)
  subst hsz
  have hl : lv_has ls 2 [(0, .ref (q (28 + 3 * i))), (1, .int a)] := hl
  refine lv_sipush C.1 C.2.1 (v := (-500)) dX1_sampleAt_0 (by decide) ?_
  refine lv_sipush C.1 C.2.1 (v := 500) dX1_sampleAt_3 (by decide) ?_
  refine lv_aload_n C.1 C.2.1 dX1_sampleAt_6 rfl (lv_at hl 0 rfl) ?_
  refine lv_iload_n C.1 C.2.1 dX1_sampleAt_7 rfl (lv_at hl 1 rfl) ?_
  refine go_i hW (run_V (o := 28 + 3 * i) (As := [.int a]) (rest := [.int 500, .int (-500)]) C hW (by omega) (eX_obj _ _ _ _ _ i) rfl (c_X1_load l G q nd _ τ ζ ρ a aN i (ha.trans (by omega)) h_nd (by omega) (by omega) (by omega)) (cw_V 1 C bL_X1_57 bI_X1_load bV_X1_load bN_X1 bC_X1_load ⟨rfl, rfl⟩ (by decide +kernel) ⟨Nat.le_of_ble_eq_true rfl, Nat.le_of_ble_eq_true rfl⟩) rfl hl.1 rfl (Nat.le_of_ble_eq_true rfl) dX1_sampleAt_8 ⟨Nat.le_refl _, Nat.le_refl _⟩) (fun r_1 u_1 H locs hp_1 hW => ?_)
  rcases hp_1 with ⟨rfl, rfl⟩
  have hW : WB G (28 + 3 * nd) q (eX G q τ ζ ρ) s H locs := hW
  refine r_min (rest := [.int (-500)]) C hl.1 bL_X1_61 (Nat.le_of_ble_eq_true rfl) (Nat.le_of_ble_eq_true rfl) ⟨Nat.le_refl _, Nat.le_refl _⟩ dX1_sampleAt_11 ?_
  refine r_max (rest := []) C hl.1 bL_X1_51 (Nat.le_of_ble_eq_true rfl) (Nat.le_of_ble_eq_true rfl) ⟨Nat.le_refl _, Nat.le_refl _⟩ dX1_sampleAt_14 ?_
  subst hQ
  exact r_iret (τ, ζ, ρ) C hW hr hk dX1_sampleAt_17 ⟨Int32.toInt_inj.mp (by rw [ti_max (show (-500 : Int32).toInt = -500 from by decide) (ti_min (show (500 : Int32).toInt = 500 from by decide) rfl)]; unfold clp; split <;> first | (show _ = (-500 : Int32).toInt; rw [show (-500 : Int32).toInt = -500 from by decide]; omega) | (split <;> first | (show _ = (500 : Int32).toInt; rw [show (500 : Int32).toInt = 500 from by decide]; omega) | omega)), rfl⟩
