/-! the law's loop, and its start -/
theorem and31 (x : Int32) : 0 ≤ (x &&& 31).toInt ∧ (x &&& 31).toInt < 32 := by
  obtain ⟨j, hj, e⟩ := pk_andE x (m := 31) 5 (by decide)
  rw [e, nI_toInt (by omega)]; omega
theorem st0_XZ (q : Nat → Nat) : XZ q 0 st0 zt0 rh0 := by
  refine ⟨by show (0 : Int32).toInt = ((0 : Nat) : Int); decide, fun z hz => absurd hz (Nat.not_lt_zero _), fun z hz => absurd hz (Nat.not_lt_zero _), fun z hz => absurd hz (Nat.not_lt_zero _), fun z _ => ?_, fun z hz => Or.inl ⟨by show (0 : Int32).toInt = 0; decide, by show (0 : Int32).toInt = 0; decide, ?_⟩, fun f hf => ?_⟩
  · show (0 : Int32) = bmS _ _ _ _ (0 : Int32).toInt.toNat
    rfl
  · show (if z < 8 then (1440 : Int32) else 0).toInt = 1440
    rw [if_pos hz]; decide
  · have hf2 : (f : Int) < (0 : Int32).toInt := hf
    rw [show (0 : Int32).toInt = 0 from by decide] at hf2
    omega
theorem LB_split {G : GG} {A : Nat → Prop} {w1 w2 : va_W} {s : State} {H : Heap} {locs : List Loc} (h : LB G A (w1 ++ w2) s H locs) : LB G A w1 s H locs ∧ LB G A w2 s H locs ∧ ∀ (i j : Nat) (x y : Nat × va_E), w1[i]? = some x → w2[j]? = some y → x.1 ≠ y.1 := by
  have h1 : ∀ (k : Nat) (z : Nat × va_E), w1[k]? = some z → (w1 ++ w2)[k]? = some z := fun k z hk => by
    rw [List.getElem?_append_left (List.getElem?_eq_some_iff.mp hk).1]; exact hk
  have h2 : ∀ (k : Nat) (z : Nat × va_E), w2[k]? = some z → (w1 ++ w2)[w1.length + k]? = some z := fun k z hk => by
    rw [List.getElem?_append_right (by omega), show w1.length + k - w1.length = k by omega]; exact hk
  refine ⟨⟨fun k z hk => h.1 k z (h1 k z hk), ⟨fun i j x y hi hj e => h.2.1.1 i j x y (h1 i x hi) (h1 j y hj) e, fun k z hk => h.2.1.2 k z (h1 k z hk)⟩, h.2.2⟩, ⟨fun k z hk => h.1 _ z (h2 k z hk), ⟨fun i j x y hi hj e => ?_, fun k z hk => h.2.1.2 _ z (h2 k z hk)⟩, h.2.2⟩, fun i j x y hi hj e => ?_⟩
  · have := h.2.1.1 _ _ x y (h2 i x hi) (h2 j y hj) e
    omega
  · have h3 := h.2.1.1 _ _ x y (h1 i x hi) (h2 j y hj) e
    have h4 := (List.getElem?_eq_some_iff.mp hi).1
    omega
section R47
variable {G : GG} {p : Program} {l : Launch} {e : Env} {s : State} {m : MethodId} {args : Array Value} {below : List Frame} {meth : Method} {c : Code} {Q : State → Prop} {qM : Nat → Nat} {L b q0 : Nat} {xs : Nat → Int32}
set_option maxHeartbeats 4000000 in
set_option maxRecDepth 100000 in
theorem law_loop (C : LC G (fun a => s.heap.size ≤ a) p s m args c cL_law 4 RL) (hXs : va_X b L xs s s.heap) (hbl : b < s.heap.size) (hL : L ≤ 3072) (hEnd : ∀ (H : Heap) (ls : Array Slot), W p l e room_1 s m args below meth c H [] 600000 7302250 Q (F0 m 1206 ls [.int 1])) : ∀ (fuel i : Nat) (x3 : Int32) (τ : ST) (nd : Nat) (q : Nat → Nat) (ζ ξ : ST) (ρ : RF), L - i < fuel → x3.toInt = (i : Int) → i ≤ L → ∀ (H : Heap) (locs : List Loc) (ls : Array Slot), q 0 = q0 → LI G s τ nd q qM ζ ξ ρ H locs → lv_has ls 4 [(3, .int x3), (2, .ref (qM 0)), (1, .ref q0), (0, .ref b)] → W p l e room_1 s m args below meth c H locs (200 + i) (20000 + 208 * i) Q (F0 m 18 ls []) := by
  intro fuel
  induction fuel with
  | zero => intro i x3 τ nd q ζ ξ ρ hf; exact absurd hf (Nat.not_lt_zero _)
  | succ fuel ih =>
    intro i x3 τ nd q ζ ξ ρ hf hx3 hiL H locs ls hq0 hI hl
    have fX := FA_A0 hI.2.2.2.2.2.2.2.1
    have hS : va_S (fun a => s.heap.size ≤ a) s.heap H locs := by rw [← fX]; exact hI.2.2.2.1.2
    have hbA : ¬ s.heap.size ≤ b := Nat.not_le.mpr hbl
    have eL : (Int32.ofNat L - 6).toInt = (L : Int) - 6 := ti_sub (show (Int32.ofNat L).toInt = (L : Int) from nI_toInt (by omega)) (show (6 : Int32).toInt = 6 from by decide) (by omega) (by omega)
    refine lv_iload_n C.1 C.2.1 dL_law_18 rfl (lv_at hl 0 rfl) ?_
    refine lv_aload_n C.1 C.2.1 dL_law_19 rfl (lv_at hl 3 rfl) ?_
    refine va_slen C.1 C.2.1 hXs hbl hbA hS dL_law_20 ?_
    refine lv_bipush C.1 C.2.1 (v := 6) dL_law_21 (by decide) ?_
    refine lv_isub C.1 C.2.1 dL_law_23 ?_
    refine lv_icmp_gt C.1 C.2.1 (tgt := 1205) dL_law_24 (by decide) (fun c_1 => ?_) (fun c_1 => ?_)
    · refine lv_iconst C.1 C.2.1 (v := 1) dL_law_1205 (by decide) ?_
      refine va_forget (fun z hz => hS.2.2 z hz) ?_
      refine W.widen (k := 600000) (n := 7302250) (by omega) (by omega) ?_
      exact hEnd _ _
    · have k_1 := (tn_lt eL hx3).mp c_1
      have hi6 : i + 6 ≤ L := by omega
      have e6 : (x3 + 6).toInt = (i : Int) + 6 := ti_add hx3 (show (6 : Int32).toInt = 6 from by decide) (by omega) (by omega)
      have hNX : NX G p l e s m args below meth c Q qM (q 0) i b x3 := fun τ' nd' q' ζ' ξ' ρ' H' locs' ls' hq' hI' hl' => by
        refine lv_iinc (v := (x3 + 6)) (lv' := [(3, .int (x3 + 6)), (2, .ref (qM 0)), (1, .ref (q' 0)), (0, .ref b)]) C.1 C.2.1 dL_law_1199 hl' (k := 0) rfl rfl (by decide) rfl (fun ls hl => ?_)
        refine lv_goto C.1 C.2.1 (tgt := 18) dL_law_1202 (by decide) ?_
        rw [show 200 + i + 6 = 200 + (i + 6) from by omega]
        exact ih (i + 6) (x3 + 6) τ' nd' q' ζ' ξ' ρ' (by omega) (e6.trans (by omega)) hi6 H' locs' ls (hq'.trans hq0) hI' (by rw [hq', hq0] at hl; exact hl)
      have hl : lv_has ls 4 [(3, .int x3), (2, .ref (qM 0)), (1, .ref (q 0)), (0, .ref b)] := by rw [hq0]; exact hl
      refine lv_aload_n C.1 C.2.1 dL_law_27 rfl (lv_at hl 3 rfl) ?_
      refine lv_iload_n C.1 C.2.1 dL_law_28 rfl (lv_at hl 0 rfl) ?_
      refine va_sld C.1 C.2.1 hXs hbl hbA hS (vp_in_iff.mpr ⟨by omega, by omega⟩) dL_law_29 ?_
      refine lv_bipush C.1 C.2.1 (v := 31) dL_law_30 (by decide) ?_
      refine lv_iand C.1 C.2.1 dL_law_32 ?_
      have h31 := and31 (xs x3.toNatClampNeg)
      generalize xs x3.toNatClampNeg &&& 31 = v at h31 ⊢
      by_cases hv : v.toInt < 31
      · obtain ⟨k, hk⟩ : ∃ k : Nat, v.toInt = (k : Int) := ⟨v.toInt.toNat, by omega⟩
        exact (match k, hk with
          | 0, hk => lv_tableIn C.1 C.2.1 dL_law_33 (off := 139) (tgt := 172) (by omega) (by omega) (by rw [show v.toInt = 0 from hk]; rfl) (by decide) (lc_dish C hXs hbl hL hx3 hi6 hI hl hNX)
          | 1, hk => lv_tableIn C.1 C.2.1 dL_law_33 (off := 172) (tgt := 205) (by omega) (by omega) (by rw [show v.toInt = 1 from hk]; rfl) (by decide) (lc_tune C hXs hbl hL hx3 hi6 hI hl hNX)
          | 2, hk => lv_tableIn C.1 C.2.1 dL_law_33 (off := 215) (tgt := 248) (by omega) (by omega) (by rw [show v.toInt = 2 from hk]; rfl) (by decide) (lc_reel C hXs hbl hL hx3 hi6 hI hl hNX)
          | 3, hk => lv_tableIn C.1 C.2.1 dL_law_33 (off := 258) (tgt := 291) (by omega) (by omega) (by rw [show v.toInt = 3 from hk]; rfl) (by decide) (lc_lose C hXs hbl hL hx3 hi6 hI hl hNX)
          | 4, hk => lv_tableIn C.1 C.2.1 dL_law_33 (off := 281) (tgt := 314) (by omega) (by omega) (by rw [show v.toInt = 4 from hk]; rfl) (by decide) (lc_put C hXs hbl hL hx3 hi6 hI hl hNX)
          | 5, hk => lv_tableIn C.1 C.2.1 dL_law_33 (off := 334) (tgt := 367) (by omega) (by omega) (by rw [show v.toInt = 5 from hk]; rfl) (by decide) (lc_get C hXs hbl hL hx3 hi6 hI hl hNX)
          | 6, hk => lv_tableIn C.1 C.2.1 dL_law_33 (off := 377) (tgt := 410) (by omega) (by omega) (by rw [show v.toInt = 6 from hk]; rfl) (by decide) (lc_copy C hXs hbl hL hx3 hi6 hI hl hNX)
          | 7, hk => lv_tableIn C.1 C.2.1 dL_law_33 (off := 440) (tgt := 473) (by omega) (by omega) (by rw [show v.toInt = 7 from hk]; rfl) (by decide) (lc_flag C hXs hbl hL hx3 hi6 hI hl hNX)
          | 8, hk => lv_tableIn C.1 C.2.1 dL_law_33 (off := 483) (tgt := 516) (by omega) (by omega) (by rw [show v.toInt = 8 from hk]; rfl) (by decide) (lc_unflag C hXs hbl hL hx3 hi6 hI hl hNX)
          | 9, hk => lv_tableIn C.1 C.2.1 dL_law_33 (off := 496) (tgt := 529) (by omega) (by omega) (by rw [show v.toInt = 9 from hk]; rfl) (by decide) (lc_ticks C hXs hbl hL hx3 hi6 hI hl hNX)
          | 10, hk => lv_tableIn C.1 C.2.1 dL_law_33 (off := 529) (tgt := 562) (by omega) (by omega) (by rw [show v.toInt = 10 from hk]; rfl) (by decide) (lc_product C hXs hbl hL hx3 hi6 hI hl hNX)
          | 11, hk => lv_tableIn C.1 C.2.1 dL_law_33 (off := 563) (tgt := 596) (by omega) (by omega) (by rw [show v.toInt = 11 from hk]; rfl) (by decide) (lc_delay C hXs hbl hL hx3 hi6 hI hl hNX)
          | 12, hk => lv_tableIn C.1 C.2.1 dL_law_33 (off := 596) (tgt := 629) (by omega) (by omega) (by rw [show v.toInt = 12 from hk]; rfl) (by decide) (lc_three C hXs hbl hL hx3 hi6 hI hl hNX)
          | 13, hk => lv_tableIn C.1 C.2.1 dL_law_33 (off := 639) (tgt := 672) (by omega) (by omega) (by rw [show v.toInt = 13 from hk]; rfl) (by decide) (lc_four C hXs hbl hL hx3 hi6 hI hl hNX)
          | 14, hk => lv_tableIn C.1 C.2.1 dL_law_33 (off := 692) (tgt := 725) (by omega) (by omega) (by rw [show v.toInt = 14 from hk]; rfl) (by decide) (lc_beam C hXs hbl hL hx3 hi6 hI hl hNX)
          | 15, hk => lv_tableIn C.1 C.2.1 dL_law_33 (off := 725) (tgt := 758) (by omega) (by omega) (by rw [show v.toInt = 15 from hk]; rfl) (by decide) (lc_point C hXs hbl hL hx3 hi6 hI hl hNX)
          | 16, hk => lv_tableIn C.1 C.2.1 dL_law_33 (off := 768) (tgt := 801) (by omega) (by omega) (by rw [show v.toInt = 16 from hk]; rfl) (by decide) (lc_dark C hXs hbl hL hx3 hi6 hI hl hNX)
          | 17, hk => lv_tableIn C.1 C.2.1 dL_law_33 (off := 781) (tgt := 814) (by omega) (by omega) (by rw [show v.toInt = 17 from hk]; rfl) (by decide) (lc_board C hXs hbl hL hx3 hi6 hI hl hNX)
          | 18, hk => lv_tableIn C.1 C.2.1 dL_law_33 (off := 804) (tgt := 837) (by omega) (by omega) (by rw [show v.toInt = 18 from hk]; rfl) (by decide) (lc_at C hXs hbl hL hx3 hi6 hI hl hNX)
          | 19, hk => lv_tableIn C.1 C.2.1 dL_law_33 (off := 838) (tgt := 871) (by omega) (by omega) (by rw [show v.toInt = 19 from hk]; rfl) (by decide) (lc_window C hXs hbl hL hx3 hi6 hI hl hNX)
          | 20, hk => lv_tableIn C.1 C.2.1 dL_law_33 (off := 891) (tgt := 924) (by omega) (by omega) (by rw [show v.toInt = 20 from hk]; rfl) (by decide) (lc_peak C hXs hbl hL hx3 hi6 hI hl hNX)
          | 21, hk => lv_tableIn C.1 C.2.1 dL_law_33 (off := 904) (tgt := 937) (by omega) (by omega) (by rw [show v.toInt = 21 from hk]; rfl) (by decide) (lc_take C hXs hbl hL hx3 hi6 hI hl hNX)
          | 22, hk => lv_tableIn C.1 C.2.1 dL_law_33 (off := 937) (tgt := 970) (by omega) (by omega) (by rw [show v.toInt = 22 from hk]; rfl) (by decide) (lc_part C hXs hbl hL hx3 hi6 hI hl hNX)
          | 23, hk => lv_tableIn C.1 C.2.1 dL_law_33 (off := 971) (tgt := 1004) (by omega) (by omega) (by rw [show v.toInt = 23 from hk]; rfl) (by decide) (lc_back C hXs hbl hL hx3 hi6 hI hl hNX)
          | 24, hk => lv_tableIn C.1 C.2.1 dL_law_33 (off := 984) (tgt := 1017) (by omega) (by omega) (by rw [show v.toInt = 24 from hk]; rfl) (by decide) (lc_source C hXs hbl hL hx3 hi6 hI hl hNX)
          | 25, hk => lv_tableIn C.1 C.2.1 dL_law_33 (off := 1027) (tgt := 1060) (by omega) (by omega) (by rw [show v.toInt = 25 from hk]; rfl) (by decide) (lc_order C hXs hbl hL hx3 hi6 hI hl hNX)
          | 26, hk => lv_tableIn C.1 C.2.1 dL_law_33 (off := 1070) (tgt := 1103) (by omega) (by omega) (by rw [show v.toInt = 26 from hk]; rfl) (by decide) (lc_wipe C hXs hbl hL hx3 hi6 hI hl hNX)
          | 27, hk => lv_tableIn C.1 C.2.1 dL_law_33 (off := 1083) (tgt := 1116) (by omega) (by omega) (by rw [show v.toInt = 27 from hk]; rfl) (by decide) (lc_night C hXs hbl hL hx3 hi6 hI hl hNX)
          | 28, hk => lv_tableIn C.1 C.2.1 dL_law_33 (off := 1106) (tgt := 1139) (by omega) (by omega) (by rw [show v.toInt = 28 from hk]; rfl) (by decide) (lc_told C hXs hbl hL hx3 hi6 hI hl hNX)
          | 29, hk => lv_tableIn C.1 C.2.1 dL_law_33 (off := 1129) (tgt := 1162) (by omega) (by omega) (by rw [show v.toInt = 29 from hk]; rfl) (by decide) (lc_count C hXs hbl hL hx3 hi6 hI hl hNX)
          | 30, hk => lv_tableIn C.1 C.2.1 dL_law_33 (off := 1152) (tgt := 1185) (by omega) (by omega) (by rw [show v.toInt = 30 from hk]; rfl) (by decide) (lc_digest C hXs hbl hL hx3 hi6 hI hl hNX)
          | k + 31, hk => absurd hk (by omega))
      · refine lv_tableOut C.1 C.2.1 dL_law_33 (tgt := 1199) (by omega) (by decide) ?_
        refine W.widen (k := 200 + i + 6) (n := 20000 + 208 * (i + 6)) (by omega) (by omega) ?_
        exact hNX _ _ _ _ _ _ _ _ _ rfl hI hl
set_option maxHeartbeats 4000000 in
set_option maxRecDepth 100000 in
theorem law_start (C : LC G (fun a => s.heap.size ≤ a) p s m args c cL_law 4 RL) (hNE : nE s) (hXs : va_X b L xs s s.heap) (hbl : b < s.heap.size) (hL : L ≤ 3072) (hEnd : ∀ (H : Heap) (ls : Array Slot), W p l e room_1 s m args below meth c H [] 600000 7302250 Q (F0 m 1206 ls [.int 1])) {ls : Array Slot} (hl : lv_has ls 4 (lv_args 0 [.ref b])) : W p l e room_1 s m args below meth c s.heap [] 0 0 Q (F0 m 0 ls []) := by
  have hl : lv_has ls 4 [(0, .ref b)] := hl
  have hW0 : LB G (fun a => s.heap.size ≤ a) [] s s.heap [] := ⟨fun k z h => by simp at h, ⟨fun i j x y h => by simp at h, fun k z h => by simp at h⟩, va_S.rf⟩
  refine l_new (ci := 7) (Cn := RX7) (T := TX7) (N := 7) (fs := [.null, .null, .null, .null, .null, .null, .int 0]) C hW0 rfl inB_X7 tyX7 tyX7_ok bK_L_7 bT_X7 bN_X7 (fun j hj => match j, hj with | 0, _ => rfl | 1, _ => rfl | 2, _ => rfl | 3, _ => rfl | 4, _ => rfl | 5, _ => rfl | 6, _ => rfl | j + 7, hj => absurd hj (by omega)) (Nat.le_of_ble_eq_true rfl) (Nat.le_of_ble_eq_true rfl) dL_law_0 (fun a H hW => ?_)
  refine lv_dup C.1 C.2.1 dL_law_3 rfl ?_
  refine go_c C hW (run_C (N := 0) (As := []) (rest := [.ref a]) C hW nE_B hNE (c_X7_init l G a H.size) bL_L_9 bI_X7_init bN_X7 bC_X7_init rfl ⟨rfl, rfl⟩ (by decide +kernel) ⟨Nat.le_of_ble_eq_true rfl, Nat.le_of_ble_eq_true rfl⟩ rfl hl.1 rfl (Nat.le_of_ble_eq_true rfl) dL_law_4 ⟨Nat.le_of_ble_eq_true rfl, Nat.le_of_ble_eq_true rfl⟩) (fun u H locs hu hW => ?_)
  have hW : LB G (fun a => s.heap.size ≤ a) (wl 28 u (eX G u st0 zt0 rh0)) s H locs := hW
  refine lv_astore_n (lv' := [(1, .ref a), (0, .ref b)]) C.1 C.2.1 dL_law_7 rfl hl (by decide) rfl (fun ls hl => ?_)
  refine l_new (ci := 8) (Cn := RX8) (T := TX8) (N := 52) (fs := [.int 0, .null, .null, .null, .null, .null, .null, .null, .null, .null, .int 0, .int 0, .null, .null, .null, .int 0, .null, .null, .int 0, .null, .null, .null, .int 0, .null, .null, .int 0, .null, .null, .null, .int 0, .null, .null, .int 0, .int 0, .int 0, .int 0, .null, .null, .null, .int 0, .null, .null, .null, .null, .int 0, .int 0, .int 0, .int 0, .int 0, .int 0, .int 0, .null]) C hW rfl inB_X8 tyX8 tyX8_ok bK_L_10 bT_X8 bN_X8 (fun j hj => match j, hj with | 0, _ => rfl | 1, _ => rfl | 2, _ => rfl | 3, _ => rfl | 4, _ => rfl | 5, _ => rfl | 6, _ => rfl | 7, _ => rfl | 8, _ => rfl | 9, _ => rfl | 10, _ => rfl | 11, _ => rfl | 12, _ => rfl | 13, _ => rfl | 14, _ => rfl | 15, _ => rfl | 16, _ => rfl | 17, _ => rfl | 18, _ => rfl | 19, _ => rfl | 20, _ => rfl | 21, _ => rfl | 22, _ => rfl | 23, _ => rfl | 24, _ => rfl | 25, _ => rfl | 26, _ => rfl | 27, _ => rfl | 28, _ => rfl | 29, _ => rfl | 30, _ => rfl | 31, _ => rfl | 32, _ => rfl | 33, _ => rfl | 34, _ => rfl | 35, _ => rfl | 36, _ => rfl | 37, _ => rfl | 38, _ => rfl | 39, _ => rfl | 40, _ => rfl | 41, _ => rfl | 42, _ => rfl | 43, _ => rfl | 44, _ => rfl | 45, _ => rfl | 46, _ => rfl | 47, _ => rfl | 48, _ => rfl | 49, _ => rfl | 50, _ => rfl | 51, _ => rfl | j + 52, hj => absurd hj (by omega)) (Nat.le_of_ble_eq_true rfl) (Nat.le_of_ble_eq_true rfl) dL_law_8 (fun a2 H hW => ?_)
  refine lv_dup C.1 C.2.1 dL_law_11 rfl ?_
  refine go_c C hW (run_C (N := 0) (As := []) (rest := [.ref a2]) C hW nT_B trivial (c_X8_init l G a2 H.size) bL_L_12 bI_X8_init bN_X8 bC_X8_init rfl ⟨rfl, rfl⟩ (by decide +kernel) ⟨Nat.le_of_ble_eq_true rfl, Nat.le_of_ble_eq_true rfl⟩ rfl hl.1 rfl (Nat.le_of_ble_eq_true rfl) dL_law_12 ⟨Nat.le_of_ble_eq_true rfl, Nat.le_of_ble_eq_true rfl⟩) (fun u2 H locs hu2 hW => ?_)
  refine lv_astore_n (lv' := [(2, .ref a2), (1, .ref a), (0, .ref b)]) C.1 C.2.1 dL_law_15 rfl hl (by decide) rfl (fun ls hl => ?_)
  refine lv_iconst C.1 C.2.1 (v := 0) dL_law_16 (by decide) ?_
  refine lv_istore_n (lv' := [(3, .int 0), (2, .ref a2), (1, .ref a), (0, .ref b)]) C.1 C.2.1 dL_law_17 rfl hl (by decide) rfl (fun ls hl => ?_)
  obtain ⟨hA, hB, hx⟩ := LB_split hW
  have s1 : ∀ j, j < 28 → s.heap.size ≤ u j := fun j hj => hA.2.1.2 j _ (wl_at hj)
  have s2 : ∀ j, j < 33 → s.heap.size ≤ u2 j := fun j hj => hB.2.1.2 j _ (wl_at hj)
  have hI : LI G s st0 0 u u2 zt0 zer0 rh0 H locs := ⟨by decide, st0_XZ u, st0_IV, LB_WB hA (FA_A0 s1), LB_WB hB (FA_A0 s2), LB_inj hA, LB_inj hB, s1, s2, fun j hj k hk => hx j k _ _ (wl_at hj) (wl_at hk)⟩
  refine W.widen (k := 200 + 0) (n := 20000 + 208 * 0) (Nat.le_of_ble_eq_true rfl) (Nat.le_of_ble_eq_true rfl) ?_
  exact law_loop (q0 := a) C hXs hbl hL hEnd (L + 1) 0 0 st0 0 u zt0 zer0 rh0 (by omega) (by decide) (Nat.zero_le _) H locs ls hu hI (by rw [hu2]; exact hl)
end R47
