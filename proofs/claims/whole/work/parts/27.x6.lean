/-! a night of the landed class -/
def srcOk (τ ζ : ST) (z : Nat) : Prop := ((τ.2.1 15 z).toInt = 0 ∧ (ζ.2.1 3 z).toInt = 0 ∧ (ζ.2.1 4 z).toInt = 1440) ∨ (¬ (τ.2.1 15 z).toInt = 0 ∧ ζ.2.1 3 z = τ.2.1 16 z ∧ ζ.2.1 4 z = τ.2.1 17 z ∧ 0 ≤ (τ.2.1 16 z).toInt ∧ (τ.2.1 16 z).toInt < (τ.2.1 17 z).toInt ∧ (τ.2.1 17 z).toInt ≤ 1440)
theorem upX_iff {τ ζ : ST} {k : Nat} (h : srcOk τ ζ (τ.2.1 20 k).toInt.toNat) (h1 : 1 ≤ (τ.2.1 19 k).toInt) (h2 : (τ.2.1 19 k).toInt ≤ 600) (h3 : 0 ≤ (τ.1 10).toInt) : upX ζ (τ.2.1 20 k).toInt.toNat (τ.1 10).toInt (τ.2.1 19 k).toInt ↔ upA τ k := by
  unfold upX upA upP
  generalize (τ.2.1 20 k).toInt.toNat = z at h ⊢
  unfold srcOk at h
  generalize (τ.1 10).toInt = t at h3 ⊢
  generalize (τ.2.1 19 k).toInt = w at h1 h2 ⊢
  rcases h with ⟨a1, a2, a3⟩ | ⟨a1, a2, a3, a4, a5, a6⟩
  · exact ⟨fun _ j _ => Or.inl a1, fun _ => Or.inl ⟨a2, a3⟩⟩
  · rw [a2, a3]
    constructor
    · intro hx j hj
      right
      rcases hx with ⟨b1, b2⟩ | ⟨b1, b2⟩ <;> omega
    · intro hx
      by_cases c0 : (τ.2.1 16 z).toInt = 0 ∧ (τ.2.1 17 z).toInt = 1440
      · exact Or.inl c0
      · right
        have h0 := hx 0 (by omega)
        rcases h0 with h0 | h0
        · exact absurd h0 a1
        refine ⟨by omega, ?_⟩
        rcases Int.lt_or_le (τ.2.1 17 z).toInt (t % 1440 + w) with c | c
        · exfalso
          have h5 := hx ((τ.2.1 17 z).toInt - t % 1440).toNat (by omega)
          rcases h5 with h5 | h5
          · exact a1 h5
          · omega
        · exact c
theorem wfr_eq {τ : ST} {k : Nat} (h0 : 0 ≤ (τ.2.1 19 k).toInt ∧ (τ.2.1 19 k).toInt ≤ 600) (hm : 0 ≤ (τ.1 10).toInt ∧ (τ.1 10).toInt ≤ 100000) (hs : 0 ≤ (τ.1 16).toInt ∧ (τ.1 16).toInt ≤ 100600) : wfr τ (τ.2.1 19 k) = frO τ k := by
  apply Int32.toInt_inj.mp
  rw [frO_rng h0 hm hs]
  unfold wfr
  have e1 := ti_sub (x := τ.1 16) (y := τ.1 10) rfl rfl (by omega) (by omega)
  have e2 := ti_min e1 (rfl : (τ.2.1 19 k).toInt = _)
  have e3 := ti_max (show (0 : Int32).toInt = 0 from by decide) e2
  rw [ti_sub (x := τ.2.1 19 k) rfl e3 (by omega) (by omega)]
  omega
theorem stp_eq {τ : ST} {k : Nat} (h : okK τ k) (hm : 0 ≤ (τ.1 10).toInt ∧ (τ.1 10).toInt ≤ 100000) (hs : 0 ≤ (τ.1 16).toInt ∧ (τ.1 16).toInt ≤ 100600) : sg (pfT (sg τ 14 (-1)) k) 13 ((pfT (sg τ 14 (-1)) k).1 13 + 1) = sg (dnT (sg τ 14 (nI k)) k) 14 (-1) := by
  have hl : ∀ v, lenO (sg τ 14 v) k = lenO τ k := fun _ => rfl
  have hf : ∀ v, frO (sg τ 14 v) k = frO τ k := fun _ => rfl
  have hw : ∀ v u, wfr (sg τ 14 v) u = wfr τ u := fun _ _ => rfl
  unfold okK at h
  unfold pfT dnT
  by_cases c3 : (τ.2.1 18 k).toInt = 3
  · rw [if_pos (show ((sg τ 14 (-1)).2.1 18 k).toInt = 3 from c3), if_pos (show ((sg τ 14 (nI k)).2.1 18 k).toInt = 3 from c3)]
    exact st_g (fun j => by simp only [sg, upd]; (repeat' split) <;> first | rfl | omega) rfl
  rw [if_neg (show ¬ ((sg τ 14 (-1)).2.1 18 k).toInt = 3 from c3), if_neg (show ¬ ((sg τ 14 (nI k)).2.1 18 k).toInt = 3 from c3)]
  by_cases c4 : (τ.2.1 18 k).toInt = 4
  · rw [if_pos (show ((sg τ 14 (-1)).2.1 18 k).toInt = 4 from c4), if_pos (show ((sg τ 14 (nI k)).2.1 18 k).toInt = 4 from c4)]
    have e : (if τ.1 16 < τ.1 10 + τ.2.1 19 k then τ.1 10 + τ.2.1 19 k else τ.1 16) = (if (τ.1 16).toInt < (τ.1 10 + τ.2.1 19 k).toInt then τ.1 10 + τ.2.1 19 k else τ.1 16) := by
      by_cases c : τ.1 16 < τ.1 10 + τ.2.1 19 k
      · rw [if_pos c, if_pos ((tc_lt rfl rfl).mp c)]
      · rw [if_neg c, if_neg ((tn_lt rfl rfl).mp c)]
    refine st_g (fun j => ?_) rfl
    show (sg (sg (sg (sg τ 14 (-1)) 16 (if τ.1 16 < τ.1 10 + τ.2.1 19 k then τ.1 10 + τ.2.1 19 k else τ.1 16)) 10 (τ.1 10 + lenO τ k)) 13 (τ.1 13 + 1)).1 j = (sg (sg (sg (sg (sg τ 14 (nI k)) 13 (τ.1 13 + 1)) 16 (if (τ.1 16).toInt < (τ.1 10 + τ.2.1 19 k).toInt then τ.1 10 + τ.2.1 19 k else τ.1 16)) 10 (τ.1 10 + lenO τ k)) 14 (-1)).1 j
    rw [e]
    simp only [sg, upd]
    (repeat' split) <;> first | rfl | omega
  rw [if_neg (show ¬ ((sg τ 14 (-1)).2.1 18 k).toInt = 4 from c4), if_neg (show ¬ ((sg τ 14 (nI k)).2.1 18 k).toInt = 4 from c4)]
  by_cases c1 : (τ.2.1 18 k).toInt = 1 ∨ (τ.2.1 18 k).toInt = 5
  · rw [if_pos (show ((sg τ 14 (-1)).2.1 18 k).toInt = 1 ∨ ((sg τ 14 (-1)).2.1 18 k).toInt = 5 from c1), if_pos (show ((sg τ 14 (nI k)).2.1 18 k).toInt = 1 ∨ ((sg τ 14 (nI k)).2.1 18 k).toInt = 5 from c1)]
    refine st_g (fun j => ?_) rfl
    show (sg (sg (sg (sg (sg τ 14 (-1)) 15 (τ.1 15 + lenO τ k)) 11 (τ.2.1 19 k)) 10 (τ.1 10 + lenO τ k)) 13 (τ.1 13 + 1)).1 j = (sg (sg (sg (sg (sg (sg τ 14 (nI k)) 13 (τ.1 13 + 1)) 15 (τ.1 15 + lenO τ k)) 11 (τ.2.1 19 k)) 10 (τ.1 10 + lenO τ k)) 14 (-1)).1 j
    simp only [sg, upd]
    (repeat' split) <;> first | rfl | omega
  rw [if_neg (show ¬ (((sg τ 14 (-1)).2.1 18 k).toInt = 1 ∨ ((sg τ 14 (-1)).2.1 18 k).toInt = 5) from c1), if_neg (show ¬ (((sg τ 14 (nI k)).2.1 18 k).toInt = 1 ∨ ((sg τ 14 (nI k)).2.1 18 k).toInt = 5) from c1)]
  by_cases c2 : (τ.2.1 18 k).toInt = 2
  · rw [if_pos (show ((sg τ 14 (-1)).2.1 18 k).toInt = 2 from c2), if_pos (show ((sg τ 14 (nI k)).2.1 18 k).toInt = 2 from c2)]
    have el : lenO τ k = τ.2.1 19 k := if_pos (Or.inr c2)
    have ew : wfr τ (lenO τ k) = frO τ k := by rw [el]; exact wfr_eq (by omega) hm hs
    show sg (sg (sa (sg (sg τ 14 (-1)) 12 (τ.1 12 + wfr τ (lenO τ k))) 21 (τ.2.1 20 k).toInt.toNat (τ.2.1 21 (τ.2.1 20 k).toInt.toNat + wfr τ (lenO τ k))) 10 (τ.1 10 + lenO τ k)) 13 (τ.1 13 + 1) = sg (sg (sa (sg (sg (sg τ 14 (nI k)) 13 (τ.1 13 + 1)) 12 (τ.1 12 + frO τ k)) 21 (τ.2.1 20 k).toInt.toNat (τ.2.1 21 (τ.2.1 20 k).toInt.toNat + frO τ k)) 10 (τ.1 10 + lenO τ k)) 14 (-1)
    rw [ew]
    refine st_g (fun j => ?_) rfl
    simp only [sg, sa, upd]
    (repeat' split) <;> first | rfl | omega
  rw [if_neg (show ¬ ((sg τ 14 (-1)).2.1 18 k).toInt = 2 from c2), if_neg (show ¬ ((sg τ 14 (nI k)).2.1 18 k).toInt = 2 from c2)]
  refine st_g (fun j => ?_) rfl
  show (sg (sg (sg τ 14 (-1)) 10 (τ.1 10 + lenO τ k)) 13 (τ.1 13 + 1)).1 j = (sg (sg (sg (sg τ 14 (nI k)) 13 (τ.1 13 + 1)) 10 (τ.1 10 + lenO τ k)) 14 (-1)).1 j
  simp only [sg, upd]
  (repeat' split) <;> first | rfl | omega
set_option maxHeartbeats 4000000 in
set_option maxRecDepth 100000 in
theorem c_X5_perform (l : Launch) (G : GG) (q : Nat → Nat) (nd sz : Nat) (τ ζ : ST) (ρ : RF) (o : Int32) (oN : Nat) (ho : o.toInt = (oN : Int)) (h_nd : nd ≤ 6) (ho60 : oN < 60) (h_az : 0 ≤ (τ.1 11).toInt ∧ (τ.1 11).toInt ≤ 359) (h_ok : okK τ oN) : Met l yX5_perform (WSb yX5_perform cX5_perform 4 (some .int)) (rmA 3 66) (va_Pc [.ref (q 25), .ref (q 19), .int o] (PW G (28 + 3 * nd) q sz (eX G q τ ζ ρ))) (va_Qi (fun (r : Int32) (u : (ST × ST × RF)) => r = nI (dnK τ (ζ.2.1 7) oN) ∧ u = ((pfT τ oN), (saF ζ 7 (dnL τ (ζ.2.1 7) oN)), ρ)) (fun u => BW G (28 + 3 * nd) q (eX G q u.1 u.2.1 u.2.2)) (FA (28 + 3 * nd) q sz)) 0 0 (FA (28 + 3 * nd) q sz) := by
  refine Met_B (own := RX5) rfl (by decide) (Nat.le_of_ble_eq_true rfl) (fun p e s m args below meth c ls hsz C hW hr hk hl QQ hQ => ?_)
  subst hsz
  have hl : lv_has ls 4 [(0, .ref (q 25)), (1, .ref (q 19)), (2, .int o)] := hl
  have ok := h_ok
  unfold okK at ok
  refine lv_aload_n C.1 C.2.1 dX5_perform_0 rfl (lv_at hl 0 rfl) ?_
  refine lv_aload_n C.1 C.2.1 dX5_perform_1 rfl (lv_at hl 1 rfl) ?_
  refine lv_iload_n C.1 C.2.1 dX5_perform_2 rfl (lv_at hl 2 rfl) ?_
  refine go_i hW (run_V (o := 25) (As := [.ref (q 19), .int o]) (rest := []) C hW (by omega) rfl rfl (c_X5_minutesOf l G q nd _ τ ζ ρ o oN (ho.trans (by omega)) h_nd (by omega) h_az h_ok) (cw_V 2 C bL_X5_66 bI_X5_minutesOf bV_X5_minutesOf bN_X5 bC_X5_minutesOf ⟨rfl, rfl⟩ (by decide +kernel) ⟨Nat.le_of_ble_eq_true rfl, Nat.le_of_ble_eq_true rfl⟩) rfl hl.1 rfl (Nat.le_of_ble_eq_true rfl) dX5_perform_3 ⟨Nat.le_refl _, Nat.le_refl _⟩) (fun r_1 u_1 H locs hp_1 hW => ?_)
  rcases hp_1 with ⟨rfl, rfl⟩
  have hW : WB G (28 + 3 * nd) q (eX G q τ ζ ρ) s H locs := hW
  refine lv_istore_n (lv' := [(3, .int (lenO τ oN)), (0, .ref (q 25)), (1, .ref (q 19)), (2, .int o)]) C.1 C.2.1 dX5_perform_6 rfl hl (by decide) rfl (fun ls hl => ?_)
  refine lv_aload_n C.1 C.2.1 dX5_perform_7 rfl (lv_at hl 2 rfl) ?_
  refine xG_Program_kinds C hW bF_X5_69 dX5_perform_8 ?_
  refine lv_iload_n C.1 C.2.1 dX5_perform_11 rfl (lv_at hl 3 rfl) ?_
  refine xL_20 C hW oN (ho.trans (by omega)) (by omega) (v := (τ.2.1 18 oN)) rfl dX5_perform_12 ?_
  have e_2 : ((τ.2.1 18 oN)).toInt = ((τ.2.1 18 oN)).toInt := (rfl : ((τ.2.1 18 oN)).toInt = ((τ.2.1 18 oN)).toInt)
  by_cases c_2_0 : ((τ.2.1 18 oN)).toInt = 1
  · skip
    refine lv_tableIn C.1 C.2.1 dX5_perform_13 (off := 35) (tgt := 48) (by omega) (by omega) (by rw [show ((τ.2.1 18 oN)).toInt = 1 by omega]; rfl) (by decide) ?_
    refine lv_aload_n C.1 C.2.1 dX5_perform_48 rfl (lv_at hl 1 rfl) ?_
    refine lv_dup C.1 C.2.1 dX5_perform_49 rfl ?_
    refine xG_Run_turning C hW bF_X5_51 (v := (τ.1 15)) rfl dX5_perform_50 ?_
    refine lv_iload_n C.1 C.2.1 dX5_perform_53 rfl (lv_at hl 0 rfl) ?_
    refine lv_iadd C.1 C.2.1 dX5_perform_54 ?_
    refine xP_Run_turning C hW bF_X5_51 dX5_perform_55 (fun H locs hW => ?_)
    refine lv_aload_n C.1 C.2.1 dX5_perform_58 rfl (lv_at hl 1 rfl) ?_
    refine lv_aload_n C.1 C.2.1 dX5_perform_59 rfl (lv_at hl 2 rfl) ?_
    refine xG_Program_as C hW bF_X5_76 dX5_perform_60 ?_
    refine lv_iload_n C.1 C.2.1 dX5_perform_63 rfl (lv_at hl 3 rfl) ?_
    refine xL_21 C hW oN (ho.trans (by omega)) (by omega) (v := (τ.2.1 19 oN)) rfl dX5_perform_64 ?_
    refine xP_Run_azimuth C hW bF_X5_45 dX5_perform_65 (fun H locs hW => ?_)
    refine lv_goto C.1 C.2.1 (tgt := 117) dX5_perform_68 (by decide) ?_
    refine lv_aload_n C.1 C.2.1 dX5_perform_117 rfl (lv_at hl 1 rfl) ?_
    refine lv_dup C.1 C.2.1 dX5_perform_118 rfl ?_
    refine xG_Run_minute C hW bF_X5_42 (v := (τ.1 10)) rfl dX5_perform_119 ?_
    refine lv_iload_n C.1 C.2.1 dX5_perform_122 rfl (lv_at hl 0 rfl) ?_
    refine lv_iadd C.1 C.2.1 dX5_perform_123 ?_
    refine xP_Run_minute C hW bF_X5_42 dX5_perform_124 (fun H locs hW => ?_)
    refine lv_iload_n C.1 C.2.1 dX5_perform_127 rfl (lv_at hl 3 rfl) ?_
    refine lv_iconst C.1 C.2.1 (v := 1) dX5_perform_128 (by decide) ?_
    refine lv_iadd C.1 C.2.1 dX5_perform_129 ?_
    subst hQ
    exact r_iret ((sg (sg (sg τ 15 ((τ.1 15) + (lenO τ oN))) 11 (τ.2.1 19 oN)) 10 ((τ.1 10) + (lenO τ oN))), ζ, ρ) C hW hr hk dX5_perform_130 ⟨Int32.toInt_inj.mp (by rw [show dnK τ (ζ.2.1 7) oN = oN + 1 from if_neg (by omega), nI_toInt (by omega)]; exact (ti_add ho (show (1 : Int32).toInt = 1 from by decide) (by omega) (by omega)).trans (by omega)), by rw [show dnL τ (ζ.2.1 7) oN = ζ.2.1 7 from if_neg (by omega), saF_self]; congr 1; unfold pfT; (first | rw [if_neg (show ¬ (τ.2.1 18 oN).toInt = 3 by omega), if_pos (show (τ.2.1 18 oN).toInt = 4 by omega)] | (repeat (first | rw [if_pos (by omega)] | rw [if_neg (by omega)]))); first | done | rfl⟩
  by_cases c_2_1 : ((τ.2.1 18 oN)).toInt = 2
  · skip
    refine lv_tableIn C.1 C.2.1 dX5_perform_13 (off := 58) (tgt := 71) (by omega) (by omega) (by rw [show ((τ.2.1 18 oN)).toInt = 2 by omega]; rfl) (by decide) ?_
    refine lv_aload_n C.1 C.2.1 dX5_perform_71 rfl (lv_at hl 1 rfl) ?_
    refine lv_aload_n C.1 C.2.1 dX5_perform_72 rfl (lv_at hl 2 rfl) ?_
    refine xG_Program_bs C hW bF_X5_63 dX5_perform_73 ?_
    refine lv_iload_n C.1 C.2.1 dX5_perform_76 rfl (lv_at hl 3 rfl) ?_
    refine xL_22 C hW oN (ho.trans (by omega)) (by omega) (v := (τ.2.1 20 oN)) rfl dX5_perform_77 ?_
    refine lv_iload_n C.1 C.2.1 dX5_perform_78 rfl (lv_at hl 0 rfl) ?_
    refine go_v hW (run_V (o := 25) (As := [.int (τ.2.1 20 oN), .int (lenO τ oN)]) (rest := []) C hW (by omega) rfl rfl (c_X5_watch l G q nd _ τ ζ ρ (τ.2.1 20 oN) (lenO τ oN) ((((τ.2.1 20 oN)).toInt).toNat) ((rfl : ((τ.2.1 20 oN)).toInt = ((τ.2.1 20 oN)).toInt).trans (by omega)) h_nd (by omega)) (cw_V 2 C bL_X5_92 bI_X5_watch bV_X5_watch bN_X5 bC_X5_watch ⟨rfl, rfl⟩ (by decide +kernel) ⟨Nat.le_of_ble_eq_true rfl, Nat.le_of_ble_eq_true rfl⟩) rfl hl.1 rfl (Nat.le_of_ble_eq_true rfl) dX5_perform_79 ⟨Nat.le_refl _, Nat.le_refl _⟩) (fun u_3 H locs hp_3 hW => ?_)
    obtain rfl := hp_3
    have hW : WB G (28 + 3 * nd) q (eX G q (sa (sg τ 12 (τ.1 12 + wfr τ (lenO τ oN))) 21 ((((τ.2.1 20 oN)).toInt).toNat) (τ.2.1 21 ((((τ.2.1 20 oN)).toInt).toNat) + wfr τ (lenO τ oN))) ζ ρ) s H locs := hW
    refine lv_goto C.1 C.2.1 (tgt := 117) dX5_perform_82 (by decide) ?_
    refine lv_aload_n C.1 C.2.1 dX5_perform_117 rfl (lv_at hl 1 rfl) ?_
    refine lv_dup C.1 C.2.1 dX5_perform_118 rfl ?_
    refine xG_Run_minute C hW bF_X5_42 (v := (τ.1 10)) rfl dX5_perform_119 ?_
    refine lv_iload_n C.1 C.2.1 dX5_perform_122 rfl (lv_at hl 0 rfl) ?_
    refine lv_iadd C.1 C.2.1 dX5_perform_123 ?_
    refine xP_Run_minute C hW bF_X5_42 dX5_perform_124 (fun H locs hW => ?_)
    refine lv_iload_n C.1 C.2.1 dX5_perform_127 rfl (lv_at hl 3 rfl) ?_
    refine lv_iconst C.1 C.2.1 (v := 1) dX5_perform_128 (by decide) ?_
    refine lv_iadd C.1 C.2.1 dX5_perform_129 ?_
    subst hQ
    exact r_iret ((sg (sa (sg τ 12 (τ.1 12 + wfr τ (lenO τ oN))) 21 ((((τ.2.1 20 oN)).toInt).toNat) (τ.2.1 21 ((((τ.2.1 20 oN)).toInt).toNat) + wfr τ (lenO τ oN))) 10 ((τ.1 10) + (lenO τ oN))), ζ, ρ) C hW hr hk dX5_perform_130 ⟨Int32.toInt_inj.mp (by rw [show dnK τ (ζ.2.1 7) oN = oN + 1 from if_neg (by omega), nI_toInt (by omega)]; exact (ti_add ho (show (1 : Int32).toInt = 1 from by decide) (by omega) (by omega)).trans (by omega)), by rw [show dnL τ (ζ.2.1 7) oN = ζ.2.1 7 from if_neg (by omega), saF_self]; congr 1; unfold pfT; (first | rw [if_neg (show ¬ (τ.2.1 18 oN).toInt = 3 by omega), if_pos (show (τ.2.1 18 oN).toInt = 4 by omega)] | (repeat (first | rw [if_pos (by omega)] | rw [if_neg (by omega)]))); first | done | rfl⟩
  by_cases c_2_2 : ((τ.2.1 18 oN)).toInt = 3
  · skip
    refine lv_tableIn C.1 C.2.1 dX5_perform_13 (off := 72) (tgt := 85) (by omega) (by omega) (by rw [show ((τ.2.1 18 oN)).toInt = 3 by omega]; rfl) (by decide) ?_
    refine lv_aload_n C.1 C.2.1 dX5_perform_85 rfl (lv_at hl 1 rfl) ?_
    refine lv_aload_n C.1 C.2.1 dX5_perform_86 rfl (lv_at hl 2 rfl) ?_
    refine lv_iload_n C.1 C.2.1 dX5_perform_87 rfl (lv_at hl 3 rfl) ?_
    refine go_i hW (run_V (o := 25) (As := [.ref (q 19), .int o]) (rest := []) C hW (by omega) rfl rfl (c_X5_repeat l G q nd _ τ ζ ρ o oN (ho.trans (by omega)) h_nd (by omega) h_ok (by omega)) (cw_V 2 C bL_X5_96 bI_X5_repeat bV_X5_repeat bN_X5 bC_X5_repeat ⟨rfl, rfl⟩ (by decide +kernel) ⟨Nat.le_of_ble_eq_true rfl, Nat.le_of_ble_eq_true rfl⟩) rfl hl.1 rfl (Nat.le_of_ble_eq_true rfl) dX5_perform_88 ⟨Nat.le_refl _, Nat.le_refl _⟩) (fun r_4 u_4 H locs hp_4 hW => ?_)
    rcases hp_4 with ⟨rfl, rfl⟩
    have hW : WB G (28 + 3 * nd) q (eX G q τ (saF ζ 7 (dnL τ (ζ.2.1 7) oN)) ρ) s H locs := hW
    subst hQ
    exact r_iret (τ, (saF ζ 7 (dnL τ (ζ.2.1 7) oN)), ρ) C hW hr hk dX5_perform_91 ⟨rfl, by rw [show pfT τ oN = τ from if_pos (by omega)]⟩
  by_cases c_2_3 : ((τ.2.1 18 oN)).toInt = 4
  · skip
    refine lv_tableIn C.1 C.2.1 dX5_perform_13 (off := 79) (tgt := 92) (by omega) (by omega) (by rw [show ((τ.2.1 18 oN)).toInt = 4 by omega]; rfl) (by decide) ?_
    refine lv_aload_n C.1 C.2.1 dX5_perform_92 rfl (lv_at hl 1 rfl) ?_
    refine lv_aload_n C.1 C.2.1 dX5_perform_93 rfl (lv_at hl 1 rfl) ?_
    refine xG_Run_stormEnd C hW bF_X5_54 (v := (τ.1 16)) rfl dX5_perform_94 ?_
    refine lv_aload_n C.1 C.2.1 dX5_perform_97 rfl (lv_at hl 1 rfl) ?_
    refine xG_Run_minute C hW bF_X5_42 (v := (τ.1 10)) rfl dX5_perform_98 ?_
    refine lv_aload_n C.1 C.2.1 dX5_perform_101 rfl (lv_at hl 2 rfl) ?_
    refine xG_Program_as C hW bF_X5_76 dX5_perform_102 ?_
    refine lv_iload_n C.1 C.2.1 dX5_perform_105 rfl (lv_at hl 3 rfl) ?_
    refine xL_21 C hW oN (ho.trans (by omega)) (by omega) (v := (τ.2.1 19 oN)) rfl dX5_perform_106 ?_
    refine lv_iadd C.1 C.2.1 dX5_perform_107 ?_
    refine r_max (rest := [.ref (q 25)]) C hl.1 bL_X5_99 (Nat.le_of_ble_eq_true rfl) (Nat.le_of_ble_eq_true rfl) ⟨Nat.le_refl _, Nat.le_refl _⟩ dX5_perform_108 ?_
    refine xP_Run_stormEnd C hW bF_X5_54 dX5_perform_111 (fun H locs hW => ?_)
    refine lv_goto C.1 C.2.1 (tgt := 117) dX5_perform_114 (by decide) ?_
    refine lv_aload_n C.1 C.2.1 dX5_perform_117 rfl (lv_at hl 1 rfl) ?_
    refine lv_dup C.1 C.2.1 dX5_perform_118 rfl ?_
    refine xG_Run_minute C hW bF_X5_42 (v := (τ.1 10)) rfl dX5_perform_119 ?_
    refine lv_iload_n C.1 C.2.1 dX5_perform_122 rfl (lv_at hl 0 rfl) ?_
    refine lv_iadd C.1 C.2.1 dX5_perform_123 ?_
    refine xP_Run_minute C hW bF_X5_42 dX5_perform_124 (fun H locs hW => ?_)
    refine lv_iload_n C.1 C.2.1 dX5_perform_127 rfl (lv_at hl 3 rfl) ?_
    refine lv_iconst C.1 C.2.1 (v := 1) dX5_perform_128 (by decide) ?_
    refine lv_iadd C.1 C.2.1 dX5_perform_129 ?_
    subst hQ
    exact r_iret ((sg (sg τ 16 (if (τ.1 16) < ((τ.1 10) + (τ.2.1 19 oN)) then ((τ.1 10) + (τ.2.1 19 oN)) else (τ.1 16))) 10 ((τ.1 10) + (lenO τ oN))), ζ, ρ) C hW hr hk dX5_perform_130 ⟨Int32.toInt_inj.mp (by rw [show dnK τ (ζ.2.1 7) oN = oN + 1 from if_neg (by omega), nI_toInt (by omega)]; exact (ti_add ho (show (1 : Int32).toInt = 1 from by decide) (by omega) (by omega)).trans (by omega)), by rw [show dnL τ (ζ.2.1 7) oN = ζ.2.1 7 from if_neg (by omega), saF_self]; congr 1; unfold pfT; (first | rw [if_neg (show ¬ (τ.2.1 18 oN).toInt = 3 by omega), if_pos (show (τ.2.1 18 oN).toInt = 4 by omega)] | (repeat (first | rw [if_pos (by omega)] | rw [if_neg (by omega)]))); first | done | rfl⟩
  by_cases c_2_4 : ((τ.2.1 18 oN)).toInt = 5
  · skip
    refine lv_tableIn C.1 C.2.1 dX5_perform_13 (off := 35) (tgt := 48) (by omega) (by omega) (by rw [show ((τ.2.1 18 oN)).toInt = 5 by omega]; rfl) (by decide) ?_
    refine lv_aload_n C.1 C.2.1 dX5_perform_48 rfl (lv_at hl 1 rfl) ?_
    refine lv_dup C.1 C.2.1 dX5_perform_49 rfl ?_
    refine xG_Run_turning C hW bF_X5_51 (v := (τ.1 15)) rfl dX5_perform_50 ?_
    refine lv_iload_n C.1 C.2.1 dX5_perform_53 rfl (lv_at hl 0 rfl) ?_
    refine lv_iadd C.1 C.2.1 dX5_perform_54 ?_
    refine xP_Run_turning C hW bF_X5_51 dX5_perform_55 (fun H locs hW => ?_)
    refine lv_aload_n C.1 C.2.1 dX5_perform_58 rfl (lv_at hl 1 rfl) ?_
    refine lv_aload_n C.1 C.2.1 dX5_perform_59 rfl (lv_at hl 2 rfl) ?_
    refine xG_Program_as C hW bF_X5_76 dX5_perform_60 ?_
    refine lv_iload_n C.1 C.2.1 dX5_perform_63 rfl (lv_at hl 3 rfl) ?_
    refine xL_21 C hW oN (ho.trans (by omega)) (by omega) (v := (τ.2.1 19 oN)) rfl dX5_perform_64 ?_
    refine xP_Run_azimuth C hW bF_X5_45 dX5_perform_65 (fun H locs hW => ?_)
    refine lv_goto C.1 C.2.1 (tgt := 117) dX5_perform_68 (by decide) ?_
    refine lv_aload_n C.1 C.2.1 dX5_perform_117 rfl (lv_at hl 1 rfl) ?_
    refine lv_dup C.1 C.2.1 dX5_perform_118 rfl ?_
    refine xG_Run_minute C hW bF_X5_42 (v := (τ.1 10)) rfl dX5_perform_119 ?_
    refine lv_iload_n C.1 C.2.1 dX5_perform_122 rfl (lv_at hl 0 rfl) ?_
    refine lv_iadd C.1 C.2.1 dX5_perform_123 ?_
    refine xP_Run_minute C hW bF_X5_42 dX5_perform_124 (fun H locs hW => ?_)
    refine lv_iload_n C.1 C.2.1 dX5_perform_127 rfl (lv_at hl 3 rfl) ?_
    refine lv_iconst C.1 C.2.1 (v := 1) dX5_perform_128 (by decide) ?_
    refine lv_iadd C.1 C.2.1 dX5_perform_129 ?_
    subst hQ
    exact r_iret ((sg (sg (sg τ 15 ((τ.1 15) + (lenO τ oN))) 11 (τ.2.1 19 oN)) 10 ((τ.1 10) + (lenO τ oN))), ζ, ρ) C hW hr hk dX5_perform_130 ⟨Int32.toInt_inj.mp (by rw [show dnK τ (ζ.2.1 7) oN = oN + 1 from if_neg (by omega), nI_toInt (by omega)]; exact (ti_add ho (show (1 : Int32).toInt = 1 from by decide) (by omega) (by omega)).trans (by omega)), by rw [show dnL τ (ζ.2.1 7) oN = ζ.2.1 7 from if_neg (by omega), saF_self]; congr 1; unfold pfT; (first | rw [if_neg (show ¬ (τ.2.1 18 oN).toInt = 3 by omega), if_pos (show (τ.2.1 18 oN).toInt = 4 by omega)] | (repeat (first | rw [if_pos (by omega)] | rw [if_neg (by omega)]))); first | done | rfl⟩
  refine lv_tableOut C.1 C.2.1 dX5_perform_13 (tgt := 117) (by omega) (by decide) ?_
  refine lv_aload_n C.1 C.2.1 dX5_perform_117 rfl (lv_at hl 1 rfl) ?_
  refine lv_dup C.1 C.2.1 dX5_perform_118 rfl ?_
  refine xG_Run_minute C hW bF_X5_42 (v := (τ.1 10)) rfl dX5_perform_119 ?_
  refine lv_iload_n C.1 C.2.1 dX5_perform_122 rfl (lv_at hl 0 rfl) ?_
  refine lv_iadd C.1 C.2.1 dX5_perform_123 ?_
  refine xP_Run_minute C hW bF_X5_42 dX5_perform_124 (fun H locs hW => ?_)
  refine lv_iload_n C.1 C.2.1 dX5_perform_127 rfl (lv_at hl 3 rfl) ?_
  refine lv_iconst C.1 C.2.1 (v := 1) dX5_perform_128 (by decide) ?_
  refine lv_iadd C.1 C.2.1 dX5_perform_129 ?_
  subst hQ
  exact r_iret ((sg τ 10 ((τ.1 10) + (lenO τ oN))), ζ, ρ) C hW hr hk dX5_perform_130 ⟨Int32.toInt_inj.mp (by rw [show dnK τ (ζ.2.1 7) oN = oN + 1 from if_neg (by omega), nI_toInt (by omega)]; exact (ti_add ho (show (1 : Int32).toInt = 1 from by decide) (by omega) (by omega)).trans (by omega)), by rw [show dnL τ (ζ.2.1 7) oN = ζ.2.1 7 from if_neg (by omega), saF_self]; congr 1; unfold pfT; (first | rw [if_neg (show ¬ (τ.2.1 18 oN).toInt = 3 by omega), if_pos (show (τ.2.1 18 oN).toInt = 4 by omega)] | (repeat (first | rw [if_pos (by omega)] | rw [if_neg (by omega)]))); first | done | rfl⟩
set_option maxHeartbeats 4000000 in
set_option maxRecDepth 100000 in
theorem c_X5_whyNot (l : Launch) (G : GG) (q : Nat → Nat) (nd sz : Nat) (τ ζ : ST) (ρ : RF) (o : Int32) (last : Int32) (oN : Nat) (ho : o.toInt = (oN : Int)) (h_nd : nd ≤ 6) (ho60 : oN < 60) (h_az : 0 ≤ (τ.1 11).toInt ∧ (τ.1 11).toInt ≤ 359) (h_ok : okK τ oN) (h_mi : 0 ≤ (τ.1 10).toInt ∧ (τ.1 10).toInt ≤ 100000) : Met l yX5_whyNot (WSb yX5_whyNot cX5_whyNot 5 (some .int)) (rmA 3 66) (va_Pc [.ref (q 25), .ref (q 19), .int o, .int last] (PW G (28 + 3 * nd) q sz (eX G q τ ζ ρ))) (va_Qi (fun (r : Int32) (u : (ST × ST × RF)) => (r = 3 ∧ u = (τ, ζ, ρ) ∧ (¬ (τ.1 13).toInt < 2000)) ∨ (r = 2 ∧ u = (τ, ζ, ρ) ∧ ((τ.1 13).toInt < 2000) ∧ (last.toInt < (τ.1 10 + lenO τ oN).toInt)) ∨ (r = 0 ∧ u = (τ, ζ, ρ) ∧ ((τ.1 13).toInt < 2000) ∧ (¬ last.toInt < (τ.1 10 + lenO τ oN).toInt) ∧ (¬ ((τ.2.1 18 oN).toInt = 2 ∧ ¬ upX ζ (τ.2.1 20 oN).toInt.toNat (τ.1 10).toInt (lenO τ oN).toInt))) ∨ (r = 1 ∧ u = (τ, ζ, ρ) ∧ ((τ.1 13).toInt < 2000) ∧ (¬ last.toInt < (τ.1 10 + lenO τ oN).toInt) ∧ ((τ.2.1 18 oN).toInt = 2) ∧ (¬ upX ζ (τ.2.1 20 oN).toInt.toNat (τ.1 10).toInt (lenO τ oN).toInt))) (fun u => BW G (28 + 3 * nd) q (eX G q u.1 u.2.1 u.2.2)) (FA (28 + 3 * nd) q sz)) 0 0 (FA (28 + 3 * nd) q sz) := by
  refine Met_B (own := RX5) rfl (by decide) (Nat.le_of_ble_eq_true rfl) (fun p e s m args below meth c ls hsz C hW hr hk hl QQ hQ => ?_)
  subst hsz
  have hl : lv_has ls 5 [(0, .ref (q 25)), (1, .ref (q 19)), (2, .int o), (3, .int last)] := hl
  have ok := h_ok
  unfold okK at ok
  have hlr := lenO_rng h_ok h_az.1 h_az.2
  refine lv_aload_n C.1 C.2.1 dX5_whyNot_0 rfl (lv_at hl 0 rfl) ?_
  refine xG_Run_finished C hW bF_X5_39 (v := (τ.1 13)) rfl dX5_whyNot_1 ?_
  refine lv_sipush C.1 C.2.1 (v := 2000) dX5_whyNot_4 (by decide) ?_
  refine lv_icmp_lt C.1 C.2.1 (tgt := 12) dX5_whyNot_7 (by decide) (fun c_1 => ?_) (fun c_1 => ?_)
  · skip
    have k_1 := (tc_lt (rfl : ((τ.1 13)).toInt = ((τ.1 13)).toInt) (show (2000 : Int32).toInt = 2000 from by decide)).mp c_1
    refine lv_aload_n C.1 C.2.1 dX5_whyNot_12 rfl (lv_at hl 0 rfl) ?_
    refine lv_aload_n C.1 C.2.1 dX5_whyNot_13 rfl (lv_at hl 1 rfl) ?_
    refine lv_iload_n C.1 C.2.1 dX5_whyNot_14 rfl (lv_at hl 2 rfl) ?_
    refine go_i hW (run_V (o := 25) (As := [.ref (q 19), .int o]) (rest := []) C hW (by omega) rfl rfl (c_X5_minutesOf l G q nd _ τ ζ ρ o oN (ho.trans (by omega)) h_nd (by omega) h_az h_ok) (cw_V 2 C bL_X5_66 bI_X5_minutesOf bV_X5_minutesOf bN_X5 bC_X5_minutesOf ⟨rfl, rfl⟩ (by decide +kernel) ⟨Nat.le_of_ble_eq_true rfl, Nat.le_of_ble_eq_true rfl⟩) rfl hl.1 rfl (Nat.le_of_ble_eq_true rfl) dX5_whyNot_15 ⟨Nat.le_refl _, Nat.le_refl _⟩) (fun r_2 u_2 H locs hp_2 hW => ?_)
    rcases hp_2 with ⟨rfl, rfl⟩
    have hW : WB G (28 + 3 * nd) q (eX G q τ ζ ρ) s H locs := hW
    refine lv_istore (lv' := [(4, .int (lenO τ oN)), (0, .ref (q 25)), (1, .ref (q 19)), (2, .int o), (3, .int last)]) C.1 C.2.1 dX5_whyNot_18 hl (by decide) rfl (fun ls hl => ?_)
    refine lv_aload_n C.1 C.2.1 dX5_whyNot_20 rfl (lv_at hl 1 rfl) ?_
    refine xG_Run_minute C hW bF_X5_42 (v := (τ.1 10)) rfl dX5_whyNot_21 ?_
    refine lv_iload C.1 C.2.1 dX5_whyNot_24 (lv_at hl 0 rfl) ?_
    refine lv_iadd C.1 C.2.1 dX5_whyNot_26 ?_
    refine lv_iload_n C.1 C.2.1 dX5_whyNot_27 rfl (lv_at hl 4 rfl) ?_
    refine lv_icmp_le C.1 C.2.1 (tgt := 33) dX5_whyNot_28 (by decide) (fun c_3 => ?_) (fun c_3 => ?_)
    · skip
      have k_3 := (tc_le (rfl : (((τ.1 10) + (lenO τ oN))).toInt = (((τ.1 10) + (lenO τ oN))).toInt) (rfl : (last).toInt = (last).toInt)).mp c_3
      refine lv_aload_n C.1 C.2.1 dX5_whyNot_33 rfl (lv_at hl 2 rfl) ?_
      refine xG_Program_kinds C hW bF_X5_69 dX5_whyNot_34 ?_
      refine lv_iload_n C.1 C.2.1 dX5_whyNot_37 rfl (lv_at hl 3 rfl) ?_
      refine xL_20 C hW oN (ho.trans (by omega)) (by omega) (v := (τ.2.1 18 oN)) rfl dX5_whyNot_38 ?_
      refine lv_iconst C.1 C.2.1 (v := 2) dX5_whyNot_39 (by decide) ?_
      refine lv_icmp_eq C.1 C.2.1 (tgt := 45) dX5_whyNot_40 (by decide) (fun c_4 => ?_) (fun c_4 => ?_)
      · skip
        have k_4 := (tc_eq (rfl : ((τ.2.1 18 oN)).toInt = ((τ.2.1 18 oN)).toInt) (show (2 : Int32).toInt = 2 from by decide)).mp c_4
        refine lv_aload_n C.1 C.2.1 dX5_whyNot_45 rfl (lv_at hl 2 rfl) ?_
        refine lv_aload_n C.1 C.2.1 dX5_whyNot_46 rfl (lv_at hl 2 rfl) ?_
        refine xG_Program_bs C hW bF_X5_63 dX5_whyNot_47 ?_
        refine lv_iload_n C.1 C.2.1 dX5_whyNot_50 rfl (lv_at hl 3 rfl) ?_
        refine xL_22 C hW oN (ho.trans (by omega)) (by omega) (v := (τ.2.1 20 oN)) rfl dX5_whyNot_51 ?_
        refine lv_aload_n C.1 C.2.1 dX5_whyNot_52 rfl (lv_at hl 1 rfl) ?_
        refine xG_Run_minute C hW bF_X5_42 (v := (τ.1 10)) rfl dX5_whyNot_53 ?_
        refine lv_iload C.1 C.2.1 dX5_whyNot_56 (lv_at hl 0 rfl) ?_
        refine go_i hW (run_V (o := 19) (As := [.int (τ.2.1 20 oN), .int (τ.1 10), .int (lenO τ oN)]) (rest := []) C hW (by omega) rfl rfl (c_X3_isUp l G q nd _ τ ζ ρ (τ.2.1 20 oN) (τ.1 10) (lenO τ oN) (((τ.1 10)).toInt) (((lenO τ oN)).toInt) ((((τ.2.1 20 oN)).toInt).toNat) (rfl : ((τ.1 10)).toInt = ((τ.1 10)).toInt) (rfl : ((lenO τ oN)).toInt = ((lenO τ oN)).toInt) ((rfl : ((τ.2.1 20 oN)).toInt = ((τ.2.1 20 oN)).toInt).trans (by omega)) h_nd (by omega) (by omega) (by omega)) (cw_V 3 C bL_X5_72 bI_X3_isUp bV_X3_isUp bN_X3 bC_X3_isUp ⟨rfl, rfl⟩ (by decide +kernel) ⟨Nat.le_of_ble_eq_true rfl, Nat.le_of_ble_eq_true rfl⟩) rfl hl.1 rfl (Nat.le_of_ble_eq_true rfl) dX5_whyNot_58 ⟨Nat.le_refl _, Nat.le_refl _⟩) (fun r_5 u_5 H locs hp_5 hW => ?_)
        rcases hp_5 with ⟨rfl, rfl, k_5⟩ | ⟨rfl, rfl, k_5⟩
        · skip
          have hW : WB G (28 + 3 * nd) q (eX G q τ ζ ρ) s H locs := hW
          have hup := k_5
          refine lv_if_eq C.1 C.2.1 (tgt := 68) dX5_whyNot_61 (by decide) (fun c => absurd c (by decide)) (fun _ => ?_)
          refine lv_iconst C.1 C.2.1 (v := 0) dX5_whyNot_64 (by decide) ?_
          refine lv_goto C.1 C.2.1 (tgt := 69) dX5_whyNot_65 (by decide) ?_
          subst hQ
          exact r_iret (τ, ζ, ρ) C hW hr hk dX5_whyNot_69 (by first | exact Or.inl ⟨rfl, rfl, by omega⟩ | exact Or.inr (Or.inl ⟨rfl, rfl, by omega, by omega⟩) | exact Or.inr (Or.inr (Or.inl ⟨rfl, rfl, by omega, by omega, fun h => by omega⟩)) | exact Or.inr (Or.inr (Or.inl ⟨rfl, rfl, by omega, by omega, fun h => h.2 hup⟩)) | exact Or.inr (Or.inr (Or.inr ⟨rfl, rfl, by omega, by omega, by omega, hup⟩)))
        · skip
          have hW : WB G (28 + 3 * nd) q (eX G q τ ζ ρ) s H locs := hW
          have hup := k_5
          refine lv_if_eq C.1 C.2.1 (tgt := 68) dX5_whyNot_61 (by decide) (fun _ => ?_) (fun c => absurd c (by decide))
          refine lv_iconst C.1 C.2.1 (v := 1) dX5_whyNot_68 (by decide) ?_
          subst hQ
          exact r_iret (τ, ζ, ρ) C hW hr hk dX5_whyNot_69 (by first | exact Or.inl ⟨rfl, rfl, by omega⟩ | exact Or.inr (Or.inl ⟨rfl, rfl, by omega, by omega⟩) | exact Or.inr (Or.inr (Or.inl ⟨rfl, rfl, by omega, by omega, fun h => by omega⟩)) | exact Or.inr (Or.inr (Or.inl ⟨rfl, rfl, by omega, by omega, fun h => h.2 hup⟩)) | exact Or.inr (Or.inr (Or.inr ⟨rfl, rfl, by omega, by omega, by omega, hup⟩)))
      · skip
        have k_4 := (tn_eq (rfl : ((τ.2.1 18 oN)).toInt = ((τ.2.1 18 oN)).toInt) (show (2 : Int32).toInt = 2 from by decide)).mp c_4
        refine lv_iconst C.1 C.2.1 (v := 0) dX5_whyNot_43 (by decide) ?_
        subst hQ
        exact r_iret (τ, ζ, ρ) C hW hr hk dX5_whyNot_44 (by first | exact Or.inl ⟨rfl, rfl, by omega⟩ | exact Or.inr (Or.inl ⟨rfl, rfl, by omega, by omega⟩) | exact Or.inr (Or.inr (Or.inl ⟨rfl, rfl, by omega, by omega, fun h => by omega⟩)) | exact Or.inr (Or.inr (Or.inl ⟨rfl, rfl, by omega, by omega, fun h => h.2 hup⟩)) | exact Or.inr (Or.inr (Or.inr ⟨rfl, rfl, by omega, by omega, by omega, hup⟩)))
    · skip
      have k_3 := (tn_le (rfl : (((τ.1 10) + (lenO τ oN))).toInt = (((τ.1 10) + (lenO τ oN))).toInt) (rfl : (last).toInt = (last).toInt)).mp c_3
      refine lv_iconst C.1 C.2.1 (v := 2) dX5_whyNot_31 (by decide) ?_
      subst hQ
      exact r_iret (τ, ζ, ρ) C hW hr hk dX5_whyNot_32 (by first | exact Or.inl ⟨rfl, rfl, by omega⟩ | exact Or.inr (Or.inl ⟨rfl, rfl, by omega, by omega⟩) | exact Or.inr (Or.inr (Or.inl ⟨rfl, rfl, by omega, by omega, fun h => by omega⟩)) | exact Or.inr (Or.inr (Or.inl ⟨rfl, rfl, by omega, by omega, fun h => h.2 hup⟩)) | exact Or.inr (Or.inr (Or.inr ⟨rfl, rfl, by omega, by omega, by omega, hup⟩)))
  · skip
    have k_1 := (tn_lt (rfl : ((τ.1 13)).toInt = ((τ.1 13)).toInt) (show (2000 : Int32).toInt = 2000 from by decide)).mp c_1
    refine lv_iconst C.1 C.2.1 (v := 3) dX5_whyNot_10 (by decide) ?_
    subst hQ
    exact r_iret (τ, ζ, ρ) C hW hr hk dX5_whyNot_11 (by first | exact Or.inl ⟨rfl, rfl, by omega⟩ | exact Or.inr (Or.inl ⟨rfl, rfl, by omega, by omega⟩) | exact Or.inr (Or.inr (Or.inl ⟨rfl, rfl, by omega, by omega, fun h => by omega⟩)) | exact Or.inr (Or.inr (Or.inl ⟨rfl, rfl, by omega, by omega, fun h => h.2 hup⟩)) | exact Or.inr (Or.inr (Or.inr ⟨rfl, rfl, by omega, by omega, by omega, hup⟩)))
set_option maxHeartbeats 4000000 in
set_option maxRecDepth 100000 in
theorem c_X5_startOver (l : Launch) (G : GG) (q : Nat → Nat) (nd sz : Nat) (τ ζ : ST) (ρ : RF) (h_nd : nd ≤ 6) (h_o : 0 ≤ (τ.1 9).toInt ∧ (τ.1 9).toInt ≤ 60) : Met l yX5_startOver (WSb yX5_startOver cX5_startOver 3 none) (rmA 1 23) (va_Pc [.ref (q 25), .ref (q 19)] (PW G (28 + 3 * nd) q sz (eX G q τ ζ ρ))) (va_Qv (fun (u : (ST × ST × RF)) => ∃ (f1 : Nat → Int32), u = ((ini τ), (saF ζ 7 f1), ρ) ∧ (∀ k : Nat, (k : Int) < (τ.1 9).toInt → f1 k = τ.2.1 20 k)) (fun u => BW G (28 + 3 * nd) q (eX G q u.1 u.2.1 u.2.2)) (FA (28 + 3 * nd) q sz)) 0 0 (FA (28 + 3 * nd) q sz) := by
  refine Met_B (own := RX5) rfl (by decide) (Nat.le_of_ble_eq_true rfl) (fun p e s m args below meth c ls hsz C hW hr hk hl QQ hQ => ?_)
  subst hsz
  have hl : lv_has ls 3 [(0, .ref (q 25)), (1, .ref (q 19))] := hl
  refine lv_aload_n C.1 C.2.1 dX5_startOver_0 rfl (lv_at hl 0 rfl) ?_
  refine lv_iconst C.1 C.2.1 (v := 0) dX5_startOver_1 (by decide) ?_
  refine xP_Run_minute C hW bF_X5_42 dX5_startOver_2 (fun H locs hW => ?_)
  refine lv_aload_n C.1 C.2.1 dX5_startOver_5 rfl (lv_at hl 0 rfl) ?_
  refine lv_iconst C.1 C.2.1 (v := 0) dX5_startOver_6 (by decide) ?_
  refine xP_Run_azimuth C hW bF_X5_45 dX5_startOver_7 (fun H locs hW => ?_)
  refine lv_aload_n C.1 C.2.1 dX5_startOver_10 rfl (lv_at hl 0 rfl) ?_
  refine lv_iconst C.1 C.2.1 (v := 0) dX5_startOver_11 (by decide) ?_
  refine xP_Run_watched C hW bF_X5_48 dX5_startOver_12 (fun H locs hW => ?_)
  refine lv_aload_n C.1 C.2.1 dX5_startOver_15 rfl (lv_at hl 0 rfl) ?_
  refine lv_iconst C.1 C.2.1 (v := 0) dX5_startOver_16 (by decide) ?_
  refine xP_Run_finished C hW bF_X5_39 dX5_startOver_17 (fun H locs hW => ?_)
  refine lv_aload_n C.1 C.2.1 dX5_startOver_20 rfl (lv_at hl 0 rfl) ?_
  refine lv_iconst C.1 C.2.1 (v := (-1)) dX5_startOver_21 (by decide) ?_
  refine xP_Run_endedAt C hW bF_X5_20 dX5_startOver_22 (fun H locs hW => ?_)
  refine lv_aload_n C.1 C.2.1 dX5_startOver_25 rfl (lv_at hl 0 rfl) ?_
  refine lv_iconst C.1 C.2.1 (v := 0) dX5_startOver_26 (by decide) ?_
  refine xP_Run_turning C hW bF_X5_51 dX5_startOver_27 (fun H locs hW => ?_)
  refine lv_aload_n C.1 C.2.1 dX5_startOver_30 rfl (lv_at hl 0 rfl) ?_
  refine lv_iconst C.1 C.2.1 (v := 0) dX5_startOver_31 (by decide) ?_
  refine xP_Run_stormEnd C hW bF_X5_54 dX5_startOver_32 (fun H locs hW => ?_)
  refine lv_aload_n C.1 C.2.1 dX5_startOver_35 rfl (lv_at hl 0 rfl) ?_
  refine xG_Run_watchedOf C hW bF_X5_17 dX5_startOver_36 ?_
  refine lv_iconst C.1 C.2.1 (v := 0) dX5_startOver_39 (by decide) ?_
  refine go_v hW (run_S (As := [.ref (q 27), .int 0]) (rest := []) C hW (c_J7_fill_53178 l G (28 + 3 * nd) q _ (eX G q (sg (sg (sg (sg (sg (sg (sg τ 10 0) 11 0) 12 0) 13 0) 14 (-1)) 15 0) 16 0) ζ ρ) 27 8 (τ.2.1 21) 0 (by omega) rfl (by decide)) (cw_S 2 C bL_X5_57 bS_J7_fill_53178 bN_J7 bC_J7_fill_53178 ⟨rfl, rfl⟩ (by decide +kernel) ⟨Nat.le_of_ble_eq_true rfl, Nat.le_of_ble_eq_true rfl⟩) rfl hl.1 rfl (Nat.le_of_ble_eq_true rfl) dX5_startOver_40 ⟨Nat.le_refl _, Nat.le_refl _⟩) (fun _ H locs _ hW => ?_)
  have hW : WB G (28 + 3 * nd) q (eX G q (ini τ) ζ ρ) s H locs := WB.to hW (fun j hj => match j, hj with
    | 0, _ => rfl
    | 1, _ => rfl
    | 2, _ => rfl
    | 3, _ => rfl
    | 4, _ => rfl
    | 5, _ => rfl
    | 6, _ => rfl
    | 7, _ => rfl
    | 8, _ => rfl
    | 9, _ => rfl
    | 10, _ => rfl
    | 11, _ => rfl
    | 12, _ => rfl
    | 13, _ => rfl
    | 14, _ => rfl
    | 15, _ => rfl
    | 16, _ => rfl
    | 17, _ => rfl
    | 18, _ => rfl
    | 19, _ => rfl
    | 20, _ => rfl
    | 21, _ => rfl
    | 22, _ => rfl
    | 23, _ => rfl
    | 24, _ => rfl
    | 25, _ => rfl
    | 26, _ => rfl
    | 27, _ => rfl
    | j + 28, hj => (if_neg (by omega)).trans rfl)
  refine lv_iconst C.1 C.2.1 (v := 0) dX5_startOver_43 (by decide) ?_
  refine lv_istore_n (lv' := [(2, .int 0), (0, .ref (q 25)), (1, .ref (q 19))]) C.1 C.2.1 dX5_startOver_44 rfl hl (by decide) rfl (fun ls hl => ?_)
  have L_45_1 : ∀ (fuel : Nat) (g : Nat) (x2 : Int32), (τ.1 9).toInt.toNat - g < fuel → (x2.toInt = (g : Int)) → ((g : Int) ≤ (τ.1 9).toInt) → ∀ (H : Heap) (locs : List Loc) (ls : Array Slot), WB G (28 + 3 * nd) q (eX G q (ini τ) (saF ζ 7 (cut g (τ.2.1 20) (ζ.2.1 7))) ρ) s H locs → lv_has ls 3 [(2, .int x2), (0, .ref (q 25)), (1, .ref (q 19))] → W p l e (rmA 1 23) s m args below meth c H locs 0 0 QQ (F0 m 45 ls []) := by
    intro fuel; induction fuel with
    | zero => intro g x2 hf; exact absurd hf (Nat.not_lt_zero _)
    | succ fuel ih_45 =>
      intro g x2 hf hg hgl H locs ls hW hl
      refine lv_iload_n C.1 C.2.1 dX5_startOver_45 rfl (lv_at hl 0 rfl) ?_
      refine lv_aload_n C.1 C.2.1 dX5_startOver_46 rfl (lv_at hl 2 rfl) ?_
      refine xG_Program_size C hW bF_X5_28 (v := ((ini τ).1 9)) rfl dX5_startOver_47 ?_
      refine lv_icmp_ge C.1 C.2.1 (tgt := 71) dX5_startOver_50 (by decide) (fun c_2 => ?_) (fun c_2 => ?_)
      · skip
        have k_2 := (tc_le (show ((ini τ).1 9).toInt = (τ.1 9).toInt from rfl) hg).mp c_2
        subst hQ
        exact r_vret ((ini τ), (saF ζ 7 (cut g (τ.2.1 20) (ζ.2.1 7))), ρ) C hW hr hk dX5_startOver_71 ⟨cut g (τ.2.1 20) (ζ.2.1 7), rfl, fun k hk => if_pos (by omega)⟩
      · skip
        have k_2 := (tn_le (show ((ini τ).1 9).toInt = (τ.1 9).toInt from rfl) hg).mp c_2
        refine lv_aload_n C.1 C.2.1 dX5_startOver_53 rfl (lv_at hl 1 rfl) ?_
        refine xG_Run_remaining C hW bF_X5_11 dX5_startOver_54 ?_
        refine lv_iload_n C.1 C.2.1 dX5_startOver_57 rfl (lv_at hl 0 rfl) ?_
        refine lv_aload_n C.1 C.2.1 dX5_startOver_58 rfl (lv_at hl 2 rfl) ?_
        refine xG_Program_bs C hW bF_X5_63 dX5_startOver_59 ?_
        refine lv_iload_n C.1 C.2.1 dX5_startOver_62 rfl (lv_at hl 0 rfl) ?_
        refine xL_22 C hW g (hg.trans (by omega)) (by omega) (v := ((ini τ).2.1 20 g)) rfl dX5_startOver_63 ?_
        refine xS_26 C hW g (hg.trans (by omega)) (by omega) dX5_startOver_64 (fun H locs hW => ?_)
        refine lv_iinc (v := (x2 + 1)) (lv' := [(2, .int (x2 + 1)), (0, .ref (q 25)), (1, .ref (q 19))]) C.1 C.2.1 dX5_startOver_65 hl (k := 0) rfl rfl (by decide) rfl (fun ls hl => ?_)
        refine lv_goto C.1 C.2.1 (tgt := 45) dX5_startOver_68 (by decide) ?_
        rw [saF_sa, show (ini τ).2.1 20 g = (τ.2.1 20) g from rfl, cut_sI] at hW
        exact ih_45 (g + 1) (x2 + 1) (by omega) ((ti_add hg (show (1 : Int32).toInt = 1 from by decide) (by omega) (by omega)).trans (by omega)) (by omega) _ _ _ hW (lv_sub hl [0, 1, 2] rfl)
  exact L_45_1 _ 0 0 (Nat.lt_succ_self _) (by decide) (by omega) _ _ _ (by rw [cut_0, saF_self]; exact hW) (lv_sub hl [0, 1, 2] rfl)
