/-! the run of a night, and the flags of the landed class -/
theorem dnT_16 (τ : ST) (k : Nat) : (dnT τ k).1 16 = τ.1 16 ∨ ((τ.2.1 18 k).toInt = 4 ∧ (dnT τ k).1 16 = τ.1 10 + τ.2.1 19 k) := by
  unfold dnT; (repeat' split) <;> first | exact Or.inl rfl | exact Or.inr ⟨by assumption, rfl⟩
theorem saF_saF (τ : ST) (k : Nat) (f g : Nat → Int32) : saF (saF τ k f) k g = saF τ k g := by
  refine Prod.ext rfl (Prod.ext ?_ rfl)
  funext a
  show (if a = k then g else (if a = k then f else τ.2.1 a)) = (if a = k then g else τ.2.1 a)
  split <;> rfl
theorem ini_14 (τ : ST) : sg (ini τ) 14 (-1) = ini τ := by
  refine st_g (fun j => ?_) rfl
  show (if j = 14 then (-1 : Int32) else (ini τ).1 j) = (ini τ).1 j
  split
  · rename_i h; subst h; rfl
  · rfl
set_option maxHeartbeats 4000000 in
set_option maxRecDepth 100000 in
theorem c_X5_follow (l : Launch) (G : GG) (q : Nat → Nat) (nd sz : Nat) (τ ζ : ST) (ρ : RF) (last : Int32) (h_nd : nd ≤ 6) (h_o : 0 ≤ (τ.1 9).toInt ∧ (τ.1 9).toInt ≤ 60) (h_okk : ∀ k : Nat, (k : Int) < (τ.1 9).toInt → okK τ k) (h_src : ∀ z : Nat, z < 8 → srcOk τ ζ z) (h_la : 0 ≤ last.toInt ∧ last.toInt ≤ 100000) : Met l yX5_follow (WSb yX5_follow cX5_follow 6 (some .int)) (rmA 4 90) (va_Pc [.ref (q 25), .ref (q 19), .int last] (PW G (28 + 3 * nd) q sz (eX G q τ ζ ρ))) (va_Qi (fun (r : Int32) (u : (ST × ST × RF)) => ∃ (f1 : Nat → Int32), r = (runN last.toInt 2001 0 (ini τ) (τ.2.1 20)).1 ∧ u = ((runN last.toInt 2001 0 (ini τ) (τ.2.1 20)).2, (saF ζ 7 f1), ρ)) (fun u => BW G (28 + 3 * nd) q (eX G q u.1 u.2.1 u.2.2)) (FA (28 + 3 * nd) q sz)) 0 0 (FA (28 + 3 * nd) q sz) := by
  refine Met_B (own := RX5) rfl (by decide) (Nat.le_of_ble_eq_true rfl) (fun p e s m args below meth c ls hsz C hW hr hk hl QQ hQ => ?_)
  subst hsz
  have hl : lv_has ls 6 [(0, .ref (q 25)), (1, .ref (q 19)), (2, .int last)] := hl
  refine lv_aload_n C.1 C.2.1 dX5_follow_0 rfl (lv_at hl 0 rfl) ?_
  refine lv_aload_n C.1 C.2.1 dX5_follow_1 rfl (lv_at hl 1 rfl) ?_
  refine go_v hW (run_V (o := 25) (As := [.ref (q 19)]) (rest := []) C hW (by omega) rfl rfl (c_X5_startOver l G q nd _ τ ζ ρ   h_nd h_o) (cw_V 1 C bL_X5_24 bI_X5_startOver bV_X5_startOver bN_X5 bC_X5_startOver ⟨rfl, rfl⟩ (by decide +kernel) ⟨Nat.le_of_ble_eq_true rfl, Nat.le_of_ble_eq_true rfl⟩) rfl hl.1 rfl (Nat.le_of_ble_eq_true rfl) dX5_follow_2 ⟨Nat.le_refl _, Nat.le_refl _⟩) (fun u_1 H locs hp_1 hW => ?_)
  rcases hp_1 with ⟨f1_1, rfl, k_1⟩
  have hW : WB G (28 + 3 * nd) q (eX G q (ini τ) (saF ζ 7 f1_1) ρ) s H locs := hW
  have hlf := k_1
  refine lv_iconst C.1 C.2.1 (v := 0) dX5_follow_5 (by decide) ?_
  refine lv_istore_n (lv' := [(3, .int 0), (0, .ref (q 25)), (1, .ref (q 19)), (2, .int last)]) C.1 C.2.1 dX5_follow_6 rfl hl (by decide) rfl (fun ls hl => ?_)
  refine lv_iconst C.1 C.2.1 (v := 0) dX5_follow_7 (by decide) ?_
  refine lv_istore (lv' := [(4, .int 0), (3, .int 0), (0, .ref (q 25)), (1, .ref (q 19)), (2, .int last)]) C.1 C.2.1 dX5_follow_8 hl (by decide) rfl (fun ls hl => ?_)
  have L_10_2 : ∀ (fuel : Nat) (k : Nat) (dN : Nat) (f : Nat → Int32) (x3 : Int32) (x4 : Int32) (τ1 : ST) (ζ1 : ST), 2001 - dN < fuel → (x3.toInt = (k : Int)) → (x4.toInt = (dN : Int)) → ((τ1.1 13).toInt = (dN : Int)) → (dN ≤ 2000) → (runN last.toInt (2001 - dN) k τ1 f = runN last.toInt 2001 0 (ini τ) (τ.2.1 20)) → (∀ j : Nat, (j : Int) < (τ.1 9).toInt → ζ1.2.1 7 j = f j) → ((k : Int) ≤ (τ.1 9).toInt) → (0 ≤ (τ1.1 11).toInt ∧ (τ1.1 11).toInt ≤ 359) → (0 ≤ (τ1.1 10).toInt ∧ (τ1.1 10).toInt ≤ 100000) → (0 ≤ (τ1.1 16).toInt ∧ (τ1.1 16).toInt ≤ 100600) → (τ1.1 9 = τ.1 9) → (τ1.2.1 15 = τ.2.1 15 ∧ τ1.2.1 16 = τ.2.1 16 ∧ τ1.2.1 17 = τ.2.1 17 ∧ τ1.2.1 18 = τ.2.1 18 ∧ τ1.2.1 19 = τ.2.1 19 ∧ τ1.2.1 20 = τ.2.1 20) → (∃ f1, ζ1 = saF ζ 7 f1) → (ζ1.2.1 3 = ζ.2.1 3 ∧ ζ1.2.1 4 = ζ.2.1 4) → ∀ (H : Heap) (locs : List Loc) (ls : Array Slot), WB G (28 + 3 * nd) q (eX G q (sg τ1 14 (-1)) ζ1 ρ) s H locs → lv_has ls 6 [(4, .int x4), (3, .int x3), (0, .ref (q 25)), (1, .ref (q 19)), (2, .int last)] → W p l e (rmA 4 90) s m args below meth c H locs 0 0 QQ (F0 m 10 ls []) := by
    intro fuel; induction fuel with
    | zero => intro k dN f x3 x4 τ1 ζ1 hf; exact absurd hf (Nat.not_lt_zero _)
    | succ fuel ih_10 =>
      intro k dN f x3 x4 τ1 ζ1 hf hx3 hx4 hdN hdl hrun hlf2 hkl h_az1 h_mi1 h_se1 h9 hpr hz1 hsr1 H locs ls hW hl
      refine lv_iload C.1 C.2.1 dX5_follow_10 (lv_at hl 0 rfl) ?_
      refine lv_sipush C.1 C.2.1 (v := 2000) dX5_follow_12 (by decide) ?_
      refine lv_icmp_gt C.1 C.2.1 (tgt := 71) dX5_follow_15 (by decide) (fun c_3 => ?_) (fun c_3 => ?_)
      · skip
        have k_3 := (tc_lt (show (2000 : Int32).toInt = 2000 from by decide) hx4).mp c_3
        exfalso; omega
      · skip
        have k_3 := (tn_lt (show (2000 : Int32).toInt = 2000 from by decide) hx4).mp c_3
        refine lv_iload_n C.1 C.2.1 dX5_follow_18 rfl (lv_at hl 1 rfl) ?_
        refine lv_aload_n C.1 C.2.1 dX5_follow_19 rfl (lv_at hl 3 rfl) ?_
        refine xG_Program_size C hW bF_X5_28 (v := (τ1.1 9)) rfl dX5_follow_20 ?_
        refine lv_icmp_ge C.1 C.2.1 (tgt := 71) dX5_follow_23 (by decide) (fun c_4 => ?_) (fun c_4 => ?_)
        · skip
          have k_4 := (tc_le (congrArg Int32.toInt h9) hx3).mp c_4
          refine lv_iconst C.1 C.2.1 (v := 0) dX5_follow_71 (by decide) ?_
          subst hQ
          exact r_iret ((sg τ1 14 (-1)), ζ1, ρ) C hW hr hk dX5_follow_72 (by obtain ⟨f1, hf1⟩ := hz1; have hE : (runN last.toInt 2001 0 (ini τ) (τ.2.1 20)) = (0, (sg τ1 14 (-1))) := (by rw [← hrun, show 2001 - dN = (2000 - dN) + 1 from by omega]; exact runN_0 (by rw [h9]; omega)); exact ⟨f1, by rw [hE], by rw [hE, hf1]⟩)
        · skip
          have k_4 := (tn_le (congrArg Int32.toInt h9) hx3).mp c_4
          have e3 : x3 = nI k := Int32.toInt_inj.mp (by rw [hx3, nI_toInt (by omega)])
          have ok1 : okK τ1 k := by have h := h_okk k (by omega); unfold okK at h ⊢; rw [hpr.2.2.2.1, hpr.2.2.2.2.1, hpr.2.2.2.2.2]; exact h
          have hlen := lenO_rng ok1 h_az1.1 h_az1.2
          have hs1 : ∀ z : Nat, z < 8 → srcOk τ1 ζ1 z := fun z hz => by have h := h_src z hz; unfold srcOk at h ⊢; rw [hpr.1, hpr.2.1, hpr.2.2.1, hsr1.1, hsr1.2]; exact h
          have hX : (τ1.2.1 18 k).toInt = 2 → (upX ζ1 (τ1.2.1 20 k).toInt.toNat (τ1.1 10).toInt (lenO τ1 k).toInt ↔ upA τ1 k) := fun h2 => by have ok2 := ok1; unfold okK at ok2; rw [show lenO τ1 k = τ1.2.1 19 k from if_pos (Or.inr h2)]; exact upX_iff (hs1 _ (by omega)) (by omega) (by omega) (by omega)
          refine lv_aload_n C.1 C.2.1 dX5_follow_26 rfl (lv_at hl 2 rfl) ?_
          refine lv_aload_n C.1 C.2.1 dX5_follow_27 rfl (lv_at hl 3 rfl) ?_
          refine lv_iload_n C.1 C.2.1 dX5_follow_28 rfl (lv_at hl 1 rfl) ?_
          refine lv_iload_n C.1 C.2.1 dX5_follow_29 rfl (lv_at hl 4 rfl) ?_
          refine go_i hW (run_V (o := 25) (As := [.ref (q 19), .int x3, .int last]) (rest := []) C hW (by omega) rfl rfl (c_X5_whyNot l G q nd _ (sg τ1 14 (-1)) ζ1 ρ x3 last k (hx3.trans (by omega)) h_nd (by omega) h_az1 ok1 h_mi1) (cw_V 3 C bL_X5_31 bI_X5_whyNot bV_X5_whyNot bN_X5 bC_X5_whyNot ⟨rfl, rfl⟩ (by decide +kernel) ⟨Nat.le_of_ble_eq_true rfl, Nat.le_of_ble_eq_true rfl⟩) rfl hl.1 rfl (Nat.le_of_ble_eq_true rfl) dX5_follow_30 ⟨Nat.le_refl _, Nat.le_refl _⟩) (fun r_5 u_5 H locs hp_5 hW => ?_)
          rcases hp_5 with ⟨rfl, rfl, k_5⟩ | ⟨rfl, rfl, k_5_0, k_5_1⟩ | ⟨rfl, rfl, k_5_0, k_5_1, k_5_2⟩ | ⟨rfl, rfl, k_5_0, k_5_1, k_5_2, k_5_3⟩
          · skip
            have hW : WB G (28 + 3 * nd) q (eX G q (sg τ1 14 (-1)) ζ1 ρ) s H locs := hW
            have hsp : ¬ (τ1.1 13).toInt < 2000 := k_5
            refine lv_istore (lv' := [(5, .int 3), (4, .int x4), (3, .int x3), (0, .ref (q 25)), (1, .ref (q 19)), (2, .int last)]) C.1 C.2.1 dX5_follow_33 hl (by decide) rfl (fun ls hl => ?_)
            refine lv_iload C.1 C.2.1 dX5_follow_35 (lv_at hl 0 rfl) ?_
            refine lv_if_eq C.1 C.2.1 (tgt := 48) dX5_follow_37 (by decide) (fun c => absurd c (by decide)) (fun _ => ?_)
            refine lv_aload_n C.1 C.2.1 dX5_follow_40 rfl (lv_at hl 3 rfl) ?_
            refine lv_iload_n C.1 C.2.1 dX5_follow_41 rfl (lv_at hl 2 rfl) ?_
            refine xP_Run_endedAt C hW bF_X5_20 dX5_follow_42 (fun H locs hW => ?_)
            rw [sg_sg] at hW
            refine lv_iload C.1 C.2.1 dX5_follow_45 (lv_at hl 0 rfl) ?_
            subst hQ
            exact r_iret ((sg τ1 14 x3), ζ1, ρ) C hW hr hk dX5_follow_47 (by obtain ⟨f1, hf1⟩ := hz1; have hE : (runN last.toInt 2001 0 (ini τ) (τ.2.1 20)) = (3, (sg τ1 14 x3)) := (by rw [← hrun, show 2001 - dN = (2000 - dN) + 1 from by omega]; rw [e3]; first | exact runN_3 (by rw [h9]; omega) (by omega) | exact runN_2 (by rw [h9]; omega) (by omega) hlt | exact runN_1 (by rw [h9]; omega) (by omega) hnl hk2 hnup); exact ⟨f1, by rw [hE], by rw [hE, hf1]⟩)
          · skip
            have hW : WB G (28 + 3 * nd) q (eX G q (sg τ1 14 (-1)) ζ1 ρ) s H locs := hW
            have hfin : (τ1.1 13).toInt < 2000 := k_5_0
            have hlt : last.toInt < (τ1.1 10 + lenO τ1 k).toInt := k_5_1
            refine lv_istore (lv' := [(5, .int 2), (4, .int x4), (3, .int x3), (0, .ref (q 25)), (1, .ref (q 19)), (2, .int last)]) C.1 C.2.1 dX5_follow_33 hl (by decide) rfl (fun ls hl => ?_)
            refine lv_iload C.1 C.2.1 dX5_follow_35 (lv_at hl 0 rfl) ?_
            refine lv_if_eq C.1 C.2.1 (tgt := 48) dX5_follow_37 (by decide) (fun c => absurd c (by decide)) (fun _ => ?_)
            refine lv_aload_n C.1 C.2.1 dX5_follow_40 rfl (lv_at hl 3 rfl) ?_
            refine lv_iload_n C.1 C.2.1 dX5_follow_41 rfl (lv_at hl 2 rfl) ?_
            refine xP_Run_endedAt C hW bF_X5_20 dX5_follow_42 (fun H locs hW => ?_)
            rw [sg_sg] at hW
            refine lv_iload C.1 C.2.1 dX5_follow_45 (lv_at hl 0 rfl) ?_
            subst hQ
            exact r_iret ((sg τ1 14 x3), ζ1, ρ) C hW hr hk dX5_follow_47 (by obtain ⟨f1, hf1⟩ := hz1; have hE : (runN last.toInt 2001 0 (ini τ) (τ.2.1 20)) = (2, (sg τ1 14 x3)) := (by rw [← hrun, show 2001 - dN = (2000 - dN) + 1 from by omega]; rw [e3]; first | exact runN_3 (by rw [h9]; omega) (by omega) | exact runN_2 (by rw [h9]; omega) (by omega) hlt | exact runN_1 (by rw [h9]; omega) (by omega) hnl hk2 hnup); exact ⟨f1, by rw [hE], by rw [hE, hf1]⟩)
          · skip
            have hW : WB G (28 + 3 * nd) q (eX G q (sg τ1 14 (-1)) ζ1 ρ) s H locs := hW
            have hfin : (τ1.1 13).toInt < 2000 := k_5_0
            have hnl : ¬ last.toInt < (τ1.1 10 + lenO τ1 k).toInt := k_5_1
            have hgo : ¬ ((τ1.2.1 18 k).toInt = 2 ∧ ¬ upA τ1 k) := fun h => k_5_2 ⟨h.1, fun hx => h.2 ((hX h.1).mp hx)⟩
            refine lv_istore (lv' := [(5, .int 0), (4, .int x4), (3, .int x3), (0, .ref (q 25)), (1, .ref (q 19)), (2, .int last)]) C.1 C.2.1 dX5_follow_33 hl (by decide) rfl (fun ls hl => ?_)
            refine lv_iload C.1 C.2.1 dX5_follow_35 (lv_at hl 0 rfl) ?_
            refine lv_if_eq C.1 C.2.1 (tgt := 48) dX5_follow_37 (by decide) (fun _ => ?_) (fun c => absurd c (by decide))
            refine lv_aload_n C.1 C.2.1 dX5_follow_48 rfl (lv_at hl 3 rfl) ?_
            refine lv_aload_n C.1 C.2.1 dX5_follow_49 rfl (lv_at hl 4 rfl) ?_
            refine lv_iload_n C.1 C.2.1 dX5_follow_50 rfl (lv_at hl 2 rfl) ?_
            refine go_i hW (run_V (o := 25) (As := [.ref (q 19), .int x3]) (rest := []) C hW (by omega) rfl rfl (c_X5_perform l G q nd _ (sg τ1 14 (-1)) ζ1 ρ x3 k (hx3.trans (by omega)) h_nd (by omega) h_az1 ok1) (cw_V 2 C bL_X5_35 bI_X5_perform bV_X5_perform bN_X5 bC_X5_perform ⟨rfl, rfl⟩ (by decide +kernel) ⟨Nat.le_of_ble_eq_true rfl, Nat.le_of_ble_eq_true rfl⟩) rfl hl.1 rfl (Nat.le_of_ble_eq_true rfl) dX5_follow_51 ⟨Nat.le_refl _, Nat.le_refl _⟩) (fun r_9 u_9 H locs hp_9 hW => ?_)
            rcases hp_9 with ⟨rfl, rfl⟩
            have hW : WB G (28 + 3 * nd) q (eX G q (pfT (sg τ1 14 (-1)) k) (saF ζ1 7 (dnL (sg τ1 14 (-1)) (ζ1.2.1 7) k)) ρ) s H locs := hW
            refine lv_istore_n (lv' := [(3, .int (nI (dnK (sg τ1 14 (-1)) (ζ1.2.1 7) k))), (5, .int 0), (4, .int x4), (0, .ref (q 25)), (1, .ref (q 19)), (2, .int last)]) C.1 C.2.1 dX5_follow_54 rfl hl (by decide) rfl (fun ls hl => ?_)
            refine lv_aload_n C.1 C.2.1 dX5_follow_55 rfl (lv_at hl 3 rfl) ?_
            refine lv_dup C.1 C.2.1 dX5_follow_56 rfl ?_
            refine xG_Run_finished C hW bF_X5_39 (v := ((pfT (sg τ1 14 (-1)) k).1 13)) rfl dX5_follow_57 ?_
            refine lv_iconst C.1 C.2.1 (v := 1) dX5_follow_60 (by decide) ?_
            refine lv_iadd C.1 C.2.1 dX5_follow_61 ?_
            refine xP_Run_finished C hW bF_X5_39 dX5_follow_62 (fun H locs hW => ?_)
            refine lv_iinc (v := (x4 + 1)) (lv' := [(4, .int (x4 + 1)), (3, .int (nI (dnK (sg τ1 14 (-1)) (ζ1.2.1 7) k))), (5, .int 0), (0, .ref (q 25)), (1, .ref (q 19)), (2, .int last)]) C.1 C.2.1 dX5_follow_65 hl (k := 2) rfl rfl (by decide) rfl (fun ls hl => ?_)
            refine lv_goto C.1 C.2.1 (tgt := 10) dX5_follow_68 (by decide) ?_
            rw [stp_eq ok1 h_mi1 h_se1] at hW
            have eK : dnK (sg τ1 14 (-1)) (ζ1.2.1 7) k = dnK τ1 f k := by unfold dnK; rw [show ζ1.2.1 7 k = f k from hlf2 k (by omega)]; rfl
            have hKl := dnK_le (f := f) ok1 (show (k : Int) < (τ1.1 9).toInt by rw [h9]; omega)
            rw [h9] at hKl
            have hPR := dnT_pr (sg τ1 14 (nI k)) k
            have h10 := dnT_10 (sg τ1 14 (nI k)) k
            have h11 := dnT_11 (sg τ1 14 (nI k)) k
            have h16 := dnT_16 (sg τ1 14 (nI k)) k
            have hmsum := ti_add (x := τ1.1 10) (y := lenO τ1 k) rfl rfl (by omega) (by omega)
            exact ih_10 (dnK τ1 f k) (dN + 1) (dnL τ1 f k) (nI (dnK (sg τ1 14 (-1)) (ζ1.2.1 7) k)) (x4 + 1) (dnT (sg τ1 14 (nI k)) k) (saF ζ1 7 (dnL (sg τ1 14 (-1)) (ζ1.2.1 7) k)) (by omega) (by rw [eK]; exact nI_toInt (by omega)) ((ti_add hx4 (show (1 : Int32).toInt = 1 from by decide) (by omega) (by omega)).trans (by omega)) (by rw [dnT_13]; exact (ti_add hdN (show (1 : Int32).toInt = 1 from by decide) (by omega) (by omega)).trans (by omega)) (by omega) (by rw [← hrun, show 2001 - dN = (2001 - (dN + 1)) + 1 from by omega]; exact (runN_go (by rw [h9]; omega) (by omega) hnl hgo).symm) (fun j hj => dnL_congr (τ := τ1) (hlf2 k (by omega)) (hlf2 j hj)) hKl (by rcases h11 with h | ⟨h0, h⟩ <;> rw [h] <;> first | exact h_az1 | (have ok2 := ok1; unfold okK at ok2; have h0 : (τ1.2.1 18 k).toInt = 1 ∨ (τ1.2.1 18 k).toInt = 5 := h0; show 0 ≤ (τ1.2.1 19 k).toInt ∧ (τ1.2.1 19 k).toInt ≤ 359; omega)) (by rcases h10 with h | h <;> rw [h] <;> first | exact h_mi1 | (show 0 ≤ (τ1.1 10 + lenO τ1 k).toInt ∧ (τ1.1 10 + lenO τ1 k).toInt ≤ 100000; omega)) (by rcases h16 with h | ⟨h0, h⟩ <;> rw [h] <;> first | exact h_se1 | (have ok2 := ok1; unfold okK at ok2; have h0 : (τ1.2.1 18 k).toInt = 4 := h0; have hm2 := ti_add (x := τ1.1 10) (y := τ1.2.1 19 k) rfl rfl (by omega) (by omega); show 0 ≤ (τ1.1 10 + τ1.2.1 19 k).toInt ∧ (τ1.1 10 + τ1.2.1 19 k).toInt ≤ 100600; omega)) ((dnT_9 _ _).trans h9) ⟨hPR.1.trans hpr.1, hPR.2.1.trans hpr.2.1, hPR.2.2.1.trans hpr.2.2.1, hPR.2.2.2.1.trans hpr.2.2.2.1, hPR.2.2.2.2.1.trans hpr.2.2.2.2.1, hPR.2.2.2.2.2.trans hpr.2.2.2.2.2⟩ (hz1.elim fun f1 e => ⟨_, by rw [e]; exact saF_saF _ _ _ _⟩) ⟨hsr1.1, hsr1.2⟩ _ _ _ hW (lv_sub hl [0, 1, 3, 4, 5] rfl)
          · skip
            have hW : WB G (28 + 3 * nd) q (eX G q (sg τ1 14 (-1)) ζ1 ρ) s H locs := hW
            have hfin : (τ1.1 13).toInt < 2000 := k_5_0
            have hnl : ¬ last.toInt < (τ1.1 10 + lenO τ1 k).toInt := k_5_1
            have hk2 : (τ1.2.1 18 k).toInt = 2 := k_5_2
            have hnup : ¬ upA τ1 k := fun h => k_5_3 ((hX hk2).mpr h)
            refine lv_istore (lv' := [(5, .int 1), (4, .int x4), (3, .int x3), (0, .ref (q 25)), (1, .ref (q 19)), (2, .int last)]) C.1 C.2.1 dX5_follow_33 hl (by decide) rfl (fun ls hl => ?_)
            refine lv_iload C.1 C.2.1 dX5_follow_35 (lv_at hl 0 rfl) ?_
            refine lv_if_eq C.1 C.2.1 (tgt := 48) dX5_follow_37 (by decide) (fun c => absurd c (by decide)) (fun _ => ?_)
            refine lv_aload_n C.1 C.2.1 dX5_follow_40 rfl (lv_at hl 3 rfl) ?_
            refine lv_iload_n C.1 C.2.1 dX5_follow_41 rfl (lv_at hl 2 rfl) ?_
            refine xP_Run_endedAt C hW bF_X5_20 dX5_follow_42 (fun H locs hW => ?_)
            rw [sg_sg] at hW
            refine lv_iload C.1 C.2.1 dX5_follow_45 (lv_at hl 0 rfl) ?_
            subst hQ
            exact r_iret ((sg τ1 14 x3), ζ1, ρ) C hW hr hk dX5_follow_47 (by obtain ⟨f1, hf1⟩ := hz1; have hE : (runN last.toInt 2001 0 (ini τ) (τ.2.1 20)) = (1, (sg τ1 14 x3)) := (by rw [← hrun, show 2001 - dN = (2000 - dN) + 1 from by omega]; rw [e3]; first | exact runN_3 (by rw [h9]; omega) (by omega) | exact runN_2 (by rw [h9]; omega) (by omega) hlt | exact runN_1 (by rw [h9]; omega) (by omega) hnl hk2 hnup); exact ⟨f1, by rw [hE], by rw [hE, hf1]⟩)
  exact L_10_2 _ 0 0 (τ.2.1 20) 0 0 (ini τ) (saF ζ 7 f1_1) (Nat.lt_succ_self _) (by decide) (by decide) (show (0 : Int32).toInt = ((0 : Nat) : Int) from by decide) (by omega) rfl (fun j hj => hlf j hj) (by omega) (show 0 ≤ (0 : Int32).toInt ∧ (0 : Int32).toInt ≤ 359 from by decide) (show 0 ≤ (0 : Int32).toInt ∧ (0 : Int32).toInt ≤ 100000 from by decide) (show 0 ≤ (0 : Int32).toInt ∧ (0 : Int32).toInt ≤ 100600 from by decide) rfl ⟨rfl, rfl, rfl, rfl, rfl, rfl⟩ ⟨_, rfl⟩ ⟨rfl, rfl⟩ _ _ _ (by rw [ini_14]; exact hW) (lv_sub hl [0, 1, 2, 3, 4] rfl)
