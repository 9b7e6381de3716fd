/-! orders and nights of the landed class -/
section R26
variable {G : GG} {p : Program} {l : Launch} {e : Env} {R : Room} {s : State} {m : MethodId} {args : Array Value} {below : List Frame} {meth : Method} {c : Code} {H : Heap} {locs : List Loc} {cells slots : Nat} {Q : State → Prop}
variable {cc : ByteArray} {pc : Nat} {ls : Array Slot} {rest : List Value} {nL n idx : Nat} {own : String} {q : Nat → Nat} {E : Nat → va_E} {y : MethodName} {bytes : ByteArray} {maxL : Nat} {rm : Room} {As st0 : List Value}
theorem cw_SN {ret : Option FieldType} (N : Nat) (C : CX G p s m args c cc nL own n q) (hi : Cond.static yX7_isWithin ∈ BIG) (hn : Cond.initialized RX7 ∈ BIG) (hc : Cond.code yX7_isWithin bytes maxL ret ∈ BIG) (hrc : rm.cells = 0 ∧ rm.slots = 0)
    (hd : yX7_isWithin.cls ≠ "java/lang/invoke/MethodHandle" ∧ yX7_isWithin.cls ≠ "java/lang/invoke/VarHandle" ∧ (parseMethodDescriptor yX7_isWithin.desc).map (fun d => d.parameters.length) = some N) (hR : rm.frames + 1 ≤ R.frames ∧ 8 + (maxL + 11) + rm.locals ≤ R.locals) : va_CN R s args RX3 33 yX7_isWithin RX7 bytes maxL ret (WSb yX7_isWithin bytes maxL ret) rm 0 0 N ∧ (Cond.static yX7_isWithin).before args s = true ∧ True :=
  ⟨va_cnB N C.2.2.2.2.1 (wsb_good hc) rfl hrc.1 hrc.2 C.2.2.2.2.2.1.2 (C.2.2.2.2.1 _ hn) hd hR, C.2.2.2.2.1 _ hi, trivial⟩
theorem run_SN {ret : Option FieldType} {N : Nat} {host : String} {Qc : Array Value → State → Outcome → State → Prop} (C : CX G p s m args c cc nL own n q) (hW : WB G n q E s H locs)
    (hM : Met l y (WSb y bytes maxL ret) rm (va_Pc As (PW G n q H.size E)) Qc 0 0 (FA n q H.size)) (cw : va_CN R s args own idx y host bytes maxL ret (WSb y bytes maxL ret) rm 0 0 N ∧ (Cond.static y).before args s = true ∧ True) (hN : As.length = N) (hl : ls.size = nL) (hst : st0 = As.reverse ++ rest) (hcat : (rest.map fun v => v.category).sum ≤ 8) (hdg : decode cc pc = .ok (.invokestatic idx, 3)) (hf : cells ≤ R.cells ∧ slots ≤ R.slots) :
    va_Run p l e R s m args below meth c H locs cells slots 0 0 (F0 m pc ls st0) rest (Qc As.toArray) (FA n q H.size) :=
  va_runSN (As := As) (rest := rest) ⟨C.1, C.2.1, C.2.2.1, C.2.2.2.1, C.2.2.2.2.1⟩ hM cw ⟨PW_blind _ _, PW_at C hW _⟩ rfl hN hl hst (lv_room hcat) hdg hf
end R26
/-- what the class calls up: one test for all minutes -/
def upX (ζ : ST) (z : Nat) (t w : Int) : Prop := ((ζ.2.1 3 z).toInt = 0 ∧ (ζ.2.1 4 z).toInt = 1440) ∨ ((ζ.2.1 3 z).toInt ≤ t % 1440 ∧ t % 1440 + w ≤ (ζ.2.1 4 z).toInt)
def wfr (τ : ST) (v : Int32) : Int32 := v - (if (0 : Int32) < (if v < τ.1 16 - τ.1 10 then v else τ.1 16 - τ.1 10) then (if v < τ.1 16 - τ.1 10 then v else τ.1 16 - τ.1 10) else 0)
def pfT (τ : ST) (k : Nat) : ST :=
  if (τ.2.1 18 k).toInt = 3 then τ
  else if (τ.2.1 18 k).toInt = 4 then sg (sg τ 16 (if τ.1 16 < τ.1 10 + τ.2.1 19 k then τ.1 10 + τ.2.1 19 k else τ.1 16)) 10 (τ.1 10 + lenO τ k)
  else if (τ.2.1 18 k).toInt = 1 ∨ (τ.2.1 18 k).toInt = 5 then sg (sg (sg τ 15 (τ.1 15 + lenO τ k)) 11 (τ.2.1 19 k)) 10 (τ.1 10 + lenO τ k)
  else if (τ.2.1 18 k).toInt = 2 then sg (sa (sg τ 12 (τ.1 12 + wfr τ (lenO τ k))) 21 (τ.2.1 20 k).toInt.toNat (τ.2.1 21 (τ.2.1 20 k).toInt.toNat + wfr τ (lenO τ k))) 10 (τ.1 10 + lenO τ k)
  else sg τ 10 (τ.1 10 + lenO τ k)
set_option maxHeartbeats 4000000 in
set_option maxRecDepth 100000 in
theorem c_X3_fits (l : Launch) (G : GG) (q : Nat → Nat) (nd sz : Nat) (τ ζ : ST) (ρ : RF) (kd : Int32) (a : Int32) (b : Int32) (h_nd : nd ≤ 6) (h_o : 0 ≤ (τ.1 9).toInt ∧ (τ.1 9).toInt ≤ 60) : Met l yX3_fits (WSb yX3_fits cX3_fits 4 (some .boolean)) (rmA 1 22) (va_Pc [.ref (q 19), .int kd, .int a, .int b] (PW G (28 + 3 * nd) q sz (eX G q τ ζ ρ))) (va_Qi (fun (r : Int32) (u : (ST × ST × RF)) => (r = 1 ∧ u = (τ, ζ, ρ) ∧ ((kd.toInt = 0 ∧ 0 ≤ a.toInt ∧ a.toInt ≤ 600 ∧ b.toInt = 0) ∨ (kd.toInt = 1 ∧ 0 ≤ a.toInt ∧ a.toInt ≤ 359 ∧ b.toInt = 0) ∨ (kd.toInt = 2 ∧ 1 ≤ a.toInt ∧ a.toInt ≤ 600 ∧ 0 ≤ b.toInt ∧ b.toInt ≤ 7) ∨ (kd.toInt = 3 ∧ 0 ≤ a.toInt ∧ a.toInt < (τ.1 9).toInt ∧ 1 ≤ b.toInt ∧ b.toInt ≤ 50) ∨ (kd.toInt = 4 ∧ 1 ≤ a.toInt ∧ a.toInt ≤ 600 ∧ b.toInt = 0) ∨ (kd.toInt = 5 ∧ a.toInt = 0 ∧ b.toInt = 0))) ∨ (r = 0 ∧ u = (τ, ζ, ρ) ∧ (¬ ((kd.toInt = 0 ∧ 0 ≤ a.toInt ∧ a.toInt ≤ 600 ∧ b.toInt = 0) ∨ (kd.toInt = 1 ∧ 0 ≤ a.toInt ∧ a.toInt ≤ 359 ∧ b.toInt = 0) ∨ (kd.toInt = 2 ∧ 1 ≤ a.toInt ∧ a.toInt ≤ 600 ∧ 0 ≤ b.toInt ∧ b.toInt ≤ 7) ∨ (kd.toInt = 3 ∧ 0 ≤ a.toInt ∧ a.toInt < (τ.1 9).toInt ∧ 1 ≤ b.toInt ∧ b.toInt ≤ 50) ∨ (kd.toInt = 4 ∧ 1 ≤ a.toInt ∧ a.toInt ≤ 600 ∧ b.toInt = 0) ∨ (kd.toInt = 5 ∧ a.toInt = 0 ∧ b.toInt = 0))))) (fun u => BW G (28 + 3 * nd) q (eX G q u.1 u.2.1 u.2.2)) (FA (28 + 3 * nd) q sz)) 0 0 (FA (28 + 3 * nd) q sz) := by
  refine Met_B (own := RX3) rfl (by decide) (Nat.le_of_ble_eq_true rfl) (fun p e s m args below meth c ls hsz C hW hr hk hl QQ hQ => ?_)
  subst hsz
  have hl : lv_has ls 4 [(0, .ref (q 19)), (1, .int kd), (2, .int a), (3, .int b)] := hl
  refine lv_iload_n C.1 C.2.1 dX3_fits_0 rfl (lv_at hl 1 rfl) ?_
  have e_1 : (kd).toInt = (kd).toInt := (rfl : (kd).toInt = (kd).toInt)
  by_cases c_1_0 : (kd).toInt = 0
  · skip
    refine lv_tableIn C.1 C.2.1 dX3_fits_1 (off := 39) (tgt := 40) (by omega) (by omega) (by rw [show (kd).toInt = 0 by omega]; rfl) (by decide) ?_
    refine lv_iload_n C.1 C.2.1 dX3_fits_40 rfl (lv_at hl 2 rfl) ?_
    refine lv_iconst C.1 C.2.1 (v := 0) dX3_fits_41 (by decide) ?_
    refine lv_sipush C.1 C.2.1 (v := 600) dX3_fits_42 (by decide) ?_
    refine go_i hW (run_SN (As := [.int a, .int 0, .int 600]) (rest := []) C hW (c_X7_isWithin l G q nd _ τ ζ ρ a 0 600 ((a).toInt) 0 600 (rfl : (a).toInt = (a).toInt) (show (0 : Int32).toInt = 0 from by decide) (show (600 : Int32).toInt = 600 from by decide) h_nd) (cw_SN 3 C bS_X7_isWithin bN_X7 bC_X7_isWithin ⟨rfl, rfl⟩ (by decide +kernel) ⟨Nat.le_of_ble_eq_true rfl, Nat.le_of_ble_eq_true rfl⟩) rfl hl.1 rfl (Nat.le_of_ble_eq_true rfl) dX3_fits_45 ⟨Nat.le_refl _, Nat.le_refl _⟩) (fun r_2 u_2 H locs hp_2 hW => ?_)
    rcases hp_2 with ⟨rfl, rfl, k_2_0, k_2_1⟩ | ⟨rfl, rfl, k_2⟩
    · skip
      have hW : WB G (28 + 3 * nd) q (eX G q τ ζ ρ) s H locs := hW
      refine lv_if_eq C.1 C.2.1 (tgt := 59) dX3_fits_48 (by decide) (fun c => absurd c (by decide)) (fun _ => ?_)
      refine lv_iload_n C.1 C.2.1 dX3_fits_51 rfl (lv_at hl 3 rfl) ?_
      refine lv_if_ne C.1 C.2.1 (tgt := 59) dX3_fits_52 (by decide) (fun c_4 => ?_) (fun c_4 => ?_)
      · skip
        have k_4 := (tn_eq (rfl : (b).toInt = (b).toInt) (show (0 : Int32).toInt = 0 from by decide)).mp c_4
        refine lv_iconst C.1 C.2.1 (v := 0) dX3_fits_59 (by decide) ?_
        subst hQ
        exact r_zret (τ, ζ, ρ) C hW hr rfl hk dX3_fits_60 (by first | exact Or.inl ⟨rfl, rfl, (by omega)⟩ | exact Or.inr (⟨rfl, rfl, (by omega)⟩))
      · skip
        have k_4 := (tc_eq (rfl : (b).toInt = (b).toInt) (show (0 : Int32).toInt = 0 from by decide)).mp c_4
        refine lv_iconst C.1 C.2.1 (v := 1) dX3_fits_55 (by decide) ?_
        refine lv_goto C.1 C.2.1 (tgt := 60) dX3_fits_56 (by decide) ?_
        subst hQ
        exact r_zret (τ, ζ, ρ) C hW hr rfl hk dX3_fits_60 (by first | exact Or.inl ⟨rfl, rfl, (by omega)⟩ | exact Or.inr (⟨rfl, rfl, (by omega)⟩))
    · skip
      have hW : WB G (28 + 3 * nd) q (eX G q τ ζ ρ) s H locs := hW
      refine lv_if_eq C.1 C.2.1 (tgt := 59) dX3_fits_48 (by decide) (fun _ => ?_) (fun c => absurd c (by decide))
      refine lv_iconst C.1 C.2.1 (v := 0) dX3_fits_59 (by decide) ?_
      subst hQ
      exact r_zret (τ, ζ, ρ) C hW hr rfl hk dX3_fits_60 (by first | exact Or.inl ⟨rfl, rfl, (by omega)⟩ | exact Or.inr (⟨rfl, rfl, (by omega)⟩))
  by_cases c_1_1 : (kd).toInt = 1
  · skip
    refine lv_tableIn C.1 C.2.1 dX3_fits_1 (off := 60) (tgt := 61) (by omega) (by omega) (by rw [show (kd).toInt = 1 by omega]; rfl) (by decide) ?_
    refine lv_iload_n C.1 C.2.1 dX3_fits_61 rfl (lv_at hl 2 rfl) ?_
    refine lv_iconst C.1 C.2.1 (v := 0) dX3_fits_62 (by decide) ?_
    refine lv_sipush C.1 C.2.1 (v := 359) dX3_fits_63 (by decide) ?_
    refine go_i hW (run_SN (As := [.int a, .int 0, .int 359]) (rest := []) C hW (c_X7_isWithin l G q nd _ τ ζ ρ a 0 359 ((a).toInt) 0 359 (rfl : (a).toInt = (a).toInt) (show (0 : Int32).toInt = 0 from by decide) (show (359 : Int32).toInt = 359 from by decide) h_nd) (cw_SN 3 C bS_X7_isWithin bN_X7 bC_X7_isWithin ⟨rfl, rfl⟩ (by decide +kernel) ⟨Nat.le_of_ble_eq_true rfl, Nat.le_of_ble_eq_true rfl⟩) rfl hl.1 rfl (Nat.le_of_ble_eq_true rfl) dX3_fits_66 ⟨Nat.le_refl _, Nat.le_refl _⟩) (fun r_6 u_6 H locs hp_6 hW => ?_)
    rcases hp_6 with ⟨rfl, rfl, k_6_0, k_6_1⟩ | ⟨rfl, rfl, k_6⟩
    · skip
      have hW : WB G (28 + 3 * nd) q (eX G q τ ζ ρ) s H locs := hW
      refine lv_if_eq C.1 C.2.1 (tgt := 80) dX3_fits_69 (by decide) (fun c => absurd c (by decide)) (fun _ => ?_)
      refine lv_iload_n C.1 C.2.1 dX3_fits_72 rfl (lv_at hl 3 rfl) ?_
      refine lv_if_ne C.1 C.2.1 (tgt := 80) dX3_fits_73 (by decide) (fun c_8 => ?_) (fun c_8 => ?_)
      · skip
        have k_8 := (tn_eq (rfl : (b).toInt = (b).toInt) (show (0 : Int32).toInt = 0 from by decide)).mp c_8
        refine lv_iconst C.1 C.2.1 (v := 0) dX3_fits_80 (by decide) ?_
        subst hQ
        exact r_zret (τ, ζ, ρ) C hW hr rfl hk dX3_fits_81 (by first | exact Or.inl ⟨rfl, rfl, (by omega)⟩ | exact Or.inr (⟨rfl, rfl, (by omega)⟩))
      · skip
        have k_8 := (tc_eq (rfl : (b).toInt = (b).toInt) (show (0 : Int32).toInt = 0 from by decide)).mp c_8
        refine lv_iconst C.1 C.2.1 (v := 1) dX3_fits_76 (by decide) ?_
        refine lv_goto C.1 C.2.1 (tgt := 81) dX3_fits_77 (by decide) ?_
        subst hQ
        exact r_zret (τ, ζ, ρ) C hW hr rfl hk dX3_fits_81 (by first | exact Or.inl ⟨rfl, rfl, (by omega)⟩ | exact Or.inr (⟨rfl, rfl, (by omega)⟩))
    · skip
      have hW : WB G (28 + 3 * nd) q (eX G q τ ζ ρ) s H locs := hW
      refine lv_if_eq C.1 C.2.1 (tgt := 80) dX3_fits_69 (by decide) (fun _ => ?_) (fun c => absurd c (by decide))
      refine lv_iconst C.1 C.2.1 (v := 0) dX3_fits_80 (by decide) ?_
      subst hQ
      exact r_zret (τ, ζ, ρ) C hW hr rfl hk dX3_fits_81 (by first | exact Or.inl ⟨rfl, rfl, (by omega)⟩ | exact Or.inr (⟨rfl, rfl, (by omega)⟩))
  by_cases c_1_2 : (kd).toInt = 2
  · skip
    refine lv_tableIn C.1 C.2.1 dX3_fits_1 (off := 81) (tgt := 82) (by omega) (by omega) (by rw [show (kd).toInt = 2 by omega]; rfl) (by decide) ?_
    refine lv_iload_n C.1 C.2.1 dX3_fits_82 rfl (lv_at hl 2 rfl) ?_
    refine lv_iconst C.1 C.2.1 (v := 1) dX3_fits_83 (by decide) ?_
    refine lv_sipush C.1 C.2.1 (v := 600) dX3_fits_84 (by decide) ?_
    refine go_i hW (run_SN (As := [.int a, .int 1, .int 600]) (rest := []) C hW (c_X7_isWithin l G q nd _ τ ζ ρ a 1 600 ((a).toInt) 1 600 (rfl : (a).toInt = (a).toInt) (show (1 : Int32).toInt = 1 from by decide) (show (600 : Int32).toInt = 600 from by decide) h_nd) (cw_SN 3 C bS_X7_isWithin bN_X7 bC_X7_isWithin ⟨rfl, rfl⟩ (by decide +kernel) ⟨Nat.le_of_ble_eq_true rfl, Nat.le_of_ble_eq_true rfl⟩) rfl hl.1 rfl (Nat.le_of_ble_eq_true rfl) dX3_fits_87 ⟨Nat.le_refl _, Nat.le_refl _⟩) (fun r_10 u_10 H locs hp_10 hW => ?_)
    rcases hp_10 with ⟨rfl, rfl, k_10_0, k_10_1⟩ | ⟨rfl, rfl, k_10⟩
    · skip
      have hW : WB G (28 + 3 * nd) q (eX G q τ ζ ρ) s H locs := hW
      refine lv_if_eq C.1 C.2.1 (tgt := 107) dX3_fits_90 (by decide) (fun c => absurd c (by decide)) (fun _ => ?_)
      refine lv_iload_n C.1 C.2.1 dX3_fits_93 rfl (lv_at hl 3 rfl) ?_
      refine lv_iconst C.1 C.2.1 (v := 0) dX3_fits_94 (by decide) ?_
      refine lv_bipush C.1 C.2.1 (v := 7) dX3_fits_95 (by decide) ?_
      refine go_i hW (run_SN (As := [.int b, .int 0, .int 7]) (rest := []) C hW (c_X7_isWithin l G q nd _ τ ζ ρ b 0 7 ((b).toInt) 0 7 (rfl : (b).toInt = (b).toInt) (show (0 : Int32).toInt = 0 from by decide) (show (7 : Int32).toInt = 7 from by decide) h_nd) (cw_SN 3 C bS_X7_isWithin bN_X7 bC_X7_isWithin ⟨rfl, rfl⟩ (by decide +kernel) ⟨Nat.le_of_ble_eq_true rfl, Nat.le_of_ble_eq_true rfl⟩) rfl hl.1 rfl (Nat.le_of_ble_eq_true rfl) dX3_fits_97 ⟨Nat.le_refl _, Nat.le_refl _⟩) (fun r_12 u_12 H locs hp_12 hW => ?_)
      rcases hp_12 with ⟨rfl, rfl, k_12_0, k_12_1⟩ | ⟨rfl, rfl, k_12⟩
      · skip
        have hW : WB G (28 + 3 * nd) q (eX G q τ ζ ρ) s H locs := hW
        refine lv_if_eq C.1 C.2.1 (tgt := 107) dX3_fits_100 (by decide) (fun c => absurd c (by decide)) (fun _ => ?_)
        refine lv_iconst C.1 C.2.1 (v := 1) dX3_fits_103 (by decide) ?_
        refine lv_goto C.1 C.2.1 (tgt := 108) dX3_fits_104 (by decide) ?_
        subst hQ
        exact r_zret (τ, ζ, ρ) C hW hr rfl hk dX3_fits_108 (by first | exact Or.inl ⟨rfl, rfl, (by omega)⟩ | exact Or.inr (⟨rfl, rfl, (by omega)⟩))
      · skip
        have hW : WB G (28 + 3 * nd) q (eX G q τ ζ ρ) s H locs := hW
        refine lv_if_eq C.1 C.2.1 (tgt := 107) dX3_fits_100 (by decide) (fun _ => ?_) (fun c => absurd c (by decide))
        refine lv_iconst C.1 C.2.1 (v := 0) dX3_fits_107 (by decide) ?_
        subst hQ
        exact r_zret (τ, ζ, ρ) C hW hr rfl hk dX3_fits_108 (by first | exact Or.inl ⟨rfl, rfl, (by omega)⟩ | exact Or.inr (⟨rfl, rfl, (by omega)⟩))
    · skip
      have hW : WB G (28 + 3 * nd) q (eX G q τ ζ ρ) s H locs := hW
      refine lv_if_eq C.1 C.2.1 (tgt := 107) dX3_fits_90 (by decide) (fun _ => ?_) (fun c => absurd c (by decide))
      refine lv_iconst C.1 C.2.1 (v := 0) dX3_fits_107 (by decide) ?_
      subst hQ
      exact r_zret (τ, ζ, ρ) C hW hr rfl hk dX3_fits_108 (by first | exact Or.inl ⟨rfl, rfl, (by omega)⟩ | exact Or.inr (⟨rfl, rfl, (by omega)⟩))
  by_cases c_1_3 : (kd).toInt = 3
  · skip
    refine lv_tableIn C.1 C.2.1 dX3_fits_1 (off := 108) (tgt := 109) (by omega) (by omega) (by rw [show (kd).toInt = 3 by omega]; rfl) (by decide) ?_
    refine lv_iload_n C.1 C.2.1 dX3_fits_109 rfl (lv_at hl 2 rfl) ?_
    refine lv_iconst C.1 C.2.1 (v := 0) dX3_fits_110 (by decide) ?_
    refine lv_aload_n C.1 C.2.1 dX3_fits_111 rfl (lv_at hl 0 rfl) ?_
    refine xG_Program_size C hW bF_X3_37 (v := (τ.1 9)) rfl dX3_fits_112 ?_
    refine lv_iconst C.1 C.2.1 (v := 1) dX3_fits_115 (by decide) ?_
    refine lv_isub C.1 C.2.1 dX3_fits_116 ?_
    refine go_i hW (run_SN (As := [.int a, .int 0, .int ((τ.1 9) - 1)]) (rest := []) C hW (c_X7_isWithin l G q nd _ τ ζ ρ a 0 ((τ.1 9) - 1) ((a).toInt) 0 (((τ.1 9)).toInt - 1) (rfl : (a).toInt = (a).toInt) (show (0 : Int32).toInt = 0 from by decide) (ti_sub (rfl : ((τ.1 9)).toInt = ((τ.1 9)).toInt) (show (1 : Int32).toInt = 1 from by decide) (by omega) (by omega)) h_nd) (cw_SN 3 C bS_X7_isWithin bN_X7 bC_X7_isWithin ⟨rfl, rfl⟩ (by decide +kernel) ⟨Nat.le_of_ble_eq_true rfl, Nat.le_of_ble_eq_true rfl⟩) rfl hl.1 rfl (Nat.le_of_ble_eq_true rfl) dX3_fits_117 ⟨Nat.le_refl _, Nat.le_refl _⟩) (fun r_16 u_16 H locs hp_16 hW => ?_)
    rcases hp_16 with ⟨rfl, rfl, k_16_0, k_16_1⟩ | ⟨rfl, rfl, k_16⟩
    · skip
      have hW : WB G (28 + 3 * nd) q (eX G q τ ζ ρ) s H locs := hW
      refine lv_if_eq C.1 C.2.1 (tgt := 137) dX3_fits_120 (by decide) (fun c => absurd c (by decide)) (fun _ => ?_)
      refine lv_iload_n C.1 C.2.1 dX3_fits_123 rfl (lv_at hl 3 rfl) ?_
      refine lv_iconst C.1 C.2.1 (v := 1) dX3_fits_124 (by decide) ?_
      refine lv_bipush C.1 C.2.1 (v := 50) dX3_fits_125 (by decide) ?_
      refine go_i hW (run_SN (As := [.int b, .int 1, .int 50]) (rest := []) C hW (c_X7_isWithin l G q nd _ τ ζ ρ b 1 50 ((b).toInt) 1 50 (rfl : (b).toInt = (b).toInt) (show (1 : Int32).toInt = 1 from by decide) (show (50 : Int32).toInt = 50 from by decide) h_nd) (cw_SN 3 C bS_X7_isWithin bN_X7 bC_X7_isWithin ⟨rfl, rfl⟩ (by decide +kernel) ⟨Nat.le_of_ble_eq_true rfl, Nat.le_of_ble_eq_true rfl⟩) rfl hl.1 rfl (Nat.le_of_ble_eq_true rfl) dX3_fits_127 ⟨Nat.le_refl _, Nat.le_refl _⟩) (fun r_18 u_18 H locs hp_18 hW => ?_)
      rcases hp_18 with ⟨rfl, rfl, k_18_0, k_18_1⟩ | ⟨rfl, rfl, k_18⟩
      · skip
        have hW : WB G (28 + 3 * nd) q (eX G q τ ζ ρ) s H locs := hW
        refine lv_if_eq C.1 C.2.1 (tgt := 137) dX3_fits_130 (by decide) (fun c => absurd c (by decide)) (fun _ => ?_)
        refine lv_iconst C.1 C.2.1 (v := 1) dX3_fits_133 (by decide) ?_
        refine lv_goto C.1 C.2.1 (tgt := 138) dX3_fits_134 (by decide) ?_
        subst hQ
        exact r_zret (τ, ζ, ρ) C hW hr rfl hk dX3_fits_138 (by first | exact Or.inl ⟨rfl, rfl, (by omega)⟩ | exact Or.inr (⟨rfl, rfl, (by omega)⟩))
      · skip
        have hW : WB G (28 + 3 * nd) q (eX G q τ ζ ρ) s H locs := hW
        refine lv_if_eq C.1 C.2.1 (tgt := 137) dX3_fits_130 (by decide) (fun _ => ?_) (fun c => absurd c (by decide))
        refine lv_iconst C.1 C.2.1 (v := 0) dX3_fits_137 (by decide) ?_
        subst hQ
        exact r_zret (τ, ζ, ρ) C hW hr rfl hk dX3_fits_138 (by first | exact Or.inl ⟨rfl, rfl, (by omega)⟩ | exact Or.inr (⟨rfl, rfl, (by omega)⟩))
    · skip
      have hW : WB G (28 + 3 * nd) q (eX G q τ ζ ρ) s H locs := hW
      refine lv_if_eq C.1 C.2.1 (tgt := 137) dX3_fits_120 (by decide) (fun _ => ?_) (fun c => absurd c (by decide))
      refine lv_iconst C.1 C.2.1 (v := 0) dX3_fits_137 (by decide) ?_
      subst hQ
      exact r_zret (τ, ζ, ρ) C hW hr rfl hk dX3_fits_138 (by first | exact Or.inl ⟨rfl, rfl, (by omega)⟩ | exact Or.inr (⟨rfl, rfl, (by omega)⟩))
  by_cases c_1_4 : (kd).toInt = 4
  · skip
    refine lv_tableIn C.1 C.2.1 dX3_fits_1 (off := 138) (tgt := 139) (by omega) (by omega) (by rw [show (kd).toInt = 4 by omega]; rfl) (by decide) ?_
    refine lv_iload_n C.1 C.2.1 dX3_fits_139 rfl (lv_at hl 2 rfl) ?_
    refine lv_iconst C.1 C.2.1 (v := 1) dX3_fits_140 (by decide) ?_
    refine lv_sipush C.1 C.2.1 (v := 600) dX3_fits_141 (by decide) ?_
    refine go_i hW (run_SN (As := [.int a, .int 1, .int 600]) (rest := []) C hW (c_X7_isWithin l G q nd _ τ ζ ρ a 1 600 ((a).toInt) 1 600 (rfl : (a).toInt = (a).toInt) (show (1 : Int32).toInt = 1 from by decide) (show (600 : Int32).toInt = 600 from by decide) h_nd) (cw_SN 3 C bS_X7_isWithin bN_X7 bC_X7_isWithin ⟨rfl, rfl⟩ (by decide +kernel) ⟨Nat.le_of_ble_eq_true rfl, Nat.le_of_ble_eq_true rfl⟩) rfl hl.1 rfl (Nat.le_of_ble_eq_true rfl) dX3_fits_144 ⟨Nat.le_refl _, Nat.le_refl _⟩) (fun r_22 u_22 H locs hp_22 hW => ?_)
    rcases hp_22 with ⟨rfl, rfl, k_22_0, k_22_1⟩ | ⟨rfl, rfl, k_22⟩
    · skip
      have hW : WB G (28 + 3 * nd) q (eX G q τ ζ ρ) s H locs := hW
      refine lv_if_eq C.1 C.2.1 (tgt := 158) dX3_fits_147 (by decide) (fun c => absurd c (by decide)) (fun _ => ?_)
      refine lv_iload_n C.1 C.2.1 dX3_fits_150 rfl (lv_at hl 3 rfl) ?_
      refine lv_if_ne C.1 C.2.1 (tgt := 158) dX3_fits_151 (by decide) (fun c_24 => ?_) (fun c_24 => ?_)
      · skip
        have k_24 := (tn_eq (rfl : (b).toInt = (b).toInt) (show (0 : Int32).toInt = 0 from by decide)).mp c_24
        refine lv_iconst C.1 C.2.1 (v := 0) dX3_fits_158 (by decide) ?_
        subst hQ
        exact r_zret (τ, ζ, ρ) C hW hr rfl hk dX3_fits_159 (by first | exact Or.inl ⟨rfl, rfl, (by omega)⟩ | exact Or.inr (⟨rfl, rfl, (by omega)⟩))
      · skip
        have k_24 := (tc_eq (rfl : (b).toInt = (b).toInt) (show (0 : Int32).toInt = 0 from by decide)).mp c_24
        refine lv_iconst C.1 C.2.1 (v := 1) dX3_fits_154 (by decide) ?_
        refine lv_goto C.1 C.2.1 (tgt := 159) dX3_fits_155 (by decide) ?_
        subst hQ
        exact r_zret (τ, ζ, ρ) C hW hr rfl hk dX3_fits_159 (by first | exact Or.inl ⟨rfl, rfl, (by omega)⟩ | exact Or.inr (⟨rfl, rfl, (by omega)⟩))
    · skip
      have hW : WB G (28 + 3 * nd) q (eX G q τ ζ ρ) s H locs := hW
      refine lv_if_eq C.1 C.2.1 (tgt := 158) dX3_fits_147 (by decide) (fun _ => ?_) (fun c => absurd c (by decide))
      refine lv_iconst C.1 C.2.1 (v := 0) dX3_fits_158 (by decide) ?_
      subst hQ
      exact r_zret (τ, ζ, ρ) C hW hr rfl hk dX3_fits_159 (by first | exact Or.inl ⟨rfl, rfl, (by omega)⟩ | exact Or.inr (⟨rfl, rfl, (by omega)⟩))
  by_cases c_1_5 : (kd).toInt = 5
  · skip
    refine lv_tableIn C.1 C.2.1 dX3_fits_1 (off := 159) (tgt := 160) (by omega) (by omega) (by rw [show (kd).toInt = 5 by omega]; rfl) (by decide) ?_
    refine lv_iload_n C.1 C.2.1 dX3_fits_160 rfl (lv_at hl 2 rfl) ?_
    refine lv_if_ne C.1 C.2.1 (tgt := 172) dX3_fits_161 (by decide) (fun c_26 => ?_) (fun c_26 => ?_)
    · skip
      have k_26 := (tn_eq (rfl : (a).toInt = (a).toInt) (show (0 : Int32).toInt = 0 from by decide)).mp c_26
      refine lv_iconst C.1 C.2.1 (v := 0) dX3_fits_172 (by decide) ?_
      subst hQ
      exact r_zret (τ, ζ, ρ) C hW hr rfl hk dX3_fits_173 (by first | exact Or.inl ⟨rfl, rfl, (by omega)⟩ | exact Or.inr (⟨rfl, rfl, (by omega)⟩))
    · skip
      have k_26 := (tc_eq (rfl : (a).toInt = (a).toInt) (show (0 : Int32).toInt = 0 from by decide)).mp c_26
      refine lv_iload_n C.1 C.2.1 dX3_fits_164 rfl (lv_at hl 3 rfl) ?_
      refine lv_if_ne C.1 C.2.1 (tgt := 172) dX3_fits_165 (by decide) (fun c_27 => ?_) (fun c_27 => ?_)
      · skip
        have k_27 := (tn_eq (rfl : (b).toInt = (b).toInt) (show (0 : Int32).toInt = 0 from by decide)).mp c_27
        refine lv_iconst C.1 C.2.1 (v := 0) dX3_fits_172 (by decide) ?_
        subst hQ
        exact r_zret (τ, ζ, ρ) C hW hr rfl hk dX3_fits_173 (by first | exact Or.inl ⟨rfl, rfl, (by omega)⟩ | exact Or.inr (⟨rfl, rfl, (by omega)⟩))
      · skip
        have k_27 := (tc_eq (rfl : (b).toInt = (b).toInt) (show (0 : Int32).toInt = 0 from by decide)).mp c_27
        refine lv_iconst C.1 C.2.1 (v := 1) dX3_fits_168 (by decide) ?_
        refine lv_goto C.1 C.2.1 (tgt := 173) dX3_fits_169 (by decide) ?_
        subst hQ
        exact r_zret (τ, ζ, ρ) C hW hr rfl hk dX3_fits_173 (by first | exact Or.inl ⟨rfl, rfl, (by omega)⟩ | exact Or.inr (⟨rfl, rfl, (by omega)⟩))
  refine lv_tableOut C.1 C.2.1 dX3_fits_1 (tgt := 174) (by omega) (by decide) ?_
  refine lv_iconst C.1 C.2.1 (v := 0) dX3_fits_174 (by decide) ?_
  subst hQ
  exact r_zret (τ, ζ, ρ) C hW hr rfl hk dX3_fits_175 (by first | exact Or.inl ⟨rfl, rfl, (by omega)⟩ | exact Or.inr (⟨rfl, rfl, (by omega)⟩))
set_option maxHeartbeats 4000000 in
set_option maxRecDepth 100000 in
theorem c_X3_isUp (l : Launch) (G : GG) (q : Nat → Nat) (nd sz : Nat) (τ ζ : ST) (ρ : RF) (z : Int32) (t : Int32) (w : Int32) (tZ : Int) (wZ : Int) (zN : Nat) (ht : t.toInt = tZ) (hw : w.toInt = wZ) (hz : z.toInt = (zN : Int)) (h_nd : nd ≤ 6) (hz8 : zN < 8) (ht0 : 0 ≤ tZ) (hw6 : 0 ≤ wZ ∧ wZ ≤ 600) : Met l yX3_isUp (WSb yX3_isUp cX3_isUp 5 (some .boolean)) (rmA 0 0) (va_Pc [.ref (q 19), .int z, .int t, .int w] (PW G (28 + 3 * nd) q sz (eX G q τ ζ ρ))) (va_Qi (fun (r : Int32) (u : (ST × ST × RF)) => (r = 1 ∧ u = (τ, ζ, ρ) ∧ (upX ζ zN tZ wZ)) ∨ (r = 0 ∧ u = (τ, ζ, ρ) ∧ (¬ upX ζ zN tZ wZ))) (fun u => BW G (28 + 3 * nd) q (eX G q u.1 u.2.1 u.2.2)) (FA (28 + 3 * nd) q sz)) 0 0 (FA (28 + 3 * nd) q sz) := by
  refine Met_B (own := RX3) rfl (by decide) (Nat.le_of_ble_eq_true rfl) (fun p e s m args below meth c ls hsz C hW hr hk hl QQ hQ => ?_)
  subst hsz
  have hl : lv_has ls 5 [(0, .ref (q 19)), (1, .int z), (2, .int t), (3, .int w)] := hl
  refine lv_iload_n C.1 C.2.1 dX3_isUp_0 rfl (lv_at hl 1 rfl) ?_
  refine lv_if_lt C.1 C.2.1 (tgt := 10) dX3_isUp_1 (by decide) (fun c_1 => ?_) (fun c_1 => ?_)
  · skip
    have k_1 := (tc_lt hz (show (0 : Int32).toInt = 0 from by decide)).mp c_1
    refine lv_iconst C.1 C.2.1 (v := 0) dX3_isUp_10 (by decide) ?_
    subst hQ
    exact r_zret (τ, ζ, ρ) C hW hr rfl hk dX3_isUp_11 (by first | exact Or.inl ⟨rfl, rfl, by unfold upX; omega⟩ | exact Or.inr ⟨rfl, rfl, by unfold upX; omega⟩)
  · skip
    have k_1 := (tn_lt hz (show (0 : Int32).toInt = 0 from by decide)).mp c_1
    refine lv_iload_n C.1 C.2.1 dX3_isUp_4 rfl (lv_at hl 1 rfl) ?_
    refine lv_bipush C.1 C.2.1 (v := 8) dX3_isUp_5 (by decide) ?_
    refine lv_icmp_lt C.1 C.2.1 (tgt := 12) dX3_isUp_7 (by decide) (fun c_2 => ?_) (fun c_2 => ?_)
    · skip
      have k_2 := (tc_lt hz (show (8 : Int32).toInt = 8 from by decide)).mp c_2
      refine lv_aload_n C.1 C.2.1 dX3_isUp_12 rfl (lv_at hl 0 rfl) ?_
      refine xG_Program_rises C hW bF_X3_21 dX3_isUp_13 ?_
      refine lv_iload_n C.1 C.2.1 dX3_isUp_16 rfl (lv_at hl 1 rfl) ?_
      refine xL_23 C hW zN (hz.trans (by omega)) (by omega) (v := (ζ.2.1 3 zN)) rfl dX3_isUp_17 ?_
      refine lv_if_ne C.1 C.2.1 (tgt := 35) dX3_isUp_18 (by decide) (fun c_3 => ?_) (fun c_3 => ?_)
      · skip
        have k_3 := (tn_eq (rfl : ((ζ.2.1 3 zN)).toInt = ((ζ.2.1 3 zN)).toInt) (show (0 : Int32).toInt = 0 from by decide)).mp c_3
        refine lv_iload_n C.1 C.2.1 dX3_isUp_35 rfl (lv_at hl 2 rfl) ?_
        refine lv_sipush C.1 C.2.1 (v := 1440) dX3_isUp_36 (by decide) ?_
        refine lv_irem C.1 C.2.1 dX3_isUp_39 (by decide) ?_
        refine lv_istore (lv' := [(4, .int (t - t / 1440 * 1440)), (0, .ref (q 19)), (1, .int z), (2, .int t), (3, .int w)]) C.1 C.2.1 dX3_isUp_40 hl (by decide) rfl (fun ls hl => ?_)
        refine lv_iload C.1 C.2.1 dX3_isUp_42 (lv_at hl 0 rfl) ?_
        refine lv_aload_n C.1 C.2.1 dX3_isUp_44 rfl (lv_at hl 1 rfl) ?_
        refine xG_Program_rises C hW bF_X3_21 dX3_isUp_45 ?_
        refine lv_iload_n C.1 C.2.1 dX3_isUp_48 rfl (lv_at hl 2 rfl) ?_
        refine xL_23 C hW zN (hz.trans (by omega)) (by omega) (v := (ζ.2.1 3 zN)) rfl dX3_isUp_49 ?_
        refine lv_icmp_lt C.1 C.2.1 (tgt := 70) dX3_isUp_50 (by decide) (fun c_4 => ?_) (fun c_4 => ?_)
        · skip
          have k_4 := (tc_lt (ti_rem ht (show (1440 : Int32).toInt = 1440 from by decide) (by omega) (by omega)) (rfl : ((ζ.2.1 3 zN)).toInt = ((ζ.2.1 3 zN)).toInt)).mp c_4
          refine lv_iconst C.1 C.2.1 (v := 0) dX3_isUp_70 (by decide) ?_
          subst hQ
          exact r_zret (τ, ζ, ρ) C hW hr rfl hk dX3_isUp_71 (by first | exact Or.inl ⟨rfl, rfl, by unfold upX; omega⟩ | exact Or.inr ⟨rfl, rfl, by unfold upX; omega⟩)
        · skip
          have k_4 := (tn_lt (ti_rem ht (show (1440 : Int32).toInt = 1440 from by decide) (by omega) (by omega)) (rfl : ((ζ.2.1 3 zN)).toInt = ((ζ.2.1 3 zN)).toInt)).mp c_4
          refine lv_iload C.1 C.2.1 dX3_isUp_53 (lv_at hl 0 rfl) ?_
          refine lv_iload_n C.1 C.2.1 dX3_isUp_55 rfl (lv_at hl 4 rfl) ?_
          refine lv_iadd C.1 C.2.1 dX3_isUp_56 ?_
          refine lv_aload_n C.1 C.2.1 dX3_isUp_57 rfl (lv_at hl 1 rfl) ?_
          refine xG_Program_sets C hW bF_X3_24 dX3_isUp_58 ?_
          refine lv_iload_n C.1 C.2.1 dX3_isUp_61 rfl (lv_at hl 2 rfl) ?_
          refine xL_24 C hW zN (hz.trans (by omega)) (by omega) (v := (ζ.2.1 4 zN)) rfl dX3_isUp_62 ?_
          refine lv_icmp_gt C.1 C.2.1 (tgt := 70) dX3_isUp_63 (by decide) (fun c_5 => ?_) (fun c_5 => ?_)
          · skip
            have k_5 := (tc_lt (rfl : ((ζ.2.1 4 zN)).toInt = ((ζ.2.1 4 zN)).toInt) (ti_add (ti_rem ht (show (1440 : Int32).toInt = 1440 from by decide) (by omega) (by omega)) hw (by omega) (by omega))).mp c_5
            refine lv_iconst C.1 C.2.1 (v := 0) dX3_isUp_70 (by decide) ?_
            subst hQ
            exact r_zret (τ, ζ, ρ) C hW hr rfl hk dX3_isUp_71 (by first | exact Or.inl ⟨rfl, rfl, by unfold upX; omega⟩ | exact Or.inr ⟨rfl, rfl, by unfold upX; omega⟩)
          · skip
            have k_5 := (tn_lt (rfl : ((ζ.2.1 4 zN)).toInt = ((ζ.2.1 4 zN)).toInt) (ti_add (ti_rem ht (show (1440 : Int32).toInt = 1440 from by decide) (by omega) (by omega)) hw (by omega) (by omega))).mp c_5
            refine lv_iconst C.1 C.2.1 (v := 1) dX3_isUp_66 (by decide) ?_
            refine lv_goto C.1 C.2.1 (tgt := 71) dX3_isUp_67 (by decide) ?_
            subst hQ
            exact r_zret (τ, ζ, ρ) C hW hr rfl hk dX3_isUp_71 (by first | exact Or.inl ⟨rfl, rfl, by unfold upX; omega⟩ | exact Or.inr ⟨rfl, rfl, by unfold upX; omega⟩)
      · skip
        have k_3 := (tc_eq (rfl : ((ζ.2.1 3 zN)).toInt = ((ζ.2.1 3 zN)).toInt) (show (0 : Int32).toInt = 0 from by decide)).mp c_3
        refine lv_aload_n C.1 C.2.1 dX3_isUp_21 rfl (lv_at hl 0 rfl) ?_
        refine xG_Program_sets C hW bF_X3_24 dX3_isUp_22 ?_
        refine lv_iload_n C.1 C.2.1 dX3_isUp_25 rfl (lv_at hl 1 rfl) ?_
        refine xL_24 C hW zN (hz.trans (by omega)) (by omega) (v := (ζ.2.1 4 zN)) rfl dX3_isUp_26 ?_
        refine lv_sipush C.1 C.2.1 (v := 1440) dX3_isUp_27 (by decide) ?_
        refine lv_icmp_ne C.1 C.2.1 (tgt := 35) dX3_isUp_30 (by decide) (fun c_6 => ?_) (fun c_6 => ?_)
        · skip
          have k_6 := (tn_eq (rfl : ((ζ.2.1 4 zN)).toInt = ((ζ.2.1 4 zN)).toInt) (show (1440 : Int32).toInt = 1440 from by decide)).mp c_6
          refine lv_iload_n C.1 C.2.1 dX3_isUp_35 rfl (lv_at hl 2 rfl) ?_
          refine lv_sipush C.1 C.2.1 (v := 1440) dX3_isUp_36 (by decide) ?_
          refine lv_irem C.1 C.2.1 dX3_isUp_39 (by decide) ?_
          refine lv_istore (lv' := [(4, .int (t - t / 1440 * 1440)), (0, .ref (q 19)), (1, .int z), (2, .int t), (3, .int w)]) C.1 C.2.1 dX3_isUp_40 hl (by decide) rfl (fun ls hl => ?_)
          refine lv_iload C.1 C.2.1 dX3_isUp_42 (lv_at hl 0 rfl) ?_
          refine lv_aload_n C.1 C.2.1 dX3_isUp_44 rfl (lv_at hl 1 rfl) ?_
          refine xG_Program_rises C hW bF_X3_21 dX3_isUp_45 ?_
          refine lv_iload_n C.1 C.2.1 dX3_isUp_48 rfl (lv_at hl 2 rfl) ?_
          refine xL_23 C hW zN (hz.trans (by omega)) (by omega) (v := (ζ.2.1 3 zN)) rfl dX3_isUp_49 ?_
          refine lv_icmp_lt C.1 C.2.1 (tgt := 70) dX3_isUp_50 (by decide) (fun c_7 => ?_) (fun c_7 => ?_)
          · skip
            have k_7 := (tc_lt (ti_rem ht (show (1440 : Int32).toInt = 1440 from by decide) (by omega) (by omega)) (rfl : ((ζ.2.1 3 zN)).toInt = ((ζ.2.1 3 zN)).toInt)).mp c_7
            refine lv_iconst C.1 C.2.1 (v := 0) dX3_isUp_70 (by decide) ?_
            subst hQ
            exact r_zret (τ, ζ, ρ) C hW hr rfl hk dX3_isUp_71 (by first | exact Or.inl ⟨rfl, rfl, by unfold upX; omega⟩ | exact Or.inr ⟨rfl, rfl, by unfold upX; omega⟩)
          · skip
            have k_7 := (tn_lt (ti_rem ht (show (1440 : Int32).toInt = 1440 from by decide) (by omega) (by omega)) (rfl : ((ζ.2.1 3 zN)).toInt = ((ζ.2.1 3 zN)).toInt)).mp c_7
            refine lv_iload C.1 C.2.1 dX3_isUp_53 (lv_at hl 0 rfl) ?_
            refine lv_iload_n C.1 C.2.1 dX3_isUp_55 rfl (lv_at hl 4 rfl) ?_
            refine lv_iadd C.1 C.2.1 dX3_isUp_56 ?_
            refine lv_aload_n C.1 C.2.1 dX3_isUp_57 rfl (lv_at hl 1 rfl) ?_
            refine xG_Program_sets C hW bF_X3_24 dX3_isUp_58 ?_
            refine lv_iload_n C.1 C.2.1 dX3_isUp_61 rfl (lv_at hl 2 rfl) ?_
            refine xL_24 C hW zN (hz.trans (by omega)) (by omega) (v := (ζ.2.1 4 zN)) rfl dX3_isUp_62 ?_
            refine lv_icmp_gt C.1 C.2.1 (tgt := 70) dX3_isUp_63 (by decide) (fun c_8 => ?_) (fun c_8 => ?_)
            · skip
              have k_8 := (tc_lt (rfl : ((ζ.2.1 4 zN)).toInt = ((ζ.2.1 4 zN)).toInt) (ti_add (ti_rem ht (show (1440 : Int32).toInt = 1440 from by decide) (by omega) (by omega)) hw (by omega) (by omega))).mp c_8
              refine lv_iconst C.1 C.2.1 (v := 0) dX3_isUp_70 (by decide) ?_
              subst hQ
              exact r_zret (τ, ζ, ρ) C hW hr rfl hk dX3_isUp_71 (by first | exact Or.inl ⟨rfl, rfl, by unfold upX; omega⟩ | exact Or.inr ⟨rfl, rfl, by unfold upX; omega⟩)
            · skip
              have k_8 := (tn_lt (rfl : ((ζ.2.1 4 zN)).toInt = ((ζ.2.1 4 zN)).toInt) (ti_add (ti_rem ht (show (1440 : Int32).toInt = 1440 from by decide) (by omega) (by omega)) hw (by omega) (by omega))).mp c_8
              refine lv_iconst C.1 C.2.1 (v := 1) dX3_isUp_66 (by decide) ?_
              refine lv_goto C.1 C.2.1 (tgt := 71) dX3_isUp_67 (by decide) ?_
              subst hQ
              exact r_zret (τ, ζ, ρ) C hW hr rfl hk dX3_isUp_71 (by first | exact Or.inl ⟨rfl, rfl, by unfold upX; omega⟩ | exact Or.inr ⟨rfl, rfl, by unfold upX; omega⟩)
        · skip
          have k_6 := (tc_eq (rfl : ((ζ.2.1 4 zN)).toInt = ((ζ.2.1 4 zN)).toInt) (show (1440 : Int32).toInt = 1440 from by decide)).mp c_6
          refine lv_iconst C.1 C.2.1 (v := 1) dX3_isUp_33 (by decide) ?_
          subst hQ
          exact r_zret (τ, ζ, ρ) C hW hr rfl hk dX3_isUp_34 (by first | exact Or.inl ⟨rfl, rfl, by unfold upX; omega⟩ | exact Or.inr ⟨rfl, rfl, by unfold upX; omega⟩)
    · skip
      have k_2 := (tn_lt hz (show (8 : Int32).toInt = 8 from by decide)).mp c_2
      refine lv_iconst C.1 C.2.1 (v := 0) dX3_isUp_10 (by decide) ?_
      subst hQ
      exact r_zret (τ, ζ, ρ) C hW hr rfl hk dX3_isUp_11 (by first | exact Or.inl ⟨rfl, rfl, by unfold upX; omega⟩ | exact Or.inr ⟨rfl, rfl, by unfold upX; omega⟩)
set_option maxHeartbeats 4000000 in
set_option maxRecDepth 100000 in
theorem c_X5_turnTo (l : Launch) (G : GG) (q : Nat → Nat) (nd sz : Nat) (τ ζ : ST) (ρ : RF) (a : Int32) (h_nd : nd ≤ 6) (h_az : 0 ≤ (τ.1 11).toInt ∧ (τ.1 11).toInt ≤ 359) (h_a : 0 ≤ a.toInt ∧ a.toInt ≤ 359) : Met l yX5_turnTo (WSb yX5_turnTo cX5_turnTo 4 (some .int)) (rmA 1 21) (va_Pc [.ref (q 25), .int a] (PW G (28 + 3 * nd) q sz (eX G q τ ζ ρ))) (va_Qi (fun (r : Int32) (u : (ST × ST × RF)) => r = tn32 (τ.1 11) a ∧ u = (τ, ζ, ρ)) (fun u => BW G (28 + 3 * nd) q (eX G q u.1 u.2.1 u.2.2)) (FA (28 + 3 * nd) q sz)) 0 0 (FA (28 + 3 * nd) q sz) := by
  refine Met_B (own := RX5) rfl (by decide) (Nat.le_of_ble_eq_true rfl) (fun p e s m args below meth c ls hsz C hW hr hk hl QQ hQ => ?_)
  subst hsz
  have hl : lv_has ls 4 [(0, .ref (q 25)), (1, .int a)] := hl
  have hab : ∀ x : Int, (if 0 ≤ x then x else -x) = max x (-x) := fun x => by split <;> omega
  refine lv_iload_n C.1 C.2.1 dX5_turnTo_0 rfl (lv_at hl 1 rfl) ?_
  refine lv_aload_n C.1 C.2.1 dX5_turnTo_1 rfl (lv_at hl 0 rfl) ?_
  refine xG_Run_azimuth C hW bF_X5_45 (v := (τ.1 11)) rfl dX5_turnTo_2 ?_
  refine lv_isub C.1 C.2.1 dX5_turnTo_5 ?_
  refine r_abs (rest := []) C hl.1 bL_X5_83 (Nat.le_of_ble_eq_true rfl) (Nat.le_of_ble_eq_true rfl) ⟨Nat.le_refl _, Nat.le_refl _⟩ dX5_turnTo_6 ?_
  refine lv_istore_n (lv' := [(2, .int (if 0 ≤ (a - (τ.1 11)) then (a - (τ.1 11)) else 0 - (a - (τ.1 11)))), (0, .ref (q 25)), (1, .int a)]) C.1 C.2.1 dX5_turnTo_9 rfl hl (by decide) rfl (fun ls hl => ?_)
  refine lv_iload_n C.1 C.2.1 dX5_turnTo_10 rfl (lv_at hl 0 rfl) ?_
  refine lv_sipush C.1 C.2.1 (v := 360) dX5_turnTo_11 (by decide) ?_
  refine lv_iload_n C.1 C.2.1 dX5_turnTo_14 rfl (lv_at hl 0 rfl) ?_
  refine lv_isub C.1 C.2.1 dX5_turnTo_15 ?_
  refine r_min (rest := []) C hl.1 bL_X5_88 (Nat.le_of_ble_eq_true rfl) (Nat.le_of_ble_eq_true rfl) ⟨Nat.le_refl _, Nat.le_refl _⟩ dX5_turnTo_16 ?_
  refine lv_istore_n (lv' := [(3, .int (if (360 - (if 0 ≤ (a - (τ.1 11)) then (a - (τ.1 11)) else 0 - (a - (τ.1 11)))) < (if 0 ≤ (a - (τ.1 11)) then (a - (τ.1 11)) else 0 - (a - (τ.1 11))) then (360 - (if 0 ≤ (a - (τ.1 11)) then (a - (τ.1 11)) else 0 - (a - (τ.1 11)))) else (if 0 ≤ (a - (τ.1 11)) then (a - (τ.1 11)) else 0 - (a - (τ.1 11))))), (2, .int (if 0 ≤ (a - (τ.1 11)) then (a - (τ.1 11)) else 0 - (a - (τ.1 11)))), (0, .ref (q 25)), (1, .int a)]) C.1 C.2.1 dX5_turnTo_19 rfl hl (by decide) rfl (fun ls hl => ?_)
  refine lv_iload_n C.1 C.2.1 dX5_turnTo_20 rfl (lv_at hl 0 rfl) ?_
  refine lv_iconst C.1 C.2.1 (v := 5) dX5_turnTo_21 (by decide) ?_
  refine lv_iadd C.1 C.2.1 dX5_turnTo_22 ?_
  refine lv_bipush C.1 C.2.1 (v := 6) dX5_turnTo_23 (by decide) ?_
  refine lv_idiv C.1 C.2.1 dX5_turnTo_25 (by decide) ?_
  subst hQ
  exact r_iret (τ, ζ, ρ) C hW hr hk dX5_turnTo_26 ⟨Int32.toInt_inj.mp ((ti_div (ti_add (ti_min (ti_abs (ti_sub (rfl : (a).toInt = (a).toInt) (rfl : ((τ.1 11)).toInt = ((τ.1 11)).toInt) (by omega) (by omega)) (by omega)) (ti_sub (show (360 : Int32).toInt = 360 from by decide) (ti_abs (ti_sub (rfl : (a).toInt = (a).toInt) (rfl : ((τ.1 11)).toInt = ((τ.1 11)).toInt) (by omega) (by omega)) (by omega)) (by omega) (by omega))) (show (5 : Int32).toInt = 5 from by decide) (by omega) (by omega)) (show (6 : Int32).toInt = 6 from by decide) (by omega) (by omega)).trans (by rw [tn32_rng h_az.1 h_az.2 h_a.1 h_a.2]; (repeat' split) <;> omega)), rfl⟩
set_option maxHeartbeats 4000000 in
set_option maxRecDepth 100000 in
theorem c_X5_minutesOf (l : Launch) (G : GG) (q : Nat → Nat) (nd sz : Nat) (τ ζ : ST) (ρ : RF) (o : Int32) (oN : Nat) (ho : o.toInt = (oN : Int)) (h_nd : nd ≤ 6) (ho60 : oN < 60) (h_az : 0 ≤ (τ.1 11).toInt ∧ (τ.1 11).toInt ≤ 359) (h_ok : okK τ oN) : Met l yX5_minutesOf (WSb yX5_minutesOf cX5_minutesOf 3 (some .int)) (rmA 2 44) (va_Pc [.ref (q 25), .ref (q 19), .int o] (PW G (28 + 3 * nd) q sz (eX G q τ ζ ρ))) (va_Qi (fun (r : Int32) (u : (ST × ST × RF)) => r = lenO τ oN ∧ u = (τ, ζ, ρ)) (fun u => BW G (28 + 3 * nd) q (eX G q u.1 u.2.1 u.2.2)) (FA (28 + 3 * nd) q sz)) 0 0 (FA (28 + 3 * nd) q sz) := by
  refine Met_B (own := RX5) rfl (by decide) (Nat.le_of_ble_eq_true rfl) (fun p e s m args below meth c ls hsz C hW hr hk hl QQ hQ => ?_)
  subst hsz
  have hl : lv_has ls 3 [(0, .ref (q 25)), (1, .ref (q 19)), (2, .int o)] := hl
  have ok := h_ok
  unfold okK at ok
  refine lv_aload_n C.1 C.2.1 dX5_minutesOf_0 rfl (lv_at hl 1 rfl) ?_
  refine xG_Program_kinds C hW bF_X5_69 dX5_minutesOf_1 ?_
  refine lv_iload_n C.1 C.2.1 dX5_minutesOf_4 rfl (lv_at hl 2 rfl) ?_
  refine xL_20 C hW oN (ho.trans (by omega)) (by omega) (v := (τ.2.1 18 oN)) rfl dX5_minutesOf_5 ?_
  have e_1 : ((τ.2.1 18 oN)).toInt = ((τ.2.1 18 oN)).toInt := (rfl : ((τ.2.1 18 oN)).toInt = ((τ.2.1 18 oN)).toInt)
  by_cases c_1_0 : ((τ.2.1 18 oN)).toInt = 0
  · skip
    refine lv_tableIn C.1 C.2.1 dX5_minutesOf_6 (off := 38) (tgt := 44) (by omega) (by omega) (by rw [show ((τ.2.1 18 oN)).toInt = 0 by omega]; rfl) (by decide) ?_
    refine lv_aload_n C.1 C.2.1 dX5_minutesOf_44 rfl (lv_at hl 1 rfl) ?_
    refine xG_Program_as C hW bF_X5_76 dX5_minutesOf_45 ?_
    refine lv_iload_n C.1 C.2.1 dX5_minutesOf_48 rfl (lv_at hl 2 rfl) ?_
    refine xL_21 C hW oN (ho.trans (by omega)) (by omega) (v := (τ.2.1 19 oN)) rfl dX5_minutesOf_49 ?_
    subst hQ
    exact r_iret (τ, ζ, ρ) C hW hr hk dX5_minutesOf_50 ⟨by unfold lenO; (repeat (first | rw [if_pos (by omega)] | rw [if_neg (by omega)])); first | done | rfl | (exfalso; omega), rfl⟩
  by_cases c_1_1 : ((τ.2.1 18 oN)).toInt = 1
  · skip
    refine lv_tableIn C.1 C.2.1 dX5_minutesOf_6 (off := 45) (tgt := 51) (by omega) (by omega) (by rw [show ((τ.2.1 18 oN)).toInt = 1 by omega]; rfl) (by decide) ?_
    refine lv_aload_n C.1 C.2.1 dX5_minutesOf_51 rfl (lv_at hl 0 rfl) ?_
    refine lv_aload_n C.1 C.2.1 dX5_minutesOf_52 rfl (lv_at hl 1 rfl) ?_
    refine xG_Program_as C hW bF_X5_76 dX5_minutesOf_53 ?_
    refine lv_iload_n C.1 C.2.1 dX5_minutesOf_56 rfl (lv_at hl 2 rfl) ?_
    refine xL_21 C hW oN (ho.trans (by omega)) (by omega) (v := (τ.2.1 19 oN)) rfl dX5_minutesOf_57 ?_
    refine go_i hW (run_V (o := 25) (As := [.int (τ.2.1 19 oN)]) (rest := []) C hW (by omega) rfl rfl (c_X5_turnTo l G q nd _ τ ζ ρ (τ.2.1 19 oN)  h_nd h_az (by omega)) (cw_V 1 C bL_X5_79 bI_X5_turnTo bV_X5_turnTo bN_X5 bC_X5_turnTo ⟨rfl, rfl⟩ (by decide +kernel) ⟨Nat.le_of_ble_eq_true rfl, Nat.le_of_ble_eq_true rfl⟩) rfl hl.1 rfl (Nat.le_of_ble_eq_true rfl) dX5_minutesOf_58 ⟨Nat.le_refl _, Nat.le_refl _⟩) (fun r_2 u_2 H locs hp_2 hW => ?_)
    rcases hp_2 with ⟨rfl, rfl⟩
    have hW : WB G (28 + 3 * nd) q (eX G q τ ζ ρ) s H locs := hW
    subst hQ
    exact r_iret (τ, ζ, ρ) C hW hr hk dX5_minutesOf_61 ⟨by unfold lenO; (repeat (first | rw [if_pos (by omega)] | rw [if_neg (by omega)])); first | done | rfl | (exfalso; omega), rfl⟩
  by_cases c_1_2 : ((τ.2.1 18 oN)).toInt = 2
  · skip
    refine lv_tableIn C.1 C.2.1 dX5_minutesOf_6 (off := 38) (tgt := 44) (by omega) (by omega) (by rw [show ((τ.2.1 18 oN)).toInt = 2 by omega]; rfl) (by decide) ?_
    refine lv_aload_n C.1 C.2.1 dX5_minutesOf_44 rfl (lv_at hl 1 rfl) ?_
    refine xG_Program_as C hW bF_X5_76 dX5_minutesOf_45 ?_
    refine lv_iload_n C.1 C.2.1 dX5_minutesOf_48 rfl (lv_at hl 2 rfl) ?_
    refine xL_21 C hW oN (ho.trans (by omega)) (by omega) (v := (τ.2.1 19 oN)) rfl dX5_minutesOf_49 ?_
    subst hQ
    exact r_iret (τ, ζ, ρ) C hW hr hk dX5_minutesOf_50 ⟨by unfold lenO; (repeat (first | rw [if_pos (by omega)] | rw [if_neg (by omega)])); first | done | rfl | (exfalso; omega), rfl⟩
  by_cases c_1_3 : ((τ.2.1 18 oN)).toInt = 3
  · skip
    refine lv_tableIn C.1 C.2.1 dX5_minutesOf_6 (off := 56) (tgt := 62) (by omega) (by omega) (by rw [show ((τ.2.1 18 oN)).toInt = 3 by omega]; rfl) (by decide) ?_
    refine lv_iconst C.1 C.2.1 (v := 0) dX5_minutesOf_62 (by decide) ?_
    subst hQ
    exact r_iret (τ, ζ, ρ) C hW hr hk dX5_minutesOf_63 ⟨by unfold lenO; (repeat (first | rw [if_pos (by omega)] | rw [if_neg (by omega)])); first | done | rfl | (exfalso; omega), rfl⟩
  by_cases c_1_4 : ((τ.2.1 18 oN)).toInt = 4
  · skip
    refine lv_tableIn C.1 C.2.1 dX5_minutesOf_6 (off := 56) (tgt := 62) (by omega) (by omega) (by rw [show ((τ.2.1 18 oN)).toInt = 4 by omega]; rfl) (by decide) ?_
    refine lv_iconst C.1 C.2.1 (v := 0) dX5_minutesOf_62 (by decide) ?_
    subst hQ
    exact r_iret (τ, ζ, ρ) C hW hr hk dX5_minutesOf_63 ⟨by unfold lenO; (repeat (first | rw [if_pos (by omega)] | rw [if_neg (by omega)])); first | done | rfl | (exfalso; omega), rfl⟩
  by_cases c_1_5 : ((τ.2.1 18 oN)).toInt = 5
  · skip
    refine lv_tableIn C.1 C.2.1 dX5_minutesOf_6 (off := 45) (tgt := 51) (by omega) (by omega) (by rw [show ((τ.2.1 18 oN)).toInt = 5 by omega]; rfl) (by decide) ?_
    refine lv_aload_n C.1 C.2.1 dX5_minutesOf_51 rfl (lv_at hl 0 rfl) ?_
    refine lv_aload_n C.1 C.2.1 dX5_minutesOf_52 rfl (lv_at hl 1 rfl) ?_
    refine xG_Program_as C hW bF_X5_76 dX5_minutesOf_53 ?_
    refine lv_iload_n C.1 C.2.1 dX5_minutesOf_56 rfl (lv_at hl 2 rfl) ?_
    refine xL_21 C hW oN (ho.trans (by omega)) (by omega) (v := (τ.2.1 19 oN)) rfl dX5_minutesOf_57 ?_
    refine go_i hW (run_V (o := 25) (As := [.int (τ.2.1 19 oN)]) (rest := []) C hW (by omega) rfl rfl (c_X5_turnTo l G q nd _ τ ζ ρ (τ.2.1 19 oN)  h_nd h_az (by omega)) (cw_V 1 C bL_X5_79 bI_X5_turnTo bV_X5_turnTo bN_X5 bC_X5_turnTo ⟨rfl, rfl⟩ (by decide +kernel) ⟨Nat.le_of_ble_eq_true rfl, Nat.le_of_ble_eq_true rfl⟩) rfl hl.1 rfl (Nat.le_of_ble_eq_true rfl) dX5_minutesOf_58 ⟨Nat.le_refl _, Nat.le_refl _⟩) (fun r_3 u_3 H locs hp_3 hW => ?_)
    rcases hp_3 with ⟨rfl, rfl⟩
    have hW : WB G (28 + 3 * nd) q (eX G q τ ζ ρ) s H locs := hW
    subst hQ
    exact r_iret (τ, ζ, ρ) C hW hr hk dX5_minutesOf_61 ⟨by unfold lenO; (repeat (first | rw [if_pos (by omega)] | rw [if_neg (by omega)])); first | done | rfl | (exfalso; omega), rfl⟩
  refine lv_tableOut C.1 C.2.1 dX5_minutesOf_6 (tgt := 62) (by omega) (by decide) ?_
  refine lv_iconst C.1 C.2.1 (v := 0) dX5_minutesOf_62 (by decide) ?_
  subst hQ
  exact r_iret (τ, ζ, ρ) C hW hr hk dX5_minutesOf_63 ⟨by unfold lenO; (repeat (first | rw [if_pos (by omega)] | rw [if_neg (by omega)])); first | done | rfl | (exfalso; omega), rfl⟩
set_option maxHeartbeats 4000000 in
set_option maxRecDepth 100000 in
theorem c_X5_watch (l : Launch) (G : GG) (q : Nat → Nat) (nd sz : Nat) (τ ζ : ST) (ρ : RF) (z : Int32) (v : Int32) (zN : Nat) (hz : z.toInt = (zN : Int)) (h_nd : nd ≤ 6) (hz8 : zN < 8) : Met l yX5_watch (WSb yX5_watch cX5_watch 4 none) (rmA 1 21) (va_Pc [.ref (q 25), .int z, .int v] (PW G (28 + 3 * nd) q sz (eX G q τ ζ ρ))) (va_Qv (fun (u : (ST × ST × RF)) => u = ((sa (sg τ 12 (τ.1 12 + wfr τ v)) 21 zN (τ.2.1 21 zN + wfr τ v)), ζ, ρ)) (fun u => BW G (28 + 3 * nd) q (eX G q u.1 u.2.1 u.2.2)) (FA (28 + 3 * nd) q sz)) 0 0 (FA (28 + 3 * nd) q sz) := by
  refine Met_B (own := RX5) rfl (by decide) (Nat.le_of_ble_eq_true rfl) (fun p e s m args below meth c ls hsz C hW hr hk hl QQ hQ => ?_)
  subst hsz
  have hl : lv_has ls 4 [(0, .ref (q 25)), (1, .int z), (2, .int v)] := hl
  refine lv_iload_n C.1 C.2.1 dX5_watch_0 rfl (lv_at hl 1 rfl) ?_
  refine lv_if_lt C.1 C.2.1 (tgt := 10) dX5_watch_1 (by decide) (fun c_1 => ?_) (fun c_1 => ?_)
  · skip
    have k_1 := (tc_lt hz (show (0 : Int32).toInt = 0 from by decide)).mp c_1
    exfalso; omega
  · skip
    have k_1 := (tn_lt hz (show (0 : Int32).toInt = 0 from by decide)).mp c_1
    refine lv_iload_n C.1 C.2.1 dX5_watch_4 rfl (lv_at hl 1 rfl) ?_
    refine lv_bipush C.1 C.2.1 (v := 8) dX5_watch_5 (by decide) ?_
    refine lv_icmp_lt C.1 C.2.1 (tgt := 11) dX5_watch_7 (by decide) (fun c_2 => ?_) (fun c_2 => ?_)
    · skip
      have k_2 := (tc_lt hz (show (8 : Int32).toInt = 8 from by decide)).mp c_2
      refine lv_iconst C.1 C.2.1 (v := 0) dX5_watch_11 (by decide) ?_
      refine lv_aload_n C.1 C.2.1 dX5_watch_12 rfl (lv_at hl 0 rfl) ?_
      refine xG_Run_stormEnd C hW bF_X5_54 (v := (τ.1 16)) rfl dX5_watch_13 ?_
      refine lv_aload_n C.1 C.2.1 dX5_watch_16 rfl (lv_at hl 0 rfl) ?_
      refine xG_Run_minute C hW bF_X5_42 (v := (τ.1 10)) rfl dX5_watch_17 ?_
      refine lv_isub C.1 C.2.1 dX5_watch_20 ?_
      refine lv_iload_n C.1 C.2.1 dX5_watch_21 rfl (lv_at hl 2 rfl) ?_
      refine r_min (rest := [.int 0]) C hl.1 bL_X5_88 (Nat.le_of_ble_eq_true rfl) (Nat.le_of_ble_eq_true rfl) ⟨Nat.le_refl _, Nat.le_refl _⟩ dX5_watch_22 ?_
      refine r_max (rest := []) C hl.1 bL_X5_99 (Nat.le_of_ble_eq_true rfl) (Nat.le_of_ble_eq_true rfl) ⟨Nat.le_refl _, Nat.le_refl _⟩ dX5_watch_25 ?_
      refine lv_istore_n (lv' := [(3, .int (if 0 < (if v < ((τ.1 16) - (τ.1 10)) then v else ((τ.1 16) - (τ.1 10))) then (if v < ((τ.1 16) - (τ.1 10)) then v else ((τ.1 16) - (τ.1 10))) else 0)), (0, .ref (q 25)), (1, .int z), (2, .int v)]) C.1 C.2.1 dX5_watch_28 rfl hl (by decide) rfl (fun ls hl => ?_)
      refine lv_aload_n C.1 C.2.1 dX5_watch_29 rfl (lv_at hl 1 rfl) ?_
      refine lv_dup C.1 C.2.1 dX5_watch_30 rfl ?_
      refine xG_Run_watched C hW bF_X5_48 (v := (τ.1 12)) rfl dX5_watch_31 ?_
      refine lv_iload_n C.1 C.2.1 dX5_watch_34 rfl (lv_at hl 3 rfl) ?_
      refine lv_iload_n C.1 C.2.1 dX5_watch_35 rfl (lv_at hl 0 rfl) ?_
      refine lv_isub C.1 C.2.1 dX5_watch_36 ?_
      refine lv_iadd C.1 C.2.1 dX5_watch_37 ?_
      refine xP_Run_watched C hW bF_X5_48 dX5_watch_38 (fun H locs hW => ?_)
      refine lv_aload_n C.1 C.2.1 dX5_watch_41 rfl (lv_at hl 1 rfl) ?_
      refine xG_Run_watchedOf C hW bF_X5_17 dX5_watch_42 ?_
      refine lv_iload_n C.1 C.2.1 dX5_watch_45 rfl (lv_at hl 2 rfl) ?_
      refine lv_dup2_11 C.1 C.2.1 dX5_watch_46 rfl rfl ?_
      refine xL_27 C hW zN (hz.trans (by omega)) (by omega) (v := (τ.2.1 21 zN)) rfl dX5_watch_47 ?_
      refine lv_iload_n C.1 C.2.1 dX5_watch_48 rfl (lv_at hl 3 rfl) ?_
      refine lv_iload_n C.1 C.2.1 dX5_watch_49 rfl (lv_at hl 0 rfl) ?_
      refine lv_isub C.1 C.2.1 dX5_watch_50 ?_
      refine lv_iadd C.1 C.2.1 dX5_watch_51 ?_
      refine xS_27 C hW zN (hz.trans (by omega)) (by omega) dX5_watch_52 (fun H locs hW => ?_)
      subst hQ
      exact r_vret ((sa (sg τ 12 ((τ.1 12) + (v - (if 0 < (if v < ((τ.1 16) - (τ.1 10)) then v else ((τ.1 16) - (τ.1 10))) then (if v < ((τ.1 16) - (τ.1 10)) then v else ((τ.1 16) - (τ.1 10))) else 0)))) 21 zN ((τ.2.1 21 zN) + (v - (if 0 < (if v < ((τ.1 16) - (τ.1 10)) then v else ((τ.1 16) - (τ.1 10))) then (if v < ((τ.1 16) - (τ.1 10)) then v else ((τ.1 16) - (τ.1 10))) else 0)))), ζ, ρ) C hW hr hk dX5_watch_53 (rfl)
    · skip
      have k_2 := (tn_lt hz (show (8 : Int32).toInt = 8 from by decide)).mp c_2
      exfalso; omega
set_option maxHeartbeats 4000000 in
set_option maxRecDepth 100000 in
theorem c_X5_repeat (l : Launch) (G : GG) (q : Nat → Nat) (nd sz : Nat) (τ ζ : ST) (ρ : RF) (o : Int32) (oN : Nat) (ho : o.toInt = (oN : Int)) (h_nd : nd ≤ 6) (ho60 : oN < 60) (h_ok : okK τ oN) (hk3 : (τ.2.1 18 oN).toInt = 3) : Met l yX5_repeat (WSb yX5_repeat cX5_repeat 3 (some .int)) (rmA 0 0) (va_Pc [.ref (q 25), .ref (q 19), .int o] (PW G (28 + 3 * nd) q sz (eX G q τ ζ ρ))) (va_Qi (fun (r : Int32) (u : (ST × ST × RF)) => r = nI (dnK τ (ζ.2.1 7) oN) ∧ u = (τ, (saF ζ 7 (dnL τ (ζ.2.1 7) oN)), ρ)) (fun u => BW G (28 + 3 * nd) q (eX G q u.1 u.2.1 u.2.2)) (FA (28 + 3 * nd) q sz)) 0 0 (FA (28 + 3 * nd) q sz) := by
  refine Met_B (own := RX5) rfl (by decide) (Nat.le_of_ble_eq_true rfl) (fun p e s m args below meth c ls hsz C hW hr hk hl QQ hQ => ?_)
  subst hsz
  have hl : lv_has ls 3 [(0, .ref (q 25)), (1, .ref (q 19)), (2, .int o)] := hl
  have ok := h_ok
  unfold okK at ok
  refine lv_aload_n C.1 C.2.1 dX5_repeat_0 rfl (lv_at hl 0 rfl) ?_
  refine xG_Run_remaining C hW bF_X5_11 dX5_repeat_1 ?_
  refine lv_iload_n C.1 C.2.1 dX5_repeat_4 rfl (lv_at hl 2 rfl) ?_
  refine xL_26 C hW oN (ho.trans (by omega)) (by omega) (v := (ζ.2.1 7 oN)) rfl dX5_repeat_5 ?_
  refine lv_if_le C.1 C.2.1 (tgt := 26) dX5_repeat_6 (by decide) (fun c_1 => ?_) (fun c_1 => ?_)
  · skip
    have k_1 := (tc_le (rfl : ((ζ.2.1 7 oN)).toInt = ((ζ.2.1 7 oN)).toInt) (show (0 : Int32).toInt = 0 from by decide)).mp c_1
    refine lv_aload_n C.1 C.2.1 dX5_repeat_26 rfl (lv_at hl 0 rfl) ?_
    refine xG_Run_remaining C hW bF_X5_11 dX5_repeat_27 ?_
    refine lv_iload_n C.1 C.2.1 dX5_repeat_30 rfl (lv_at hl 2 rfl) ?_
    refine lv_aload_n C.1 C.2.1 dX5_repeat_31 rfl (lv_at hl 1 rfl) ?_
    refine xG_Program_bs C hW bF_X5_63 dX5_repeat_32 ?_
    refine lv_iload_n C.1 C.2.1 dX5_repeat_35 rfl (lv_at hl 2 rfl) ?_
    refine xL_22 C hW oN (ho.trans (by omega)) (by omega) (v := (τ.2.1 20 oN)) rfl dX5_repeat_36 ?_
    refine xS_26 C hW oN (ho.trans (by omega)) (by omega) dX5_repeat_37 (fun H locs hW => ?_)
    refine lv_iload_n C.1 C.2.1 dX5_repeat_38 rfl (lv_at hl 2 rfl) ?_
    refine lv_iconst C.1 C.2.1 (v := 1) dX5_repeat_39 (by decide) ?_
    refine lv_iadd C.1 C.2.1 dX5_repeat_40 ?_
    subst hQ
    exact r_iret (τ, (sa ζ 7 oN (τ.2.1 20 oN)), ρ) C hW hr hk dX5_repeat_41 ⟨Int32.toInt_inj.mp (by rw [show dnK τ (ζ.2.1 7) oN = oN + 1 from if_neg (by omega), nI_toInt (by omega)]; exact (ti_add ho (show (1 : Int32).toInt = 1 from by decide) (by omega) (by omega)).trans (by omega)), by rw [show dnL τ (ζ.2.1 7) oN = upd (ζ.2.1 7) oN (τ.2.1 20 oN) from by unfold dnL; rw [if_pos (by omega), if_neg (by omega)]]; rfl⟩
  · skip
    have k_1 := (tn_le (rfl : ((ζ.2.1 7 oN)).toInt = ((ζ.2.1 7 oN)).toInt) (show (0 : Int32).toInt = 0 from by decide)).mp c_1
    refine lv_aload_n C.1 C.2.1 dX5_repeat_9 rfl (lv_at hl 0 rfl) ?_
    refine xG_Run_remaining C hW bF_X5_11 dX5_repeat_10 ?_
    refine lv_iload_n C.1 C.2.1 dX5_repeat_13 rfl (lv_at hl 2 rfl) ?_
    refine lv_dup2_11 C.1 C.2.1 dX5_repeat_14 rfl rfl ?_
    refine xL_26 C hW oN (ho.trans (by omega)) (by omega) (v := (ζ.2.1 7 oN)) rfl dX5_repeat_15 ?_
    refine lv_iconst C.1 C.2.1 (v := 1) dX5_repeat_16 (by decide) ?_
    refine lv_isub C.1 C.2.1 dX5_repeat_17 ?_
    refine xS_26 C hW oN (ho.trans (by omega)) (by omega) dX5_repeat_18 (fun H locs hW => ?_)
    refine lv_aload_n C.1 C.2.1 dX5_repeat_19 rfl (lv_at hl 1 rfl) ?_
    refine xG_Program_as C hW bF_X5_76 dX5_repeat_20 ?_
    refine lv_iload_n C.1 C.2.1 dX5_repeat_23 rfl (lv_at hl 2 rfl) ?_
    refine xL_21 C hW oN (ho.trans (by omega)) (by omega) (v := (τ.2.1 19 oN)) rfl dX5_repeat_24 ?_
    subst hQ
    exact r_iret (τ, (sa ζ 7 oN ((ζ.2.1 7 oN) - 1)), ρ) C hW hr hk dX5_repeat_25 ⟨Int32.toInt_inj.mp (by rw [show dnK τ (ζ.2.1 7) oN = (τ.2.1 19 oN).toInt.toNat from if_pos (by omega), nI_toInt (by omega)]; omega), by rw [show dnL τ (ζ.2.1 7) oN = upd (ζ.2.1 7) oN (ζ.2.1 7 oN - 1) from by unfold dnL; rw [if_pos (by omega), if_pos (by omega)]]; rfl⟩
