/-! flags of the landed class -/
theorem flcN_lt {τ τ' : ST} {i j : Nat} : ∀ k, (∀ f, f < k → τ'.2.1 8 f = τ.2.1 8 f ∧ τ'.2.1 9 f = τ.2.1 9 f ∧ τ'.2.1 10 f = τ.2.1 10 f) → flcN τ' i j k = flcN τ i j k
  | 0, _ => rfl
  | k + 1, h => by rw [flcN, flcN, flcN_lt k (fun f hf => h f (by omega)), (h k (by omega)).1, (h k (by omega)).2.1, (h k (by omega)).2.2]
theorem XZ_flag {q : Nat → Nat} {nd D F aN bN : Nat} {τ ζ : ST} {ρ : RF} {d x y : Int32} (h : XZ q nd τ ζ ρ) (hd : d.toInt = (D : Int)) (ha : x.toInt = (aN : Int)) (hb : y.toInt = (bN : Int)) (hab : aN ≤ bN) (hb9 : bN ≤ 99) (hF : (τ.1 2).toInt = (F : Int)) (hF4 : F < 40) : XZ q nd (sg (sa (sa (sa τ 8 F d) 9 F x) 10 F y) 2 (τ.1 2 + 1)) (saF ζ 1 (rgF (100 * D + aN) (100 * D + (bN + 1)) 1 (ζ.2.1 1))) (va_up ρ 1 (va_up (ρ 1) F (some (q (28 + 3 * D))))) := by
  obtain ⟨a1, a2, a3, a4, a5, a6, a7⟩ := h
  have e2 : (τ.1 2 + 1).toInt = (F : Int) + 1 := ti_add hF (show (1 : Int32).toInt = 1 from by decide) (by omega) (by omega)
  refine ⟨a1, a2, a3, fun z hz j hj => ?_, a5, a6, fun f hf => ?_⟩
  · have h4 := a4 z hz j hj
    unfold flc at h4
    rw [hF, show ((F : Int)).toNat = F from rfl] at h4
    have e3 : flcN (sg (sa (sa (sa τ 8 F d) 9 F x) 10 F y) 2 (τ.1 2 + 1)) z j F = flcN τ z j F := flcN_lt F (fun f hf => ⟨if_neg (by omega), if_neg (by omega), if_neg (by omega)⟩)
    show rgF (100 * D + aN) (100 * D + (bN + 1)) 1 (ζ.2.1 1) (100 * z + j) = nI (flcN (sg (sa (sa (sa τ 8 F d) 9 F x) 10 F y) 2 (τ.1 2 + 1)) z j (τ.1 2 + 1).toInt.toNat)
    rw [e2, show ((F : Int) + 1).toNat = F + 1 from rfl, flcN, e3, show (sg (sa (sa (sa τ 8 F d) 9 F x) 10 F y) 2 (τ.1 2 + 1)).2.1 8 F = d from if_pos rfl, show (sg (sa (sa (sa τ 8 F d) 9 F x) 10 F y) 2 (τ.1 2 + 1)).2.1 9 F = x from if_pos rfl, show (sg (sa (sa (sa τ 8 F d) 9 F x) 10 F y) 2 (τ.1 2 + 1)).2.1 10 F = y from if_pos rfl, hd, ha, hb]
    unfold rgF
    by_cases c : D = z ∧ aN ≤ j ∧ j ≤ bN
    · rw [if_pos (show 100 * D + aN ≤ 100 * z + j ∧ 100 * z + j < 100 * D + (bN + 1) by omega), if_pos (show (D : Int) = (z : Int) ∧ (aN : Int) ≤ (j : Int) ∧ (j : Int) ≤ (bN : Int) by omega), h4]
      exact (nI_succ _).symm
    · rw [if_neg (show ¬ (100 * D + aN ≤ 100 * z + j ∧ 100 * z + j < 100 * D + (bN + 1)) by omega), if_neg (show ¬ ((D : Int) = (z : Int) ∧ (aN : Int) ≤ (j : Int) ∧ (j : Int) ≤ (bN : Int)) by omega), h4, Nat.add_zero]
  · have hf2 : (f : Int) < (τ.1 2 + 1).toInt := hf
    show (if f = F then some (q (28 + 3 * D)) else ρ 1 f) = some (q (28 + 3 * ((if f = F then d else τ.2.1 8 f)).toInt.toNat))
    by_cases e : f = F
    · rw [if_pos e, if_pos e, hd]; rfl
    · rw [if_neg e, if_neg e]; exact a7 f (by omega)
theorem nI_pred (n : Nat) : nI (n + 1) + -1 = nI n := by
  rw [nI_succ, Int32.add_assoc, show (1 : Int32) + -1 = 0 from by decide, Int32.add_zero]
theorem XZ_unflag {q : Nat → Nat} {nd F aN bN D : Nat} {τ ζ : ST} {ρ : RF} (h : XZ q nd τ ζ ρ) (hF : (τ.1 2).toInt = (F : Int) + 1) (hF4 : F < 40) (hd : (τ.2.1 8 F).toInt = (D : Int)) (ha : (τ.2.1 9 F).toInt = (aN : Int)) (hb : (τ.2.1 10 F).toInt = (bN : Int)) (hab : aN ≤ bN) (hb9 : bN ≤ 99) : XZ q nd (sg τ 2 (τ.1 2 - 1)) (saF ζ 1 (rgF (100 * D + aN) (100 * D + (bN + 1)) (-1) (ζ.2.1 1))) ρ := by
  obtain ⟨a1, a2, a3, a4, a5, a6, a7⟩ := h
  have e2 : (τ.1 2 - 1).toInt = (F : Int) := (ti_sub hF (show (1 : Int32).toInt = 1 from by decide) (by omega) (by omega)).trans (by omega)
  refine ⟨a1, a2, a3, fun z hz j hj => ?_, a5, a6, fun f hf => ?_⟩
  · have h4 := a4 z hz j hj
    unfold flc at h4
    rw [hF, show ((F : Int) + 1).toNat = F + 1 from rfl, flcN, hd, ha, hb] at h4
    have e3 : flcN (sg τ 2 (τ.1 2 - 1)) z j F = flcN τ z j F := flcN_eq rfl rfl rfl F
    show rgF (100 * D + aN) (100 * D + (bN + 1)) (-1) (ζ.2.1 1) (100 * z + j) = nI (flcN (sg τ 2 (τ.1 2 - 1)) z j (τ.1 2 - 1).toInt.toNat)
    rw [e2, show ((F : Int)).toNat = F from rfl, e3]
    unfold rgF
    by_cases c : D = z ∧ aN ≤ j ∧ j ≤ bN
    · rw [if_pos (show (D : Int) = (z : Int) ∧ (aN : Int) ≤ (j : Int) ∧ (j : Int) ≤ (bN : Int) by omega)] at h4
      rw [if_pos (show 100 * D + aN ≤ 100 * z + j ∧ 100 * z + j < 100 * D + (bN + 1) by omega), h4]
      exact nI_pred _
    · rw [if_neg (show ¬ ((D : Int) = (z : Int) ∧ (aN : Int) ≤ (j : Int) ∧ (j : Int) ≤ (bN : Int)) by omega), Nat.add_zero] at h4
      rw [if_neg (show ¬ (100 * D + aN ≤ 100 * z + j ∧ 100 * z + j < 100 * D + (bN + 1)) by omega), h4]
  · have hf2 : (f : Int) < (τ.1 2 - 1).toInt := hf
    exact a7 f (by omega)
