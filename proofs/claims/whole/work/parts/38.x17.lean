/-! how great a product can be -/
theorem mul_b {a b : Int} (h1 : -500 ≤ a) (h2 : a ≤ 500) (h3 : -500 ≤ b) (h4 : b ≤ 500) : -250000 ≤ a * b ∧ a * b ≤ 250000 := by
  have e1 := Int.mul_nonneg (show 0 ≤ 500 - a by omega) (show 0 ≤ 500 + b by omega)
  have e2 := Int.mul_nonneg (show 0 ≤ 500 + a by omega) (show 0 ≤ 500 - b by omega)
  have e3 := Int.mul_nonneg (show 0 ≤ 500 - a by omega) (show 0 ≤ 500 - b by omega)
  have e4 := Int.mul_nonneg (show 0 ≤ 500 + a by omega) (show 0 ≤ 500 + b by omega)
  simp only [Int.sub_mul, Int.add_mul, Int.mul_add, Int.mul_sub] at e1 e2 e3 e4
  omega
theorem smpV_b (τ : ST) (d i : Nat) : -500 ≤ (smpV τ d i).toInt ∧ (smpV τ d i).toInt ≤ 500 := by
  unfold smpV
  split
  · decide
  · split
    · decide
    · rw [Int32.toInt_toInt64]; omega
theorem mulS_b (τ : ST) (i a j b : Nat) : ∀ t : Nat, t ≤ 100 → -(250000 * (t : Int)) ≤ (mulS τ i a j b t).toInt ∧ (mulS τ i a j b t).toInt ≤ 250000 * (t : Int)
  | 0, _ => by
    show -(250000 * ((0 : Nat) : Int)) ≤ (0 : Int64).toInt ∧ (0 : Int64).toInt ≤ 250000 * ((0 : Nat) : Int)
    decide
  | t + 1, h => by
    have ih := mulS_b τ i a j b t (by omega)
    by_cases c : smp τ i (t + a) ∧ smp τ j (t + b)
    · rw [mulS, cIf_pos c]
      have b1 := smpV_b τ i (t + a)
      have b2 := smpV_b τ j (t + b)
      have b3 := mul_b b1.1 b1.2 b2.1 b2.2
      rw [tl_add rfl (tl_mul rfl rfl (by omega) (by omega)) (by omega) (by omega)]
      omega
    · rw [mulS, cIf_neg c]; omega
