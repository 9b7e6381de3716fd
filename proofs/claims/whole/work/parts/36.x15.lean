/-! a new board of the landed class -/
theorem cut_eq {n : Nat} {f g h h' : Nat → Int64} (e : ∀ k, k < n → f k = g k) (e' : ∀ k, n ≤ k → h k = h' k) : cut n f h = cut n g h' := by
  funext k
  show (if k < n then f k else h k) = (if k < n then g k else h' k)
  by_cases c : k < n
  · rw [if_pos c, if_pos c]; exact e k c
  · rw [if_neg c, if_neg c]; exact e' k (by omega)
theorem cvN_new {τ ζ : ST} {kd : Int32} (hU : ∀ k, k < spN τ → ζ.2.1 5 k = spU τ k ∧ ζ.2.1 6 k = spV τ k ∧ ζ.2.2 0 k = spP τ k) (hn : (ζ.1 0).toInt.toNat = spN τ) (hk : kd.toInt = 0) (z : Nat) : cvN ζ z = newB τ kd z := by
  rw [newB_0 hk]
  unfold cvN
  rw [hn]; exact cvS_congr hU
/-- the state after the start of a new board, ghosts and all -/
noncomputable def boT (τ : ST) : ST := saF (saF (sg (stT τ) 17 (nI (spN τ))) 22 (cut (spN τ) (spU τ) (τ.2.1 22))) 23 (cut (spN τ) (spV τ) (τ.2.1 23))
theorem boT_kept {τ : ST} (h15 : spN τ ≤ 15) (x y : Int32) : keptB (boT τ) x y = bmS (spU τ) (spV τ) x y (spN τ) := by
  show bmS (cut (spN τ) (spU τ) (τ.2.1 22)) (cut (spN τ) (spV τ) (τ.2.1 23)) x y (nI (spN τ)).toInt.toNat = _
  rw [nI_toInt (by omega)]
  exact bmS_congr (fun k hk => ⟨if_pos hk, if_pos hk⟩)
theorem boT_kpN {τ ζ : ST} (h15 : spN τ ≤ 15) (hU : ∀ k, k < spN τ → ζ.2.1 5 k = spU τ k ∧ ζ.2.1 6 k = spV τ k) (hn : (ζ.1 0).toInt.toNat = spN τ) (z : Nat) : kpN ζ z = keptB (boT τ) (nI (z % 16)) (nI (z / 16)) := by
  rw [boT_kept h15]
  unfold kpN
  rw [hn]; exact bmS_congr hU
theorem boT_ptB {τ : ST} (h15 : spN τ ≤ 15) {z : Nat} (hz : z < 256) : ∀ k, ptB (boT τ) k z = cvP (τ.2.1 13) (τ.2.1 11) (τ.2.1 12) (spU τ) (spV τ) (spN τ) (nI (z % 16)) (nI (z / 16)) k
  | 0 => if_pos hz
  | k + 1 => by
    have ih := boT_ptB h15 hz k
    show (if z < 256 then ptB (boT τ) k z + (τ.2.1 13 k).toInt64 * (keptB (boT τ) (nI (z % 16) - τ.2.1 11 k) (nI (z / 16) - τ.2.1 12 k)).toInt64 else ptB (boT τ) k z) = _
    rw [if_pos hz, ih, boT_kept h15]; rfl
theorem boT_new {τ : ST} {kd : Int32} (h15 : spN τ ≤ 15) (hk : ¬ kd.toInt = 0) {z : Nat} (hz : z < 256) : ptB (boT τ) (τ.1 3).toInt.toNat z = newB τ kd z := by
  rw [newB_1 hk]; exact boT_ptB h15 hz _
theorem ptB_out {τ : ST} {z : Nat} (hz : 256 ≤ z) : ∀ k, ptB τ k z = τ.2.2 0 z
  | 0 => rfl
  | k + 1 => (if_neg (by omega)).trans (ptB_out hz k)
