/-! what holds of the common state at every call -/
def IV (τ : ST) : Prop :=
  (0 ≤ (τ.1 0).toInt ∧ (τ.1 0).toInt ≤ 6) ∧ (0 ≤ (τ.1 2).toInt ∧ (τ.1 2).toInt ≤ 40) ∧ (∀ d : Nat, d < 6 → 0 ≤ (τ.2.1 6 d).toInt ∧ (τ.2.1 6 d).toInt ≤ 100) ∧ (∀ d : Nat, d < 6 → 0 ≤ (τ.2.1 2 d).toInt ∧ (τ.2.1 2 d).toInt ≤ 30) ∧ (∀ z : Nat, z < 6 → -9 ≤ (τ.2.1 3 z).toInt ∧ (τ.2.1 3 z).toInt ≤ 9)
  ∧ (0 ≤ (τ.1 3).toInt ∧ (τ.1 3).toInt ≤ 10) ∧ (0 ≤ (τ.1 4).toInt ∧ (τ.1 4).toInt ≤ 200) ∧ (0 ≤ (τ.1 5).toInt ∧ (τ.1 5).toInt ≤ (τ.1 6).toInt ∧ (τ.1 6).toInt ≤ 15 ∧ 0 ≤ (τ.1 7).toInt ∧ (τ.1 7).toInt ≤ (τ.1 8).toInt ∧ (τ.1 8).toInt ≤ 15) ∧ (0 ≤ (τ.1 17).toInt ∧ (τ.1 17).toInt ≤ 15) ∧ (0 ≤ (τ.1 9).toInt ∧ (τ.1 9).toInt ≤ 60)
  ∧ (∀ z : Nat, z < 8 → 0 ≤ (τ.2.1 17 z).toInt ∧ (τ.2.1 17 z).toInt ≤ 1440) ∧ (∀ k : Nat, (k : Int) < (τ.1 9).toInt → okK τ k)
  ∧ (∀ f : Nat, (f : Int) < (τ.1 2).toInt → 0 ≤ (τ.2.1 8 f).toInt ∧ (τ.2.1 8 f).toInt < (τ.1 0).toInt ∧ 0 ≤ (τ.2.1 9 f).toInt ∧ (τ.2.1 9 f).toInt ≤ (τ.2.1 10 f).toInt ∧ (τ.2.1 10 f).toInt ≤ 99)
  ∧ NOD τ (τ.1 0).toInt.toNat
theorem st0_IV : IV st0 := by
  refine ⟨?_, ?_, ?_, ?_, ?_, ?_, ?_, ?_, ?_, ?_, ?_, ?_, ?_, ?_⟩
  · show 0 ≤ (0 : Int32).toInt ∧ (0 : Int32).toInt ≤ 6; decide
  · show 0 ≤ (0 : Int32).toInt ∧ (0 : Int32).toInt ≤ 40; decide
  · intro d _; show 0 ≤ (0 : Int32).toInt ∧ (0 : Int32).toInt ≤ 100; decide
  · intro d _; show 0 ≤ (0 : Int32).toInt ∧ (0 : Int32).toInt ≤ 30; decide
  · intro d _; show -9 ≤ (0 : Int32).toInt ∧ (0 : Int32).toInt ≤ 9; decide
  · show 0 ≤ (0 : Int32).toInt ∧ (0 : Int32).toInt ≤ 10; decide
  · show 0 ≤ (0 : Int32).toInt ∧ (0 : Int32).toInt ≤ 200; decide
  · show 0 ≤ (0 : Int32).toInt ∧ (0 : Int32).toInt ≤ (15 : Int32).toInt ∧ (15 : Int32).toInt ≤ 15 ∧ 0 ≤ (0 : Int32).toInt ∧ (0 : Int32).toInt ≤ (15 : Int32).toInt ∧ (15 : Int32).toInt ≤ 15; decide
  · show 0 ≤ (0 : Int32).toInt ∧ (0 : Int32).toInt ≤ 15; decide
  · show 0 ≤ (0 : Int32).toInt ∧ (0 : Int32).toInt ≤ 60; decide
  · intro d _; show 0 ≤ (0 : Int32).toInt ∧ (0 : Int32).toInt ≤ 1440; decide
  · intro k hk
    have hk2 : (k : Int) < (0 : Int32).toInt := hk
    rw [show (0 : Int32).toInt = 0 from by decide] at hk2
    omega
  · intro k hk
    have hk2 : (k : Int) < (0 : Int32).toInt := hk
    rw [show (0 : Int32).toInt = 0 from by decide] at hk2
    omega
  · intro z _ _
    exact ⟨rfl, by show (0 : Int32).toInt = 0; decide, rfl, fun _ _ => rfl⟩
theorem IV_fin {τ : ST} {v : Int32} (h : IV τ) : IV (sg τ 1 v) := h
theorem IV_eq {τ τ' : ST} (h : IV τ) (e : ∀ j, (j < 10 ∨ 16 < j) → τ'.1 j = τ.1 j) (r : ∀ r, r ≠ 21 → τ'.2.1 r = τ.2.1 r) : IV τ' := by
  unfold IV NOD okK at h ⊢
  rw [e 0 (by decide), e 2 (by decide), e 3 (by decide), e 4 (by decide), e 5 (by decide), e 6 (by decide), e 7 (by decide), e 8 (by decide), e 9 (by decide), e 17 (by decide), r 2 (by decide), r 3 (by decide), r 4 (by decide), r 5 (by decide), r 6 (by decide), r 7 (by decide), r 8 (by decide), r 9 (by decide), r 10 (by decide), r 17 (by decide), r 18 (by decide), r 19 (by decide), r 20 (by decide)]
  exact h
theorem iv_dish {τ : ST} {x y : Int32} (h : IV τ) : IV (sp_dish τ x y).2 := by
  unfold sp_dish
  (repeat' split) <;> try exact h
  rename_i hx h6
  obtain ⟨h1, h2, h3, h4, h5, h6', h7, h8, h9, h10, h11, h12, h13, h14⟩ := h
  have e1 : (τ.1 0 + 1).toInt = (τ.1 0).toInt + 1 := ti_add rfl (show (1 : Int32).toInt = 1 from by decide) (by omega) (by omega)
  refine ⟨?_, h2, h3, h4, fun z hz => ?_, h6', h7, h8, h9, h10, h11, h12, fun f hf => ?_, fun z hz hz6 => ?_⟩
  · show 0 ≤ (τ.1 0 + 1).toInt ∧ (τ.1 0 + 1).toInt ≤ 6; omega
  · show -9 ≤ (if z = (τ.1 0).toInt.toNat then (1 : Int32) else τ.2.1 3 z).toInt ∧ (if z = (τ.1 0).toInt.toNat then (1 : Int32) else τ.2.1 3 z).toInt ≤ 9
    split
    · decide
    · exact h5 z hz
  · have hf2 : (f : Int) < (τ.1 2).toInt := hf
    have := h13 f hf2
    show 0 ≤ (τ.2.1 8 f).toInt ∧ (τ.2.1 8 f).toInt < (τ.1 0 + 1).toInt ∧ 0 ≤ (τ.2.1 9 f).toInt ∧ (τ.2.1 9 f).toInt ≤ (τ.2.1 10 f).toInt ∧ (τ.2.1 10 f).toInt ≤ 99
    omega
  · have hz2 : (τ.1 0 + 1).toInt.toNat ≤ z := hz
    exact h14 z (by omega) hz6
theorem iv_tune {τ : ST} {d w g : Int32} (h : IV τ) : IV (sp_tune τ d w g).2 := by
  unfold sp_tune
  (repeat' split) <;> try exact h
  rename_i hx
  obtain ⟨h1, h2, h3, h4, h5, h6', h7, h8, h9, h10, h11, h12, h13, h14⟩ := h
  refine ⟨h1, h2, h3, fun z hz => ?_, fun z hz => ?_, h6', h7, h8, h9, h10, h11, h12, h13, fun z hz hz6 => ?_⟩
  · show 0 ≤ (if z = d.toInt.toNat then w else τ.2.1 2 z).toInt ∧ (if z = d.toInt.toNat then w else τ.2.1 2 z).toInt ≤ 30
    split
    · omega
    · exact h4 z hz
  · show -9 ≤ (if z = d.toInt.toNat then g else τ.2.1 3 z).toInt ∧ (if z = d.toInt.toNat then g else τ.2.1 3 z).toInt ≤ 9
    split
    · omega
    · exact h5 z hz
  · have hz2 : (τ.1 0).toInt.toNat ≤ z := hz
    have hz3 := h14 z hz2 hz6
    refine ⟨?_, hz3.2⟩
    show (if z = d.toInt.toNat then w else τ.2.1 2 z) = 0
    rw [if_neg (by omega)]; exact hz3.1
theorem iv_reel {τ : ST} {d f n : Int32} (h : IV τ) : IV (sp_reel τ d f n).2 := by
  unfold sp_reel
  (repeat' split) <;> try exact h
  rename_i hx hn
  obtain ⟨h1, h2, h3, h4, h5, h6', h7, h8, h9, h10, h11, h12, h13, h14⟩ := h
  refine ⟨h1, h2, fun z hz => ?_, h4, h5, h6', h7, h8, h9, h10, h11, h12, h13, fun z hz hz6 => ?_⟩
  · show 0 ≤ (if z = d.toInt.toNat then n else τ.2.1 6 z).toInt ∧ (if z = d.toInt.toNat then n else τ.2.1 6 z).toInt ≤ 100
    split
    · omega
    · exact h3 z hz
  · have hz2 : (τ.1 0).toInt.toNat ≤ z := hz
    have hz3 := h14 z hz2 hz6
    refine ⟨hz3.1, ?_, ?_, fun j hj => ?_⟩
    · show (if z = d.toInt.toNat then (1 : Int32) else τ.2.1 4 z).toInt = 0
      rw [if_neg (by omega)]; exact hz3.2.1
    · show (if z = d.toInt.toNat then f else τ.2.1 5 z) = 0
      rw [if_neg (by omega)]; exact hz3.2.2.1
    · show (if 100 * d.toInt.toNat ≤ 100 * z + j ∧ 100 * z + j < 100 * d.toInt.toNat + 100 then 0 else τ.2.1 7 (100 * z + j)) = 0
      rw [if_neg (by omega)]; exact hz3.2.2.2 j hj
theorem iv_lose {τ : ST} {d : Int32} (h : IV τ) : IV (sp_lose τ d).2 := by
  unfold sp_lose
  (repeat' split) <;> try exact h
  rename_i hx hn
  obtain ⟨h1, h2, h3, h4, h5, h6', h7, h8, h9, h10, h11, h12, h13, h14⟩ := h
  refine ⟨h1, h2, h3, h4, h5, h6', h7, h8, h9, h10, h11, h12, h13, fun z hz hz6 => ?_⟩
  have hz2 : (τ.1 0).toInt.toNat ≤ z := hz
  have hz3 := h14 z hz2 hz6
  refine ⟨hz3.1, ?_, hz3.2.2.1, hz3.2.2.2⟩
  show (if z = d.toInt.toNat then (0 : Int32) else τ.2.1 4 z).toInt = 0
  rw [if_neg (by omega)]; exact hz3.2.1
theorem iv_put {τ : ST} {d f i v : Int32} (h : IV τ) : IV (sp_put τ d f i v).2 := by
  unfold sp_put
  (repeat' split) <;> try exact h
  rename_i hx hn hf hi
  obtain ⟨h1, h2, h3, h4, h5, h6', h7, h8, h9, h10, h11, h12, h13, h14⟩ := h
  refine ⟨h1, h2, h3, h4, h5, h6', h7, h8, h9, h10, h11, h12, h13, fun z hz hz6 => ?_⟩
  have hz2 : (τ.1 0).toInt.toNat ≤ z := hz
  have hz3 := h14 z hz2 hz6
  have hs := h3 d.toInt.toNat (by omega)
  refine ⟨hz3.1, hz3.2.1, hz3.2.2.1, fun j hj => ?_⟩
  show (if 100 * z + j = (100 * d.toInt + i.toInt).toNat then nrw f v else τ.2.1 7 (100 * z + j)) = 0
  rw [if_neg (by omega)]; exact hz3.2.2.2 j hj
theorem iv_get {τ : ST} {d f i : Int32} (h : IV τ) : IV (sp_get τ d f i).2 := by
  unfold sp_get
  (repeat' split) <;> exact h
theorem iv_copy {τ : ST} {d i e j n : Int32} (h : IV τ) : IV (sp_copy τ d i e j n).2 := by
  unfold sp_copy
  (repeat' split) <;> try exact h
  rename_i hx hn hf hi
  obtain ⟨h1, h2, h3, h4, h5, h6', h7, h8, h9, h10, h11, h12, h13, h14⟩ := h
  refine ⟨h1, h2, h3, h4, h5, h6', h7, h8, h9, h10, h11, h12, h13, fun z hz hz6 => ?_⟩
  have hz2 : (τ.1 0).toInt.toNat ≤ z := hz
  have hz3 := h14 z hz2 hz6
  have hs := h3 e.toInt.toNat (by omega)
  refine ⟨hz3.1, hz3.2.1, hz3.2.2.1, fun k hk => ?_⟩
  show (if 100 * e.toInt.toNat + j.toInt.toNat ≤ 100 * z + k ∧ 100 * z + k < 100 * e.toInt.toNat + j.toInt.toNat + n.toInt.toNat then _ else τ.2.1 7 (100 * z + k)) = 0
  rw [if_neg (by omega)]; exact hz3.2.2.2 k hk
theorem iv_flag {τ : ST} {d x y : Int32} (h : IV τ) : IV (sp_flag τ d x y).2 := by
  unfold sp_flag
  (repeat' split) <;> try exact h
  rename_i hx h4'
  obtain ⟨h1, h2, h3, h4, h5, h6', h7, h8, h9, h10, h11, h12, h13, h14⟩ := h
  have e1 : (τ.1 2 + 1).toInt = (τ.1 2).toInt + 1 := ti_add rfl (show (1 : Int32).toInt = 1 from by decide) (by omega) (by omega)
  refine ⟨h1, ?_, h3, h4, h5, h6', h7, h8, h9, h10, h11, h12, fun f hf => ?_, h14⟩
  · show 0 ≤ (τ.1 2 + 1).toInt ∧ (τ.1 2 + 1).toInt ≤ 40; omega
  · have hf2 : (f : Int) < (τ.1 2 + 1).toInt := hf
    show 0 ≤ (if f = (τ.1 2).toInt.toNat then d else τ.2.1 8 f).toInt ∧ (if f = (τ.1 2).toInt.toNat then d else τ.2.1 8 f).toInt < (τ.1 0).toInt ∧ 0 ≤ (if f = (τ.1 2).toInt.toNat then x else τ.2.1 9 f).toInt ∧ (if f = (τ.1 2).toInt.toNat then x else τ.2.1 9 f).toInt ≤ (if f = (τ.1 2).toInt.toNat then y else τ.2.1 10 f).toInt ∧ (if f = (τ.1 2).toInt.toNat then y else τ.2.1 10 f).toInt ≤ 99
    by_cases c : f = (τ.1 2).toInt.toNat
    · rw [if_pos c, if_pos c, if_pos c]; omega
    · rw [if_neg c, if_neg c, if_neg c]; exact h13 f (by omega)
theorem iv_unflag {τ : ST} (h : IV τ) : IV (sp_unflag τ).2 := by
  unfold sp_unflag
  (repeat' split) <;> try exact h
  rename_i hx
  obtain ⟨h1, h2, h3, h4, h5, h6', h7, h8, h9, h10, h11, h12, h13, h14⟩ := h
  have e1 : (τ.1 2 - 1).toInt = (τ.1 2).toInt - 1 := ti_sub rfl (show (1 : Int32).toInt = 1 from by decide) (by omega) (by omega)
  refine ⟨h1, ?_, h3, h4, h5, h6', h7, h8, h9, h10, h11, h12, fun f hf => ?_, h14⟩
  · show 0 ≤ (τ.1 2 - 1).toInt ∧ (τ.1 2 - 1).toInt ≤ 40; omega
  · have hf2 : (f : Int) < (τ.1 2 - 1).toInt := hf
    exact h13 f (by omega)
theorem iv_point {τ : ST} {x y f : Int32} (h : IV τ) : IV (sp_point τ x y f).2 := by
  unfold sp_point
  (repeat' split) <;> try exact h
  rename_i hx h4'
  obtain ⟨h1, h2, h3, h4, h5, h6', h7, h8, h9, h10, h11, h12, h13, h14⟩ := h
  have e1 : (τ.1 3 + 1).toInt = (τ.1 3).toInt + 1 := ti_add rfl (show (1 : Int32).toInt = 1 from by decide) (by omega) (by omega)
  refine ⟨h1, h2, h3, h4, h5, ?_, h7, h8, h9, h10, h11, h12, h13, h14⟩
  show 0 ≤ (τ.1 3 + 1).toInt ∧ (τ.1 3 + 1).toInt ≤ 10; omega
theorem iv_dark {τ : ST} (h : IV τ) : IV (sp_dark τ).2 := by
  obtain ⟨h1, h2, h3, h4, h5, h6', h7, h8, h9, h10, h11, h12, h13, h14⟩ := h
  refine ⟨h1, h2, h3, h4, h5, ?_, h7, h8, h9, h10, h11, h12, h13, h14⟩
  show 0 ≤ (0 : Int32).toInt ∧ (0 : Int32).toInt ≤ 10; decide
theorem iv_wipe {τ : ST} (h : IV τ) : IV (sp_wipe τ).2 := by
  obtain ⟨h1, h2, h3, h4, h5, h6', h7, h8, h9, h10, h11, h12, h13, h14⟩ := h
  refine ⟨h1, h2, h3, h4, h5, h6', h7, h8, h9, ?_, h11, fun k hk => ?_, h13, h14⟩
  · show 0 ≤ (0 : Int32).toInt ∧ (0 : Int32).toInt ≤ 60; decide
  · have hk2 : (k : Int) < (0 : Int32).toInt := hk
    rw [show (0 : Int32).toInt = 0 from by decide] at hk2
    omega
theorem iv_window {τ : ST} {x y z w : Int32} (h : IV τ) : IV (sp_window τ x y z w).2 := by
  unfold sp_window
  (repeat' split) <;> try exact h
  rename_i hx
  obtain ⟨h1, h2, h3, h4, h5, h6', h7, h8, h9, h10, h11, h12, h13, h14⟩ := h
  refine ⟨h1, h2, h3, h4, h5, h6', h7, ?_, h9, h10, h11, h12, h13, h14⟩
  show 0 ≤ x.toInt ∧ x.toInt ≤ z.toInt ∧ z.toInt ≤ 15 ∧ 0 ≤ y.toInt ∧ y.toInt ≤ w.toInt ∧ w.toInt ≤ 15
  omega
theorem tkN_4 {sh : Int32} : ∀ (n : Nat) (τ : ST), (0 ≤ (τ.1 4).toInt ∧ (τ.1 4).toInt ≤ 200) → 0 ≤ ((tkN sh n τ).1 4).toInt ∧ ((tkN sh n τ).1 4).toInt ≤ 200
  | 0, _, h => h
  | n + 1, τ, h => by
    by_cases c : (τ.1 4).toInt < 200 ∧ ¬ (tkA τ sh).toInt = 0
    · rw [tkN_go c.1 c.2]
      refine tkN_4 n (tkT τ sh) ?_
      have e1 : (τ.1 4 + 1).toInt = (τ.1 4).toInt + 1 := ti_add rfl (show (1 : Int32).toInt = 1 from by decide) (by omega) (by omega)
      show 0 ≤ (τ.1 4 + 1).toInt ∧ (τ.1 4 + 1).toInt ≤ 200
      omega
    · rw [tkN_stop c]; exact h
theorem iv_take {τ : ST} {sh t : Int32} (h : IV τ) : IV (sp_take τ sh t).2 := by
  unfold sp_take
  (repeat' split) <;> try exact h
  have hk := tkN_keep (sh := sh) t.toInt.toNat τ
  have h4 := tkN_4 (sh := sh) t.toInt.toNat τ h.2.2.2.2.2.2.1
  show IV (tkN sh t.toInt.toNat τ)
  unfold IV NOD okK at h ⊢
  rw [hk.1 0 (by decide), hk.1 2 (by decide), hk.1 3 (by decide), hk.1 5 (by decide), hk.1 6 (by decide), hk.1 7 (by decide), hk.1 8 (by decide), hk.1 9 (by decide), hk.1 17 (by decide), hk.2 2 (by decide), hk.2 3 (by decide), hk.2 4 (by decide), hk.2 5 (by decide), hk.2 6 (by decide), hk.2 7 (by decide), hk.2 8 (by decide), hk.2 9 (by decide), hk.2 10 (by decide), hk.2 17 (by decide), hk.2 18 (by decide), hk.2 19 (by decide), hk.2 20 (by decide)]
  obtain ⟨h1, h2, h3, h4', h5, h6', h7, h8⟩ := h
  exact ⟨h1, h2, h3, h4', h5, h6', h4, h8⟩
theorem iv_back {τ : ST} (h : IV τ) : IV (sp_back τ).2 := by
  unfold sp_back
  (repeat' split) <;> try exact h
  rename_i hx
  obtain ⟨h1, h2, h3, h4, h5, h6', h7, h8, h9, h10, h11, h12, h13, h14⟩ := h
  have e1 : (τ.1 4 - 1).toInt = (τ.1 4).toInt - 1 := ti_sub rfl (show (1 : Int32).toInt = 1 from by decide) (by omega) (by omega)
  refine ⟨h1, h2, h3, h4, h5, h6', ?_, h8, h9, h10, h11, h12, h13, h14⟩
  show 0 ≤ (τ.1 4 - 1).toInt ∧ (τ.1 4 - 1).toInt ≤ 200; omega
theorem iv_source {τ : ST} {z a b : Int32} (h : IV τ) : IV (sp_source τ z a b).2 := by
  unfold sp_source
  (repeat' split) <;> try exact h
  rename_i hx
  obtain ⟨h1, h2, h3, h4, h5, h6', h7, h8, h9, h10, h11, h12, h13, h14⟩ := h
  refine ⟨h1, h2, h3, h4, h5, h6', h7, h8, h9, h10, fun y hy => ?_, h12, h13, h14⟩
  show 0 ≤ (if y = z.toInt.toNat then b else τ.2.1 17 y).toInt ∧ (if y = z.toInt.toNat then b else τ.2.1 17 y).toInt ≤ 1440
  split
  · omega
  · exact h11 y hy
theorem iv_order {τ : ST} {kd a b : Int32} (h : IV τ) : IV (sp_order τ kd a b).2 := by
  unfold sp_order
  by_cases c : okO τ kd a b
  · rw [cIf_pos c]
    split
    · exact h
    · rename_i hx
      obtain ⟨h1, h2, h3, h4, h5, h6', h7, h8, h9, h10, h11, h12, h13, h14⟩ := h
      have e1 : (τ.1 9 + 1).toInt = (τ.1 9).toInt + 1 := ti_add rfl (show (1 : Int32).toInt = 1 from by decide) (by omega) (by omega)
      refine ⟨h1, h2, h3, h4, h5, h6', h7, h8, h9, ?_, h11, fun k hk => ?_, h13, h14⟩
      · show 0 ≤ (τ.1 9 + 1).toInt ∧ (τ.1 9 + 1).toInt ≤ 60; omega
      · have hk2 : (k : Int) < (τ.1 9 + 1).toInt := hk
        have e18 : (sg (sa (sa (sa τ 18 (τ.1 9).toInt.toNat kd) 19 (τ.1 9).toInt.toNat a) 20 (τ.1 9).toInt.toNat b) 9 (τ.1 9 + 1)).2.1 18 k = (if k = (τ.1 9).toInt.toNat then kd else τ.2.1 18 k) := rfl
        have e19 : (sg (sa (sa (sa τ 18 (τ.1 9).toInt.toNat kd) 19 (τ.1 9).toInt.toNat a) 20 (τ.1 9).toInt.toNat b) 9 (τ.1 9 + 1)).2.1 19 k = (if k = (τ.1 9).toInt.toNat then a else τ.2.1 19 k) := rfl
        have e20 : (sg (sa (sa (sa τ 18 (τ.1 9).toInt.toNat kd) 19 (τ.1 9).toInt.toNat a) 20 (τ.1 9).toInt.toNat b) 9 (τ.1 9 + 1)).2.1 20 k = (if k = (τ.1 9).toInt.toNat then b else τ.2.1 20 k) := rfl
        unfold okK
        rw [e18, e19, e20]
        by_cases e : k = (τ.1 9).toInt.toNat
        · rw [if_pos e, if_pos e, if_pos e]
          unfold okO at c
          omega
        · rw [if_neg e, if_neg e, if_neg e]
          have h := h12 k (by omega)
          unfold okK at h
          exact h
  · rw [cIf_neg c]; exact h
theorem iv_night {τ : ST} {last : Int32} (h : IV τ) : IV (sp_night τ last).2 := by
  unfold sp_night
  split
  · exact IV_eq h (fun j hj => ((runN_keep 2001 0 (ini τ) (τ.2.1 20)).1 j hj).trans ((ini_keep τ).1 j hj)) (fun r hr => ((runN_keep 2001 0 (ini τ) (τ.2.1 20)).2 r hr).trans ((ini_keep τ).2 r hr))
  · exact h
theorem iv_board {τ : ST} {kd : Int32} (h : IV τ) : IV (sp_board τ kd).2 := by
  unfold sp_board
  split
  · obtain ⟨h1, h2, h3, h4, h5, h6', h7, h8, h9, h10, h11, h12, h13, h14⟩ := h
    have h15 : spN τ ≤ 15 := spL_len τ (by omega)
    refine ⟨h1, h2, h3, h4, h5, h6', ?_, ?_, ?_, h10, h11, h12, h13, h14⟩
    · show 0 ≤ (0 : Int32).toInt ∧ (0 : Int32).toInt ≤ 200; decide
    · show 0 ≤ (0 : Int32).toInt ∧ (0 : Int32).toInt ≤ (15 : Int32).toInt ∧ (15 : Int32).toInt ≤ 15 ∧ 0 ≤ (0 : Int32).toInt ∧ (0 : Int32).toInt ≤ (15 : Int32).toInt ∧ (15 : Int32).toInt ≤ 15; decide
    · show 0 ≤ (nI (spN τ)).toInt ∧ (nI (spN τ)).toInt ≤ 15
      rw [nI_toInt (by omega)]; omega
  · exact h
theorem iv_ticks {τ : ST} {i j : Int32} (h : IV τ) : IV (sp_ticks τ i j).2 := by rw [sp_ticks_2]; exact h
theorem iv_product {τ : ST} {i j : Int32} (h : IV τ) : IV (sp_product τ i j).2 := by rw [sp_product_2]; exact h
theorem iv_count {τ : ST} {w : Int32} (h : IV τ) : IV (sp_count τ w).2 := by rw [sp_count_2]; exact h
theorem iv_digest {τ : ST} (h : IV τ) : IV (sp_digest τ).2 := h
theorem iv_peak {τ : ST} (h : IV τ) : IV (sp_peak τ).2 := h
theorem iv_delay {τ : ST} {i j : Int32} (h : IV τ) : IV (sp_delay τ i j).2 := by
  unfold sp_delay
  (repeat' split) <;> exact h
theorem iv_three {τ : ST} {i j k : Int32} (h : IV τ) : IV (sp_three τ i j k).2 := by
  unfold sp_three
  (repeat' split) <;> exact h
theorem iv_four {τ : ST} {i j k n : Int32} (h : IV τ) : IV (sp_four τ i j k n).2 := by
  unfold sp_four
  (repeat' split) <;> exact h
theorem iv_beam {τ : ST} {x y : Int32} (h : IV τ) : IV (sp_beam τ x y).2 := by
  unfold sp_beam
  (repeat' split) <;> exact h
theorem iv_at {τ : ST} {x y : Int32} (h : IV τ) : IV (sp_at τ x y).2 := by
  unfold sp_at
  (repeat' split) <;> exact h
theorem iv_part {τ : ST} {k w : Int32} (h : IV τ) : IV (sp_part τ k w).2 := by
  unfold sp_part
  (repeat' split) <;> exact h
theorem iv_told {τ : ST} {w : Int32} (h : IV τ) : IV (sp_told τ w).2 := by
  unfold sp_told
  (repeat' split) <;> exact h
