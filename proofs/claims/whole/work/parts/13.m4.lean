/-! boards: spacings, beams, peaks, parts -/
def sbF (τ : ST) (k : Nat) (f : Nat → Int64) : ST := (τ.1, τ.2.1, va_up τ.2.2 k f)
theorem sbF_self (τ : ST) (k : Nat) : sbF τ k (τ.2.2 k) = τ := by
  unfold sbF
  refine Prod.ext rfl (Prod.ext rfl (funext fun j => ?_))
  by_cases h : j = k
  · subst h; simp [va_up]
  · simp [va_up, h]
theorem sbF_sb (τ : ST) (k j : Nat) (f : Nat → Int64) (v : Int64) : sb (sbF τ k f) k j v = sbF τ k (vp_updL f j v) := by
  unfold sbF sb
  refine Prod.ext rfl (Prod.ext rfl (funext fun i => ?_))
  by_cases h : i = k
  · subst h; simp [va_up]
  · simp [va_up, h]
def cut {α : Type} (n : Nat) (f g : Nat → α) : Nat → α := fun k => if k < n then f k else g k
theorem cut_0 {α : Type} (f g : Nat → α) : cut 0 f g = g := funext fun k => if_neg (by omega)
theorem cut_sL (n : Nat) (f g : Nat → Int64) : vp_updL (cut n f g) n (f n) = cut (n + 1) f g := by
  funext j
  simp only [vp_updL, cut]
  by_cases h : j = n
  · subst h; rw [if_pos rfl, if_pos (by omega)]
  · rw [if_neg h]
    by_cases h2 : j < n
    · rw [if_pos h2, if_pos (by omega)]
    · rw [if_neg h2, if_neg (by omega)]
theorem cut_sI (n : Nat) (f g : Nat → Int32) : upd (cut n f g) n (f n) = cut (n + 1) f g := by
  funext j
  simp only [upd, cut]
  by_cases h : j = n
  · subst h; rw [if_pos rfl, if_pos (by omega)]
  · rw [if_neg h]
    by_cases h2 : j < n
    · rw [if_pos h2, if_pos (by omega)]
    · rw [if_neg h2, if_neg (by omega)]
theorem cut_at {α : Type} (n : Nat) (f g : Nat → α) : cut n f g n = g n := if_neg (by omega)
/-- the sum of waves over n spacings -/
def bmS (U V : Nat → Int32) (x y : Int32) : Nat → Int32
  | 0 => 0
  | k + 1 => bmS U V x y k + wv ((U k * x + V k * y) &&& 15).toInt.toNat
theorem bmS_congr {U V U' V' : Nat → Int32} {x y : Int32} {n : Nat} (h : ∀ k, k < n → U k = U' k ∧ V k = V' k) : bmS U V x y n = bmS U' V' x y n := by
  induction n with
  | zero => rfl
  | succ n ih => rw [bmS, bmS, ih (fun k hk => h k (by omega)), (h n (by omega)).1, (h n (by omega)).2]
def keptB (τ : ST) (x y : Int32) : Int32 := bmS (τ.2.1 22) (τ.2.1 23) x y (τ.1 17).toInt.toNat
/-- the spacings: pairs i < j with a tick that counts, by i, then by j -/
noncomputable def rowL (τ : ST) (i : Nat) : Nat → List (Nat × Nat)
  | 0 => []
  | m + 1 => rowL τ i m ++ (if 0 < tck τ i (i + 1 + m) then [(i, i + 1 + m)] else [])
noncomputable def allL (τ : ST) (n : Nat) : Nat → List (Nat × Nat)
  | 0 => []
  | i + 1 => allL τ n i ++ rowL τ i (n - (i + 1))
noncomputable def spL (τ : ST) : List (Nat × Nat) := allL τ (τ.1 0).toInt.toNat (τ.1 0).toInt.toNat
theorem rowL_len (τ : ST) (i m : Nat) : (rowL τ i m).length ≤ m := by
  induction m with
  | zero => exact Nat.le_refl _
  | succ m ih =>
    unfold rowL
    rw [List.length_append]
    split <;> simp <;> omega
theorem allL_len (τ : ST) (n : Nat) (hn : n ≤ 6) : ∀ i, i ≤ n → (allL τ n i).length + (6 - i) * (5 - i) / 2 ≤ 15
  | 0, _ => by simp [allL]
  | i + 1, h => by
    have h1 := allL_len τ n hn i (by omega)
    have h2 := rowL_len τ i (n - (i + 1))
    unfold allL
    rw [List.length_append]
    generalize (allL τ n i).length = x1 at h1 ⊢
    generalize (rowL τ i (n - (i + 1))).length = x2 at h2 ⊢
    have : i = 0 ∨ i = 1 ∨ i = 2 ∨ i = 3 ∨ i = 4 ∨ i = 5 := by omega
    rcases this with rfl | rfl | rfl | rfl | rfl | rfl <;> simp at h1 ⊢ <;> omega
theorem allL_room (τ : ST) (n i m : Nat) (hn : n ≤ 6) (hi : i < n) (hm : i + 1 + m < n) : (allL τ n i ++ rowL τ i m).length < 15 := by
  have h1 := allL_len τ n hn i (by omega)
  have h2 := rowL_len τ i m
  rw [List.length_append]
  generalize (allL τ n i).length = x1 at h1 ⊢
  generalize (rowL τ i m).length = x2 at h2 ⊢
  have : i = 0 ∨ i = 1 ∨ i = 2 ∨ i = 3 ∨ i = 4 ∨ i = 5 := by omega
  rcases this with rfl | rfl | rfl | rfl | rfl | rfl <;> simp at h1 ⊢ <;> omega
theorem spL_len (τ : ST) (h : (τ.1 0).toInt.toNat ≤ 6) : (spL τ).length ≤ 15 := by
  have := allL_len τ _ h _ (Nat.le_refl _)
  unfold spL
  omega
noncomputable def spN (τ : ST) : Nat := (spL τ).length
noncomputable def lU (τ : ST) (L : List (Nat × Nat)) (k : Nat) : Int32 := τ.2.1 0 (L.getD k (0, 0)).2 - τ.2.1 0 (L.getD k (0, 0)).1
noncomputable def lV (τ : ST) (L : List (Nat × Nat)) (k : Nat) : Int32 := τ.2.1 1 (L.getD k (0, 0)).2 - τ.2.1 1 (L.getD k (0, 0)).1
noncomputable def lP (τ : ST) (L : List (Nat × Nat)) (k : Nat) : Int64 := prd τ (L.getD k (0, 0)).1 (L.getD k (0, 0)).2
noncomputable def spU (τ : ST) : Nat → Int32 := lU τ (spL τ)
noncomputable def spV (τ : ST) : Nat → Int32 := lV τ (spL τ)
noncomputable def spP (τ : ST) : Nat → Int64 := lP τ (spL τ)
/-- three rows hold a list of spacings -/
def holds (τ : ST) (U V : Nat → Int32) (Pd : Nat → Int64) (L : List (Nat × Nat)) : Prop := ∀ k, k < L.length → U k = lU τ L k ∧ V k = lV τ L k ∧ Pd k = lP τ L k
theorem holds_nil (τ : ST) (U V : Nat → Int32) (Pd : Nat → Int64) : holds τ U V Pd [] := fun k h => absurd h (Nat.not_lt_zero _)
theorem holds_add {τ : ST} {U V : Nat → Int32} {Pd : Nat → Int64} {L : List (Nat × Nat)} (h : holds τ U V Pd L) (i j : Nat) : holds τ (upd U L.length (τ.2.1 0 j - τ.2.1 0 i)) (upd V L.length (τ.2.1 1 j - τ.2.1 1 i)) (vp_updL Pd L.length (prd τ i j)) (L ++ [(i, j)]) := by
  intro k hk
  simp only [List.length_append, List.length_singleton] at hk
  by_cases e : k = L.length
  · subst e
    simp [upd, vp_updL, lU, lV, lP, List.getD_eq_getElem?_getD]
  · have hk2 : k < L.length := by omega
    obtain ⟨h1, h2, h3⟩ := h k hk2
    have e1 : (L ++ [(i, j)]).getD k (0, 0) = L.getD k (0, 0) := by
      simp [List.getD_eq_getElem?_getD, List.getElem?_append_left hk2]
    refine ⟨?_, ?_, ?_⟩
    · simp only [upd, if_neg e, lU, e1]; exact h1
    · simp only [upd, if_neg e, lV, e1]; exact h2
    · simp only [vp_updL, if_neg e, lP, e1]; exact h3
theorem rowL_y {τ : ST} {i m : Nat} (h : 0 < tck τ i (i + 1 + m)) (L : List (Nat × Nat)) : L ++ rowL τ i (m + 1) = L ++ rowL τ i m ++ [(i, i + 1 + m)] := by
  rw [rowL, if_pos h, List.append_assoc]
theorem rowL_n {τ : ST} {i m : Nat} (h : ¬ 0 < tck τ i (i + 1 + m)) (L : List (Nat × Nat)) : L ++ rowL τ i (m + 1) = L ++ rowL τ i m := by
  rw [rowL, if_neg h, List.append_nil]
theorem len_y {L : List (Nat × Nat)} {a : Nat × Nat} {x : Int32} (h : x = nI L.length) : x + 1 = nI (L ++ [a]).length := by
  rw [h, List.length_append, List.length_singleton]; exact (nI_succ _).symm
noncomputable def sp_beam (τ : ST) (x y : Int32) : Int32 × ST := if (-1000 ≤ x.toInt ∧ x.toInt ≤ 1000) ∧ -1000 ≤ y.toInt ∧ y.toInt ≤ 1000 then (bmS (spU τ) (spV τ) x y (spN τ), τ) else (-2147483648, τ)
/-- THE PEAK of a board -/
def pkR (f : Nat → Int64) (y lx best : Nat) : Nat → Nat
  | 0 => best
  | k + 1 => if (amt (f (pkR f y lx best k))).toInt < (amt (f (16 * y + (lx + k)))).toInt then 16 * y + (lx + k) else pkR f y lx best k
def pkA (f : Nat → Int64) (ly lx w : Nat) : Nat → Nat
  | 0 => 16 * ly + lx
  | k + 1 => pkR f (ly + k) lx (pkA f ly lx w k) w
def pk (τ : ST) : Nat := pkA (τ.2.2 0) (τ.1 7).toInt.toNat (τ.1 5).toInt.toNat ((τ.1 6).toInt.toNat + 1 - (τ.1 5).toInt.toNat) ((τ.1 8).toInt.toNat + 1 - (τ.1 7).toInt.toNat)
theorem pkR_lt {f : Nat → Int64} {y lx best : Nat} (hb : best < 256) (hy : y < 16) : ∀ k, lx + k ≤ 16 → pkR f y lx best k < 256
  | 0, _ => hb
  | k + 1, h => by
    have := pkR_lt (f := f) (lx := lx) hb hy k (by omega)
    unfold pkR
    split <;> omega
theorem pkA_lt {f : Nat → Int64} {ly lx w : Nat} (hl : ly < 16) (hx : lx < 16) (hw : lx + w ≤ 16) : ∀ k, ly + k ≤ 16 → pkA f ly lx w k < 256
  | 0, _ => by unfold pkA; omega
  | k + 1, h => pkR_lt (pkA_lt hl hx hw k (by omega)) (by omega) w hw
def sp_peak (τ : ST) : Int32 × ST := (nI (pk τ), τ)
/-- so often the kept beam at a cell comes to the board -/
def layN (τ : ST) (cell : Int32) (a : Int64) : Nat → Int64 := fun c => τ.2.2 0 c + a * (keptB τ (nI (c % 16) - (cell - cell / 16 * 16)) (nI (c / 16) - cell / 16)).toInt64
def lay (τ : ST) (cell : Int32) (a : Int64) : ST := sbF τ 0 (cut 256 (layN τ cell a) (τ.2.2 0))
def by0 (τ : ST) : Int64 := 100 * (keptB τ 0 0).toInt64
def tkA (τ : ST) (sh : Int32) : Int64 := if (by0 τ).toInt = 0 then 0 else τ.2.2 0 (pk τ) * sh.toInt64 / by0 τ
def tkT (τ : ST) (sh : Int32) : ST := sg (sb (sa (lay τ (nI (pk τ)) (-(tkA τ sh))) 14 (τ.1 4).toInt.toNat (nI (pk τ))) 1 (τ.1 4).toInt.toNat (tkA τ sh)) 4 (τ.1 4 + 1)
def tkN (sh : Int32) : Nat → ST → ST
  | 0, τ => τ
  | k + 1, τ => if (τ.1 4).toInt < 200 ∧ ¬ (tkA τ sh).toInt = 0 then tkN sh k (tkT τ sh) else τ
def sp_take (τ : ST) (sh t : Int32) : Int32 × ST := if (1 ≤ sh.toInt ∧ sh.toInt ≤ 100) ∧ 1 ≤ t.toInt ∧ t.toInt ≤ 50 then (if (τ.1 4).toInt = 200 then (-3, τ) else ((tkN sh t.toInt.toNat τ).1 4, tkN sh t.toInt.toNat τ)) else (-2, τ)
def sp_back (τ : ST) : Int32 × ST := if (τ.1 4).toInt = 0 then (-4, τ) else (τ.1 4 - 1, lay (sg τ 4 (τ.1 4 - 1)) (τ.2.1 14 ((τ.1 4).toInt - 1).toNat) (τ.2.2 1 ((τ.1 4).toInt - 1).toNat))
/-- a new board: of products, of points -/
def cvS (Pd : Nat → Int64) (U V : Nat → Int32) (x y : Int32) : Nat → Int64
  | 0 => 0
  | k + 1 => cvS Pd U V x y k + Pd k * (wv ((U k * x + V k * y) &&& 15).toInt.toNat).toInt64
def cvP (F X Y U V : Nat → Int32) (n : Nat) (x y : Int32) : Nat → Int64
  | 0 => 0
  | k + 1 => cvP F X Y U V n x y k + (F k).toInt64 * (bmS U V (x - X k) (y - Y k) n).toInt64
theorem cvS_congr {Pd Pd' : Nat → Int64} {U V U' V' : Nat → Int32} {x y : Int32} {n : Nat} (h : ∀ k, k < n → U k = U' k ∧ V k = V' k ∧ Pd k = Pd' k) : cvS Pd U V x y n = cvS Pd' U' V' x y n := by
  induction n with
  | zero => rfl
  | succ n ih => rw [cvS, cvS, ih (fun k hk => h k (by omega)), (h n (by omega)).1, (h n (by omega)).2.1, (h n (by omega)).2.2]
theorem cvP_congr {F X Y U V U' V' : Nat → Int32} {x y : Int32} {n m : Nat} (h : ∀ k, k < n → U k = U' k ∧ V k = V' k) : cvP F X Y U V n x y m = cvP F X Y U' V' n x y m := by
  induction m with
  | zero => rfl
  | succ m ih => rw [cvP, cvP, ih, bmS_congr h]
noncomputable def newB (τ : ST) (kind : Int32) (c : Nat) : Int64 := if kind.toInt = 0 then cvS (spP τ) (spU τ) (spV τ) (nI (c % 16)) (nI (c / 16)) (spN τ) else cvP (τ.2.1 13) (τ.2.1 11) (τ.2.1 12) (spU τ) (spV τ) (spN τ) (nI (c % 16)) (nI (c / 16)) (τ.1 3).toInt.toNat
noncomputable def sp_board (τ : ST) (kind : Int32) : Int32 × ST := if 0 ≤ kind.toInt ∧ kind.toInt ≤ 1 then (nI (spN τ), sg (sg (sg (sg (sg (saF (saF (sg (sbF τ 0 (cut 256 (newB τ kind) (τ.2.2 0))) 17 (nI (spN τ))) 22 (cut (spN τ) (spU τ) (τ.2.1 22))) 23 (cut (spN τ) (spV τ) (τ.2.1 23))) 4 0) 5 0) 6 15) 7 0) 8 15) else (-2, τ)
set_option maxHeartbeats 4000000 in
set_option maxRecDepth 100000 in
theorem c_X8_space (l : Launch) (G : GG) (q : Nat → Nat) (sz : Nat) (τ ξ : ST) (h_d : 0 ≤ (τ.1 0).toInt ∧ (τ.1 0).toInt ≤ 6) (h_l : ∀ d : Nat, d < 6 → 0 ≤ (τ.2.1 2 d).toInt ∧ (τ.2.1 2 d).toInt ≤ 30) (h_f : 0 ≤ (τ.1 2).toInt ∧ (τ.1 2).toInt ≤ 40) (h_s : ∀ d : Nat, d < 6 → 0 ≤ (τ.2.1 6 d).toInt ∧ (τ.2.1 6 d).toInt ≤ 100) : Met l yX8_space (WSb yX8_space cX8_space 5 none) (rmA 4 97) (va_Pc [.ref (q 0)] (PW G 33 q sz (eM G q τ ξ))) (va_Qv (fun (u : (ST × ST)) => ∃ (ξ1 : ST), u = (τ, ξ1) ∧ (ξ1.1 0 = nI (spN τ)) ∧ (holds τ (ξ1.2.1 0) (ξ1.2.1 1) (ξ1.2.2 0) (spL τ))) (fun u => BW G 33 q (eM G q u.1 u.2)) (FA 33 q sz)) 0 0 (FA 33 q sz) := by
  refine Met_B (own := RX8) rfl (by decide) (Nat.le_of_ble_eq_true rfl) (fun p e s m args below meth c ls hsz C hW hr hk hl QQ hQ => ?_)
  subst hsz
  have hl : lv_has ls 5 [(0, .ref (q 0))] := hl
  refine lv_aload_n C.1 C.2.1 dX8_space_0 rfl (lv_at hl 0 rfl) ?_
  refine lv_iconst C.1 C.2.1 (v := 0) dX8_space_1 (by decide) ?_
  refine mP_spacings C hW dX8_space_2 (fun H locs hW => ?_)
  refine lv_iconst C.1 C.2.1 (v := 0) dX8_space_5 (by decide) ?_
  refine lv_istore_n (lv' := [(1, .int 0), (0, .ref (q 0))]) C.1 C.2.1 dX8_space_6 rfl hl (by decide) rfl (fun ls hl => ?_)
  have L_7_1 : ∀ (fuel : Nat) (i : Nat) (x1 : Int32) (ξ1 : ST), (τ.1 0).toInt.toNat - i < fuel → (x1.toInt = (i : Int)) → (i ≤ (τ.1 0).toInt.toNat) → (ξ1.1 0 = nI (allL τ (τ.1 0).toInt.toNat i).length) → (holds τ (ξ1.2.1 0) (ξ1.2.1 1) (ξ1.2.2 0) (allL τ (τ.1 0).toInt.toNat i)) → ∀ (H : Heap) (locs : List Loc) (ls : Array Slot), WB G 33 q (eM G q τ ξ1) s H locs → lv_has ls 5 [(1, .int x1), (0, .ref (q 0))] → W p l e (rmA 4 97) s m args below meth c H locs 0 0 QQ (F0 m 7 ls []) := by
    intro fuel; induction fuel with
    | zero => intro i x1 ξ1 hf; exact absurd hf (Nat.not_lt_zero _)
    | succ fuel ih_7 =>
      intro i x1 ξ1 hf hi hile hs hh H locs ls hW hl
      refine lv_iload_n C.1 C.2.1 dX8_space_7 rfl (lv_at hl 0 rfl) ?_
      refine lv_aload_n C.1 C.2.1 dX8_space_8 rfl (lv_at hl 1 rfl) ?_
      refine mG_dishes C hW (v := (τ.1 0)) rfl dX8_space_9 ?_
      refine lv_icmp_ge C.1 C.2.1 (tgt := 117) dX8_space_12 (by decide) (fun c_2 => ?_) (fun c_2 => ?_)
      · skip
        have k_2 := (tc_le (rfl : ((τ.1 0)).toInt = ((τ.1 0)).toInt) hi).mp c_2
        have e : i = (τ.1 0).toInt.toNat := by omega
        rw [e] at hs hh
        subst hQ
        exact r_vret (τ, ξ1) C hW hr hk dX8_space_117 ⟨_, rfl, hs, hh⟩
      · skip
        have k_2 := (tn_le (rfl : ((τ.1 0)).toInt = ((τ.1 0)).toInt) hi).mp c_2
        refine lv_iload_n C.1 C.2.1 dX8_space_15 rfl (lv_at hl 0 rfl) ?_
        refine lv_iconst C.1 C.2.1 (v := 1) dX8_space_16 (by decide) ?_
        refine lv_iadd C.1 C.2.1 dX8_space_17 ?_
        refine lv_istore_n (lv' := [(2, .int (x1 + 1)), (1, .int x1), (0, .ref (q 0))]) C.1 C.2.1 dX8_space_18 rfl hl (by decide) rfl (fun ls hl => ?_)
        have L_19_3 : ∀ (fuel : Nat) (jm : Nat) (x2 : Int32) (ξ2 : ST), (τ.1 0).toInt.toNat - jm < fuel → (x2.toInt = ((i + 1 + jm : Nat) : Int)) → (i + 1 + jm ≤ (τ.1 0).toInt.toNat) → (ξ2.1 0 = nI (allL τ (τ.1 0).toInt.toNat i ++ rowL τ i jm).length) → (holds τ (ξ2.2.1 0) (ξ2.2.1 1) (ξ2.2.2 0) (allL τ (τ.1 0).toInt.toNat i ++ rowL τ i jm)) → ∀ (H : Heap) (locs : List Loc) (ls : Array Slot), WB G 33 q (eM G q τ ξ2) s H locs → lv_has ls 5 [(2, .int x2), (1, .int x1), (0, .ref (q 0))] → W p l e (rmA 4 97) s m args below meth c H locs 0 0 QQ (F0 m 19 ls []) := by
          intro fuel; induction fuel with
          | zero => intro jm x2 ξ2 hf; exact absurd hf (Nat.not_lt_zero _)
          | succ fuel ih_19 =>
            intro jm x2 ξ2 hf hm hmle hs2 hh2 H locs ls hW hl
            have hL := allL_len τ (τ.1 0).toInt.toNat (by omega) i (by omega)
            have hR := rowL_len τ i jm
            have hs2i : (ξ2.1 0).toInt = (((allL τ (τ.1 0).toInt.toNat i ++ rowL τ i jm).length : Nat) : Int) := by rw [hs2]; exact nI_toInt (by rw [List.length_append]; omega)
            refine lv_iload_n C.1 C.2.1 dX8_space_19 rfl (lv_at hl 0 rfl) ?_
            refine lv_aload_n C.1 C.2.1 dX8_space_20 rfl (lv_at hl 2 rfl) ?_
            refine mG_dishes C hW (v := (τ.1 0)) rfl dX8_space_21 ?_
            refine lv_icmp_ge C.1 C.2.1 (tgt := 111) dX8_space_24 (by decide) (fun c_4 => ?_) (fun c_4 => ?_)
            · skip
              have k_4 := (tc_le (rfl : ((τ.1 0)).toInt = ((τ.1 0)).toInt) hm).mp c_4
              have em : jm = (τ.1 0).toInt.toNat - (i + 1) := by omega
              refine lv_iinc (v := (x1 + 1)) (lv' := [(1, .int (x1 + 1)), (2, .int x2), (0, .ref (q 0))]) C.1 C.2.1 dX8_space_111 hl (k := 1) rfl rfl (by decide) rfl (fun ls hl => ?_)
              refine lv_goto C.1 C.2.1 (tgt := 7) dX8_space_114 (by decide) ?_
              exact ih_7 (i + 1) (x1 + 1) ξ2 (by omega) ((ti_add hi (show (1 : Int32).toInt = 1 from by decide) (by omega) (by omega)).trans (by omega)) (by omega) (by rw [em] at hs2; exact hs2) (by rw [em] at hh2; exact hh2) _ _ _ hW (lv_sub hl [0, 2] rfl)
            · skip
              have k_4 := (tn_le (rfl : ((τ.1 0)).toInt = ((τ.1 0)).toInt) hm).mp c_4
              refine lv_aload_n C.1 C.2.1 dX8_space_27 rfl (lv_at hl 2 rfl) ?_
              refine lv_iload_n C.1 C.2.1 dX8_space_28 rfl (lv_at hl 1 rfl) ?_
              refine lv_iload_n C.1 C.2.1 dX8_space_29 rfl (lv_at hl 0 rfl) ?_
              refine go_l hW (run_V (o := 0) (As := [.int x1, .int x2]) (rest := []) C hW (by decide) rfl rfl (c_X8_productOf l G q _ τ ξ2 x1 x2 i (i + 1 + jm) (hi.trans (by omega)) (hm.trans (by omega)) (by omega) (by omega) h_l h_f h_s) (cw_V 2 C bL_X8_172 bI_X8_productOf bV_X8_productOf bN_X8 bC_X8_productOf ⟨rfl, rfl⟩ (by decide +kernel) ⟨Nat.le_of_ble_eq_true rfl, Nat.le_of_ble_eq_true rfl⟩) rfl hl.1 rfl (Nat.le_of_ble_eq_true rfl) dX8_space_30 ⟨Nat.le_refl _, Nat.le_refl _⟩) (fun r_5 u_5 H locs hp_5 hW => ?_)
              rcases hp_5 with ⟨rfl, rfl⟩
              have hW : WB G 33 q (eM G q τ (sg ξ2 1 (nI (tck τ i (i + 1 + jm))))) s H locs := hW
              have et := nI_toInt (n := tck τ i (i + 1 + jm)) (by have := mulC_le τ i (dl τ i) (i + 1 + jm) (dl τ (i + 1 + jm)) 100; unfold tck; omega)
              refine lv_lstore_n (lv' := [(3, .long (prd τ i (i + 1 + jm))), (2, .int x2), (1, .int x1), (0, .ref (q 0))]) C.1 C.2.1 dX8_space_33 rfl hl (by decide) rfl (fun ls hl => ?_)
              refine lv_aload_n C.1 C.2.1 dX8_space_34 rfl (lv_at hl 3 rfl) ?_
              refine mG_counted C hW (v := (nI (tck τ i (i + 1 + jm)))) rfl dX8_space_35 ?_
              refine lv_if_le C.1 C.2.1 (tgt := 105) dX8_space_38 (by decide) (fun c_6 => ?_) (fun c_6 => ?_)
              · skip
                have k_6 := (tc_le (rfl : ((nI (tck τ i (i + 1 + jm)))).toInt = ((nI (tck τ i (i + 1 + jm)))).toInt) (show (0 : Int32).toInt = 0 from by decide)).mp c_6
                rw [et] at k_6
                have hz : ¬ 0 < tck τ i (i + 1 + jm) := by omega
                refine lv_iinc (v := (x2 + 1)) (lv' := [(2, .int (x2 + 1)), (3, .long (prd τ i (i + 1 + jm))), (1, .int x1), (0, .ref (q 0))]) C.1 C.2.1 dX8_space_105 hl (k := 1) rfl rfl (by decide) rfl (fun ls hl => ?_)
                refine lv_goto C.1 C.2.1 (tgt := 19) dX8_space_108 (by decide) ?_
                exact ih_19 (jm + 1) (x2 + 1) (sg ξ2 1 (nI (tck τ i (i + 1 + jm)))) (by omega) ((ti_add hm (show (1 : Int32).toInt = 1 from by decide) (by omega) (by omega)).trans (by omega)) (by omega) (by first | (rw [rowL_n hz]; exact hs2) | (rw [rowL_y hz]; exact len_y hs2)) (by first | (rw [rowL_n hz]; exact hh2) | (rw [rowL_y hz]; exact holds_add hh2 i (i + 1 + jm))) _ _ _ hW (lv_sub hl [0, 2, 3] rfl)
              · skip
                have k_6 := (tn_le (rfl : ((nI (tck τ i (i + 1 + jm)))).toInt = ((nI (tck τ i (i + 1 + jm)))).toInt) (show (0 : Int32).toInt = 0 from by decide)).mp c_6
                rw [et] at k_6
                have hz : 0 < tck τ i (i + 1 + jm) := by omega
                have hroom := allL_room τ (τ.1 0).toInt.toNat i jm (by omega) (by omega) (by omega)
                refine lv_aload_n C.1 C.2.1 dX8_space_41 rfl (lv_at hl 3 rfl) ?_
                refine mG_spaceU C hW dX8_space_42 ?_
                refine lv_aload_n C.1 C.2.1 dX8_space_45 rfl (lv_at hl 3 rfl) ?_
                refine mG_spacings C hW (v := (ξ2.1 0)) rfl dX8_space_46 ?_
                refine lv_aload_n C.1 C.2.1 dX8_space_49 rfl (lv_at hl 3 rfl) ?_
                refine mG_placeX C hW dX8_space_50 ?_
                refine lv_iload_n C.1 C.2.1 dX8_space_53 rfl (lv_at hl 1 rfl) ?_
                refine mL_placeX C hW (i + 1 + jm) (hm.trans (by omega)) (by omega) (v := (τ.2.1 0 (i + 1 + jm))) rfl dX8_space_54 ?_
                refine lv_aload_n C.1 C.2.1 dX8_space_55 rfl (lv_at hl 3 rfl) ?_
                refine mG_placeX C hW dX8_space_56 ?_
                refine lv_iload_n C.1 C.2.1 dX8_space_59 rfl (lv_at hl 2 rfl) ?_
                refine mL_placeX C hW i (hi.trans (by omega)) (by omega) (v := (τ.2.1 0 i)) rfl dX8_space_60 ?_
                refine lv_isub C.1 C.2.1 dX8_space_61 ?_
                refine mS_spaceU C hW ((allL τ (τ.1 0).toInt.toNat i ++ rowL τ i jm).length) (hs2i.trans (by omega)) (by omega) dX8_space_62 (fun H locs hW => ?_)
                refine lv_aload_n C.1 C.2.1 dX8_space_63 rfl (lv_at hl 3 rfl) ?_
                refine mG_spaceV C hW dX8_space_64 ?_
                refine lv_aload_n C.1 C.2.1 dX8_space_67 rfl (lv_at hl 3 rfl) ?_
                refine mG_spacings C hW (v := (ξ2.1 0)) rfl dX8_space_68 ?_
                refine lv_aload_n C.1 C.2.1 dX8_space_71 rfl (lv_at hl 3 rfl) ?_
                refine mG_placeY C hW dX8_space_72 ?_
                refine lv_iload_n C.1 C.2.1 dX8_space_75 rfl (lv_at hl 1 rfl) ?_
                refine mL_placeY C hW (i + 1 + jm) (hm.trans (by omega)) (by omega) (v := (τ.2.1 1 (i + 1 + jm))) rfl dX8_space_76 ?_
                refine lv_aload_n C.1 C.2.1 dX8_space_77 rfl (lv_at hl 3 rfl) ?_
                refine mG_placeY C hW dX8_space_78 ?_
                refine lv_iload_n C.1 C.2.1 dX8_space_81 rfl (lv_at hl 2 rfl) ?_
                refine mL_placeY C hW i (hi.trans (by omega)) (by omega) (v := (τ.2.1 1 i)) rfl dX8_space_82 ?_
                refine lv_isub C.1 C.2.1 dX8_space_83 ?_
                refine mS_spaceV C hW ((allL τ (τ.1 0).toInt.toNat i ++ rowL τ i jm).length) (hs2i.trans (by omega)) (by omega) dX8_space_84 (fun H locs hW => ?_)
                refine lv_aload_n C.1 C.2.1 dX8_space_85 rfl (lv_at hl 3 rfl) ?_
                refine mG_spaceProduct C hW dX8_space_86 ?_
                refine lv_aload_n C.1 C.2.1 dX8_space_89 rfl (lv_at hl 3 rfl) ?_
                refine mG_spacings C hW (v := (ξ2.1 0)) rfl dX8_space_90 ?_
                refine lv_lload_n C.1 C.2.1 dX8_space_93 rfl (lv_at hl 0 rfl) ?_
                refine mS_spaceProduct C hW ((allL τ (τ.1 0).toInt.toNat i ++ rowL τ i jm).length) (hs2i.trans (by omega)) (by omega) dX8_space_94 (fun H locs hW => ?_)
                refine lv_aload_n C.1 C.2.1 dX8_space_95 rfl (lv_at hl 3 rfl) ?_
                refine lv_dup C.1 C.2.1 dX8_space_96 rfl ?_
                refine mG_spacings C hW (v := (ξ2.1 0)) rfl dX8_space_97 ?_
                refine lv_iconst C.1 C.2.1 (v := 1) dX8_space_100 (by decide) ?_
                refine lv_iadd C.1 C.2.1 dX8_space_101 ?_
                refine mP_spacings C hW dX8_space_102 (fun H locs hW => ?_)
                refine lv_iinc (v := (x2 + 1)) (lv' := [(2, .int (x2 + 1)), (3, .long (prd τ i (i + 1 + jm))), (1, .int x1), (0, .ref (q 0))]) C.1 C.2.1 dX8_space_105 hl (k := 1) rfl rfl (by decide) rfl (fun ls hl => ?_)
                refine lv_goto C.1 C.2.1 (tgt := 19) dX8_space_108 (by decide) ?_
                exact ih_19 (jm + 1) (x2 + 1) (sg (sb (sa (sa (sg ξ2 1 (nI (tck τ i (i + 1 + jm)))) 0 ((allL τ (τ.1 0).toInt.toNat i ++ rowL τ i jm).length) ((τ.2.1 0 (i + 1 + jm)) - (τ.2.1 0 i))) 1 ((allL τ (τ.1 0).toInt.toNat i ++ rowL τ i jm).length) ((τ.2.1 1 (i + 1 + jm)) - (τ.2.1 1 i))) 0 ((allL τ (τ.1 0).toInt.toNat i ++ rowL τ i jm).length) (prd τ i (i + 1 + jm))) 0 ((ξ2.1 0) + 1)) (by omega) ((ti_add hm (show (1 : Int32).toInt = 1 from by decide) (by omega) (by omega)).trans (by omega)) (by omega) (by first | (rw [rowL_n hz]; exact hs2) | (rw [rowL_y hz]; exact len_y hs2)) (by first | (rw [rowL_n hz]; exact hh2) | (rw [rowL_y hz]; exact holds_add hh2 i (i + 1 + jm))) _ _ _ hW (lv_sub hl [0, 2, 3] rfl)
        exact L_19_3 _ 0 (x1 + 1) ξ1 (Nat.lt_succ_self _) ((ti_add hi (show (1 : Int32).toInt = 1 from by decide) (by omega) (by omega)).trans (by omega)) (by omega) (by rw [rowL, List.append_nil]; exact hs) (by rw [rowL, List.append_nil]; exact hh) _ _ _ hW (lv_sub hl [0, 1, 2] rfl)
  exact L_7_1 _ 0 0 (sg ξ 0 0) (Nat.lt_succ_self _) (by decide) (by omega) rfl (holds_nil _ _ _ _) _ _ _ hW (lv_sub hl [0, 1] rfl)
set_option maxHeartbeats 4000000 in
set_option maxRecDepth 100000 in
theorem c_X8_beamNow (l : Launch) (G : GG) (q : Nat → Nat) (sz : Nat) (τ ξ : ST) (x : Int32) (y : Int32) (h_x : 0 ≤ (ξ.1 0).toInt ∧ (ξ.1 0).toInt ≤ 15) : Met l yX8_beamNow (WSb yX8_beamNow cX8_beamNow 5 (some .int)) (rmA 1 21) (va_Pc [.ref (q 0), .int x, .int y] (PW G 33 q sz (eM G q τ ξ))) (va_Qi (fun (r : Int32) (u : (ST × ST)) => r = bmS (ξ.2.1 0) (ξ.2.1 1) x y (ξ.1 0).toInt.toNat ∧ u = (τ, ξ)) (fun u => BW G 33 q (eM G q u.1 u.2)) (FA 33 q sz)) 0 0 (FA 33 q sz) := by
  refine Met_B (own := RX8) rfl (by decide) (Nat.le_of_ble_eq_true rfl) (fun p e s m args below meth c ls hsz C hW hr hk hl QQ hQ => ?_)
  subst hsz
  have hl : lv_has ls 5 [(0, .ref (q 0)), (1, .int x), (2, .int y)] := hl
  refine lv_iconst C.1 C.2.1 (v := 0) dX8_beamNow_0 (by decide) ?_
  refine lv_istore_n (lv' := [(3, .int 0), (0, .ref (q 0)), (1, .int x), (2, .int y)]) C.1 C.2.1 dX8_beamNow_1 rfl hl (by decide) rfl (fun ls hl => ?_)
  refine lv_iconst C.1 C.2.1 (v := 0) dX8_beamNow_2 (by decide) ?_
  refine lv_istore (lv' := [(4, .int 0), (3, .int 0), (0, .ref (q 0)), (1, .int x), (2, .int y)]) C.1 C.2.1 dX8_beamNow_3 hl (by decide) rfl (fun ls hl => ?_)
  have L_5_1 : ∀ (fuel : Nat) (t : Nat) (x3 : Int32) (x4 : Int32), (ξ.1 0).toInt.toNat - t < fuel → (x4.toInt = (t : Int)) → (t ≤ (ξ.1 0).toInt.toNat) → (x3 = bmS (ξ.2.1 0) (ξ.2.1 1) x y t) → ∀ (H : Heap) (locs : List Loc) (ls : Array Slot), WB G 33 q (eM G q τ ξ) s H locs → lv_has ls 5 [(4, .int x4), (3, .int x3), (0, .ref (q 0)), (1, .int x), (2, .int y)] → W p l e (rmA 1 21) s m args below meth c H locs 0 0 QQ (F0 m 5 ls []) := by
    intro fuel; induction fuel with
    | zero => intro t x3 x4 hf; exact absurd hf (Nat.not_lt_zero _)
    | succ fuel ih_5 =>
      intro t x3 x4 hf ht hle hs H locs ls hW hl
      refine lv_iload C.1 C.2.1 dX8_beamNow_5 (lv_at hl 0 rfl) ?_
      refine lv_aload_n C.1 C.2.1 dX8_beamNow_7 rfl (lv_at hl 2 rfl) ?_
      refine mG_spacings C hW (v := (ξ.1 0)) rfl dX8_beamNow_8 ?_
      refine lv_icmp_ge C.1 C.2.1 (tgt := 46) dX8_beamNow_11 (by decide) (fun c_2 => ?_) (fun c_2 => ?_)
      · skip
        have k_2 := (tc_le (rfl : ((ξ.1 0)).toInt = ((ξ.1 0)).toInt) ht).mp c_2
        refine lv_iload_n C.1 C.2.1 dX8_beamNow_46 rfl (lv_at hl 1 rfl) ?_
        subst hQ
        exact r_iret (τ, ξ) C hW hr hk dX8_beamNow_47 ⟨by rw [hs, show t = (ξ.1 0).toInt.toNat from by omega], rfl⟩
      · skip
        have k_2 := (tn_le (rfl : ((ξ.1 0)).toInt = ((ξ.1 0)).toInt) ht).mp c_2
        refine lv_iload_n C.1 C.2.1 dX8_beamNow_14 rfl (lv_at hl 1 rfl) ?_
        refine lv_aload_n C.1 C.2.1 dX8_beamNow_15 rfl (lv_at hl 2 rfl) ?_
        refine lv_aload_n C.1 C.2.1 dX8_beamNow_16 rfl (lv_at hl 2 rfl) ?_
        refine mG_spaceU C hW dX8_beamNow_17 ?_
        refine lv_iload C.1 C.2.1 dX8_beamNow_20 (lv_at hl 0 rfl) ?_
        refine mL_spaceU C hW t (ht.trans (by omega)) (by omega) (v := (ξ.2.1 0 t)) rfl dX8_beamNow_22 ?_
        refine lv_iload_n C.1 C.2.1 dX8_beamNow_23 rfl (lv_at hl 3 rfl) ?_
        refine lv_imul C.1 C.2.1 dX8_beamNow_24 ?_
        refine lv_aload_n C.1 C.2.1 dX8_beamNow_25 rfl (lv_at hl 2 rfl) ?_
        refine mG_spaceV C hW dX8_beamNow_26 ?_
        refine lv_iload C.1 C.2.1 dX8_beamNow_29 (lv_at hl 0 rfl) ?_
        refine mL_spaceV C hW t (ht.trans (by omega)) (by omega) (v := (ξ.2.1 1 t)) rfl dX8_beamNow_31 ?_
        refine lv_iload_n C.1 C.2.1 dX8_beamNow_32 rfl (lv_at hl 4 rfl) ?_
        refine lv_imul C.1 C.2.1 dX8_beamNow_33 ?_
        refine lv_iadd C.1 C.2.1 dX8_beamNow_34 ?_
        refine go_i hW (run_V (o := 0) (As := [.int (((ξ.2.1 0 t) * x) + ((ξ.2.1 1 t) * y))]) (rest := [.int x3]) C hW (by decide) rfl rfl (c_X8_wave l G q _ τ ξ (((ξ.2.1 0 t) * x) + ((ξ.2.1 1 t) * y))  ) (cw_V 1 C bL_X8_196 bI_X8_wave bV_X8_wave bN_X8 bC_X8_wave ⟨rfl, rfl⟩ (by decide +kernel) ⟨Nat.le_of_ble_eq_true rfl, Nat.le_of_ble_eq_true rfl⟩) rfl hl.1 rfl (Nat.le_of_ble_eq_true rfl) dX8_beamNow_35 ⟨Nat.le_refl _, Nat.le_refl _⟩) (fun r_3 u_3 H locs hp_3 hW => ?_)
        rcases hp_3 with ⟨rfl, rfl⟩
        have hW : WB G 33 q (eM G q τ ξ) s H locs := hW
        refine lv_iadd C.1 C.2.1 dX8_beamNow_38 ?_
        refine lv_istore_n (lv' := [(3, .int (x3 + (wv ((((ξ.2.1 0 t) * x) + ((ξ.2.1 1 t) * y)) &&& 15).toInt.toNat))), (4, .int x4), (0, .ref (q 0)), (1, .int x), (2, .int y)]) C.1 C.2.1 dX8_beamNow_39 rfl hl (by decide) rfl (fun ls hl => ?_)
        refine lv_iinc (v := (x4 + 1)) (lv' := [(4, .int (x4 + 1)), (3, .int (x3 + (wv ((((ξ.2.1 0 t) * x) + ((ξ.2.1 1 t) * y)) &&& 15).toInt.toNat))), (0, .ref (q 0)), (1, .int x), (2, .int y)]) C.1 C.2.1 dX8_beamNow_40 hl (k := 1) rfl rfl (by decide) rfl (fun ls hl => ?_)
        refine lv_goto C.1 C.2.1 (tgt := 5) dX8_beamNow_43 (by decide) ?_
        exact ih_5 (t + 1) (x3 + (wv ((((ξ.2.1 0 t) * x) + ((ξ.2.1 1 t) * y)) &&& 15).toInt.toNat)) (x4 + 1) (by omega) ((ti_add ht (show (1 : Int32).toInt = 1 from by decide) (by omega) (by omega)).trans (by omega)) (by omega) (by rw [hs]; rfl) _ _ _ hW (lv_sub hl [0, 1, 2, 3, 4] rfl)
  exact L_5_1 _ 0 0 0 (Nat.lt_succ_self _) (by decide) (by omega) rfl _ _ _ hW (lv_sub hl [0, 1, 2, 3, 4] rfl)
set_option maxHeartbeats 4000000 in
set_option maxRecDepth 100000 in
theorem c_X8_keptBeam (l : Launch) (G : GG) (q : Nat → Nat) (sz : Nat) (τ ξ : ST) (x : Int32) (y : Int32) (h_k : 0 ≤ (τ.1 17).toInt ∧ (τ.1 17).toInt ≤ 15) : Met l yX8_keptBeam (WSb yX8_keptBeam cX8_keptBeam 5 (some .int)) (rmA 1 21) (va_Pc [.ref (q 0), .int x, .int y] (PW G 33 q sz (eM G q τ ξ))) (va_Qi (fun (r : Int32) (u : (ST × ST)) => r = keptB τ x y ∧ u = (τ, ξ)) (fun u => BW G 33 q (eM G q u.1 u.2)) (FA 33 q sz)) 0 0 (FA 33 q sz) := by
  refine Met_B (own := RX8) rfl (by decide) (Nat.le_of_ble_eq_true rfl) (fun p e s m args below meth c ls hsz C hW hr hk hl QQ hQ => ?_)
  subst hsz
  have hl : lv_has ls 5 [(0, .ref (q 0)), (1, .int x), (2, .int y)] := hl
  refine lv_iconst C.1 C.2.1 (v := 0) dX8_keptBeam_0 (by decide) ?_
  refine lv_istore_n (lv' := [(3, .int 0), (0, .ref (q 0)), (1, .int x), (2, .int y)]) C.1 C.2.1 dX8_keptBeam_1 rfl hl (by decide) rfl (fun ls hl => ?_)
  refine lv_iconst C.1 C.2.1 (v := 0) dX8_keptBeam_2 (by decide) ?_
  refine lv_istore (lv' := [(4, .int 0), (3, .int 0), (0, .ref (q 0)), (1, .int x), (2, .int y)]) C.1 C.2.1 dX8_keptBeam_3 hl (by decide) rfl (fun ls hl => ?_)
  have L_5_1 : ∀ (fuel : Nat) (t : Nat) (x3 : Int32) (x4 : Int32), (τ.1 17).toInt.toNat - t < fuel → (x4.toInt = (t : Int)) → (t ≤ (τ.1 17).toInt.toNat) → (x3 = bmS (τ.2.1 22) (τ.2.1 23) x y t) → ∀ (H : Heap) (locs : List Loc) (ls : Array Slot), WB G 33 q (eM G q τ ξ) s H locs → lv_has ls 5 [(4, .int x4), (3, .int x3), (0, .ref (q 0)), (1, .int x), (2, .int y)] → W p l e (rmA 1 21) s m args below meth c H locs 0 0 QQ (F0 m 5 ls []) := by
    intro fuel; induction fuel with
    | zero => intro t x3 x4 hf; exact absurd hf (Nat.not_lt_zero _)
    | succ fuel ih_5 =>
      intro t x3 x4 hf ht hle hs H locs ls hW hl
      refine lv_iload C.1 C.2.1 dX8_keptBeam_5 (lv_at hl 0 rfl) ?_
      refine lv_aload_n C.1 C.2.1 dX8_keptBeam_7 rfl (lv_at hl 2 rfl) ?_
      refine mG_keptMany C hW (v := (τ.1 17)) rfl dX8_keptBeam_8 ?_
      refine lv_icmp_ge C.1 C.2.1 (tgt := 46) dX8_keptBeam_11 (by decide) (fun c_2 => ?_) (fun c_2 => ?_)
      · skip
        have k_2 := (tc_le (rfl : ((τ.1 17)).toInt = ((τ.1 17)).toInt) ht).mp c_2
        refine lv_iload_n C.1 C.2.1 dX8_keptBeam_46 rfl (lv_at hl 1 rfl) ?_
        subst hQ
        exact r_iret (τ, ξ) C hW hr hk dX8_keptBeam_47 ⟨by rw [hs, show t = (τ.1 17).toInt.toNat from by omega]; rfl, rfl⟩
      · skip
        have k_2 := (tn_le (rfl : ((τ.1 17)).toInt = ((τ.1 17)).toInt) ht).mp c_2
        refine lv_iload_n C.1 C.2.1 dX8_keptBeam_14 rfl (lv_at hl 1 rfl) ?_
        refine lv_aload_n C.1 C.2.1 dX8_keptBeam_15 rfl (lv_at hl 2 rfl) ?_
        refine lv_aload_n C.1 C.2.1 dX8_keptBeam_16 rfl (lv_at hl 2 rfl) ?_
        refine mG_keptU C hW dX8_keptBeam_17 ?_
        refine lv_iload C.1 C.2.1 dX8_keptBeam_20 (lv_at hl 0 rfl) ?_
        refine mL_keptU C hW t (ht.trans (by omega)) (by omega) (v := (τ.2.1 22 t)) rfl dX8_keptBeam_22 ?_
        refine lv_iload_n C.1 C.2.1 dX8_keptBeam_23 rfl (lv_at hl 3 rfl) ?_
        refine lv_imul C.1 C.2.1 dX8_keptBeam_24 ?_
        refine lv_aload_n C.1 C.2.1 dX8_keptBeam_25 rfl (lv_at hl 2 rfl) ?_
        refine mG_keptV C hW dX8_keptBeam_26 ?_
        refine lv_iload C.1 C.2.1 dX8_keptBeam_29 (lv_at hl 0 rfl) ?_
        refine mL_keptV C hW t (ht.trans (by omega)) (by omega) (v := (τ.2.1 23 t)) rfl dX8_keptBeam_31 ?_
        refine lv_iload_n C.1 C.2.1 dX8_keptBeam_32 rfl (lv_at hl 4 rfl) ?_
        refine lv_imul C.1 C.2.1 dX8_keptBeam_33 ?_
        refine lv_iadd C.1 C.2.1 dX8_keptBeam_34 ?_
        refine go_i hW (run_V (o := 0) (As := [.int (((τ.2.1 22 t) * x) + ((τ.2.1 23 t) * y))]) (rest := [.int x3]) C hW (by decide) rfl rfl (c_X8_wave l G q _ τ ξ (((τ.2.1 22 t) * x) + ((τ.2.1 23 t) * y))  ) (cw_V 1 C bL_X8_196 bI_X8_wave bV_X8_wave bN_X8 bC_X8_wave ⟨rfl, rfl⟩ (by decide +kernel) ⟨Nat.le_of_ble_eq_true rfl, Nat.le_of_ble_eq_true rfl⟩) rfl hl.1 rfl (Nat.le_of_ble_eq_true rfl) dX8_keptBeam_35 ⟨Nat.le_refl _, Nat.le_refl _⟩) (fun r_3 u_3 H locs hp_3 hW => ?_)
        rcases hp_3 with ⟨rfl, rfl⟩
        have hW : WB G 33 q (eM G q τ ξ) s H locs := hW
        refine lv_iadd C.1 C.2.1 dX8_keptBeam_38 ?_
        refine lv_istore_n (lv' := [(3, .int (x3 + (wv ((((τ.2.1 22 t) * x) + ((τ.2.1 23 t) * y)) &&& 15).toInt.toNat))), (4, .int x4), (0, .ref (q 0)), (1, .int x), (2, .int y)]) C.1 C.2.1 dX8_keptBeam_39 rfl hl (by decide) rfl (fun ls hl => ?_)
        refine lv_iinc (v := (x4 + 1)) (lv' := [(4, .int (x4 + 1)), (3, .int (x3 + (wv ((((τ.2.1 22 t) * x) + ((τ.2.1 23 t) * y)) &&& 15).toInt.toNat))), (0, .ref (q 0)), (1, .int x), (2, .int y)]) C.1 C.2.1 dX8_keptBeam_40 hl (k := 1) rfl rfl (by decide) rfl (fun ls hl => ?_)
        refine lv_goto C.1 C.2.1 (tgt := 5) dX8_keptBeam_43 (by decide) ?_
        exact ih_5 (t + 1) (x3 + (wv ((((τ.2.1 22 t) * x) + ((τ.2.1 23 t) * y)) &&& 15).toInt.toNat)) (x4 + 1) (by omega) ((ti_add ht (show (1 : Int32).toInt = 1 from by decide) (by omega) (by omega)).trans (by omega)) (by omega) (by rw [hs]; rfl) _ _ _ hW (lv_sub hl [0, 1, 2, 3, 4] rfl)
  exact L_5_1 _ 0 0 0 (Nat.lt_succ_self _) (by decide) (by omega) rfl _ _ _ hW (lv_sub hl [0, 1, 2, 3, 4] rfl)
set_option maxHeartbeats 4000000 in
set_option maxRecDepth 100000 in
theorem c_X8_beam (l : Launch) (G : GG) (q : Nat → Nat) (sz : Nat) (τ ξ : ST) (x : Int32) (y : Int32) (h_d : 0 ≤ (τ.1 0).toInt ∧ (τ.1 0).toInt ≤ 6) (h_l : ∀ d : Nat, d < 6 → 0 ≤ (τ.2.1 2 d).toInt ∧ (τ.2.1 2 d).toInt ≤ 30) (h_f : 0 ≤ (τ.1 2).toInt ∧ (τ.1 2).toInt ≤ 40) (h_s : ∀ d : Nat, d < 6 → 0 ≤ (τ.2.1 6 d).toInt ∧ (τ.2.1 6 d).toInt ≤ 100) : Met l yX8_beam (WSb yX8_beam cX8_beam 3 (some .int)) (rmA 5 121) (va_Pc [.ref (q 0), .int x, .int y] (PW G 33 q sz (eM G q τ ξ))) (va_Qi (fun (r : Int32) (u : (ST × ST)) => sp_beam τ x y = (r, u.1)) (fun u => BW G 33 q (eM G q u.1 u.2)) (FA 33 q sz)) 0 0 (FA 33 q sz) := by
  refine Met_B (own := RX8) rfl (by decide) (Nat.le_of_ble_eq_true rfl) (fun p e s m args below meth c ls hsz C hW hr hk hl QQ hQ => ?_)
  subst hsz
  have hl : lv_has ls 3 [(0, .ref (q 0)), (1, .int x), (2, .int y)] := hl
  refine lv_iload_n C.1 C.2.1 dX8_beam_0 rfl (lv_at hl 1 rfl) ?_
  refine lv_i2l C.1 C.2.1 dX8_beam_1 rfl ?_
  refine lv_ldc2 C.1 C.2.1 C.2.2.2.1 (C.2.2.2.2.1 _ bQ_X8_202) dX8_beam_2 ?_
  refine lv_ldc2 C.1 C.2.1 C.2.2.2.1 (C.2.2.2.2.1 _ bQ_X8_204) dX8_beam_5 ?_
  refine go_i hW (run_S (As := [.long ((x).toInt64), .long (-1000), .long 1000]) (rest := []) C hW (c_X8_in l G q _ τ ξ ((x).toInt64) (-1000) 1000 ((x).toInt) (-1000) 1000 (ti_i2l (rfl : (x).toInt = (x).toInt)) (show (-1000 : Int64).toInt = -1000 from by decide) (show (1000 : Int64).toInt = 1000 from by decide)) (cw_S 3 C bL_X8_121 bS_X8_in bN_X8 bC_X8_in ⟨rfl, rfl⟩ (by decide +kernel) ⟨Nat.le_of_ble_eq_true rfl, Nat.le_of_ble_eq_true rfl⟩) rfl hl.1 rfl (Nat.le_of_ble_eq_true rfl) dX8_beam_8 ⟨Nat.le_refl _, Nat.le_refl _⟩) (fun r_1 u_1 H locs hp_1 hW => ?_)
  rcases hp_1 with ⟨rfl, rfl, k_1_0, k_1_1⟩ | ⟨rfl, rfl, k_1⟩
  · skip
    have hW : WB G 33 q (eM G q τ ξ) s H locs := hW
    refine lv_if_eq C.1 C.2.1 (tgt := 28) dX8_beam_11 (by decide) (fun c => absurd c (by decide)) (fun _ => ?_)
    refine lv_iload_n C.1 C.2.1 dX8_beam_14 rfl (lv_at hl 2 rfl) ?_
    refine lv_i2l C.1 C.2.1 dX8_beam_15 rfl ?_
    refine lv_ldc2 C.1 C.2.1 C.2.2.2.1 (C.2.2.2.2.1 _ bQ_X8_202) dX8_beam_16 ?_
    refine lv_ldc2 C.1 C.2.1 C.2.2.2.1 (C.2.2.2.2.1 _ bQ_X8_204) dX8_beam_19 ?_
    refine go_i hW (run_S (As := [.long ((y).toInt64), .long (-1000), .long 1000]) (rest := []) C hW (c_X8_in l G q _ τ ξ ((y).toInt64) (-1000) 1000 ((y).toInt) (-1000) 1000 (ti_i2l (rfl : (y).toInt = (y).toInt)) (show (-1000 : Int64).toInt = -1000 from by decide) (show (1000 : Int64).toInt = 1000 from by decide)) (cw_S 3 C bL_X8_121 bS_X8_in bN_X8 bC_X8_in ⟨rfl, rfl⟩ (by decide +kernel) ⟨Nat.le_of_ble_eq_true rfl, Nat.le_of_ble_eq_true rfl⟩) rfl hl.1 rfl (Nat.le_of_ble_eq_true rfl) dX8_beam_22 ⟨Nat.le_refl _, Nat.le_refl _⟩) (fun r_3 u_3 H locs hp_3 hW => ?_)
    rcases hp_3 with ⟨rfl, rfl, k_3_0, k_3_1⟩ | ⟨rfl, rfl, k_3⟩
    · skip
      have hW : WB G 33 q (eM G q τ ξ) s H locs := hW
      refine lv_if_ne C.1 C.2.1 (tgt := 31) dX8_beam_25 (by decide) (fun _ => ?_) (fun c => absurd c (by decide))
      refine lv_aload_n C.1 C.2.1 dX8_beam_31 rfl (lv_at hl 0 rfl) ?_
      refine go_v hW (run_V (o := 0) (As := []) (rest := []) C hW (by decide) rfl rfl (c_X8_space l G q _ τ ξ   h_d h_l h_f h_s) (cw_V 0 C bL_X8_206 bI_X8_space bV_X8_space bN_X8 bC_X8_space ⟨rfl, rfl⟩ (by decide +kernel) ⟨Nat.le_of_ble_eq_true rfl, Nat.le_of_ble_eq_true rfl⟩) rfl hl.1 rfl (Nat.le_of_ble_eq_true rfl) dX8_beam_32 ⟨Nat.le_refl _, Nat.le_refl _⟩) (fun u_5 H locs hp_5 hW => ?_)
      rcases hp_5 with ⟨ξ1_5, rfl, k_5_0, k_5_1⟩
      have hW : WB G 33 q (eM G q τ ξ1_5) s H locs := hW
      have h15 : spN τ ≤ 15 := spL_len τ (by omega)
      have en : (ξ1_5.1 0).toInt.toNat = spN τ := by rw [k_5_0, nI_toInt (by omega)]; omega
      have h_x : 0 ≤ (ξ1_5.1 0).toInt ∧ (ξ1_5.1 0).toInt ≤ 15 := by rw [k_5_0, nI_toInt (by omega)]; omega
      have hU : ∀ k, k < spN τ → ξ1_5.2.1 0 k = spU τ k ∧ ξ1_5.2.1 1 k = spV τ k := fun k hk => ⟨(k_5_1 k hk).1, (k_5_1 k hk).2.1⟩
      have hUP : ∀ k, k < spN τ → ξ1_5.2.1 0 k = spU τ k ∧ ξ1_5.2.1 1 k = spV τ k ∧ ξ1_5.2.2 0 k = spP τ k := fun k hk => k_5_1 k hk
      refine lv_aload_n C.1 C.2.1 dX8_beam_35 rfl (lv_at hl 0 rfl) ?_
      refine lv_iload_n C.1 C.2.1 dX8_beam_36 rfl (lv_at hl 1 rfl) ?_
      refine lv_iload_n C.1 C.2.1 dX8_beam_37 rfl (lv_at hl 2 rfl) ?_
      refine go_i hW (run_V (o := 0) (As := [.int x, .int y]) (rest := []) C hW (by decide) rfl rfl (c_X8_beamNow l G q _ τ ξ1_5 x y  h_x) (cw_V 2 C bL_X8_209 bI_X8_beamNow bV_X8_beamNow bN_X8 bC_X8_beamNow ⟨rfl, rfl⟩ (by decide +kernel) ⟨Nat.le_of_ble_eq_true rfl, Nat.le_of_ble_eq_true rfl⟩) rfl hl.1 rfl (Nat.le_of_ble_eq_true rfl) dX8_beam_38 ⟨Nat.le_refl _, Nat.le_refl _⟩) (fun r_6 u_6 H locs hp_6 hW => ?_)
      rcases hp_6 with ⟨rfl, rfl⟩
      have hW : WB G 33 q (eM G q τ ξ1_5) s H locs := hW
      subst hQ
      exact r_iret (τ, ξ1_5) C hW hr hk dX8_beam_41 (show sp_beam τ x y = ((bmS (ξ1_5.2.1 0) (ξ1_5.2.1 1) x y (ξ1_5.1 0).toInt.toNat), τ) from by unfold sp_beam; rw [if_pos (by omega), en, bmS_congr hU])
    · skip
      have hW : WB G 33 q (eM G q τ ξ) s H locs := hW
      refine lv_if_ne C.1 C.2.1 (tgt := 31) dX8_beam_25 (by decide) (fun c => absurd c (by decide)) (fun _ => ?_)
      refine lv_ldc C.1 C.2.1 C.2.2.2.1 (C.2.2.2.2.1 _ bQ_X8_149) dX8_beam_28 ?_
      subst hQ
      exact r_iret (τ, ξ) C hW hr hk dX8_beam_30 (show sp_beam τ x y = ((-2147483648), τ) from by unfold sp_beam; (repeat (first | rw [if_pos (by omega)] | rw [if_neg (by omega)])); first | done | rfl)
  · skip
    have hW : WB G 33 q (eM G q τ ξ) s H locs := hW
    refine lv_if_eq C.1 C.2.1 (tgt := 28) dX8_beam_11 (by decide) (fun _ => ?_) (fun c => absurd c (by decide))
    refine lv_ldc C.1 C.2.1 C.2.2.2.1 (C.2.2.2.2.1 _ bQ_X8_149) dX8_beam_28 ?_
    subst hQ
    exact r_iret (τ, ξ) C hW hr hk dX8_beam_30 (show sp_beam τ x y = ((-2147483648), τ) from by unfold sp_beam; (repeat (first | rw [if_pos (by omega)] | rw [if_neg (by omega)])); first | done | rfl)
set_option maxHeartbeats 4000000 in
set_option maxRecDepth 100000 in
theorem c_X8_cellOf (l : Launch) (G : GG) (q : Nat → Nat) (sz : Nat) (τ ξ : ST) (kd : Int32) (x : Int32) (y : Int32) (h_x : 0 ≤ (ξ.1 0).toInt ∧ (ξ.1 0).toInt ≤ 15) (h_p : 0 ≤ (τ.1 3).toInt ∧ (τ.1 3).toInt ≤ 10) : Met l yX8_cellOf (WSb yX8_cellOf cX8_cellOf 7 (some .long)) (rmA 2 45) (va_Pc [.ref (q 0), .int kd, .int x, .int y] (PW G 33 q sz (eM G q τ ξ))) (va_Ql (fun (r : Int64) (u : (ST × ST)) => (r = cvS (ξ.2.2 0) (ξ.2.1 0) (ξ.2.1 1) x y (ξ.1 0).toInt.toNat ∧ u = (τ, ξ) ∧ (kd.toInt = 0)) ∨ (r = cvP (τ.2.1 13) (τ.2.1 11) (τ.2.1 12) (ξ.2.1 0) (ξ.2.1 1) (ξ.1 0).toInt.toNat x y (τ.1 3).toInt.toNat ∧ u = (τ, ξ) ∧ (¬ kd.toInt = 0))) (fun u => BW G 33 q (eM G q u.1 u.2)) (FA 33 q sz)) 0 0 (FA 33 q sz) := by
  refine Met_B (own := RX8) rfl (by decide) (Nat.le_of_ble_eq_true rfl) (fun p e s m args below meth c ls hsz C hW hr hk hl QQ hQ => ?_)
  subst hsz
  have hl : lv_has ls 7 [(0, .ref (q 0)), (1, .int kd), (2, .int x), (3, .int y)] := hl
  refine lv_lconst C.1 C.2.1 (v := 0) dX8_cellOf_0 (by decide) ?_
  refine lv_lstore (lv' := [(4, .long 0), (0, .ref (q 0)), (1, .int kd), (2, .int x), (3, .int y)]) C.1 C.2.1 dX8_cellOf_1 hl (by decide) rfl (fun ls hl => ?_)
  refine lv_iload_n C.1 C.2.1 dX8_cellOf_3 rfl (lv_at hl 2 rfl) ?_
  refine lv_if_ne C.1 C.2.1 (tgt := 65) dX8_cellOf_4 (by decide) (fun c_1 => ?_) (fun c_1 => ?_)
  · skip
    have k_1 := (tn_eq (rfl : (kd).toInt = (kd).toInt) (show (0 : Int32).toInt = 0 from by decide)).mp c_1
    refine lv_iconst C.1 C.2.1 (v := 0) dX8_cellOf_65 (by decide) ?_
    refine lv_istore (lv' := [(6, .int 0), (4, .long 0), (0, .ref (q 0)), (1, .int kd), (2, .int x), (3, .int y)]) C.1 C.2.1 dX8_cellOf_66 hl (by decide) rfl (fun ls hl => ?_)
    have L_68_2 : ∀ (fuel : Nat) (t : Nat) (x4 : Int64) (x6 : Int32), (τ.1 3).toInt.toNat - t < fuel → (x6.toInt = (t : Int)) → (t ≤ (τ.1 3).toInt.toNat) → (x4 = cvP (τ.2.1 13) (τ.2.1 11) (τ.2.1 12) (ξ.2.1 0) (ξ.2.1 1) (ξ.1 0).toInt.toNat x y t) → ∀ (H : Heap) (locs : List Loc) (ls : Array Slot), WB G 33 q (eM G q τ ξ) s H locs → lv_has ls 7 [(6, .int x6), (4, .long x4), (0, .ref (q 0)), (1, .int kd), (2, .int x), (3, .int y)] → W p l e (rmA 2 45) s m args below meth c H locs 0 0 QQ (F0 m 68 ls []) := by
      intro fuel; induction fuel with
      | zero => intro t x4 x6 hf; exact absurd hf (Nat.not_lt_zero _)
      | succ fuel ih_68 =>
        intro t x4 x6 hf ht hle hs H locs ls hW hl
        refine lv_iload C.1 C.2.1 dX8_cellOf_68 (lv_at hl 0 rfl) ?_
        refine lv_aload_n C.1 C.2.1 dX8_cellOf_70 rfl (lv_at hl 2 rfl) ?_
        refine mG_points C hW (v := (τ.1 3)) rfl dX8_cellOf_71 ?_
        refine lv_icmp_ge C.1 C.2.1 (tgt := 120) dX8_cellOf_74 (by decide) (fun c_3 => ?_) (fun c_3 => ?_)
        · skip
          have k_3 := (tc_le (rfl : ((τ.1 3)).toInt = ((τ.1 3)).toInt) ht).mp c_3
          refine lv_lload C.1 C.2.1 dX8_cellOf_120 (lv_at hl 1 rfl) ?_
          subst hQ
          exact r_lret (τ, ξ) C hW hr hk dX8_cellOf_122 (by first | exact Or.inl ⟨by rw [hs, show t = (ξ.1 0).toInt.toNat from by omega], rfl, by omega⟩ | exact Or.inr ⟨by rw [hs, show t = (τ.1 3).toInt.toNat from by omega], rfl, by omega⟩)
        · skip
          have k_3 := (tn_le (rfl : ((τ.1 3)).toInt = ((τ.1 3)).toInt) ht).mp c_3
          refine lv_lload C.1 C.2.1 dX8_cellOf_77 (lv_at hl 1 rfl) ?_
          refine lv_aload_n C.1 C.2.1 dX8_cellOf_79 rfl (lv_at hl 2 rfl) ?_
          refine mG_flux C hW dX8_cellOf_80 ?_
          refine lv_iload C.1 C.2.1 dX8_cellOf_83 (lv_at hl 0 rfl) ?_
          refine mL_flux C hW t (ht.trans (by omega)) (by omega) (v := (τ.2.1 13 t)) rfl dX8_cellOf_85 ?_
          refine lv_i2l C.1 C.2.1 dX8_cellOf_86 rfl ?_
          refine lv_aload_n C.1 C.2.1 dX8_cellOf_87 rfl (lv_at hl 2 rfl) ?_
          refine lv_iload_n C.1 C.2.1 dX8_cellOf_88 rfl (lv_at hl 4 rfl) ?_
          refine lv_aload_n C.1 C.2.1 dX8_cellOf_89 rfl (lv_at hl 2 rfl) ?_
          refine mG_pointX C hW dX8_cellOf_90 ?_
          refine lv_iload C.1 C.2.1 dX8_cellOf_93 (lv_at hl 0 rfl) ?_
          refine mL_pointX C hW t (ht.trans (by omega)) (by omega) (v := (τ.2.1 11 t)) rfl dX8_cellOf_95 ?_
          refine lv_isub C.1 C.2.1 dX8_cellOf_96 ?_
          refine lv_iload_n C.1 C.2.1 dX8_cellOf_97 rfl (lv_at hl 5 rfl) ?_
          refine lv_aload_n C.1 C.2.1 dX8_cellOf_98 rfl (lv_at hl 2 rfl) ?_
          refine mG_pointY C hW dX8_cellOf_99 ?_
          refine lv_iload C.1 C.2.1 dX8_cellOf_102 (lv_at hl 0 rfl) ?_
          refine mL_pointY C hW t (ht.trans (by omega)) (by omega) (v := (τ.2.1 12 t)) rfl dX8_cellOf_104 ?_
          refine lv_isub C.1 C.2.1 dX8_cellOf_105 ?_
          refine go_i hW (run_V (o := 0) (As := [.int (x - (τ.2.1 11 t)), .int (y - (τ.2.1 12 t))]) (rest := [.long ((τ.2.1 13 t).toInt64), .long x4]) C hW (by decide) rfl rfl (c_X8_beamNow l G q _ τ ξ (x - (τ.2.1 11 t)) (y - (τ.2.1 12 t))  h_x) (cw_V 2 C bL_X8_209 bI_X8_beamNow bV_X8_beamNow bN_X8 bC_X8_beamNow ⟨rfl, rfl⟩ (by decide +kernel) ⟨Nat.le_of_ble_eq_true rfl, Nat.le_of_ble_eq_true rfl⟩) rfl hl.1 rfl (Nat.le_of_ble_eq_true rfl) dX8_cellOf_106 ⟨Nat.le_refl _, Nat.le_refl _⟩) (fun r_4 u_4 H locs hp_4 hW => ?_)
          rcases hp_4 with ⟨rfl, rfl⟩
          have hW : WB G 33 q (eM G q τ ξ) s H locs := hW
          refine lv_i2l C.1 C.2.1 dX8_cellOf_109 rfl ?_
          refine lv_lmul C.1 C.2.1 dX8_cellOf_110 ?_
          refine lv_ladd C.1 C.2.1 dX8_cellOf_111 ?_
          refine lv_lstore (lv' := [(4, .long (x4 + ((τ.2.1 13 t).toInt64 * (bmS (ξ.2.1 0) (ξ.2.1 1) (x - (τ.2.1 11 t)) (y - (τ.2.1 12 t)) (ξ.1 0).toInt.toNat).toInt64))), (6, .int x6), (0, .ref (q 0)), (1, .int kd), (2, .int x), (3, .int y)]) C.1 C.2.1 dX8_cellOf_112 hl (by decide) rfl (fun ls hl => ?_)
          refine lv_iinc (v := (x6 + 1)) (lv' := [(6, .int (x6 + 1)), (4, .long (x4 + ((τ.2.1 13 t).toInt64 * (bmS (ξ.2.1 0) (ξ.2.1 1) (x - (τ.2.1 11 t)) (y - (τ.2.1 12 t)) (ξ.1 0).toInt.toNat).toInt64))), (0, .ref (q 0)), (1, .int kd), (2, .int x), (3, .int y)]) C.1 C.2.1 dX8_cellOf_114 hl (k := 1) rfl rfl (by decide) rfl (fun ls hl => ?_)
          refine lv_goto C.1 C.2.1 (tgt := 68) dX8_cellOf_117 (by decide) ?_
          exact ih_68 (t + 1) (x4 + ((τ.2.1 13 t).toInt64 * (bmS (ξ.2.1 0) (ξ.2.1 1) (x - (τ.2.1 11 t)) (y - (τ.2.1 12 t)) (ξ.1 0).toInt.toNat).toInt64)) (x6 + 1) (by omega) ((ti_add ht (show (1 : Int32).toInt = 1 from by decide) (by omega) (by omega)).trans (by omega)) (by omega) (by rw [hs]; rfl) _ _ _ hW (lv_sub hl [0, 1, 2, 3, 4, 5] rfl)
    exact L_68_2 _ 0 0 0 (Nat.lt_succ_self _) (by decide) (by omega) rfl _ _ _ hW (lv_sub hl [0, 1, 2, 3, 4, 5] rfl)
  · skip
    have k_1 := (tc_eq (rfl : (kd).toInt = (kd).toInt) (show (0 : Int32).toInt = 0 from by decide)).mp c_1
    refine lv_iconst C.1 C.2.1 (v := 0) dX8_cellOf_7 (by decide) ?_
    refine lv_istore (lv' := [(6, .int 0), (4, .long 0), (0, .ref (q 0)), (1, .int kd), (2, .int x), (3, .int y)]) C.1 C.2.1 dX8_cellOf_8 hl (by decide) rfl (fun ls hl => ?_)
    have L_10_5 : ∀ (fuel : Nat) (t : Nat) (x4 : Int64) (x6 : Int32), (ξ.1 0).toInt.toNat - t < fuel → (x6.toInt = (t : Int)) → (t ≤ (ξ.1 0).toInt.toNat) → (x4 = cvS (ξ.2.2 0) (ξ.2.1 0) (ξ.2.1 1) x y t) → ∀ (H : Heap) (locs : List Loc) (ls : Array Slot), WB G 33 q (eM G q τ ξ) s H locs → lv_has ls 7 [(6, .int x6), (4, .long x4), (0, .ref (q 0)), (1, .int kd), (2, .int x), (3, .int y)] → W p l e (rmA 2 45) s m args below meth c H locs 0 0 QQ (F0 m 10 ls []) := by
      intro fuel; induction fuel with
      | zero => intro t x4 x6 hf; exact absurd hf (Nat.not_lt_zero _)
      | succ fuel ih_10 =>
        intro t x4 x6 hf ht hle hs H locs ls hW hl
        refine lv_iload C.1 C.2.1 dX8_cellOf_10 (lv_at hl 0 rfl) ?_
        refine lv_aload_n C.1 C.2.1 dX8_cellOf_12 rfl (lv_at hl 2 rfl) ?_
        refine mG_spacings C hW (v := (ξ.1 0)) rfl dX8_cellOf_13 ?_
        refine lv_icmp_ge C.1 C.2.1 (tgt := 62) dX8_cellOf_16 (by decide) (fun c_6 => ?_) (fun c_6 => ?_)
        · skip
          have k_6 := (tc_le (rfl : ((ξ.1 0)).toInt = ((ξ.1 0)).toInt) ht).mp c_6
          refine lv_goto C.1 C.2.1 (tgt := 120) dX8_cellOf_62 (by decide) ?_
          refine lv_lload C.1 C.2.1 dX8_cellOf_120 (lv_at hl 1 rfl) ?_
          subst hQ
          exact r_lret (τ, ξ) C hW hr hk dX8_cellOf_122 (by first | exact Or.inl ⟨by rw [hs, show t = (ξ.1 0).toInt.toNat from by omega], rfl, by omega⟩ | exact Or.inr ⟨by rw [hs, show t = (τ.1 3).toInt.toNat from by omega], rfl, by omega⟩)
        · skip
          have k_6 := (tn_le (rfl : ((ξ.1 0)).toInt = ((ξ.1 0)).toInt) ht).mp c_6
          refine lv_lload C.1 C.2.1 dX8_cellOf_19 (lv_at hl 1 rfl) ?_
          refine lv_aload_n C.1 C.2.1 dX8_cellOf_21 rfl (lv_at hl 2 rfl) ?_
          refine mG_spaceProduct C hW dX8_cellOf_22 ?_
          refine lv_iload C.1 C.2.1 dX8_cellOf_25 (lv_at hl 0 rfl) ?_
          refine mL_spaceProduct C hW t (ht.trans (by omega)) (by omega) (v := (ξ.2.2 0 t)) rfl dX8_cellOf_27 ?_
          refine lv_aload_n C.1 C.2.1 dX8_cellOf_28 rfl (lv_at hl 2 rfl) ?_
          refine lv_aload_n C.1 C.2.1 dX8_cellOf_29 rfl (lv_at hl 2 rfl) ?_
          refine mG_spaceU C hW dX8_cellOf_30 ?_
          refine lv_iload C.1 C.2.1 dX8_cellOf_33 (lv_at hl 0 rfl) ?_
          refine mL_spaceU C hW t (ht.trans (by omega)) (by omega) (v := (ξ.2.1 0 t)) rfl dX8_cellOf_35 ?_
          refine lv_iload_n C.1 C.2.1 dX8_cellOf_36 rfl (lv_at hl 4 rfl) ?_
          refine lv_imul C.1 C.2.1 dX8_cellOf_37 ?_
          refine lv_aload_n C.1 C.2.1 dX8_cellOf_38 rfl (lv_at hl 2 rfl) ?_
          refine mG_spaceV C hW dX8_cellOf_39 ?_
          refine lv_iload C.1 C.2.1 dX8_cellOf_42 (lv_at hl 0 rfl) ?_
          refine mL_spaceV C hW t (ht.trans (by omega)) (by omega) (v := (ξ.2.1 1 t)) rfl dX8_cellOf_44 ?_
          refine lv_iload_n C.1 C.2.1 dX8_cellOf_45 rfl (lv_at hl 5 rfl) ?_
          refine lv_imul C.1 C.2.1 dX8_cellOf_46 ?_
          refine lv_iadd C.1 C.2.1 dX8_cellOf_47 ?_
          refine go_i hW (run_V (o := 0) (As := [.int (((ξ.2.1 0 t) * x) + ((ξ.2.1 1 t) * y))]) (rest := [.long (ξ.2.2 0 t), .long x4]) C hW (by decide) rfl rfl (c_X8_wave l G q _ τ ξ (((ξ.2.1 0 t) * x) + ((ξ.2.1 1 t) * y))  ) (cw_V 1 C bL_X8_196 bI_X8_wave bV_X8_wave bN_X8 bC_X8_wave ⟨rfl, rfl⟩ (by decide +kernel) ⟨Nat.le_of_ble_eq_true rfl, Nat.le_of_ble_eq_true rfl⟩) rfl hl.1 rfl (Nat.le_of_ble_eq_true rfl) dX8_cellOf_48 ⟨Nat.le_refl _, Nat.le_refl _⟩) (fun r_7 u_7 H locs hp_7 hW => ?_)
          rcases hp_7 with ⟨rfl, rfl⟩
          have hW : WB G 33 q (eM G q τ ξ) s H locs := hW
          refine lv_i2l C.1 C.2.1 dX8_cellOf_51 rfl ?_
          refine lv_lmul C.1 C.2.1 dX8_cellOf_52 ?_
          refine lv_ladd C.1 C.2.1 dX8_cellOf_53 ?_
          refine lv_lstore (lv' := [(4, .long (x4 + ((ξ.2.2 0 t) * (wv ((((ξ.2.1 0 t) * x) + ((ξ.2.1 1 t) * y)) &&& 15).toInt.toNat).toInt64))), (6, .int x6), (0, .ref (q 0)), (1, .int kd), (2, .int x), (3, .int y)]) C.1 C.2.1 dX8_cellOf_54 hl (by decide) rfl (fun ls hl => ?_)
          refine lv_iinc (v := (x6 + 1)) (lv' := [(6, .int (x6 + 1)), (4, .long (x4 + ((ξ.2.2 0 t) * (wv ((((ξ.2.1 0 t) * x) + ((ξ.2.1 1 t) * y)) &&& 15).toInt.toNat).toInt64))), (0, .ref (q 0)), (1, .int kd), (2, .int x), (3, .int y)]) C.1 C.2.1 dX8_cellOf_56 hl (k := 1) rfl rfl (by decide) rfl (fun ls hl => ?_)
          refine lv_goto C.1 C.2.1 (tgt := 10) dX8_cellOf_59 (by decide) ?_
          exact ih_10 (t + 1) (x4 + ((ξ.2.2 0 t) * (wv ((((ξ.2.1 0 t) * x) + ((ξ.2.1 1 t) * y)) &&& 15).toInt.toNat).toInt64)) (x6 + 1) (by omega) ((ti_add ht (show (1 : Int32).toInt = 1 from by decide) (by omega) (by omega)).trans (by omega)) (by omega) (by rw [hs]; rfl) _ _ _ hW (lv_sub hl [0, 1, 2, 3, 4, 5] rfl)
    exact L_10_5 _ 0 0 0 (Nat.lt_succ_self _) (by decide) (by omega) rfl _ _ _ hW (lv_sub hl [0, 1, 2, 3, 4, 5] rfl)
