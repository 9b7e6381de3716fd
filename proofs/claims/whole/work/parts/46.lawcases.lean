/-! the law, call by call -/
section R46
variable {G : GG} {p : Program} {l : Launch} {e : Env} {s : State} {m : MethodId} {args : Array Value} {below : List Frame} {meth : Method} {c : Code} {H : Heap} {locs : List Loc} {Q : State → Prop}
variable {ls : Array Slot} {q qM : Nat → Nat} {τ ζ ξ : ST} {ρ : RF} {nd i L b : Nat} {x3 : Int32} {xs : Nat → Int32}
def NX (G : GG) (p : Program) (l : Launch) (e : Env) (s : State) (m : MethodId) (args : Array Value) (below : List Frame) (meth : Method) (c : Code) (Q : State → Prop) (qM : Nat → Nat) (q0 i b : Nat) (x3 : Int32) : Prop := ∀ (τ : ST) (nd : Nat) (q : Nat → Nat) (ζ ξ : ST) (ρ : RF) (H : Heap) (locs : List Loc) (ls : Array Slot), q 0 = q0 → LI G s τ nd q qM ζ ξ ρ H locs → lv_has ls 4 [(3, .int x3), (2, .ref (qM 0)), (1, .ref (q 0)), (0, .ref b)] → W p l e room_1 s m args below meth c H locs (200 + i + 6) (20000 + 208 * (i + 6)) Q (F0 m 1199 ls [])
set_option maxHeartbeats 4000000 in
set_option maxRecDepth 100000 in
theorem lc_dish (C : LC G (fun a => s.heap.size ≤ a) p s m args c cL_law 4 RL) (hXs : va_X b L xs s s.heap) (hbl : b < s.heap.size) (hL : L ≤ 3072) (hx3 : x3.toInt = (i : Int)) (hi6 : i + 6 ≤ L) (hI : LI G s τ nd q qM ζ ξ ρ H locs) (hl : lv_has ls 4 [(3, .int x3), (2, .ref (qM 0)), (1, .ref (q 0)), (0, .ref b)]) (hN : NX G p l e s m args below meth c Q qM (q 0) i b x3) : W p l e room_1 s m args below meth c H locs (200 + i) (20000 + 208 * i) Q (F0 m 172 ls []) := by
  have hIV := hI.2.2.1
  have hX := hI.2.2.2.1
  have hM := hI.2.2.2.2.1
  have CX := LC_CX C hI.2.2.2.2.2.1 hI.2.2.2.2.2.2.2.1
  have CM := LC_CX C hI.2.2.2.2.2.2.1 hI.2.2.2.2.2.2.2.2.1
  have fX := FA_A0 hI.2.2.2.2.2.2.2.1
  have fM := FA_A0 hI.2.2.2.2.2.2.2.2.1
  have hd := hI.2.2.2.2.2.2.2.2.2
  have hS : va_S (fun a => s.heap.size ≤ a) s.heap H locs := by rw [← fX]; exact hX.2
  have hbA : ¬ s.heap.size ≤ b := Nat.not_le.mpr hbl
  have hcs : 200 + i ≤ room_1.cells ∧ 20000 + 208 * i ≤ room_1.slots := ⟨by show 200 + i ≤ 600000; omega, by show 20000 + 208 * i ≤ 7302250; omega⟩
  have e_1 : (x3 + 1).toInt = (i : Int) + 1 := ti_add hx3 (show (1 : Int32).toInt = 1 from by decide) (by omega) (by omega)
  have e_2 : (x3 + 2).toInt = (i : Int) + 2 := ti_add hx3 (show (2 : Int32).toInt = 2 from by decide) (by omega) (by omega)
  refine lv_aload_n C.1 C.2.1 dL_law_172 rfl (lv_at hl 2 rfl) ?_
  refine lv_aload_n C.1 C.2.1 dL_law_173 rfl (lv_at hl 3 rfl) ?_
  refine lv_iload_n C.1 C.2.1 dL_law_174 rfl (lv_at hl 0 rfl) ?_
  refine lv_iconst C.1 C.2.1 (v := 1) dL_law_175 (by decide) ?_
  refine lv_iadd C.1 C.2.1 dL_law_176 ?_
  refine va_sld C.1 C.2.1 hXs hbl hbA hS (vp_in_iff.mpr ⟨by omega, by omega⟩) dL_law_177 ?_
  refine lv_aload_n C.1 C.2.1 dL_law_178 rfl (lv_at hl 3 rfl) ?_
  refine lv_iload_n C.1 C.2.1 dL_law_179 rfl (lv_at hl 0 rfl) ?_
  refine lv_iconst C.1 C.2.1 (v := 2) dL_law_180 (by decide) ?_
  refine lv_iadd C.1 C.2.1 dL_law_181 ?_
  refine va_sld C.1 C.2.1 hXs hbl hbA hS (vp_in_iff.mpr ⟨by omega, by omega⟩) dL_law_182 ?_
  have hcs2 : 200 + i + 3 ≤ room_1.cells ∧ 20000 + 208 * i + 208 ≤ room_1.slots := ⟨by show 200 + i + 3 ≤ 600000; omega, by show 20000 + 208 * i + 208 ≤ 7302250; omega⟩
  have hszH := hX.2.1
  have hltM : ∀ k, k < 33 → qM k < H.size := fun k hk => (hM.1 k _ (wl_at hk)).lt
  refine go_iG hX (run_Vm (o := 0) (As := [.int (xs (x3 + 1).toNatClampNeg), .int (xs (x3 + 2).toNatClampNeg)]) (rest := []) CX hX (by omega) rfl rfl (c_X7_dish l G q nd _ τ ζ ρ (xs (x3 + 1).toNatClampNeg) (xs (x3 + 2).toNatClampNeg) hI.1 hI.2.1 hIV.2.1 hIV.2.2.2.2.2.2.2.2.2.2.2.2.1 (by have h := hIV.2.2.2.2.2.2.2.2.2.2.2.2.2; rw [hI.2.1.1] at h; exact h)) (cw_Vm 2 CX bL_L_13 bI_X7_dish bV_X7_dish bN_X7 bC_X7_dish ⟨rfl, rfl⟩ (by decide +kernel) ⟨Nat.le_of_ble_eq_true rfl, Nat.le_of_ble_eq_true rfl⟩) rfl hl.1 rfl (Nat.le_of_ble_eq_true rfl) dL_law_183 hcs2) (fun r1 u1 t1 H9 locs ht hp1 hB hS9 hfr => ?_)
  have hM := keep2 (q := q) (H1 := H9) (locs1 := locs) hM hd hfr (by rw [fM, ← fX]; exact hS9)
  have hS : va_S (fun a => s.heap.size ≤ a) s.heap H9 locs := by rw [← fX]; exact hS9
  have hP9 : va_P G.1 vwCl (wl (28 + 3 * u1.1.2) u1.1.1 (eX G u1.1.1 u1.2.1 u1.2.2.1 u1.2.2.2)) H9 := by rw [← ht]; exact hB
  have hsz9 : ∀ j, j < 28 + 3 * u1.1.2 → s.heap.size ≤ u1.1.1 j := fun j hj => (Decidable.em (j < 28 + 3 * nd)).elim (fun c => by rw [hp1.1.1 j c]; exact hI.2.2.2.2.2.2.2.1 j c) (fun c => Nat.le_trans hszH (hp1.1.2.2.2.2 j (by omega) hj))
  have fX := FA_A0 hsz9
  have hX : WB G (28 + 3 * u1.1.2) u1.1.1 (eX G u1.1.1 u1.2.1 u1.2.2.1 u1.2.2.2) s H9 locs := ⟨hP9, by rw [fX]; exact hS⟩
  have hd : ∀ j, j < 28 + 3 * u1.1.2 → ∀ k, k < 33 → u1.1.1 j ≠ qM k := fun j hj k hk => (Decidable.em (j < 28 + 3 * nd)).elim (fun c => by rw [hp1.1.1 j c]; exact hd j c k hk) (fun c => by have h1 := hp1.1.2.2.2.2 j (by omega) hj; have h2 := hltM k hk; omega)
  refine lv_aload_n C.1 C.2.1 dL_law_186 rfl (lv_at hl 1 rfl) ?_
  refine lv_aload_n C.1 C.2.1 dL_law_187 rfl (lv_at hl 3 rfl) ?_
  refine lv_iload_n C.1 C.2.1 dL_law_188 rfl (lv_at hl 0 rfl) ?_
  refine lv_iconst C.1 C.2.1 (v := 1) dL_law_189 (by decide) ?_
  refine lv_iadd C.1 C.2.1 dL_law_190 ?_
  refine va_sld C.1 C.2.1 hXs hbl hbA hS (vp_in_iff.mpr ⟨by omega, by omega⟩) dL_law_191 ?_
  refine lv_aload_n C.1 C.2.1 dL_law_192 rfl (lv_at hl 3 rfl) ?_
  refine lv_iload_n C.1 C.2.1 dL_law_193 rfl (lv_at hl 0 rfl) ?_
  refine lv_iconst C.1 C.2.1 (v := 2) dL_law_194 (by decide) ?_
  refine lv_iadd C.1 C.2.1 dL_law_195 ?_
  refine va_sld C.1 C.2.1 hXs hbl hbA hS (vp_in_iff.mpr ⟨by omega, by omega⟩) dL_law_196 ?_
  refine go2_i hM hX (fun k hk j hj => (hd j hj k hk).symm) (fM.trans fX.symm) (run_V (o := 0) (As := [.int (xs (x3 + 1).toNatClampNeg), .int (xs (x3 + 2).toNatClampNeg)]) (rest := [.int r1]) CM hM (by decide) rfl rfl (c_X8_dish l G qM _ τ ξ (xs (x3 + 1).toNatClampNeg) (xs (x3 + 2).toNatClampNeg) hIV.1) (cw_V 2 CM bL_L_17 bI_X8_dish bV_X8_dish bN_X8 bC_X8_dish ⟨rfl, rfl⟩ (by decide +kernel) ⟨Nat.le_of_ble_eq_true rfl, Nat.le_of_ble_eq_true rfl⟩) rfl hl.1 rfl (Nat.le_of_ble_eq_true rfl) dL_law_197 hcs2) (fun r2 u2 H locs hp2 hM hX => ?_)
  obtain ⟨hI2, er, eq0⟩ := LI_dish hI hszH hltM hp1 hp2 (iv_dish hIV) hX hM
  refine lv_icmp_eq C.1 C.2.1 (tgt := 1199) dL_law_200 (by decide) (fun _ => ?_) (fun c => absurd er c)
  refine W.widen (k := 200 + i + 6) (n := 20000 + 208 * (i + 6)) (by omega) (by omega) ?_
  exact hN _ _ _ _ _ _ _ _ _ eq0 hI2 (by rw [eq0]; exact hl)
set_option maxHeartbeats 4000000 in
set_option maxRecDepth 100000 in
theorem lc_tune (C : LC G (fun a => s.heap.size ≤ a) p s m args c cL_law 4 RL) (hXs : va_X b L xs s s.heap) (hbl : b < s.heap.size) (hL : L ≤ 3072) (hx3 : x3.toInt = (i : Int)) (hi6 : i + 6 ≤ L) (hI : LI G s τ nd q qM ζ ξ ρ H locs) (hl : lv_has ls 4 [(3, .int x3), (2, .ref (qM 0)), (1, .ref (q 0)), (0, .ref b)]) (hN : NX G p l e s m args below meth c Q qM (q 0) i b x3) : W p l e room_1 s m args below meth c H locs (200 + i) (20000 + 208 * i) Q (F0 m 205 ls []) := by
  have hIV := hI.2.2.1
  have hX := hI.2.2.2.1
  have hM := hI.2.2.2.2.1
  have CX := LC_CX C hI.2.2.2.2.2.1 hI.2.2.2.2.2.2.2.1
  have CM := LC_CX C hI.2.2.2.2.2.2.1 hI.2.2.2.2.2.2.2.2.1
  have fX := FA_A0 hI.2.2.2.2.2.2.2.1
  have fM := FA_A0 hI.2.2.2.2.2.2.2.2.1
  have hd := hI.2.2.2.2.2.2.2.2.2
  have hS : va_S (fun a => s.heap.size ≤ a) s.heap H locs := by rw [← fX]; exact hX.2
  have hbA : ¬ s.heap.size ≤ b := Nat.not_le.mpr hbl
  have hcs : 200 + i ≤ room_1.cells ∧ 20000 + 208 * i ≤ room_1.slots := ⟨by show 200 + i ≤ 600000; omega, by show 20000 + 208 * i ≤ 7302250; omega⟩
  have e_1 : (x3 + 1).toInt = (i : Int) + 1 := ti_add hx3 (show (1 : Int32).toInt = 1 from by decide) (by omega) (by omega)
  have e_2 : (x3 + 2).toInt = (i : Int) + 2 := ti_add hx3 (show (2 : Int32).toInt = 2 from by decide) (by omega) (by omega)
  have e_3 : (x3 + 3).toInt = (i : Int) + 3 := ti_add hx3 (show (3 : Int32).toInt = 3 from by decide) (by omega) (by omega)
  refine lv_aload_n C.1 C.2.1 dL_law_205 rfl (lv_at hl 2 rfl) ?_
  refine lv_aload_n C.1 C.2.1 dL_law_206 rfl (lv_at hl 3 rfl) ?_
  refine lv_iload_n C.1 C.2.1 dL_law_207 rfl (lv_at hl 0 rfl) ?_
  refine lv_iconst C.1 C.2.1 (v := 1) dL_law_208 (by decide) ?_
  refine lv_iadd C.1 C.2.1 dL_law_209 ?_
  refine va_sld C.1 C.2.1 hXs hbl hbA hS (vp_in_iff.mpr ⟨by omega, by omega⟩) dL_law_210 ?_
  refine lv_aload_n C.1 C.2.1 dL_law_211 rfl (lv_at hl 3 rfl) ?_
  refine lv_iload_n C.1 C.2.1 dL_law_212 rfl (lv_at hl 0 rfl) ?_
  refine lv_iconst C.1 C.2.1 (v := 2) dL_law_213 (by decide) ?_
  refine lv_iadd C.1 C.2.1 dL_law_214 ?_
  refine va_sld C.1 C.2.1 hXs hbl hbA hS (vp_in_iff.mpr ⟨by omega, by omega⟩) dL_law_215 ?_
  refine lv_aload_n C.1 C.2.1 dL_law_216 rfl (lv_at hl 3 rfl) ?_
  refine lv_iload_n C.1 C.2.1 dL_law_217 rfl (lv_at hl 0 rfl) ?_
  refine lv_iconst C.1 C.2.1 (v := 3) dL_law_218 (by decide) ?_
  refine lv_iadd C.1 C.2.1 dL_law_219 ?_
  refine va_sld C.1 C.2.1 hXs hbl hbA hS (vp_in_iff.mpr ⟨by omega, by omega⟩) dL_law_220 ?_
  refine go2_i hX hM hd (fX.trans fM.symm) (run_V (o := 0) (As := [.int (xs (x3 + 1).toNatClampNeg), .int (xs (x3 + 2).toNatClampNeg), .int (xs (x3 + 3).toNatClampNeg)]) (rest := []) CX hX (by omega) rfl rfl (c_X7_tune l G q nd _ τ ζ ρ (xs (x3 + 1).toNatClampNeg) (xs (x3 + 2).toNatClampNeg) (xs (x3 + 3).toNatClampNeg) hI.1 hI.2.1) (cw_V 3 CX bL_L_18 bI_X7_tune bV_X7_tune bN_X7 bC_X7_tune ⟨rfl, rfl⟩ (by decide +kernel) ⟨Nat.le_of_ble_eq_true rfl, Nat.le_of_ble_eq_true rfl⟩) rfl hl.1 rfl (Nat.le_of_ble_eq_true rfl) dL_law_221 hcs) (fun r1 u1 H locs hp1 hX hM => ?_)
  have hS : va_S (fun a => s.heap.size ≤ a) s.heap H locs := by rw [← fX]; exact hX.2
  refine lv_aload_n C.1 C.2.1 dL_law_224 rfl (lv_at hl 1 rfl) ?_
  refine lv_aload_n C.1 C.2.1 dL_law_225 rfl (lv_at hl 3 rfl) ?_
  refine lv_iload_n C.1 C.2.1 dL_law_226 rfl (lv_at hl 0 rfl) ?_
  refine lv_iconst C.1 C.2.1 (v := 1) dL_law_227 (by decide) ?_
  refine lv_iadd C.1 C.2.1 dL_law_228 ?_
  refine va_sld C.1 C.2.1 hXs hbl hbA hS (vp_in_iff.mpr ⟨by omega, by omega⟩) dL_law_229 ?_
  refine lv_aload_n C.1 C.2.1 dL_law_230 rfl (lv_at hl 3 rfl) ?_
  refine lv_iload_n C.1 C.2.1 dL_law_231 rfl (lv_at hl 0 rfl) ?_
  refine lv_iconst C.1 C.2.1 (v := 2) dL_law_232 (by decide) ?_
  refine lv_iadd C.1 C.2.1 dL_law_233 ?_
  refine va_sld C.1 C.2.1 hXs hbl hbA hS (vp_in_iff.mpr ⟨by omega, by omega⟩) dL_law_234 ?_
  refine lv_aload_n C.1 C.2.1 dL_law_235 rfl (lv_at hl 3 rfl) ?_
  refine lv_iload_n C.1 C.2.1 dL_law_236 rfl (lv_at hl 0 rfl) ?_
  refine lv_iconst C.1 C.2.1 (v := 3) dL_law_237 (by decide) ?_
  refine lv_iadd C.1 C.2.1 dL_law_238 ?_
  refine va_sld C.1 C.2.1 hXs hbl hbA hS (vp_in_iff.mpr ⟨by omega, by omega⟩) dL_law_239 ?_
  refine go2_i hM hX (fun k hk j hj => (hd j hj k hk).symm) (fM.trans fX.symm) (run_V (o := 0) (As := [.int (xs (x3 + 1).toNatClampNeg), .int (xs (x3 + 2).toNatClampNeg), .int (xs (x3 + 3).toNatClampNeg)]) (rest := [.int r1]) CM hM (by decide) rfl rfl (c_X8_tune l G qM _ τ ξ (xs (x3 + 1).toNatClampNeg) (xs (x3 + 2).toNatClampNeg) (xs (x3 + 3).toNatClampNeg) hIV.1) (cw_V 3 CM bL_L_22 bI_X8_tune bV_X8_tune bN_X8 bC_X8_tune ⟨rfl, rfl⟩ (by decide +kernel) ⟨Nat.le_of_ble_eq_true rfl, Nat.le_of_ble_eq_true rfl⟩) rfl hl.1 rfl (Nat.le_of_ble_eq_true rfl) dL_law_240 hcs) (fun r2 u2 H locs hp2 hM hX => ?_)
  obtain ⟨hI2, er⟩ := LI_next hI hp1 hp2 (iv_tune hIV) hX hM
  refine lv_icmp_eq C.1 C.2.1 (tgt := 1199) dL_law_243 (by decide) (fun _ => ?_) (fun c => absurd er c)
  refine W.widen (k := 200 + i + 6) (n := 20000 + 208 * (i + 6)) (by omega) (by omega) ?_
  exact hN _ _ _ _ _ _ _ _ _ rfl hI2 hl
set_option maxHeartbeats 4000000 in
set_option maxRecDepth 100000 in
theorem lc_reel (C : LC G (fun a => s.heap.size ≤ a) p s m args c cL_law 4 RL) (hXs : va_X b L xs s s.heap) (hbl : b < s.heap.size) (hL : L ≤ 3072) (hx3 : x3.toInt = (i : Int)) (hi6 : i + 6 ≤ L) (hI : LI G s τ nd q qM ζ ξ ρ H locs) (hl : lv_has ls 4 [(3, .int x3), (2, .ref (qM 0)), (1, .ref (q 0)), (0, .ref b)]) (hN : NX G p l e s m args below meth c Q qM (q 0) i b x3) : W p l e room_1 s m args below meth c H locs (200 + i) (20000 + 208 * i) Q (F0 m 248 ls []) := by
  have hIV := hI.2.2.1
  have hX := hI.2.2.2.1
  have hM := hI.2.2.2.2.1
  have CX := LC_CX C hI.2.2.2.2.2.1 hI.2.2.2.2.2.2.2.1
  have CM := LC_CX C hI.2.2.2.2.2.2.1 hI.2.2.2.2.2.2.2.2.1
  have fX := FA_A0 hI.2.2.2.2.2.2.2.1
  have fM := FA_A0 hI.2.2.2.2.2.2.2.2.1
  have hd := hI.2.2.2.2.2.2.2.2.2
  have hS : va_S (fun a => s.heap.size ≤ a) s.heap H locs := by rw [← fX]; exact hX.2
  have hbA : ¬ s.heap.size ≤ b := Nat.not_le.mpr hbl
  have hcs : 200 + i ≤ room_1.cells ∧ 20000 + 208 * i ≤ room_1.slots := ⟨by show 200 + i ≤ 600000; omega, by show 20000 + 208 * i ≤ 7302250; omega⟩
  have e_1 : (x3 + 1).toInt = (i : Int) + 1 := ti_add hx3 (show (1 : Int32).toInt = 1 from by decide) (by omega) (by omega)
  have e_2 : (x3 + 2).toInt = (i : Int) + 2 := ti_add hx3 (show (2 : Int32).toInt = 2 from by decide) (by omega) (by omega)
  have e_3 : (x3 + 3).toInt = (i : Int) + 3 := ti_add hx3 (show (3 : Int32).toInt = 3 from by decide) (by omega) (by omega)
  refine lv_aload_n C.1 C.2.1 dL_law_248 rfl (lv_at hl 2 rfl) ?_
  refine lv_aload_n C.1 C.2.1 dL_law_249 rfl (lv_at hl 3 rfl) ?_
  refine lv_iload_n C.1 C.2.1 dL_law_250 rfl (lv_at hl 0 rfl) ?_
  refine lv_iconst C.1 C.2.1 (v := 1) dL_law_251 (by decide) ?_
  refine lv_iadd C.1 C.2.1 dL_law_252 ?_
  refine va_sld C.1 C.2.1 hXs hbl hbA hS (vp_in_iff.mpr ⟨by omega, by omega⟩) dL_law_253 ?_
  refine lv_aload_n C.1 C.2.1 dL_law_254 rfl (lv_at hl 3 rfl) ?_
  refine lv_iload_n C.1 C.2.1 dL_law_255 rfl (lv_at hl 0 rfl) ?_
  refine lv_iconst C.1 C.2.1 (v := 2) dL_law_256 (by decide) ?_
  refine lv_iadd C.1 C.2.1 dL_law_257 ?_
  refine va_sld C.1 C.2.1 hXs hbl hbA hS (vp_in_iff.mpr ⟨by omega, by omega⟩) dL_law_258 ?_
  refine lv_aload_n C.1 C.2.1 dL_law_259 rfl (lv_at hl 3 rfl) ?_
  refine lv_iload_n C.1 C.2.1 dL_law_260 rfl (lv_at hl 0 rfl) ?_
  refine lv_iconst C.1 C.2.1 (v := 3) dL_law_261 (by decide) ?_
  refine lv_iadd C.1 C.2.1 dL_law_262 ?_
  refine va_sld C.1 C.2.1 hXs hbl hbA hS (vp_in_iff.mpr ⟨by omega, by omega⟩) dL_law_263 ?_
  refine go2_i hX hM hd (fX.trans fM.symm) (run_V (o := 0) (As := [.int (xs (x3 + 1).toNatClampNeg), .int (xs (x3 + 2).toNatClampNeg), .int (xs (x3 + 3).toNatClampNeg)]) (rest := []) CX hX (by omega) rfl rfl (c_X7_reel l G q nd _ τ ζ ρ (xs (x3 + 1).toNatClampNeg) (xs (x3 + 2).toNatClampNeg) (xs (x3 + 3).toNatClampNeg) hI.1 hI.2.1) (cw_V 3 CX bL_L_23 bI_X7_reel bV_X7_reel bN_X7 bC_X7_reel ⟨rfl, rfl⟩ (by decide +kernel) ⟨Nat.le_of_ble_eq_true rfl, Nat.le_of_ble_eq_true rfl⟩) rfl hl.1 rfl (Nat.le_of_ble_eq_true rfl) dL_law_264 hcs) (fun r1 u1 H locs hp1 hX hM => ?_)
  have hS : va_S (fun a => s.heap.size ≤ a) s.heap H locs := by rw [← fX]; exact hX.2
  refine lv_aload_n C.1 C.2.1 dL_law_267 rfl (lv_at hl 1 rfl) ?_
  refine lv_aload_n C.1 C.2.1 dL_law_268 rfl (lv_at hl 3 rfl) ?_
  refine lv_iload_n C.1 C.2.1 dL_law_269 rfl (lv_at hl 0 rfl) ?_
  refine lv_iconst C.1 C.2.1 (v := 1) dL_law_270 (by decide) ?_
  refine lv_iadd C.1 C.2.1 dL_law_271 ?_
  refine va_sld C.1 C.2.1 hXs hbl hbA hS (vp_in_iff.mpr ⟨by omega, by omega⟩) dL_law_272 ?_
  refine lv_aload_n C.1 C.2.1 dL_law_273 rfl (lv_at hl 3 rfl) ?_
  refine lv_iload_n C.1 C.2.1 dL_law_274 rfl (lv_at hl 0 rfl) ?_
  refine lv_iconst C.1 C.2.1 (v := 2) dL_law_275 (by decide) ?_
  refine lv_iadd C.1 C.2.1 dL_law_276 ?_
  refine va_sld C.1 C.2.1 hXs hbl hbA hS (vp_in_iff.mpr ⟨by omega, by omega⟩) dL_law_277 ?_
  refine lv_aload_n C.1 C.2.1 dL_law_278 rfl (lv_at hl 3 rfl) ?_
  refine lv_iload_n C.1 C.2.1 dL_law_279 rfl (lv_at hl 0 rfl) ?_
  refine lv_iconst C.1 C.2.1 (v := 3) dL_law_280 (by decide) ?_
  refine lv_iadd C.1 C.2.1 dL_law_281 ?_
  refine va_sld C.1 C.2.1 hXs hbl hbA hS (vp_in_iff.mpr ⟨by omega, by omega⟩) dL_law_282 ?_
  refine go2_i hM hX (fun k hk j hj => (hd j hj k hk).symm) (fM.trans fX.symm) (run_V (o := 0) (As := [.int (xs (x3 + 1).toNatClampNeg), .int (xs (x3 + 2).toNatClampNeg), .int (xs (x3 + 3).toNatClampNeg)]) (rest := [.int r1]) CM hM (by decide) rfl rfl (c_X8_reel l G qM _ τ ξ (xs (x3 + 1).toNatClampNeg) (xs (x3 + 2).toNatClampNeg) (xs (x3 + 3).toNatClampNeg) hIV.1) (cw_V 3 CM bL_L_26 bI_X8_reel bV_X8_reel bN_X8 bC_X8_reel ⟨rfl, rfl⟩ (by decide +kernel) ⟨Nat.le_of_ble_eq_true rfl, Nat.le_of_ble_eq_true rfl⟩) rfl hl.1 rfl (Nat.le_of_ble_eq_true rfl) dL_law_283 hcs) (fun r2 u2 H locs hp2 hM hX => ?_)
  obtain ⟨hI2, er⟩ := LI_next hI hp1 hp2 (iv_reel hIV) hX hM
  refine lv_icmp_eq C.1 C.2.1 (tgt := 1199) dL_law_286 (by decide) (fun _ => ?_) (fun c => absurd er c)
  refine W.widen (k := 200 + i + 6) (n := 20000 + 208 * (i + 6)) (by omega) (by omega) ?_
  exact hN _ _ _ _ _ _ _ _ _ rfl hI2 hl
set_option maxHeartbeats 4000000 in
set_option maxRecDepth 100000 in
theorem lc_lose (C : LC G (fun a => s.heap.size ≤ a) p s m args c cL_law 4 RL) (hXs : va_X b L xs s s.heap) (hbl : b < s.heap.size) (hL : L ≤ 3072) (hx3 : x3.toInt = (i : Int)) (hi6 : i + 6 ≤ L) (hI : LI G s τ nd q qM ζ ξ ρ H locs) (hl : lv_has ls 4 [(3, .int x3), (2, .ref (qM 0)), (1, .ref (q 0)), (0, .ref b)]) (hN : NX G p l e s m args below meth c Q qM (q 0) i b x3) : W p l e room_1 s m args below meth c H locs (200 + i) (20000 + 208 * i) Q (F0 m 291 ls []) := by
  have hIV := hI.2.2.1
  have hX := hI.2.2.2.1
  have hM := hI.2.2.2.2.1
  have CX := LC_CX C hI.2.2.2.2.2.1 hI.2.2.2.2.2.2.2.1
  have CM := LC_CX C hI.2.2.2.2.2.2.1 hI.2.2.2.2.2.2.2.2.1
  have fX := FA_A0 hI.2.2.2.2.2.2.2.1
  have fM := FA_A0 hI.2.2.2.2.2.2.2.2.1
  have hd := hI.2.2.2.2.2.2.2.2.2
  have hS : va_S (fun a => s.heap.size ≤ a) s.heap H locs := by rw [← fX]; exact hX.2
  have hbA : ¬ s.heap.size ≤ b := Nat.not_le.mpr hbl
  have hcs : 200 + i ≤ room_1.cells ∧ 20000 + 208 * i ≤ room_1.slots := ⟨by show 200 + i ≤ 600000; omega, by show 20000 + 208 * i ≤ 7302250; omega⟩
  have e_1 : (x3 + 1).toInt = (i : Int) + 1 := ti_add hx3 (show (1 : Int32).toInt = 1 from by decide) (by omega) (by omega)
  refine lv_aload_n C.1 C.2.1 dL_law_291 rfl (lv_at hl 2 rfl) ?_
  refine lv_aload_n C.1 C.2.1 dL_law_292 rfl (lv_at hl 3 rfl) ?_
  refine lv_iload_n C.1 C.2.1 dL_law_293 rfl (lv_at hl 0 rfl) ?_
  refine lv_iconst C.1 C.2.1 (v := 1) dL_law_294 (by decide) ?_
  refine lv_iadd C.1 C.2.1 dL_law_295 ?_
  refine va_sld C.1 C.2.1 hXs hbl hbA hS (vp_in_iff.mpr ⟨by omega, by omega⟩) dL_law_296 ?_
  refine go2_i hX hM hd (fX.trans fM.symm) (run_V (o := 0) (As := [.int (xs (x3 + 1).toNatClampNeg)]) (rest := []) CX hX (by omega) rfl rfl (c_X7_lose l G q nd _ τ ζ ρ (xs (x3 + 1).toNatClampNeg) hI.1 hI.2.1 hIV.2.2.1) (cw_V 1 CX bL_L_27 bI_X7_lose bV_X7_lose bN_X7 bC_X7_lose ⟨rfl, rfl⟩ (by decide +kernel) ⟨Nat.le_of_ble_eq_true rfl, Nat.le_of_ble_eq_true rfl⟩) rfl hl.1 rfl (Nat.le_of_ble_eq_true rfl) dL_law_297 hcs) (fun r1 u1 H locs hp1 hX hM => ?_)
  have hS : va_S (fun a => s.heap.size ≤ a) s.heap H locs := by rw [← fX]; exact hX.2
  refine lv_aload_n C.1 C.2.1 dL_law_300 rfl (lv_at hl 1 rfl) ?_
  refine lv_aload_n C.1 C.2.1 dL_law_301 rfl (lv_at hl 3 rfl) ?_
  refine lv_iload_n C.1 C.2.1 dL_law_302 rfl (lv_at hl 0 rfl) ?_
  refine lv_iconst C.1 C.2.1 (v := 1) dL_law_303 (by decide) ?_
  refine lv_iadd C.1 C.2.1 dL_law_304 ?_
  refine va_sld C.1 C.2.1 hXs hbl hbA hS (vp_in_iff.mpr ⟨by omega, by omega⟩) dL_law_305 ?_
  refine go2_i hM hX (fun k hk j hj => (hd j hj k hk).symm) (fM.trans fX.symm) (run_V (o := 0) (As := [.int (xs (x3 + 1).toNatClampNeg)]) (rest := [.int r1]) CM hM (by decide) rfl rfl (c_X8_lose l G qM _ τ ξ (xs (x3 + 1).toNatClampNeg) hIV.1) (cw_V 1 CM bL_L_31 bI_X8_lose bV_X8_lose bN_X8 bC_X8_lose ⟨rfl, rfl⟩ (by decide +kernel) ⟨Nat.le_of_ble_eq_true rfl, Nat.le_of_ble_eq_true rfl⟩) rfl hl.1 rfl (Nat.le_of_ble_eq_true rfl) dL_law_306 hcs) (fun r2 u2 H locs hp2 hM hX => ?_)
  obtain ⟨hI2, er⟩ := LI_next hI hp1 hp2 (iv_lose hIV) hX hM
  refine lv_icmp_eq C.1 C.2.1 (tgt := 1199) dL_law_309 (by decide) (fun _ => ?_) (fun c => absurd er c)
  refine W.widen (k := 200 + i + 6) (n := 20000 + 208 * (i + 6)) (by omega) (by omega) ?_
  exact hN _ _ _ _ _ _ _ _ _ rfl hI2 hl
set_option maxHeartbeats 4000000 in
set_option maxRecDepth 100000 in
theorem lc_put (C : LC G (fun a => s.heap.size ≤ a) p s m args c cL_law 4 RL) (hXs : va_X b L xs s s.heap) (hbl : b < s.heap.size) (hL : L ≤ 3072) (hx3 : x3.toInt = (i : Int)) (hi6 : i + 6 ≤ L) (hI : LI G s τ nd q qM ζ ξ ρ H locs) (hl : lv_has ls 4 [(3, .int x3), (2, .ref (qM 0)), (1, .ref (q 0)), (0, .ref b)]) (hN : NX G p l e s m args below meth c Q qM (q 0) i b x3) : W p l e room_1 s m args below meth c H locs (200 + i) (20000 + 208 * i) Q (F0 m 314 ls []) := by
  have hIV := hI.2.2.1
  have hX := hI.2.2.2.1
  have hM := hI.2.2.2.2.1
  have CX := LC_CX C hI.2.2.2.2.2.1 hI.2.2.2.2.2.2.2.1
  have CM := LC_CX C hI.2.2.2.2.2.2.1 hI.2.2.2.2.2.2.2.2.1
  have fX := FA_A0 hI.2.2.2.2.2.2.2.1
  have fM := FA_A0 hI.2.2.2.2.2.2.2.2.1
  have hd := hI.2.2.2.2.2.2.2.2.2
  have hS : va_S (fun a => s.heap.size ≤ a) s.heap H locs := by rw [← fX]; exact hX.2
  have hbA : ¬ s.heap.size ≤ b := Nat.not_le.mpr hbl
  have hcs : 200 + i ≤ room_1.cells ∧ 20000 + 208 * i ≤ room_1.slots := ⟨by show 200 + i ≤ 600000; omega, by show 20000 + 208 * i ≤ 7302250; omega⟩
  have e_1 : (x3 + 1).toInt = (i : Int) + 1 := ti_add hx3 (show (1 : Int32).toInt = 1 from by decide) (by omega) (by omega)
  have e_2 : (x3 + 2).toInt = (i : Int) + 2 := ti_add hx3 (show (2 : Int32).toInt = 2 from by decide) (by omega) (by omega)
  have e_3 : (x3 + 3).toInt = (i : Int) + 3 := ti_add hx3 (show (3 : Int32).toInt = 3 from by decide) (by omega) (by omega)
  have e_4 : (x3 + 4).toInt = (i : Int) + 4 := ti_add hx3 (show (4 : Int32).toInt = 4 from by decide) (by omega) (by omega)
  refine lv_aload_n C.1 C.2.1 dL_law_314 rfl (lv_at hl 2 rfl) ?_
  refine lv_aload_n C.1 C.2.1 dL_law_315 rfl (lv_at hl 3 rfl) ?_
  refine lv_iload_n C.1 C.2.1 dL_law_316 rfl (lv_at hl 0 rfl) ?_
  refine lv_iconst C.1 C.2.1 (v := 1) dL_law_317 (by decide) ?_
  refine lv_iadd C.1 C.2.1 dL_law_318 ?_
  refine va_sld C.1 C.2.1 hXs hbl hbA hS (vp_in_iff.mpr ⟨by omega, by omega⟩) dL_law_319 ?_
  refine lv_aload_n C.1 C.2.1 dL_law_320 rfl (lv_at hl 3 rfl) ?_
  refine lv_iload_n C.1 C.2.1 dL_law_321 rfl (lv_at hl 0 rfl) ?_
  refine lv_iconst C.1 C.2.1 (v := 2) dL_law_322 (by decide) ?_
  refine lv_iadd C.1 C.2.1 dL_law_323 ?_
  refine va_sld C.1 C.2.1 hXs hbl hbA hS (vp_in_iff.mpr ⟨by omega, by omega⟩) dL_law_324 ?_
  refine lv_aload_n C.1 C.2.1 dL_law_325 rfl (lv_at hl 3 rfl) ?_
  refine lv_iload_n C.1 C.2.1 dL_law_326 rfl (lv_at hl 0 rfl) ?_
  refine lv_iconst C.1 C.2.1 (v := 3) dL_law_327 (by decide) ?_
  refine lv_iadd C.1 C.2.1 dL_law_328 ?_
  refine va_sld C.1 C.2.1 hXs hbl hbA hS (vp_in_iff.mpr ⟨by omega, by omega⟩) dL_law_329 ?_
  refine lv_aload_n C.1 C.2.1 dL_law_330 rfl (lv_at hl 3 rfl) ?_
  refine lv_iload_n C.1 C.2.1 dL_law_331 rfl (lv_at hl 0 rfl) ?_
  refine lv_iconst C.1 C.2.1 (v := 4) dL_law_332 (by decide) ?_
  refine lv_iadd C.1 C.2.1 dL_law_333 ?_
  refine va_sld C.1 C.2.1 hXs hbl hbA hS (vp_in_iff.mpr ⟨by omega, by omega⟩) dL_law_334 ?_
  refine go2_i hX hM hd (fX.trans fM.symm) (run_V (o := 0) (As := [.int (xs (x3 + 1).toNatClampNeg), .int (xs (x3 + 2).toNatClampNeg), .int (xs (x3 + 3).toNatClampNeg), .int (xs (x3 + 4).toNatClampNeg)]) (rest := []) CX hX (by omega) rfl rfl (c_X7_put l G q nd _ τ ζ ρ (xs (x3 + 1).toNatClampNeg) (xs (x3 + 2).toNatClampNeg) (xs (x3 + 3).toNatClampNeg) (xs (x3 + 4).toNatClampNeg) hI.1 hI.2.1 hIV.2.2.1) (cw_V 4 CX bL_L_32 bI_X7_put bV_X7_put bN_X7 bC_X7_put ⟨rfl, rfl⟩ (by decide +kernel) ⟨Nat.le_of_ble_eq_true rfl, Nat.le_of_ble_eq_true rfl⟩) rfl hl.1 rfl (Nat.le_of_ble_eq_true rfl) dL_law_335 hcs) (fun r1 u1 H locs hp1 hX hM => ?_)
  have hS : va_S (fun a => s.heap.size ≤ a) s.heap H locs := by rw [← fX]; exact hX.2
  refine lv_aload_n C.1 C.2.1 dL_law_338 rfl (lv_at hl 1 rfl) ?_
  refine lv_aload_n C.1 C.2.1 dL_law_339 rfl (lv_at hl 3 rfl) ?_
  refine lv_iload_n C.1 C.2.1 dL_law_340 rfl (lv_at hl 0 rfl) ?_
  refine lv_iconst C.1 C.2.1 (v := 1) dL_law_341 (by decide) ?_
  refine lv_iadd C.1 C.2.1 dL_law_342 ?_
  refine va_sld C.1 C.2.1 hXs hbl hbA hS (vp_in_iff.mpr ⟨by omega, by omega⟩) dL_law_343 ?_
  refine lv_aload_n C.1 C.2.1 dL_law_344 rfl (lv_at hl 3 rfl) ?_
  refine lv_iload_n C.1 C.2.1 dL_law_345 rfl (lv_at hl 0 rfl) ?_
  refine lv_iconst C.1 C.2.1 (v := 2) dL_law_346 (by decide) ?_
  refine lv_iadd C.1 C.2.1 dL_law_347 ?_
  refine va_sld C.1 C.2.1 hXs hbl hbA hS (vp_in_iff.mpr ⟨by omega, by omega⟩) dL_law_348 ?_
  refine lv_aload_n C.1 C.2.1 dL_law_349 rfl (lv_at hl 3 rfl) ?_
  refine lv_iload_n C.1 C.2.1 dL_law_350 rfl (lv_at hl 0 rfl) ?_
  refine lv_iconst C.1 C.2.1 (v := 3) dL_law_351 (by decide) ?_
  refine lv_iadd C.1 C.2.1 dL_law_352 ?_
  refine va_sld C.1 C.2.1 hXs hbl hbA hS (vp_in_iff.mpr ⟨by omega, by omega⟩) dL_law_353 ?_
  refine lv_aload_n C.1 C.2.1 dL_law_354 rfl (lv_at hl 3 rfl) ?_
  refine lv_iload_n C.1 C.2.1 dL_law_355 rfl (lv_at hl 0 rfl) ?_
  refine lv_iconst C.1 C.2.1 (v := 4) dL_law_356 (by decide) ?_
  refine lv_iadd C.1 C.2.1 dL_law_357 ?_
  refine va_sld C.1 C.2.1 hXs hbl hbA hS (vp_in_iff.mpr ⟨by omega, by omega⟩) dL_law_358 ?_
  refine go2_i hM hX (fun k hk j hj => (hd j hj k hk).symm) (fM.trans fX.symm) (run_V (o := 0) (As := [.int (xs (x3 + 1).toNatClampNeg), .int (xs (x3 + 2).toNatClampNeg), .int (xs (x3 + 3).toNatClampNeg), .int (xs (x3 + 4).toNatClampNeg)]) (rest := [.int r1]) CM hM (by decide) rfl rfl (c_X8_put l G qM _ τ ξ (xs (x3 + 1).toNatClampNeg) (xs (x3 + 2).toNatClampNeg) (xs (x3 + 3).toNatClampNeg) (xs (x3 + 4).toNatClampNeg) hIV.1 hIV.2.2.1) (cw_V 4 CM bL_L_36 bI_X8_put bV_X8_put bN_X8 bC_X8_put ⟨rfl, rfl⟩ (by decide +kernel) ⟨Nat.le_of_ble_eq_true rfl, Nat.le_of_ble_eq_true rfl⟩) rfl hl.1 rfl (Nat.le_of_ble_eq_true rfl) dL_law_359 hcs) (fun r2 u2 H locs hp2 hM hX => ?_)
  obtain ⟨hI2, er⟩ := LI_next hI hp1 hp2 (iv_put hIV) hX hM
  refine lv_icmp_eq C.1 C.2.1 (tgt := 1199) dL_law_362 (by decide) (fun _ => ?_) (fun c => absurd er c)
  refine W.widen (k := 200 + i + 6) (n := 20000 + 208 * (i + 6)) (by omega) (by omega) ?_
  exact hN _ _ _ _ _ _ _ _ _ rfl hI2 hl
set_option maxHeartbeats 4000000 in
set_option maxRecDepth 100000 in
theorem lc_get (C : LC G (fun a => s.heap.size ≤ a) p s m args c cL_law 4 RL) (hXs : va_X b L xs s s.heap) (hbl : b < s.heap.size) (hL : L ≤ 3072) (hx3 : x3.toInt = (i : Int)) (hi6 : i + 6 ≤ L) (hI : LI G s τ nd q qM ζ ξ ρ H locs) (hl : lv_has ls 4 [(3, .int x3), (2, .ref (qM 0)), (1, .ref (q 0)), (0, .ref b)]) (hN : NX G p l e s m args below meth c Q qM (q 0) i b x3) : W p l e room_1 s m args below meth c H locs (200 + i) (20000 + 208 * i) Q (F0 m 367 ls []) := by
  have hIV := hI.2.2.1
  have hX := hI.2.2.2.1
  have hM := hI.2.2.2.2.1
  have CX := LC_CX C hI.2.2.2.2.2.1 hI.2.2.2.2.2.2.2.1
  have CM := LC_CX C hI.2.2.2.2.2.2.1 hI.2.2.2.2.2.2.2.2.1
  have fX := FA_A0 hI.2.2.2.2.2.2.2.1
  have fM := FA_A0 hI.2.2.2.2.2.2.2.2.1
  have hd := hI.2.2.2.2.2.2.2.2.2
  have hS : va_S (fun a => s.heap.size ≤ a) s.heap H locs := by rw [← fX]; exact hX.2
  have hbA : ¬ s.heap.size ≤ b := Nat.not_le.mpr hbl
  have hcs : 200 + i ≤ room_1.cells ∧ 20000 + 208 * i ≤ room_1.slots := ⟨by show 200 + i ≤ 600000; omega, by show 20000 + 208 * i ≤ 7302250; omega⟩
  have e_1 : (x3 + 1).toInt = (i : Int) + 1 := ti_add hx3 (show (1 : Int32).toInt = 1 from by decide) (by omega) (by omega)
  have e_2 : (x3 + 2).toInt = (i : Int) + 2 := ti_add hx3 (show (2 : Int32).toInt = 2 from by decide) (by omega) (by omega)
  have e_3 : (x3 + 3).toInt = (i : Int) + 3 := ti_add hx3 (show (3 : Int32).toInt = 3 from by decide) (by omega) (by omega)
  refine lv_aload_n C.1 C.2.1 dL_law_367 rfl (lv_at hl 2 rfl) ?_
  refine lv_aload_n C.1 C.2.1 dL_law_368 rfl (lv_at hl 3 rfl) ?_
  refine lv_iload_n C.1 C.2.1 dL_law_369 rfl (lv_at hl 0 rfl) ?_
  refine lv_iconst C.1 C.2.1 (v := 1) dL_law_370 (by decide) ?_
  refine lv_iadd C.1 C.2.1 dL_law_371 ?_
  refine va_sld C.1 C.2.1 hXs hbl hbA hS (vp_in_iff.mpr ⟨by omega, by omega⟩) dL_law_372 ?_
  refine lv_aload_n C.1 C.2.1 dL_law_373 rfl (lv_at hl 3 rfl) ?_
  refine lv_iload_n C.1 C.2.1 dL_law_374 rfl (lv_at hl 0 rfl) ?_
  refine lv_iconst C.1 C.2.1 (v := 2) dL_law_375 (by decide) ?_
  refine lv_iadd C.1 C.2.1 dL_law_376 ?_
  refine va_sld C.1 C.2.1 hXs hbl hbA hS (vp_in_iff.mpr ⟨by omega, by omega⟩) dL_law_377 ?_
  refine lv_aload_n C.1 C.2.1 dL_law_378 rfl (lv_at hl 3 rfl) ?_
  refine lv_iload_n C.1 C.2.1 dL_law_379 rfl (lv_at hl 0 rfl) ?_
  refine lv_iconst C.1 C.2.1 (v := 3) dL_law_380 (by decide) ?_
  refine lv_iadd C.1 C.2.1 dL_law_381 ?_
  refine va_sld C.1 C.2.1 hXs hbl hbA hS (vp_in_iff.mpr ⟨by omega, by omega⟩) dL_law_382 ?_
  refine go2_i hX hM hd (fX.trans fM.symm) (run_V (o := 0) (As := [.int (xs (x3 + 1).toNatClampNeg), .int (xs (x3 + 2).toNatClampNeg), .int (xs (x3 + 3).toNatClampNeg)]) (rest := []) CX hX (by omega) rfl rfl (c_X7_get l G q nd _ τ ζ ρ (xs (x3 + 1).toNatClampNeg) (xs (x3 + 2).toNatClampNeg) (xs (x3 + 3).toNatClampNeg) hI.1 hI.2.1 hIV.2.2.1) (cw_V 3 CX bL_L_37 bI_X7_get bV_X7_get bN_X7 bC_X7_get ⟨rfl, rfl⟩ (by decide +kernel) ⟨Nat.le_of_ble_eq_true rfl, Nat.le_of_ble_eq_true rfl⟩) rfl hl.1 rfl (Nat.le_of_ble_eq_true rfl) dL_law_383 hcs) (fun r1 u1 H locs hp1 hX hM => ?_)
  have hS : va_S (fun a => s.heap.size ≤ a) s.heap H locs := by rw [← fX]; exact hX.2
  refine lv_aload_n C.1 C.2.1 dL_law_386 rfl (lv_at hl 1 rfl) ?_
  refine lv_aload_n C.1 C.2.1 dL_law_387 rfl (lv_at hl 3 rfl) ?_
  refine lv_iload_n C.1 C.2.1 dL_law_388 rfl (lv_at hl 0 rfl) ?_
  refine lv_iconst C.1 C.2.1 (v := 1) dL_law_389 (by decide) ?_
  refine lv_iadd C.1 C.2.1 dL_law_390 ?_
  refine va_sld C.1 C.2.1 hXs hbl hbA hS (vp_in_iff.mpr ⟨by omega, by omega⟩) dL_law_391 ?_
  refine lv_aload_n C.1 C.2.1 dL_law_392 rfl (lv_at hl 3 rfl) ?_
  refine lv_iload_n C.1 C.2.1 dL_law_393 rfl (lv_at hl 0 rfl) ?_
  refine lv_iconst C.1 C.2.1 (v := 2) dL_law_394 (by decide) ?_
  refine lv_iadd C.1 C.2.1 dL_law_395 ?_
  refine va_sld C.1 C.2.1 hXs hbl hbA hS (vp_in_iff.mpr ⟨by omega, by omega⟩) dL_law_396 ?_
  refine lv_aload_n C.1 C.2.1 dL_law_397 rfl (lv_at hl 3 rfl) ?_
  refine lv_iload_n C.1 C.2.1 dL_law_398 rfl (lv_at hl 0 rfl) ?_
  refine lv_iconst C.1 C.2.1 (v := 3) dL_law_399 (by decide) ?_
  refine lv_iadd C.1 C.2.1 dL_law_400 ?_
  refine va_sld C.1 C.2.1 hXs hbl hbA hS (vp_in_iff.mpr ⟨by omega, by omega⟩) dL_law_401 ?_
  refine go2_i hM hX (fun k hk j hj => (hd j hj k hk).symm) (fM.trans fX.symm) (run_V (o := 0) (As := [.int (xs (x3 + 1).toNatClampNeg), .int (xs (x3 + 2).toNatClampNeg), .int (xs (x3 + 3).toNatClampNeg)]) (rest := [.int r1]) CM hM (by decide) rfl rfl (c_X8_get l G qM _ τ ξ (xs (x3 + 1).toNatClampNeg) (xs (x3 + 2).toNatClampNeg) (xs (x3 + 3).toNatClampNeg) hIV.1 hIV.2.2.1) (cw_V 3 CM bL_L_40 bI_X8_get bV_X8_get bN_X8 bC_X8_get ⟨rfl, rfl⟩ (by decide +kernel) ⟨Nat.le_of_ble_eq_true rfl, Nat.le_of_ble_eq_true rfl⟩) rfl hl.1 rfl (Nat.le_of_ble_eq_true rfl) dL_law_402 hcs) (fun r2 u2 H locs hp2 hM hX => ?_)
  obtain ⟨hI2, er⟩ := LI_next hI hp1 hp2 (iv_get hIV) hX hM
  refine lv_icmp_eq C.1 C.2.1 (tgt := 1199) dL_law_405 (by decide) (fun _ => ?_) (fun c => absurd er c)
  refine W.widen (k := 200 + i + 6) (n := 20000 + 208 * (i + 6)) (by omega) (by omega) ?_
  exact hN _ _ _ _ _ _ _ _ _ rfl hI2 hl
set_option maxHeartbeats 4000000 in
set_option maxRecDepth 100000 in
theorem lc_copy (C : LC G (fun a => s.heap.size ≤ a) p s m args c cL_law 4 RL) (hXs : va_X b L xs s s.heap) (hbl : b < s.heap.size) (hL : L ≤ 3072) (hx3 : x3.toInt = (i : Int)) (hi6 : i + 6 ≤ L) (hI : LI G s τ nd q qM ζ ξ ρ H locs) (hl : lv_has ls 4 [(3, .int x3), (2, .ref (qM 0)), (1, .ref (q 0)), (0, .ref b)]) (hN : NX G p l e s m args below meth c Q qM (q 0) i b x3) : W p l e room_1 s m args below meth c H locs (200 + i) (20000 + 208 * i) Q (F0 m 410 ls []) := by
  have hIV := hI.2.2.1
  have hX := hI.2.2.2.1
  have hM := hI.2.2.2.2.1
  have CX := LC_CX C hI.2.2.2.2.2.1 hI.2.2.2.2.2.2.2.1
  have CM := LC_CX C hI.2.2.2.2.2.2.1 hI.2.2.2.2.2.2.2.2.1
  have fX := FA_A0 hI.2.2.2.2.2.2.2.1
  have fM := FA_A0 hI.2.2.2.2.2.2.2.2.1
  have hd := hI.2.2.2.2.2.2.2.2.2
  have hS : va_S (fun a => s.heap.size ≤ a) s.heap H locs := by rw [← fX]; exact hX.2
  have hbA : ¬ s.heap.size ≤ b := Nat.not_le.mpr hbl
  have hcs : 200 + i ≤ room_1.cells ∧ 20000 + 208 * i ≤ room_1.slots := ⟨by show 200 + i ≤ 600000; omega, by show 20000 + 208 * i ≤ 7302250; omega⟩
  have e_1 : (x3 + 1).toInt = (i : Int) + 1 := ti_add hx3 (show (1 : Int32).toInt = 1 from by decide) (by omega) (by omega)
  have e_2 : (x3 + 2).toInt = (i : Int) + 2 := ti_add hx3 (show (2 : Int32).toInt = 2 from by decide) (by omega) (by omega)
  have e_3 : (x3 + 3).toInt = (i : Int) + 3 := ti_add hx3 (show (3 : Int32).toInt = 3 from by decide) (by omega) (by omega)
  have e_4 : (x3 + 4).toInt = (i : Int) + 4 := ti_add hx3 (show (4 : Int32).toInt = 4 from by decide) (by omega) (by omega)
  have e_5 : (x3 + 5).toInt = (i : Int) + 5 := ti_add hx3 (show (5 : Int32).toInt = 5 from by decide) (by omega) (by omega)
  refine lv_aload_n C.1 C.2.1 dL_law_410 rfl (lv_at hl 2 rfl) ?_
  refine lv_aload_n C.1 C.2.1 dL_law_411 rfl (lv_at hl 3 rfl) ?_
  refine lv_iload_n C.1 C.2.1 dL_law_412 rfl (lv_at hl 0 rfl) ?_
  refine lv_iconst C.1 C.2.1 (v := 1) dL_law_413 (by decide) ?_
  refine lv_iadd C.1 C.2.1 dL_law_414 ?_
  refine va_sld C.1 C.2.1 hXs hbl hbA hS (vp_in_iff.mpr ⟨by omega, by omega⟩) dL_law_415 ?_
  refine lv_aload_n C.1 C.2.1 dL_law_416 rfl (lv_at hl 3 rfl) ?_
  refine lv_iload_n C.1 C.2.1 dL_law_417 rfl (lv_at hl 0 rfl) ?_
  refine lv_iconst C.1 C.2.1 (v := 2) dL_law_418 (by decide) ?_
  refine lv_iadd C.1 C.2.1 dL_law_419 ?_
  refine va_sld C.1 C.2.1 hXs hbl hbA hS (vp_in_iff.mpr ⟨by omega, by omega⟩) dL_law_420 ?_
  refine lv_aload_n C.1 C.2.1 dL_law_421 rfl (lv_at hl 3 rfl) ?_
  refine lv_iload_n C.1 C.2.1 dL_law_422 rfl (lv_at hl 0 rfl) ?_
  refine lv_iconst C.1 C.2.1 (v := 3) dL_law_423 (by decide) ?_
  refine lv_iadd C.1 C.2.1 dL_law_424 ?_
  refine va_sld C.1 C.2.1 hXs hbl hbA hS (vp_in_iff.mpr ⟨by omega, by omega⟩) dL_law_425 ?_
  refine lv_aload_n C.1 C.2.1 dL_law_426 rfl (lv_at hl 3 rfl) ?_
  refine lv_iload_n C.1 C.2.1 dL_law_427 rfl (lv_at hl 0 rfl) ?_
  refine lv_iconst C.1 C.2.1 (v := 4) dL_law_428 (by decide) ?_
  refine lv_iadd C.1 C.2.1 dL_law_429 ?_
  refine va_sld C.1 C.2.1 hXs hbl hbA hS (vp_in_iff.mpr ⟨by omega, by omega⟩) dL_law_430 ?_
  refine lv_aload_n C.1 C.2.1 dL_law_431 rfl (lv_at hl 3 rfl) ?_
  refine lv_iload_n C.1 C.2.1 dL_law_432 rfl (lv_at hl 0 rfl) ?_
  refine lv_iconst C.1 C.2.1 (v := 5) dL_law_433 (by decide) ?_
  refine lv_iadd C.1 C.2.1 dL_law_434 ?_
  refine va_sld C.1 C.2.1 hXs hbl hbA hS (vp_in_iff.mpr ⟨by omega, by omega⟩) dL_law_435 ?_
  refine go2_i hX hM hd (fX.trans fM.symm) (run_V (o := 0) (As := [.int (xs (x3 + 1).toNatClampNeg), .int (xs (x3 + 2).toNatClampNeg), .int (xs (x3 + 3).toNatClampNeg), .int (xs (x3 + 4).toNatClampNeg), .int (xs (x3 + 5).toNatClampNeg)]) (rest := []) CX hX (by omega) rfl rfl (c_X7_copy l G q nd _ τ ζ ρ (xs (x3 + 1).toNatClampNeg) (xs (x3 + 2).toNatClampNeg) (xs (x3 + 3).toNatClampNeg) (xs (x3 + 4).toNatClampNeg) (xs (x3 + 5).toNatClampNeg) hI.1 hI.2.1 hIV.2.2.1) (cw_V 5 CX bL_L_41 bI_X7_copy bV_X7_copy bN_X7 bC_X7_copy ⟨rfl, rfl⟩ (by decide +kernel) ⟨Nat.le_of_ble_eq_true rfl, Nat.le_of_ble_eq_true rfl⟩) rfl hl.1 rfl (Nat.le_of_ble_eq_true rfl) dL_law_436 hcs) (fun r1 u1 H locs hp1 hX hM => ?_)
  have hS : va_S (fun a => s.heap.size ≤ a) s.heap H locs := by rw [← fX]; exact hX.2
  refine lv_aload_n C.1 C.2.1 dL_law_439 rfl (lv_at hl 1 rfl) ?_
  refine lv_aload_n C.1 C.2.1 dL_law_440 rfl (lv_at hl 3 rfl) ?_
  refine lv_iload_n C.1 C.2.1 dL_law_441 rfl (lv_at hl 0 rfl) ?_
  refine lv_iconst C.1 C.2.1 (v := 1) dL_law_442 (by decide) ?_
  refine lv_iadd C.1 C.2.1 dL_law_443 ?_
  refine va_sld C.1 C.2.1 hXs hbl hbA hS (vp_in_iff.mpr ⟨by omega, by omega⟩) dL_law_444 ?_
  refine lv_aload_n C.1 C.2.1 dL_law_445 rfl (lv_at hl 3 rfl) ?_
  refine lv_iload_n C.1 C.2.1 dL_law_446 rfl (lv_at hl 0 rfl) ?_
  refine lv_iconst C.1 C.2.1 (v := 2) dL_law_447 (by decide) ?_
  refine lv_iadd C.1 C.2.1 dL_law_448 ?_
  refine va_sld C.1 C.2.1 hXs hbl hbA hS (vp_in_iff.mpr ⟨by omega, by omega⟩) dL_law_449 ?_
  refine lv_aload_n C.1 C.2.1 dL_law_450 rfl (lv_at hl 3 rfl) ?_
  refine lv_iload_n C.1 C.2.1 dL_law_451 rfl (lv_at hl 0 rfl) ?_
  refine lv_iconst C.1 C.2.1 (v := 3) dL_law_452 (by decide) ?_
  refine lv_iadd C.1 C.2.1 dL_law_453 ?_
  refine va_sld C.1 C.2.1 hXs hbl hbA hS (vp_in_iff.mpr ⟨by omega, by omega⟩) dL_law_454 ?_
  refine lv_aload_n C.1 C.2.1 dL_law_455 rfl (lv_at hl 3 rfl) ?_
  refine lv_iload_n C.1 C.2.1 dL_law_456 rfl (lv_at hl 0 rfl) ?_
  refine lv_iconst C.1 C.2.1 (v := 4) dL_law_457 (by decide) ?_
  refine lv_iadd C.1 C.2.1 dL_law_458 ?_
  refine va_sld C.1 C.2.1 hXs hbl hbA hS (vp_in_iff.mpr ⟨by omega, by omega⟩) dL_law_459 ?_
  refine lv_aload_n C.1 C.2.1 dL_law_460 rfl (lv_at hl 3 rfl) ?_
  refine lv_iload_n C.1 C.2.1 dL_law_461 rfl (lv_at hl 0 rfl) ?_
  refine lv_iconst C.1 C.2.1 (v := 5) dL_law_462 (by decide) ?_
  refine lv_iadd C.1 C.2.1 dL_law_463 ?_
  refine va_sld C.1 C.2.1 hXs hbl hbA hS (vp_in_iff.mpr ⟨by omega, by omega⟩) dL_law_464 ?_
  refine go2_i hM hX (fun k hk j hj => (hd j hj k hk).symm) (fM.trans fX.symm) (run_V (o := 0) (As := [.int (xs (x3 + 1).toNatClampNeg), .int (xs (x3 + 2).toNatClampNeg), .int (xs (x3 + 3).toNatClampNeg), .int (xs (x3 + 4).toNatClampNeg), .int (xs (x3 + 5).toNatClampNeg)]) (rest := [.int r1]) CM hM (by decide) rfl rfl (c_X8_copy l G qM _ τ ξ (xs (x3 + 1).toNatClampNeg) (xs (x3 + 2).toNatClampNeg) (xs (x3 + 3).toNatClampNeg) (xs (x3 + 4).toNatClampNeg) (xs (x3 + 5).toNatClampNeg) hIV.1 hIV.2.2.1) (cw_V 5 CM bL_L_45 bI_X8_copy bV_X8_copy bN_X8 bC_X8_copy ⟨rfl, rfl⟩ (by decide +kernel) ⟨Nat.le_of_ble_eq_true rfl, Nat.le_of_ble_eq_true rfl⟩) rfl hl.1 rfl (Nat.le_of_ble_eq_true rfl) dL_law_465 hcs) (fun r2 u2 H locs hp2 hM hX => ?_)
  obtain ⟨hI2, er⟩ := LI_next hI hp1 hp2 (iv_copy hIV) hX hM
  refine lv_icmp_eq C.1 C.2.1 (tgt := 1199) dL_law_468 (by decide) (fun _ => ?_) (fun c => absurd er c)
  refine W.widen (k := 200 + i + 6) (n := 20000 + 208 * (i + 6)) (by omega) (by omega) ?_
  exact hN _ _ _ _ _ _ _ _ _ rfl hI2 hl
set_option maxHeartbeats 4000000 in
set_option maxRecDepth 100000 in
theorem lc_flag (C : LC G (fun a => s.heap.size ≤ a) p s m args c cL_law 4 RL) (hXs : va_X b L xs s s.heap) (hbl : b < s.heap.size) (hL : L ≤ 3072) (hx3 : x3.toInt = (i : Int)) (hi6 : i + 6 ≤ L) (hI : LI G s τ nd q qM ζ ξ ρ H locs) (hl : lv_has ls 4 [(3, .int x3), (2, .ref (qM 0)), (1, .ref (q 0)), (0, .ref b)]) (hN : NX G p l e s m args below meth c Q qM (q 0) i b x3) : W p l e room_1 s m args below meth c H locs (200 + i) (20000 + 208 * i) Q (F0 m 473 ls []) := by
  have hIV := hI.2.2.1
  have hX := hI.2.2.2.1
  have hM := hI.2.2.2.2.1
  have CX := LC_CX C hI.2.2.2.2.2.1 hI.2.2.2.2.2.2.2.1
  have CM := LC_CX C hI.2.2.2.2.2.2.1 hI.2.2.2.2.2.2.2.2.1
  have fX := FA_A0 hI.2.2.2.2.2.2.2.1
  have fM := FA_A0 hI.2.2.2.2.2.2.2.2.1
  have hd := hI.2.2.2.2.2.2.2.2.2
  have hS : va_S (fun a => s.heap.size ≤ a) s.heap H locs := by rw [← fX]; exact hX.2
  have hbA : ¬ s.heap.size ≤ b := Nat.not_le.mpr hbl
  have hcs : 200 + i ≤ room_1.cells ∧ 20000 + 208 * i ≤ room_1.slots := ⟨by show 200 + i ≤ 600000; omega, by show 20000 + 208 * i ≤ 7302250; omega⟩
  have e_1 : (x3 + 1).toInt = (i : Int) + 1 := ti_add hx3 (show (1 : Int32).toInt = 1 from by decide) (by omega) (by omega)
  have e_2 : (x3 + 2).toInt = (i : Int) + 2 := ti_add hx3 (show (2 : Int32).toInt = 2 from by decide) (by omega) (by omega)
  have e_3 : (x3 + 3).toInt = (i : Int) + 3 := ti_add hx3 (show (3 : Int32).toInt = 3 from by decide) (by omega) (by omega)
  refine lv_aload_n C.1 C.2.1 dL_law_473 rfl (lv_at hl 2 rfl) ?_
  refine lv_aload_n C.1 C.2.1 dL_law_474 rfl (lv_at hl 3 rfl) ?_
  refine lv_iload_n C.1 C.2.1 dL_law_475 rfl (lv_at hl 0 rfl) ?_
  refine lv_iconst C.1 C.2.1 (v := 1) dL_law_476 (by decide) ?_
  refine lv_iadd C.1 C.2.1 dL_law_477 ?_
  refine va_sld C.1 C.2.1 hXs hbl hbA hS (vp_in_iff.mpr ⟨by omega, by omega⟩) dL_law_478 ?_
  refine lv_aload_n C.1 C.2.1 dL_law_479 rfl (lv_at hl 3 rfl) ?_
  refine lv_iload_n C.1 C.2.1 dL_law_480 rfl (lv_at hl 0 rfl) ?_
  refine lv_iconst C.1 C.2.1 (v := 2) dL_law_481 (by decide) ?_
  refine lv_iadd C.1 C.2.1 dL_law_482 ?_
  refine va_sld C.1 C.2.1 hXs hbl hbA hS (vp_in_iff.mpr ⟨by omega, by omega⟩) dL_law_483 ?_
  refine lv_aload_n C.1 C.2.1 dL_law_484 rfl (lv_at hl 3 rfl) ?_
  refine lv_iload_n C.1 C.2.1 dL_law_485 rfl (lv_at hl 0 rfl) ?_
  refine lv_iconst C.1 C.2.1 (v := 3) dL_law_486 (by decide) ?_
  refine lv_iadd C.1 C.2.1 dL_law_487 ?_
  refine va_sld C.1 C.2.1 hXs hbl hbA hS (vp_in_iff.mpr ⟨by omega, by omega⟩) dL_law_488 ?_
  refine go2_i hX hM hd (fX.trans fM.symm) (run_V (o := 0) (As := [.int (xs (x3 + 1).toNatClampNeg), .int (xs (x3 + 2).toNatClampNeg), .int (xs (x3 + 3).toNatClampNeg)]) (rest := []) CX hX (by omega) rfl rfl (c_X7_flag l G q nd _ τ ζ ρ (xs (x3 + 1).toNatClampNeg) (xs (x3 + 2).toNatClampNeg) (xs (x3 + 3).toNatClampNeg) hI.1 hI.2.1 hIV.2.1) (cw_V 3 CX bL_L_46 bI_X7_flag bV_X7_flag bN_X7 bC_X7_flag ⟨rfl, rfl⟩ (by decide +kernel) ⟨Nat.le_of_ble_eq_true rfl, Nat.le_of_ble_eq_true rfl⟩) rfl hl.1 rfl (Nat.le_of_ble_eq_true rfl) dL_law_489 hcs) (fun r1 u1 H locs hp1 hX hM => ?_)
  have hS : va_S (fun a => s.heap.size ≤ a) s.heap H locs := by rw [← fX]; exact hX.2
  refine lv_aload_n C.1 C.2.1 dL_law_492 rfl (lv_at hl 1 rfl) ?_
  refine lv_aload_n C.1 C.2.1 dL_law_493 rfl (lv_at hl 3 rfl) ?_
  refine lv_iload_n C.1 C.2.1 dL_law_494 rfl (lv_at hl 0 rfl) ?_
  refine lv_iconst C.1 C.2.1 (v := 1) dL_law_495 (by decide) ?_
  refine lv_iadd C.1 C.2.1 dL_law_496 ?_
  refine va_sld C.1 C.2.1 hXs hbl hbA hS (vp_in_iff.mpr ⟨by omega, by omega⟩) dL_law_497 ?_
  refine lv_aload_n C.1 C.2.1 dL_law_498 rfl (lv_at hl 3 rfl) ?_
  refine lv_iload_n C.1 C.2.1 dL_law_499 rfl (lv_at hl 0 rfl) ?_
  refine lv_iconst C.1 C.2.1 (v := 2) dL_law_500 (by decide) ?_
  refine lv_iadd C.1 C.2.1 dL_law_501 ?_
  refine va_sld C.1 C.2.1 hXs hbl hbA hS (vp_in_iff.mpr ⟨by omega, by omega⟩) dL_law_502 ?_
  refine lv_aload_n C.1 C.2.1 dL_law_503 rfl (lv_at hl 3 rfl) ?_
  refine lv_iload_n C.1 C.2.1 dL_law_504 rfl (lv_at hl 0 rfl) ?_
  refine lv_iconst C.1 C.2.1 (v := 3) dL_law_505 (by decide) ?_
  refine lv_iadd C.1 C.2.1 dL_law_506 ?_
  refine va_sld C.1 C.2.1 hXs hbl hbA hS (vp_in_iff.mpr ⟨by omega, by omega⟩) dL_law_507 ?_
  refine go2_i hM hX (fun k hk j hj => (hd j hj k hk).symm) (fM.trans fX.symm) (run_V (o := 0) (As := [.int (xs (x3 + 1).toNatClampNeg), .int (xs (x3 + 2).toNatClampNeg), .int (xs (x3 + 3).toNatClampNeg)]) (rest := [.int r1]) CM hM (by decide) rfl rfl (c_X8_flag l G qM _ τ ξ (xs (x3 + 1).toNatClampNeg) (xs (x3 + 2).toNatClampNeg) (xs (x3 + 3).toNatClampNeg) hIV.1 hIV.2.1) (cw_V 3 CM bL_L_49 bI_X8_flag bV_X8_flag bN_X8 bC_X8_flag ⟨rfl, rfl⟩ (by decide +kernel) ⟨Nat.le_of_ble_eq_true rfl, Nat.le_of_ble_eq_true rfl⟩) rfl hl.1 rfl (Nat.le_of_ble_eq_true rfl) dL_law_508 hcs) (fun r2 u2 H locs hp2 hM hX => ?_)
  obtain ⟨hI2, er⟩ := LI_next hI hp1 hp2 (iv_flag hIV) hX hM
  refine lv_icmp_eq C.1 C.2.1 (tgt := 1199) dL_law_511 (by decide) (fun _ => ?_) (fun c => absurd er c)
  refine W.widen (k := 200 + i + 6) (n := 20000 + 208 * (i + 6)) (by omega) (by omega) ?_
  exact hN _ _ _ _ _ _ _ _ _ rfl hI2 hl
set_option maxHeartbeats 4000000 in
set_option maxRecDepth 100000 in
theorem lc_unflag (C : LC G (fun a => s.heap.size ≤ a) p s m args c cL_law 4 RL) (hXs : va_X b L xs s s.heap) (hbl : b < s.heap.size) (hL : L ≤ 3072) (hx3 : x3.toInt = (i : Int)) (hi6 : i + 6 ≤ L) (hI : LI G s τ nd q qM ζ ξ ρ H locs) (hl : lv_has ls 4 [(3, .int x3), (2, .ref (qM 0)), (1, .ref (q 0)), (0, .ref b)]) (hN : NX G p l e s m args below meth c Q qM (q 0) i b x3) : W p l e room_1 s m args below meth c H locs (200 + i) (20000 + 208 * i) Q (F0 m 516 ls []) := by
  have hIV := hI.2.2.1
  have hX := hI.2.2.2.1
  have hM := hI.2.2.2.2.1
  have CX := LC_CX C hI.2.2.2.2.2.1 hI.2.2.2.2.2.2.2.1
  have CM := LC_CX C hI.2.2.2.2.2.2.1 hI.2.2.2.2.2.2.2.2.1
  have fX := FA_A0 hI.2.2.2.2.2.2.2.1
  have fM := FA_A0 hI.2.2.2.2.2.2.2.2.1
  have hd := hI.2.2.2.2.2.2.2.2.2
  have hS : va_S (fun a => s.heap.size ≤ a) s.heap H locs := by rw [← fX]; exact hX.2
  have hbA : ¬ s.heap.size ≤ b := Nat.not_le.mpr hbl
  have hcs : 200 + i ≤ room_1.cells ∧ 20000 + 208 * i ≤ room_1.slots := ⟨by show 200 + i ≤ 600000; omega, by show 20000 + 208 * i ≤ 7302250; omega⟩
  refine lv_aload_n C.1 C.2.1 dL_law_516 rfl (lv_at hl 2 rfl) ?_
  refine go2_i hX hM hd (fX.trans fM.symm) (run_V (o := 0) (As := []) (rest := []) CX hX (by omega) rfl rfl (c_X7_unflag l G q nd _ τ ζ ρ  hI.1 hI.2.1 hIV.2.1 hIV.2.2.2.2.2.2.2.2.2.2.2.2.1) (cw_V 0 CX bL_L_50 bI_X7_unflag bV_X7_unflag bN_X7 bC_X7_unflag ⟨rfl, rfl⟩ (by decide +kernel) ⟨Nat.le_of_ble_eq_true rfl, Nat.le_of_ble_eq_true rfl⟩) rfl hl.1 rfl (Nat.le_of_ble_eq_true rfl) dL_law_517 hcs) (fun r1 u1 H locs hp1 hX hM => ?_)
  have hS : va_S (fun a => s.heap.size ≤ a) s.heap H locs := by rw [← fX]; exact hX.2
  refine lv_aload_n C.1 C.2.1 dL_law_520 rfl (lv_at hl 1 rfl) ?_
  refine go2_i hM hX (fun k hk j hj => (hd j hj k hk).symm) (fM.trans fX.symm) (run_V (o := 0) (As := []) (rest := [.int r1]) CM hM (by decide) rfl rfl (c_X8_unflag l G qM _ τ ξ  hIV.2.1) (cw_V 0 CM bL_L_54 bI_X8_unflag bV_X8_unflag bN_X8 bC_X8_unflag ⟨rfl, rfl⟩ (by decide +kernel) ⟨Nat.le_of_ble_eq_true rfl, Nat.le_of_ble_eq_true rfl⟩) rfl hl.1 rfl (Nat.le_of_ble_eq_true rfl) dL_law_521 hcs) (fun r2 u2 H locs hp2 hM hX => ?_)
  obtain ⟨hI2, er⟩ := LI_next hI hp1 hp2 (iv_unflag hIV) hX hM
  refine lv_icmp_eq C.1 C.2.1 (tgt := 1199) dL_law_524 (by decide) (fun _ => ?_) (fun c => absurd er c)
  refine W.widen (k := 200 + i + 6) (n := 20000 + 208 * (i + 6)) (by omega) (by omega) ?_
  exact hN _ _ _ _ _ _ _ _ _ rfl hI2 hl
set_option maxHeartbeats 4000000 in
set_option maxRecDepth 100000 in
theorem lc_ticks (C : LC G (fun a => s.heap.size ≤ a) p s m args c cL_law 4 RL) (hXs : va_X b L xs s s.heap) (hbl : b < s.heap.size) (hL : L ≤ 3072) (hx3 : x3.toInt = (i : Int)) (hi6 : i + 6 ≤ L) (hI : LI G s τ nd q qM ζ ξ ρ H locs) (hl : lv_has ls 4 [(3, .int x3), (2, .ref (qM 0)), (1, .ref (q 0)), (0, .ref b)]) (hN : NX G p l e s m args below meth c Q qM (q 0) i b x3) : W p l e room_1 s m args below meth c H locs (200 + i) (20000 + 208 * i) Q (F0 m 529 ls []) := by
  have hIV := hI.2.2.1
  have hX := hI.2.2.2.1
  have hM := hI.2.2.2.2.1
  have CX := LC_CX C hI.2.2.2.2.2.1 hI.2.2.2.2.2.2.2.1
  have CM := LC_CX C hI.2.2.2.2.2.2.1 hI.2.2.2.2.2.2.2.2.1
  have fX := FA_A0 hI.2.2.2.2.2.2.2.1
  have fM := FA_A0 hI.2.2.2.2.2.2.2.2.1
  have hd := hI.2.2.2.2.2.2.2.2.2
  have hS : va_S (fun a => s.heap.size ≤ a) s.heap H locs := by rw [← fX]; exact hX.2
  have hbA : ¬ s.heap.size ≤ b := Nat.not_le.mpr hbl
  have hcs : 200 + i ≤ room_1.cells ∧ 20000 + 208 * i ≤ room_1.slots := ⟨by show 200 + i ≤ 600000; omega, by show 20000 + 208 * i ≤ 7302250; omega⟩
  have e_1 : (x3 + 1).toInt = (i : Int) + 1 := ti_add hx3 (show (1 : Int32).toInt = 1 from by decide) (by omega) (by omega)
  have e_2 : (x3 + 2).toInt = (i : Int) + 2 := ti_add hx3 (show (2 : Int32).toInt = 2 from by decide) (by omega) (by omega)
  refine lv_aload_n C.1 C.2.1 dL_law_529 rfl (lv_at hl 2 rfl) ?_
  refine lv_aload_n C.1 C.2.1 dL_law_530 rfl (lv_at hl 3 rfl) ?_
  refine lv_iload_n C.1 C.2.1 dL_law_531 rfl (lv_at hl 0 rfl) ?_
  refine lv_iconst C.1 C.2.1 (v := 1) dL_law_532 (by decide) ?_
  refine lv_iadd C.1 C.2.1 dL_law_533 ?_
  refine va_sld C.1 C.2.1 hXs hbl hbA hS (vp_in_iff.mpr ⟨by omega, by omega⟩) dL_law_534 ?_
  refine lv_aload_n C.1 C.2.1 dL_law_535 rfl (lv_at hl 3 rfl) ?_
  refine lv_iload_n C.1 C.2.1 dL_law_536 rfl (lv_at hl 0 rfl) ?_
  refine lv_iconst C.1 C.2.1 (v := 2) dL_law_537 (by decide) ?_
  refine lv_iadd C.1 C.2.1 dL_law_538 ?_
  refine va_sld C.1 C.2.1 hXs hbl hbA hS (vp_in_iff.mpr ⟨by omega, by omega⟩) dL_law_539 ?_
  refine go2_i hX hM hd (fX.trans fM.symm) (run_V (o := 0) (As := [.int (xs (x3 + 1).toNatClampNeg), .int (xs (x3 + 2).toNatClampNeg)]) (rest := []) CX hX (by omega) rfl rfl (c_X7_ticks l G q nd _ τ ζ ρ (xs (x3 + 1).toNatClampNeg) (xs (x3 + 2).toNatClampNeg) hI.1 hI.2.1 hIV.2.1 hIV.2.2.1 hIV.2.2.2.1) (cw_V 2 CX bL_L_55 bI_X7_ticks bV_X7_ticks bN_X7 bC_X7_ticks ⟨rfl, rfl⟩ (by decide +kernel) ⟨Nat.le_of_ble_eq_true rfl, Nat.le_of_ble_eq_true rfl⟩) rfl hl.1 rfl (Nat.le_of_ble_eq_true rfl) dL_law_540 hcs) (fun r1 u1 H locs hp1 hX hM => ?_)
  have hS : va_S (fun a => s.heap.size ≤ a) s.heap H locs := by rw [← fX]; exact hX.2
  refine lv_aload_n C.1 C.2.1 dL_law_543 rfl (lv_at hl 1 rfl) ?_
  refine lv_aload_n C.1 C.2.1 dL_law_544 rfl (lv_at hl 3 rfl) ?_
  refine lv_iload_n C.1 C.2.1 dL_law_545 rfl (lv_at hl 0 rfl) ?_
  refine lv_iconst C.1 C.2.1 (v := 1) dL_law_546 (by decide) ?_
  refine lv_iadd C.1 C.2.1 dL_law_547 ?_
  refine va_sld C.1 C.2.1 hXs hbl hbA hS (vp_in_iff.mpr ⟨by omega, by omega⟩) dL_law_548 ?_
  refine lv_aload_n C.1 C.2.1 dL_law_549 rfl (lv_at hl 3 rfl) ?_
  refine lv_iload_n C.1 C.2.1 dL_law_550 rfl (lv_at hl 0 rfl) ?_
  refine lv_iconst C.1 C.2.1 (v := 2) dL_law_551 (by decide) ?_
  refine lv_iadd C.1 C.2.1 dL_law_552 ?_
  refine va_sld C.1 C.2.1 hXs hbl hbA hS (vp_in_iff.mpr ⟨by omega, by omega⟩) dL_law_553 ?_
  refine go2_i hM hX (fun k hk j hj => (hd j hj k hk).symm) (fM.trans fX.symm) (run_V (o := 0) (As := [.int (xs (x3 + 1).toNatClampNeg), .int (xs (x3 + 2).toNatClampNeg)]) (rest := [.int r1]) CM hM (by decide) rfl rfl (c_X8_ticks l G qM _ τ ξ (xs (x3 + 1).toNatClampNeg) (xs (x3 + 2).toNatClampNeg) hIV.1 hIV.2.2.2.1 hIV.2.1 hIV.2.2.1) (cw_V 2 CM bL_L_58 bI_X8_ticks bV_X8_ticks bN_X8 bC_X8_ticks ⟨rfl, rfl⟩ (by decide +kernel) ⟨Nat.le_of_ble_eq_true rfl, Nat.le_of_ble_eq_true rfl⟩) rfl hl.1 rfl (Nat.le_of_ble_eq_true rfl) dL_law_554 hcs) (fun r2 u2 H locs hp2 hM hX => ?_)
  obtain ⟨hI2, er⟩ := LI_next hI hp1 hp2 (iv_ticks hIV) hX hM
  refine lv_icmp_eq C.1 C.2.1 (tgt := 1199) dL_law_557 (by decide) (fun _ => ?_) (fun c => absurd er c)
  refine W.widen (k := 200 + i + 6) (n := 20000 + 208 * (i + 6)) (by omega) (by omega) ?_
  exact hN _ _ _ _ _ _ _ _ _ rfl hI2 hl
set_option maxHeartbeats 4000000 in
set_option maxRecDepth 100000 in
theorem lc_product (C : LC G (fun a => s.heap.size ≤ a) p s m args c cL_law 4 RL) (hXs : va_X b L xs s s.heap) (hbl : b < s.heap.size) (hL : L ≤ 3072) (hx3 : x3.toInt = (i : Int)) (hi6 : i + 6 ≤ L) (hI : LI G s τ nd q qM ζ ξ ρ H locs) (hl : lv_has ls 4 [(3, .int x3), (2, .ref (qM 0)), (1, .ref (q 0)), (0, .ref b)]) (hN : NX G p l e s m args below meth c Q qM (q 0) i b x3) : W p l e room_1 s m args below meth c H locs (200 + i) (20000 + 208 * i) Q (F0 m 562 ls []) := by
  have hIV := hI.2.2.1
  have hX := hI.2.2.2.1
  have hM := hI.2.2.2.2.1
  have CX := LC_CX C hI.2.2.2.2.2.1 hI.2.2.2.2.2.2.2.1
  have CM := LC_CX C hI.2.2.2.2.2.2.1 hI.2.2.2.2.2.2.2.2.1
  have fX := FA_A0 hI.2.2.2.2.2.2.2.1
  have fM := FA_A0 hI.2.2.2.2.2.2.2.2.1
  have hd := hI.2.2.2.2.2.2.2.2.2
  have hS : va_S (fun a => s.heap.size ≤ a) s.heap H locs := by rw [← fX]; exact hX.2
  have hbA : ¬ s.heap.size ≤ b := Nat.not_le.mpr hbl
  have hcs : 200 + i ≤ room_1.cells ∧ 20000 + 208 * i ≤ room_1.slots := ⟨by show 200 + i ≤ 600000; omega, by show 20000 + 208 * i ≤ 7302250; omega⟩
  have e_1 : (x3 + 1).toInt = (i : Int) + 1 := ti_add hx3 (show (1 : Int32).toInt = 1 from by decide) (by omega) (by omega)
  have e_2 : (x3 + 2).toInt = (i : Int) + 2 := ti_add hx3 (show (2 : Int32).toInt = 2 from by decide) (by omega) (by omega)
  refine lv_aload_n C.1 C.2.1 dL_law_562 rfl (lv_at hl 2 rfl) ?_
  refine lv_aload_n C.1 C.2.1 dL_law_563 rfl (lv_at hl 3 rfl) ?_
  refine lv_iload_n C.1 C.2.1 dL_law_564 rfl (lv_at hl 0 rfl) ?_
  refine lv_iconst C.1 C.2.1 (v := 1) dL_law_565 (by decide) ?_
  refine lv_iadd C.1 C.2.1 dL_law_566 ?_
  refine va_sld C.1 C.2.1 hXs hbl hbA hS (vp_in_iff.mpr ⟨by omega, by omega⟩) dL_law_567 ?_
  refine lv_aload_n C.1 C.2.1 dL_law_568 rfl (lv_at hl 3 rfl) ?_
  refine lv_iload_n C.1 C.2.1 dL_law_569 rfl (lv_at hl 0 rfl) ?_
  refine lv_iconst C.1 C.2.1 (v := 2) dL_law_570 (by decide) ?_
  refine lv_iadd C.1 C.2.1 dL_law_571 ?_
  refine va_sld C.1 C.2.1 hXs hbl hbA hS (vp_in_iff.mpr ⟨by omega, by omega⟩) dL_law_572 ?_
  refine go2_l hX hM hd (fX.trans fM.symm) (run_V (o := 0) (As := [.int (xs (x3 + 1).toNatClampNeg), .int (xs (x3 + 2).toNatClampNeg)]) (rest := []) CX hX (by omega) rfl rfl (c_X7_product l G q nd _ τ ζ ρ (xs (x3 + 1).toNatClampNeg) (xs (x3 + 2).toNatClampNeg) hI.1 hI.2.1 hIV.2.1 hIV.2.2.1 hIV.2.2.2.1) (cw_V 2 CX bL_L_59 bI_X7_product bV_X7_product bN_X7 bC_X7_product ⟨rfl, rfl⟩ (by decide +kernel) ⟨Nat.le_of_ble_eq_true rfl, Nat.le_of_ble_eq_true rfl⟩) rfl hl.1 rfl (Nat.le_of_ble_eq_true rfl) dL_law_573 hcs) (fun r1 u1 H locs hp1 hX hM => ?_)
  have hS : va_S (fun a => s.heap.size ≤ a) s.heap H locs := by rw [← fX]; exact hX.2
  refine lv_aload_n C.1 C.2.1 dL_law_576 rfl (lv_at hl 1 rfl) ?_
  refine lv_aload_n C.1 C.2.1 dL_law_577 rfl (lv_at hl 3 rfl) ?_
  refine lv_iload_n C.1 C.2.1 dL_law_578 rfl (lv_at hl 0 rfl) ?_
  refine lv_iconst C.1 C.2.1 (v := 1) dL_law_579 (by decide) ?_
  refine lv_iadd C.1 C.2.1 dL_law_580 ?_
  refine va_sld C.1 C.2.1 hXs hbl hbA hS (vp_in_iff.mpr ⟨by omega, by omega⟩) dL_law_581 ?_
  refine lv_aload_n C.1 C.2.1 dL_law_582 rfl (lv_at hl 3 rfl) ?_
  refine lv_iload_n C.1 C.2.1 dL_law_583 rfl (lv_at hl 0 rfl) ?_
  refine lv_iconst C.1 C.2.1 (v := 2) dL_law_584 (by decide) ?_
  refine lv_iadd C.1 C.2.1 dL_law_585 ?_
  refine va_sld C.1 C.2.1 hXs hbl hbA hS (vp_in_iff.mpr ⟨by omega, by omega⟩) dL_law_586 ?_
  refine go2_l hM hX (fun k hk j hj => (hd j hj k hk).symm) (fM.trans fX.symm) (run_V (o := 0) (As := [.int (xs (x3 + 1).toNatClampNeg), .int (xs (x3 + 2).toNatClampNeg)]) (rest := [.long r1]) CM hM (by decide) rfl rfl (c_X8_product l G qM _ τ ξ (xs (x3 + 1).toNatClampNeg) (xs (x3 + 2).toNatClampNeg) hIV.1 hIV.2.2.2.1 hIV.2.1 hIV.2.2.1) (cw_V 2 CM bL_L_63 bI_X8_product bV_X8_product bN_X8 bC_X8_product ⟨rfl, rfl⟩ (by decide +kernel) ⟨Nat.le_of_ble_eq_true rfl, Nat.le_of_ble_eq_true rfl⟩) rfl hl.1 rfl (Nat.le_of_ble_eq_true rfl) dL_law_587 hcs) (fun r2 u2 H locs hp2 hM hX => ?_)
  obtain ⟨hI2, er⟩ := LI_next hI hp1 hp2 (iv_product hIV) hX hM
  refine W.lcmp C.1 C.2.1 dL_law_590 ?_
  subst er
  refine lv_if_eq C.1 C.2.1 (tgt := 1199) dL_law_591 (by decide) (fun _ => ?_) (fun c => absurd ((lc_eq (x := r1) (y := r1) rfl rfl).mpr rfl) c)
  refine W.widen (k := 200 + i + 6) (n := 20000 + 208 * (i + 6)) (by omega) (by omega) ?_
  exact hN _ _ _ _ _ _ _ _ _ rfl hI2 hl
set_option maxHeartbeats 4000000 in
set_option maxRecDepth 100000 in
theorem lc_delay (C : LC G (fun a => s.heap.size ≤ a) p s m args c cL_law 4 RL) (hXs : va_X b L xs s s.heap) (hbl : b < s.heap.size) (hL : L ≤ 3072) (hx3 : x3.toInt = (i : Int)) (hi6 : i + 6 ≤ L) (hI : LI G s τ nd q qM ζ ξ ρ H locs) (hl : lv_has ls 4 [(3, .int x3), (2, .ref (qM 0)), (1, .ref (q 0)), (0, .ref b)]) (hN : NX G p l e s m args below meth c Q qM (q 0) i b x3) : W p l e room_1 s m args below meth c H locs (200 + i) (20000 + 208 * i) Q (F0 m 596 ls []) := by
  have hIV := hI.2.2.1
  have hX := hI.2.2.2.1
  have hM := hI.2.2.2.2.1
  have CX := LC_CX C hI.2.2.2.2.2.1 hI.2.2.2.2.2.2.2.1
  have CM := LC_CX C hI.2.2.2.2.2.2.1 hI.2.2.2.2.2.2.2.2.1
  have fX := FA_A0 hI.2.2.2.2.2.2.2.1
  have fM := FA_A0 hI.2.2.2.2.2.2.2.2.1
  have hd := hI.2.2.2.2.2.2.2.2.2
  have hS : va_S (fun a => s.heap.size ≤ a) s.heap H locs := by rw [← fX]; exact hX.2
  have hbA : ¬ s.heap.size ≤ b := Nat.not_le.mpr hbl
  have hcs : 200 + i ≤ room_1.cells ∧ 20000 + 208 * i ≤ room_1.slots := ⟨by show 200 + i ≤ 600000; omega, by show 20000 + 208 * i ≤ 7302250; omega⟩
  have e_1 : (x3 + 1).toInt = (i : Int) + 1 := ti_add hx3 (show (1 : Int32).toInt = 1 from by decide) (by omega) (by omega)
  have e_2 : (x3 + 2).toInt = (i : Int) + 2 := ti_add hx3 (show (2 : Int32).toInt = 2 from by decide) (by omega) (by omega)
  refine lv_aload_n C.1 C.2.1 dL_law_596 rfl (lv_at hl 2 rfl) ?_
  refine lv_aload_n C.1 C.2.1 dL_law_597 rfl (lv_at hl 3 rfl) ?_
  refine lv_iload_n C.1 C.2.1 dL_law_598 rfl (lv_at hl 0 rfl) ?_
  refine lv_iconst C.1 C.2.1 (v := 1) dL_law_599 (by decide) ?_
  refine lv_iadd C.1 C.2.1 dL_law_600 ?_
  refine va_sld C.1 C.2.1 hXs hbl hbA hS (vp_in_iff.mpr ⟨by omega, by omega⟩) dL_law_601 ?_
  refine lv_aload_n C.1 C.2.1 dL_law_602 rfl (lv_at hl 3 rfl) ?_
  refine lv_iload_n C.1 C.2.1 dL_law_603 rfl (lv_at hl 0 rfl) ?_
  refine lv_iconst C.1 C.2.1 (v := 2) dL_law_604 (by decide) ?_
  refine lv_iadd C.1 C.2.1 dL_law_605 ?_
  refine va_sld C.1 C.2.1 hXs hbl hbA hS (vp_in_iff.mpr ⟨by omega, by omega⟩) dL_law_606 ?_
  refine go2_i hX hM hd (fX.trans fM.symm) (run_V (o := 0) (As := [.int (xs (x3 + 1).toNatClampNeg), .int (xs (x3 + 2).toNatClampNeg)]) (rest := []) CX hX (by omega) rfl rfl (c_X7_delay l G q nd _ τ ζ ρ (xs (x3 + 1).toNatClampNeg) (xs (x3 + 2).toNatClampNeg) hI.1 hI.2.1 hIV.2.1 hIV.2.2.1 hIV.2.2.2.1) (cw_V 2 CX bL_L_64 bI_X7_delay bV_X7_delay bN_X7 bC_X7_delay ⟨rfl, rfl⟩ (by decide +kernel) ⟨Nat.le_of_ble_eq_true rfl, Nat.le_of_ble_eq_true rfl⟩) rfl hl.1 rfl (Nat.le_of_ble_eq_true rfl) dL_law_607 hcs) (fun r1 u1 H locs hp1 hX hM => ?_)
  have hS : va_S (fun a => s.heap.size ≤ a) s.heap H locs := by rw [← fX]; exact hX.2
  refine lv_aload_n C.1 C.2.1 dL_law_610 rfl (lv_at hl 1 rfl) ?_
  refine lv_aload_n C.1 C.2.1 dL_law_611 rfl (lv_at hl 3 rfl) ?_
  refine lv_iload_n C.1 C.2.1 dL_law_612 rfl (lv_at hl 0 rfl) ?_
  refine lv_iconst C.1 C.2.1 (v := 1) dL_law_613 (by decide) ?_
  refine lv_iadd C.1 C.2.1 dL_law_614 ?_
  refine va_sld C.1 C.2.1 hXs hbl hbA hS (vp_in_iff.mpr ⟨by omega, by omega⟩) dL_law_615 ?_
  refine lv_aload_n C.1 C.2.1 dL_law_616 rfl (lv_at hl 3 rfl) ?_
  refine lv_iload_n C.1 C.2.1 dL_law_617 rfl (lv_at hl 0 rfl) ?_
  refine lv_iconst C.1 C.2.1 (v := 2) dL_law_618 (by decide) ?_
  refine lv_iadd C.1 C.2.1 dL_law_619 ?_
  refine va_sld C.1 C.2.1 hXs hbl hbA hS (vp_in_iff.mpr ⟨by omega, by omega⟩) dL_law_620 ?_
  refine go2_i hM hX (fun k hk j hj => (hd j hj k hk).symm) (fM.trans fX.symm) (run_V (o := 0) (As := [.int (xs (x3 + 1).toNatClampNeg), .int (xs (x3 + 2).toNatClampNeg)]) (rest := [.int r1]) CM hM (by decide) rfl rfl (c_X8_delay l G qM _ τ ξ (xs (x3 + 1).toNatClampNeg) (xs (x3 + 2).toNatClampNeg) hIV.1 hIV.2.2.2.1 hIV.2.1 hIV.2.2.1) (cw_V 2 CM bL_L_67 bI_X8_delay bV_X8_delay bN_X8 bC_X8_delay ⟨rfl, rfl⟩ (by decide +kernel) ⟨Nat.le_of_ble_eq_true rfl, Nat.le_of_ble_eq_true rfl⟩) rfl hl.1 rfl (Nat.le_of_ble_eq_true rfl) dL_law_621 hcs) (fun r2 u2 H locs hp2 hM hX => ?_)
  obtain ⟨hI2, er⟩ := LI_next hI hp1 hp2 (iv_delay hIV) hX hM
  refine lv_icmp_eq C.1 C.2.1 (tgt := 1199) dL_law_624 (by decide) (fun _ => ?_) (fun c => absurd er c)
  refine W.widen (k := 200 + i + 6) (n := 20000 + 208 * (i + 6)) (by omega) (by omega) ?_
  exact hN _ _ _ _ _ _ _ _ _ rfl hI2 hl
set_option maxHeartbeats 4000000 in
set_option maxRecDepth 100000 in
theorem lc_three (C : LC G (fun a => s.heap.size ≤ a) p s m args c cL_law 4 RL) (hXs : va_X b L xs s s.heap) (hbl : b < s.heap.size) (hL : L ≤ 3072) (hx3 : x3.toInt = (i : Int)) (hi6 : i + 6 ≤ L) (hI : LI G s τ nd q qM ζ ξ ρ H locs) (hl : lv_has ls 4 [(3, .int x3), (2, .ref (qM 0)), (1, .ref (q 0)), (0, .ref b)]) (hN : NX G p l e s m args below meth c Q qM (q 0) i b x3) : W p l e room_1 s m args below meth c H locs (200 + i) (20000 + 208 * i) Q (F0 m 629 ls []) := by
  have hIV := hI.2.2.1
  have hX := hI.2.2.2.1
  have hM := hI.2.2.2.2.1
  have CX := LC_CX C hI.2.2.2.2.2.1 hI.2.2.2.2.2.2.2.1
  have CM := LC_CX C hI.2.2.2.2.2.2.1 hI.2.2.2.2.2.2.2.2.1
  have fX := FA_A0 hI.2.2.2.2.2.2.2.1
  have fM := FA_A0 hI.2.2.2.2.2.2.2.2.1
  have hd := hI.2.2.2.2.2.2.2.2.2
  have hS : va_S (fun a => s.heap.size ≤ a) s.heap H locs := by rw [← fX]; exact hX.2
  have hbA : ¬ s.heap.size ≤ b := Nat.not_le.mpr hbl
  have hcs : 200 + i ≤ room_1.cells ∧ 20000 + 208 * i ≤ room_1.slots := ⟨by show 200 + i ≤ 600000; omega, by show 20000 + 208 * i ≤ 7302250; omega⟩
  have e_1 : (x3 + 1).toInt = (i : Int) + 1 := ti_add hx3 (show (1 : Int32).toInt = 1 from by decide) (by omega) (by omega)
  have e_2 : (x3 + 2).toInt = (i : Int) + 2 := ti_add hx3 (show (2 : Int32).toInt = 2 from by decide) (by omega) (by omega)
  have e_3 : (x3 + 3).toInt = (i : Int) + 3 := ti_add hx3 (show (3 : Int32).toInt = 3 from by decide) (by omega) (by omega)
  refine lv_aload_n C.1 C.2.1 dL_law_629 rfl (lv_at hl 2 rfl) ?_
  refine lv_aload_n C.1 C.2.1 dL_law_630 rfl (lv_at hl 3 rfl) ?_
  refine lv_iload_n C.1 C.2.1 dL_law_631 rfl (lv_at hl 0 rfl) ?_
  refine lv_iconst C.1 C.2.1 (v := 1) dL_law_632 (by decide) ?_
  refine lv_iadd C.1 C.2.1 dL_law_633 ?_
  refine va_sld C.1 C.2.1 hXs hbl hbA hS (vp_in_iff.mpr ⟨by omega, by omega⟩) dL_law_634 ?_
  refine lv_aload_n C.1 C.2.1 dL_law_635 rfl (lv_at hl 3 rfl) ?_
  refine lv_iload_n C.1 C.2.1 dL_law_636 rfl (lv_at hl 0 rfl) ?_
  refine lv_iconst C.1 C.2.1 (v := 2) dL_law_637 (by decide) ?_
  refine lv_iadd C.1 C.2.1 dL_law_638 ?_
  refine va_sld C.1 C.2.1 hXs hbl hbA hS (vp_in_iff.mpr ⟨by omega, by omega⟩) dL_law_639 ?_
  refine lv_aload_n C.1 C.2.1 dL_law_640 rfl (lv_at hl 3 rfl) ?_
  refine lv_iload_n C.1 C.2.1 dL_law_641 rfl (lv_at hl 0 rfl) ?_
  refine lv_iconst C.1 C.2.1 (v := 3) dL_law_642 (by decide) ?_
  refine lv_iadd C.1 C.2.1 dL_law_643 ?_
  refine va_sld C.1 C.2.1 hXs hbl hbA hS (vp_in_iff.mpr ⟨by omega, by omega⟩) dL_law_644 ?_
  refine go2_i hX hM hd (fX.trans fM.symm) (run_V (o := 0) (As := [.int (xs (x3 + 1).toNatClampNeg), .int (xs (x3 + 2).toNatClampNeg), .int (xs (x3 + 3).toNatClampNeg)]) (rest := []) CX hX (by omega) rfl rfl (c_X7_three l G q nd _ τ ζ ρ (xs (x3 + 1).toNatClampNeg) (xs (x3 + 2).toNatClampNeg) (xs (x3 + 3).toNatClampNeg) hI.1 hI.2.1 hIV.2.1 hIV.2.2.1 hIV.2.2.2.1) (cw_V 3 CX bL_L_68 bI_X7_three bV_X7_three bN_X7 bC_X7_three ⟨rfl, rfl⟩ (by decide +kernel) ⟨Nat.le_of_ble_eq_true rfl, Nat.le_of_ble_eq_true rfl⟩) rfl hl.1 rfl (Nat.le_of_ble_eq_true rfl) dL_law_645 hcs) (fun r1 u1 H locs hp1 hX hM => ?_)
  have hS : va_S (fun a => s.heap.size ≤ a) s.heap H locs := by rw [← fX]; exact hX.2
  refine lv_aload_n C.1 C.2.1 dL_law_648 rfl (lv_at hl 1 rfl) ?_
  refine lv_aload_n C.1 C.2.1 dL_law_649 rfl (lv_at hl 3 rfl) ?_
  refine lv_iload_n C.1 C.2.1 dL_law_650 rfl (lv_at hl 0 rfl) ?_
  refine lv_iconst C.1 C.2.1 (v := 1) dL_law_651 (by decide) ?_
  refine lv_iadd C.1 C.2.1 dL_law_652 ?_
  refine va_sld C.1 C.2.1 hXs hbl hbA hS (vp_in_iff.mpr ⟨by omega, by omega⟩) dL_law_653 ?_
  refine lv_aload_n C.1 C.2.1 dL_law_654 rfl (lv_at hl 3 rfl) ?_
  refine lv_iload_n C.1 C.2.1 dL_law_655 rfl (lv_at hl 0 rfl) ?_
  refine lv_iconst C.1 C.2.1 (v := 2) dL_law_656 (by decide) ?_
  refine lv_iadd C.1 C.2.1 dL_law_657 ?_
  refine va_sld C.1 C.2.1 hXs hbl hbA hS (vp_in_iff.mpr ⟨by omega, by omega⟩) dL_law_658 ?_
  refine lv_aload_n C.1 C.2.1 dL_law_659 rfl (lv_at hl 3 rfl) ?_
  refine lv_iload_n C.1 C.2.1 dL_law_660 rfl (lv_at hl 0 rfl) ?_
  refine lv_iconst C.1 C.2.1 (v := 3) dL_law_661 (by decide) ?_
  refine lv_iadd C.1 C.2.1 dL_law_662 ?_
  refine va_sld C.1 C.2.1 hXs hbl hbA hS (vp_in_iff.mpr ⟨by omega, by omega⟩) dL_law_663 ?_
  refine go2_i hM hX (fun k hk j hj => (hd j hj k hk).symm) (fM.trans fX.symm) (run_V (o := 0) (As := [.int (xs (x3 + 1).toNatClampNeg), .int (xs (x3 + 2).toNatClampNeg), .int (xs (x3 + 3).toNatClampNeg)]) (rest := [.int r1]) CM hM (by decide) rfl rfl (c_X8_three l G qM _ τ ξ (xs (x3 + 1).toNatClampNeg) (xs (x3 + 2).toNatClampNeg) (xs (x3 + 3).toNatClampNeg) hIV.1 hIV.2.2.2.1 hIV.2.1 hIV.2.2.1) (cw_V 3 CM bL_L_71 bI_X8_three bV_X8_three bN_X8 bC_X8_three ⟨rfl, rfl⟩ (by decide +kernel) ⟨Nat.le_of_ble_eq_true rfl, Nat.le_of_ble_eq_true rfl⟩) rfl hl.1 rfl (Nat.le_of_ble_eq_true rfl) dL_law_664 hcs) (fun r2 u2 H locs hp2 hM hX => ?_)
  obtain ⟨hI2, er⟩ := LI_next hI hp1 hp2 (iv_three hIV) hX hM
  refine lv_icmp_eq C.1 C.2.1 (tgt := 1199) dL_law_667 (by decide) (fun _ => ?_) (fun c => absurd er c)
  refine W.widen (k := 200 + i + 6) (n := 20000 + 208 * (i + 6)) (by omega) (by omega) ?_
  exact hN _ _ _ _ _ _ _ _ _ rfl hI2 hl
set_option maxHeartbeats 4000000 in
set_option maxRecDepth 100000 in
theorem lc_four (C : LC G (fun a => s.heap.size ≤ a) p s m args c cL_law 4 RL) (hXs : va_X b L xs s s.heap) (hbl : b < s.heap.size) (hL : L ≤ 3072) (hx3 : x3.toInt = (i : Int)) (hi6 : i + 6 ≤ L) (hI : LI G s τ nd q qM ζ ξ ρ H locs) (hl : lv_has ls 4 [(3, .int x3), (2, .ref (qM 0)), (1, .ref (q 0)), (0, .ref b)]) (hN : NX G p l e s m args below meth c Q qM (q 0) i b x3) : W p l e room_1 s m args below meth c H locs (200 + i) (20000 + 208 * i) Q (F0 m 672 ls []) := by
  have hIV := hI.2.2.1
  have hX := hI.2.2.2.1
  have hM := hI.2.2.2.2.1
  have CX := LC_CX C hI.2.2.2.2.2.1 hI.2.2.2.2.2.2.2.1
  have CM := LC_CX C hI.2.2.2.2.2.2.1 hI.2.2.2.2.2.2.2.2.1
  have fX := FA_A0 hI.2.2.2.2.2.2.2.1
  have fM := FA_A0 hI.2.2.2.2.2.2.2.2.1
  have hd := hI.2.2.2.2.2.2.2.2.2
  have hS : va_S (fun a => s.heap.size ≤ a) s.heap H locs := by rw [← fX]; exact hX.2
  have hbA : ¬ s.heap.size ≤ b := Nat.not_le.mpr hbl
  have hcs : 200 + i ≤ room_1.cells ∧ 20000 + 208 * i ≤ room_1.slots := ⟨by show 200 + i ≤ 600000; omega, by show 20000 + 208 * i ≤ 7302250; omega⟩
  have e_1 : (x3 + 1).toInt = (i : Int) + 1 := ti_add hx3 (show (1 : Int32).toInt = 1 from by decide) (by omega) (by omega)
  have e_2 : (x3 + 2).toInt = (i : Int) + 2 := ti_add hx3 (show (2 : Int32).toInt = 2 from by decide) (by omega) (by omega)
  have e_3 : (x3 + 3).toInt = (i : Int) + 3 := ti_add hx3 (show (3 : Int32).toInt = 3 from by decide) (by omega) (by omega)
  have e_4 : (x3 + 4).toInt = (i : Int) + 4 := ti_add hx3 (show (4 : Int32).toInt = 4 from by decide) (by omega) (by omega)
  refine lv_aload_n C.1 C.2.1 dL_law_672 rfl (lv_at hl 2 rfl) ?_
  refine lv_aload_n C.1 C.2.1 dL_law_673 rfl (lv_at hl 3 rfl) ?_
  refine lv_iload_n C.1 C.2.1 dL_law_674 rfl (lv_at hl 0 rfl) ?_
  refine lv_iconst C.1 C.2.1 (v := 1) dL_law_675 (by decide) ?_
  refine lv_iadd C.1 C.2.1 dL_law_676 ?_
  refine va_sld C.1 C.2.1 hXs hbl hbA hS (vp_in_iff.mpr ⟨by omega, by omega⟩) dL_law_677 ?_
  refine lv_aload_n C.1 C.2.1 dL_law_678 rfl (lv_at hl 3 rfl) ?_
  refine lv_iload_n C.1 C.2.1 dL_law_679 rfl (lv_at hl 0 rfl) ?_
  refine lv_iconst C.1 C.2.1 (v := 2) dL_law_680 (by decide) ?_
  refine lv_iadd C.1 C.2.1 dL_law_681 ?_
  refine va_sld C.1 C.2.1 hXs hbl hbA hS (vp_in_iff.mpr ⟨by omega, by omega⟩) dL_law_682 ?_
  refine lv_aload_n C.1 C.2.1 dL_law_683 rfl (lv_at hl 3 rfl) ?_
  refine lv_iload_n C.1 C.2.1 dL_law_684 rfl (lv_at hl 0 rfl) ?_
  refine lv_iconst C.1 C.2.1 (v := 3) dL_law_685 (by decide) ?_
  refine lv_iadd C.1 C.2.1 dL_law_686 ?_
  refine va_sld C.1 C.2.1 hXs hbl hbA hS (vp_in_iff.mpr ⟨by omega, by omega⟩) dL_law_687 ?_
  refine lv_aload_n C.1 C.2.1 dL_law_688 rfl (lv_at hl 3 rfl) ?_
  refine lv_iload_n C.1 C.2.1 dL_law_689 rfl (lv_at hl 0 rfl) ?_
  refine lv_iconst C.1 C.2.1 (v := 4) dL_law_690 (by decide) ?_
  refine lv_iadd C.1 C.2.1 dL_law_691 ?_
  refine va_sld C.1 C.2.1 hXs hbl hbA hS (vp_in_iff.mpr ⟨by omega, by omega⟩) dL_law_692 ?_
  refine go2_i hX hM hd (fX.trans fM.symm) (run_V (o := 0) (As := [.int (xs (x3 + 1).toNatClampNeg), .int (xs (x3 + 2).toNatClampNeg), .int (xs (x3 + 3).toNatClampNeg), .int (xs (x3 + 4).toNatClampNeg)]) (rest := []) CX hX (by omega) rfl rfl (c_X7_four l G q nd _ τ ζ ρ (xs (x3 + 1).toNatClampNeg) (xs (x3 + 2).toNatClampNeg) (xs (x3 + 3).toNatClampNeg) (xs (x3 + 4).toNatClampNeg) hI.1 hI.2.1 hIV.2.1 hIV.2.2.1 hIV.2.2.2.1 hIV.2.2.2.2.1) (cw_V 4 CX bL_L_72 bI_X7_four bV_X7_four bN_X7 bC_X7_four ⟨rfl, rfl⟩ (by decide +kernel) ⟨Nat.le_of_ble_eq_true rfl, Nat.le_of_ble_eq_true rfl⟩) rfl hl.1 rfl (Nat.le_of_ble_eq_true rfl) dL_law_693 hcs) (fun r1 u1 H locs hp1 hX hM => ?_)
  have hS : va_S (fun a => s.heap.size ≤ a) s.heap H locs := by rw [← fX]; exact hX.2
  refine lv_aload_n C.1 C.2.1 dL_law_696 rfl (lv_at hl 1 rfl) ?_
  refine lv_aload_n C.1 C.2.1 dL_law_697 rfl (lv_at hl 3 rfl) ?_
  refine lv_iload_n C.1 C.2.1 dL_law_698 rfl (lv_at hl 0 rfl) ?_
  refine lv_iconst C.1 C.2.1 (v := 1) dL_law_699 (by decide) ?_
  refine lv_iadd C.1 C.2.1 dL_law_700 ?_
  refine va_sld C.1 C.2.1 hXs hbl hbA hS (vp_in_iff.mpr ⟨by omega, by omega⟩) dL_law_701 ?_
  refine lv_aload_n C.1 C.2.1 dL_law_702 rfl (lv_at hl 3 rfl) ?_
  refine lv_iload_n C.1 C.2.1 dL_law_703 rfl (lv_at hl 0 rfl) ?_
  refine lv_iconst C.1 C.2.1 (v := 2) dL_law_704 (by decide) ?_
  refine lv_iadd C.1 C.2.1 dL_law_705 ?_
  refine va_sld C.1 C.2.1 hXs hbl hbA hS (vp_in_iff.mpr ⟨by omega, by omega⟩) dL_law_706 ?_
  refine lv_aload_n C.1 C.2.1 dL_law_707 rfl (lv_at hl 3 rfl) ?_
  refine lv_iload_n C.1 C.2.1 dL_law_708 rfl (lv_at hl 0 rfl) ?_
  refine lv_iconst C.1 C.2.1 (v := 3) dL_law_709 (by decide) ?_
  refine lv_iadd C.1 C.2.1 dL_law_710 ?_
  refine va_sld C.1 C.2.1 hXs hbl hbA hS (vp_in_iff.mpr ⟨by omega, by omega⟩) dL_law_711 ?_
  refine lv_aload_n C.1 C.2.1 dL_law_712 rfl (lv_at hl 3 rfl) ?_
  refine lv_iload_n C.1 C.2.1 dL_law_713 rfl (lv_at hl 0 rfl) ?_
  refine lv_iconst C.1 C.2.1 (v := 4) dL_law_714 (by decide) ?_
  refine lv_iadd C.1 C.2.1 dL_law_715 ?_
  refine va_sld C.1 C.2.1 hXs hbl hbA hS (vp_in_iff.mpr ⟨by omega, by omega⟩) dL_law_716 ?_
  refine go2_i hM hX (fun k hk j hj => (hd j hj k hk).symm) (fM.trans fX.symm) (run_V (o := 0) (As := [.int (xs (x3 + 1).toNatClampNeg), .int (xs (x3 + 2).toNatClampNeg), .int (xs (x3 + 3).toNatClampNeg), .int (xs (x3 + 4).toNatClampNeg)]) (rest := [.int r1]) CM hM (by decide) rfl rfl (c_X8_four l G qM _ τ ξ (xs (x3 + 1).toNatClampNeg) (xs (x3 + 2).toNatClampNeg) (xs (x3 + 3).toNatClampNeg) (xs (x3 + 4).toNatClampNeg) hIV.1 hIV.2.2.2.1 hIV.2.1 hIV.2.2.1) (cw_V 4 CM bL_L_75 bI_X8_four bV_X8_four bN_X8 bC_X8_four ⟨rfl, rfl⟩ (by decide +kernel) ⟨Nat.le_of_ble_eq_true rfl, Nat.le_of_ble_eq_true rfl⟩) rfl hl.1 rfl (Nat.le_of_ble_eq_true rfl) dL_law_717 hcs) (fun r2 u2 H locs hp2 hM hX => ?_)
  obtain ⟨hI2, er⟩ := LI_next hI hp1 hp2 (iv_four hIV) hX hM
  refine lv_icmp_eq C.1 C.2.1 (tgt := 1199) dL_law_720 (by decide) (fun _ => ?_) (fun c => absurd er c)
  refine W.widen (k := 200 + i + 6) (n := 20000 + 208 * (i + 6)) (by omega) (by omega) ?_
  exact hN _ _ _ _ _ _ _ _ _ rfl hI2 hl
set_option maxHeartbeats 4000000 in
set_option maxRecDepth 100000 in
theorem lc_beam (C : LC G (fun a => s.heap.size ≤ a) p s m args c cL_law 4 RL) (hXs : va_X b L xs s s.heap) (hbl : b < s.heap.size) (hL : L ≤ 3072) (hx3 : x3.toInt = (i : Int)) (hi6 : i + 6 ≤ L) (hI : LI G s τ nd q qM ζ ξ ρ H locs) (hl : lv_has ls 4 [(3, .int x3), (2, .ref (qM 0)), (1, .ref (q 0)), (0, .ref b)]) (hN : NX G p l e s m args below meth c Q qM (q 0) i b x3) : W p l e room_1 s m args below meth c H locs (200 + i) (20000 + 208 * i) Q (F0 m 725 ls []) := by
  have hIV := hI.2.2.1
  have hX := hI.2.2.2.1
  have hM := hI.2.2.2.2.1
  have CX := LC_CX C hI.2.2.2.2.2.1 hI.2.2.2.2.2.2.2.1
  have CM := LC_CX C hI.2.2.2.2.2.2.1 hI.2.2.2.2.2.2.2.2.1
  have fX := FA_A0 hI.2.2.2.2.2.2.2.1
  have fM := FA_A0 hI.2.2.2.2.2.2.2.2.1
  have hd := hI.2.2.2.2.2.2.2.2.2
  have hS : va_S (fun a => s.heap.size ≤ a) s.heap H locs := by rw [← fX]; exact hX.2
  have hbA : ¬ s.heap.size ≤ b := Nat.not_le.mpr hbl
  have hcs : 200 + i ≤ room_1.cells ∧ 20000 + 208 * i ≤ room_1.slots := ⟨by show 200 + i ≤ 600000; omega, by show 20000 + 208 * i ≤ 7302250; omega⟩
  have e_1 : (x3 + 1).toInt = (i : Int) + 1 := ti_add hx3 (show (1 : Int32).toInt = 1 from by decide) (by omega) (by omega)
  have e_2 : (x3 + 2).toInt = (i : Int) + 2 := ti_add hx3 (show (2 : Int32).toInt = 2 from by decide) (by omega) (by omega)
  refine lv_aload_n C.1 C.2.1 dL_law_725 rfl (lv_at hl 2 rfl) ?_
  refine lv_aload_n C.1 C.2.1 dL_law_726 rfl (lv_at hl 3 rfl) ?_
  refine lv_iload_n C.1 C.2.1 dL_law_727 rfl (lv_at hl 0 rfl) ?_
  refine lv_iconst C.1 C.2.1 (v := 1) dL_law_728 (by decide) ?_
  refine lv_iadd C.1 C.2.1 dL_law_729 ?_
  refine va_sld C.1 C.2.1 hXs hbl hbA hS (vp_in_iff.mpr ⟨by omega, by omega⟩) dL_law_730 ?_
  refine lv_aload_n C.1 C.2.1 dL_law_731 rfl (lv_at hl 3 rfl) ?_
  refine lv_iload_n C.1 C.2.1 dL_law_732 rfl (lv_at hl 0 rfl) ?_
  refine lv_iconst C.1 C.2.1 (v := 2) dL_law_733 (by decide) ?_
  refine lv_iadd C.1 C.2.1 dL_law_734 ?_
  refine va_sld C.1 C.2.1 hXs hbl hbA hS (vp_in_iff.mpr ⟨by omega, by omega⟩) dL_law_735 ?_
  refine go2_i hX hM hd (fX.trans fM.symm) (run_V (o := 0) (As := [.int (xs (x3 + 1).toNatClampNeg), .int (xs (x3 + 2).toNatClampNeg)]) (rest := []) CX hX (by omega) rfl rfl (c_X7_beam l G q nd _ τ ζ ρ (xs (x3 + 1).toNatClampNeg) (xs (x3 + 2).toNatClampNeg) hI.1 hI.2.1 hIV.2.1 hIV.2.2.1 hIV.2.2.2.1) (cw_V 2 CX bL_L_76 bI_X7_beam bV_X7_beam bN_X7 bC_X7_beam ⟨rfl, rfl⟩ (by decide +kernel) ⟨Nat.le_of_ble_eq_true rfl, Nat.le_of_ble_eq_true rfl⟩) rfl hl.1 rfl (Nat.le_of_ble_eq_true rfl) dL_law_736 hcs) (fun r1 u1 H locs hp1 hX hM => ?_)
  have hS : va_S (fun a => s.heap.size ≤ a) s.heap H locs := by rw [← fX]; exact hX.2
  refine lv_aload_n C.1 C.2.1 dL_law_739 rfl (lv_at hl 1 rfl) ?_
  refine lv_aload_n C.1 C.2.1 dL_law_740 rfl (lv_at hl 3 rfl) ?_
  refine lv_iload_n C.1 C.2.1 dL_law_741 rfl (lv_at hl 0 rfl) ?_
  refine lv_iconst C.1 C.2.1 (v := 1) dL_law_742 (by decide) ?_
  refine lv_iadd C.1 C.2.1 dL_law_743 ?_
  refine va_sld C.1 C.2.1 hXs hbl hbA hS (vp_in_iff.mpr ⟨by omega, by omega⟩) dL_law_744 ?_
  refine lv_aload_n C.1 C.2.1 dL_law_745 rfl (lv_at hl 3 rfl) ?_
  refine lv_iload_n C.1 C.2.1 dL_law_746 rfl (lv_at hl 0 rfl) ?_
  refine lv_iconst C.1 C.2.1 (v := 2) dL_law_747 (by decide) ?_
  refine lv_iadd C.1 C.2.1 dL_law_748 ?_
  refine va_sld C.1 C.2.1 hXs hbl hbA hS (vp_in_iff.mpr ⟨by omega, by omega⟩) dL_law_749 ?_
  refine go2_i hM hX (fun k hk j hj => (hd j hj k hk).symm) (fM.trans fX.symm) (run_V (o := 0) (As := [.int (xs (x3 + 1).toNatClampNeg), .int (xs (x3 + 2).toNatClampNeg)]) (rest := [.int r1]) CM hM (by decide) rfl rfl (c_X8_beam l G qM _ τ ξ (xs (x3 + 1).toNatClampNeg) (xs (x3 + 2).toNatClampNeg) hIV.1 hIV.2.2.2.1 hIV.2.1 hIV.2.2.1) (cw_V 2 CM bL_L_79 bI_X8_beam bV_X8_beam bN_X8 bC_X8_beam ⟨rfl, rfl⟩ (by decide +kernel) ⟨Nat.le_of_ble_eq_true rfl, Nat.le_of_ble_eq_true rfl⟩) rfl hl.1 rfl (Nat.le_of_ble_eq_true rfl) dL_law_750 hcs) (fun r2 u2 H locs hp2 hM hX => ?_)
  obtain ⟨hI2, er⟩ := LI_next hI hp1 hp2 (iv_beam hIV) hX hM
  refine lv_icmp_eq C.1 C.2.1 (tgt := 1199) dL_law_753 (by decide) (fun _ => ?_) (fun c => absurd er c)
  refine W.widen (k := 200 + i + 6) (n := 20000 + 208 * (i + 6)) (by omega) (by omega) ?_
  exact hN _ _ _ _ _ _ _ _ _ rfl hI2 hl
set_option maxHeartbeats 4000000 in
set_option maxRecDepth 100000 in
theorem lc_point (C : LC G (fun a => s.heap.size ≤ a) p s m args c cL_law 4 RL) (hXs : va_X b L xs s s.heap) (hbl : b < s.heap.size) (hL : L ≤ 3072) (hx3 : x3.toInt = (i : Int)) (hi6 : i + 6 ≤ L) (hI : LI G s τ nd q qM ζ ξ ρ H locs) (hl : lv_has ls 4 [(3, .int x3), (2, .ref (qM 0)), (1, .ref (q 0)), (0, .ref b)]) (hN : NX G p l e s m args below meth c Q qM (q 0) i b x3) : W p l e room_1 s m args below meth c H locs (200 + i) (20000 + 208 * i) Q (F0 m 758 ls []) := by
  have hIV := hI.2.2.1
  have hX := hI.2.2.2.1
  have hM := hI.2.2.2.2.1
  have CX := LC_CX C hI.2.2.2.2.2.1 hI.2.2.2.2.2.2.2.1
  have CM := LC_CX C hI.2.2.2.2.2.2.1 hI.2.2.2.2.2.2.2.2.1
  have fX := FA_A0 hI.2.2.2.2.2.2.2.1
  have fM := FA_A0 hI.2.2.2.2.2.2.2.2.1
  have hd := hI.2.2.2.2.2.2.2.2.2
  have hS : va_S (fun a => s.heap.size ≤ a) s.heap H locs := by rw [← fX]; exact hX.2
  have hbA : ¬ s.heap.size ≤ b := Nat.not_le.mpr hbl
  have hcs : 200 + i ≤ room_1.cells ∧ 20000 + 208 * i ≤ room_1.slots := ⟨by show 200 + i ≤ 600000; omega, by show 20000 + 208 * i ≤ 7302250; omega⟩
  have e_1 : (x3 + 1).toInt = (i : Int) + 1 := ti_add hx3 (show (1 : Int32).toInt = 1 from by decide) (by omega) (by omega)
  have e_2 : (x3 + 2).toInt = (i : Int) + 2 := ti_add hx3 (show (2 : Int32).toInt = 2 from by decide) (by omega) (by omega)
  have e_3 : (x3 + 3).toInt = (i : Int) + 3 := ti_add hx3 (show (3 : Int32).toInt = 3 from by decide) (by omega) (by omega)
  refine lv_aload_n C.1 C.2.1 dL_law_758 rfl (lv_at hl 2 rfl) ?_
  refine lv_aload_n C.1 C.2.1 dL_law_759 rfl (lv_at hl 3 rfl) ?_
  refine lv_iload_n C.1 C.2.1 dL_law_760 rfl (lv_at hl 0 rfl) ?_
  refine lv_iconst C.1 C.2.1 (v := 1) dL_law_761 (by decide) ?_
  refine lv_iadd C.1 C.2.1 dL_law_762 ?_
  refine va_sld C.1 C.2.1 hXs hbl hbA hS (vp_in_iff.mpr ⟨by omega, by omega⟩) dL_law_763 ?_
  refine lv_aload_n C.1 C.2.1 dL_law_764 rfl (lv_at hl 3 rfl) ?_
  refine lv_iload_n C.1 C.2.1 dL_law_765 rfl (lv_at hl 0 rfl) ?_
  refine lv_iconst C.1 C.2.1 (v := 2) dL_law_766 (by decide) ?_
  refine lv_iadd C.1 C.2.1 dL_law_767 ?_
  refine va_sld C.1 C.2.1 hXs hbl hbA hS (vp_in_iff.mpr ⟨by omega, by omega⟩) dL_law_768 ?_
  refine lv_aload_n C.1 C.2.1 dL_law_769 rfl (lv_at hl 3 rfl) ?_
  refine lv_iload_n C.1 C.2.1 dL_law_770 rfl (lv_at hl 0 rfl) ?_
  refine lv_iconst C.1 C.2.1 (v := 3) dL_law_771 (by decide) ?_
  refine lv_iadd C.1 C.2.1 dL_law_772 ?_
  refine va_sld C.1 C.2.1 hXs hbl hbA hS (vp_in_iff.mpr ⟨by omega, by omega⟩) dL_law_773 ?_
  refine go2_i hX hM hd (fX.trans fM.symm) (run_V (o := 0) (As := [.int (xs (x3 + 1).toNatClampNeg), .int (xs (x3 + 2).toNatClampNeg), .int (xs (x3 + 3).toNatClampNeg)]) (rest := []) CX hX (by omega) rfl rfl (c_X7_point l G q nd _ τ ζ ρ (xs (x3 + 1).toNatClampNeg) (xs (x3 + 2).toNatClampNeg) (xs (x3 + 3).toNatClampNeg) hI.1 hI.2.1 hIV.2.2.2.2.2.1) (cw_V 3 CX bL_L_80 bI_X7_point bV_X7_point bN_X7 bC_X7_point ⟨rfl, rfl⟩ (by decide +kernel) ⟨Nat.le_of_ble_eq_true rfl, Nat.le_of_ble_eq_true rfl⟩) rfl hl.1 rfl (Nat.le_of_ble_eq_true rfl) dL_law_774 hcs) (fun r1 u1 H locs hp1 hX hM => ?_)
  have hS : va_S (fun a => s.heap.size ≤ a) s.heap H locs := by rw [← fX]; exact hX.2
  refine lv_aload_n C.1 C.2.1 dL_law_777 rfl (lv_at hl 1 rfl) ?_
  refine lv_aload_n C.1 C.2.1 dL_law_778 rfl (lv_at hl 3 rfl) ?_
  refine lv_iload_n C.1 C.2.1 dL_law_779 rfl (lv_at hl 0 rfl) ?_
  refine lv_iconst C.1 C.2.1 (v := 1) dL_law_780 (by decide) ?_
  refine lv_iadd C.1 C.2.1 dL_law_781 ?_
  refine va_sld C.1 C.2.1 hXs hbl hbA hS (vp_in_iff.mpr ⟨by omega, by omega⟩) dL_law_782 ?_
  refine lv_aload_n C.1 C.2.1 dL_law_783 rfl (lv_at hl 3 rfl) ?_
  refine lv_iload_n C.1 C.2.1 dL_law_784 rfl (lv_at hl 0 rfl) ?_
  refine lv_iconst C.1 C.2.1 (v := 2) dL_law_785 (by decide) ?_
  refine lv_iadd C.1 C.2.1 dL_law_786 ?_
  refine va_sld C.1 C.2.1 hXs hbl hbA hS (vp_in_iff.mpr ⟨by omega, by omega⟩) dL_law_787 ?_
  refine lv_aload_n C.1 C.2.1 dL_law_788 rfl (lv_at hl 3 rfl) ?_
  refine lv_iload_n C.1 C.2.1 dL_law_789 rfl (lv_at hl 0 rfl) ?_
  refine lv_iconst C.1 C.2.1 (v := 3) dL_law_790 (by decide) ?_
  refine lv_iadd C.1 C.2.1 dL_law_791 ?_
  refine va_sld C.1 C.2.1 hXs hbl hbA hS (vp_in_iff.mpr ⟨by omega, by omega⟩) dL_law_792 ?_
  refine go2_i hM hX (fun k hk j hj => (hd j hj k hk).symm) (fM.trans fX.symm) (run_V (o := 0) (As := [.int (xs (x3 + 1).toNatClampNeg), .int (xs (x3 + 2).toNatClampNeg), .int (xs (x3 + 3).toNatClampNeg)]) (rest := [.int r1]) CM hM (by decide) rfl rfl (c_X8_point l G qM _ τ ξ (xs (x3 + 1).toNatClampNeg) (xs (x3 + 2).toNatClampNeg) (xs (x3 + 3).toNatClampNeg) hIV.2.2.2.2.2.1) (cw_V 3 CM bL_L_83 bI_X8_point bV_X8_point bN_X8 bC_X8_point ⟨rfl, rfl⟩ (by decide +kernel) ⟨Nat.le_of_ble_eq_true rfl, Nat.le_of_ble_eq_true rfl⟩) rfl hl.1 rfl (Nat.le_of_ble_eq_true rfl) dL_law_793 hcs) (fun r2 u2 H locs hp2 hM hX => ?_)
  obtain ⟨hI2, er⟩ := LI_next hI hp1 hp2 (iv_point hIV) hX hM
  refine lv_icmp_eq C.1 C.2.1 (tgt := 1199) dL_law_796 (by decide) (fun _ => ?_) (fun c => absurd er c)
  refine W.widen (k := 200 + i + 6) (n := 20000 + 208 * (i + 6)) (by omega) (by omega) ?_
  exact hN _ _ _ _ _ _ _ _ _ rfl hI2 hl
set_option maxHeartbeats 4000000 in
set_option maxRecDepth 100000 in
theorem lc_dark (C : LC G (fun a => s.heap.size ≤ a) p s m args c cL_law 4 RL) (hXs : va_X b L xs s s.heap) (hbl : b < s.heap.size) (hL : L ≤ 3072) (hx3 : x3.toInt = (i : Int)) (hi6 : i + 6 ≤ L) (hI : LI G s τ nd q qM ζ ξ ρ H locs) (hl : lv_has ls 4 [(3, .int x3), (2, .ref (qM 0)), (1, .ref (q 0)), (0, .ref b)]) (hN : NX G p l e s m args below meth c Q qM (q 0) i b x3) : W p l e room_1 s m args below meth c H locs (200 + i) (20000 + 208 * i) Q (F0 m 801 ls []) := by
  have hIV := hI.2.2.1
  have hX := hI.2.2.2.1
  have hM := hI.2.2.2.2.1
  have CX := LC_CX C hI.2.2.2.2.2.1 hI.2.2.2.2.2.2.2.1
  have CM := LC_CX C hI.2.2.2.2.2.2.1 hI.2.2.2.2.2.2.2.2.1
  have fX := FA_A0 hI.2.2.2.2.2.2.2.1
  have fM := FA_A0 hI.2.2.2.2.2.2.2.2.1
  have hd := hI.2.2.2.2.2.2.2.2.2
  have hS : va_S (fun a => s.heap.size ≤ a) s.heap H locs := by rw [← fX]; exact hX.2
  have hbA : ¬ s.heap.size ≤ b := Nat.not_le.mpr hbl
  have hcs : 200 + i ≤ room_1.cells ∧ 20000 + 208 * i ≤ room_1.slots := ⟨by show 200 + i ≤ 600000; omega, by show 20000 + 208 * i ≤ 7302250; omega⟩
  refine lv_aload_n C.1 C.2.1 dL_law_801 rfl (lv_at hl 2 rfl) ?_
  refine go2_i hX hM hd (fX.trans fM.symm) (run_V (o := 0) (As := []) (rest := []) CX hX (by omega) rfl rfl (c_X7_dark l G q nd _ τ ζ ρ  hI.1 hI.2.1) (cw_V 0 CX bL_L_84 bI_X7_dark bV_X7_dark bN_X7 bC_X7_dark ⟨rfl, rfl⟩ (by decide +kernel) ⟨Nat.le_of_ble_eq_true rfl, Nat.le_of_ble_eq_true rfl⟩) rfl hl.1 rfl (Nat.le_of_ble_eq_true rfl) dL_law_802 hcs) (fun r1 u1 H locs hp1 hX hM => ?_)
  have hS : va_S (fun a => s.heap.size ≤ a) s.heap H locs := by rw [← fX]; exact hX.2
  refine lv_aload_n C.1 C.2.1 dL_law_805 rfl (lv_at hl 1 rfl) ?_
  refine go2_i hM hX (fun k hk j hj => (hd j hj k hk).symm) (fM.trans fX.symm) (run_V (o := 0) (As := []) (rest := [.int r1]) CM hM (by decide) rfl rfl (c_X8_dark l G qM _ τ ξ  ) (cw_V 0 CM bL_L_87 bI_X8_dark bV_X8_dark bN_X8 bC_X8_dark ⟨rfl, rfl⟩ (by decide +kernel) ⟨Nat.le_of_ble_eq_true rfl, Nat.le_of_ble_eq_true rfl⟩) rfl hl.1 rfl (Nat.le_of_ble_eq_true rfl) dL_law_806 hcs) (fun r2 u2 H locs hp2 hM hX => ?_)
  obtain ⟨hI2, er⟩ := LI_next hI hp1 hp2 (iv_dark hIV) hX hM
  refine lv_icmp_eq C.1 C.2.1 (tgt := 1199) dL_law_809 (by decide) (fun _ => ?_) (fun c => absurd er c)
  refine W.widen (k := 200 + i + 6) (n := 20000 + 208 * (i + 6)) (by omega) (by omega) ?_
  exact hN _ _ _ _ _ _ _ _ _ rfl hI2 hl
set_option maxHeartbeats 4000000 in
set_option maxRecDepth 100000 in
theorem lc_board (C : LC G (fun a => s.heap.size ≤ a) p s m args c cL_law 4 RL) (hXs : va_X b L xs s s.heap) (hbl : b < s.heap.size) (hL : L ≤ 3072) (hx3 : x3.toInt = (i : Int)) (hi6 : i + 6 ≤ L) (hI : LI G s τ nd q qM ζ ξ ρ H locs) (hl : lv_has ls 4 [(3, .int x3), (2, .ref (qM 0)), (1, .ref (q 0)), (0, .ref b)]) (hN : NX G p l e s m args below meth c Q qM (q 0) i b x3) : W p l e room_1 s m args below meth c H locs (200 + i) (20000 + 208 * i) Q (F0 m 814 ls []) := by
  have hIV := hI.2.2.1
  have hX := hI.2.2.2.1
  have hM := hI.2.2.2.2.1
  have CX := LC_CX C hI.2.2.2.2.2.1 hI.2.2.2.2.2.2.2.1
  have CM := LC_CX C hI.2.2.2.2.2.2.1 hI.2.2.2.2.2.2.2.2.1
  have fX := FA_A0 hI.2.2.2.2.2.2.2.1
  have fM := FA_A0 hI.2.2.2.2.2.2.2.2.1
  have hd := hI.2.2.2.2.2.2.2.2.2
  have hS : va_S (fun a => s.heap.size ≤ a) s.heap H locs := by rw [← fX]; exact hX.2
  have hbA : ¬ s.heap.size ≤ b := Nat.not_le.mpr hbl
  have hcs : 200 + i ≤ room_1.cells ∧ 20000 + 208 * i ≤ room_1.slots := ⟨by show 200 + i ≤ 600000; omega, by show 20000 + 208 * i ≤ 7302250; omega⟩
  have e_1 : (x3 + 1).toInt = (i : Int) + 1 := ti_add hx3 (show (1 : Int32).toInt = 1 from by decide) (by omega) (by omega)
  refine lv_aload_n C.1 C.2.1 dL_law_814 rfl (lv_at hl 2 rfl) ?_
  refine lv_aload_n C.1 C.2.1 dL_law_815 rfl (lv_at hl 3 rfl) ?_
  refine lv_iload_n C.1 C.2.1 dL_law_816 rfl (lv_at hl 0 rfl) ?_
  refine lv_iconst C.1 C.2.1 (v := 1) dL_law_817 (by decide) ?_
  refine lv_iadd C.1 C.2.1 dL_law_818 ?_
  refine va_sld C.1 C.2.1 hXs hbl hbA hS (vp_in_iff.mpr ⟨by omega, by omega⟩) dL_law_819 ?_
  refine go2_i hX hM hd (fX.trans fM.symm) (run_V (o := 0) (As := [.int (xs (x3 + 1).toNatClampNeg)]) (rest := []) CX hX (by omega) rfl rfl (c_X7_board l G q nd _ τ ζ ρ (xs (x3 + 1).toNatClampNeg) hI.1 hI.2.1 hIV.2.1 hIV.2.2.1 hIV.2.2.2.1 hIV.2.2.2.2.2.1) (cw_V 1 CX bL_L_88 bI_X7_board bV_X7_board bN_X7 bC_X7_board ⟨rfl, rfl⟩ (by decide +kernel) ⟨Nat.le_of_ble_eq_true rfl, Nat.le_of_ble_eq_true rfl⟩) rfl hl.1 rfl (Nat.le_of_ble_eq_true rfl) dL_law_820 hcs) (fun r1 u1 H locs hp1 hX hM => ?_)
  have hS : va_S (fun a => s.heap.size ≤ a) s.heap H locs := by rw [← fX]; exact hX.2
  refine lv_aload_n C.1 C.2.1 dL_law_823 rfl (lv_at hl 1 rfl) ?_
  refine lv_aload_n C.1 C.2.1 dL_law_824 rfl (lv_at hl 3 rfl) ?_
  refine lv_iload_n C.1 C.2.1 dL_law_825 rfl (lv_at hl 0 rfl) ?_
  refine lv_iconst C.1 C.2.1 (v := 1) dL_law_826 (by decide) ?_
  refine lv_iadd C.1 C.2.1 dL_law_827 ?_
  refine va_sld C.1 C.2.1 hXs hbl hbA hS (vp_in_iff.mpr ⟨by omega, by omega⟩) dL_law_828 ?_
  refine go2_i hM hX (fun k hk j hj => (hd j hj k hk).symm) (fM.trans fX.symm) (run_V (o := 0) (As := [.int (xs (x3 + 1).toNatClampNeg)]) (rest := [.int r1]) CM hM (by decide) rfl rfl (c_X8_board l G qM _ τ ξ (xs (x3 + 1).toNatClampNeg) hIV.1 hIV.2.2.2.1 hIV.2.1 hIV.2.2.1 hIV.2.2.2.2.2.1) (cw_V 1 CM bL_L_91 bI_X8_board bV_X8_board bN_X8 bC_X8_board ⟨rfl, rfl⟩ (by decide +kernel) ⟨Nat.le_of_ble_eq_true rfl, Nat.le_of_ble_eq_true rfl⟩) rfl hl.1 rfl (Nat.le_of_ble_eq_true rfl) dL_law_829 hcs) (fun r2 u2 H locs hp2 hM hX => ?_)
  obtain ⟨hI2, er⟩ := LI_next hI hp1 hp2 (iv_board hIV) hX hM
  refine lv_icmp_eq C.1 C.2.1 (tgt := 1199) dL_law_832 (by decide) (fun _ => ?_) (fun c => absurd er c)
  refine W.widen (k := 200 + i + 6) (n := 20000 + 208 * (i + 6)) (by omega) (by omega) ?_
  exact hN _ _ _ _ _ _ _ _ _ rfl hI2 hl
set_option maxHeartbeats 4000000 in
set_option maxRecDepth 100000 in
theorem lc_at (C : LC G (fun a => s.heap.size ≤ a) p s m args c cL_law 4 RL) (hXs : va_X b L xs s s.heap) (hbl : b < s.heap.size) (hL : L ≤ 3072) (hx3 : x3.toInt = (i : Int)) (hi6 : i + 6 ≤ L) (hI : LI G s τ nd q qM ζ ξ ρ H locs) (hl : lv_has ls 4 [(3, .int x3), (2, .ref (qM 0)), (1, .ref (q 0)), (0, .ref b)]) (hN : NX G p l e s m args below meth c Q qM (q 0) i b x3) : W p l e room_1 s m args below meth c H locs (200 + i) (20000 + 208 * i) Q (F0 m 837 ls []) := by
  have hIV := hI.2.2.1
  have hX := hI.2.2.2.1
  have hM := hI.2.2.2.2.1
  have CX := LC_CX C hI.2.2.2.2.2.1 hI.2.2.2.2.2.2.2.1
  have CM := LC_CX C hI.2.2.2.2.2.2.1 hI.2.2.2.2.2.2.2.2.1
  have fX := FA_A0 hI.2.2.2.2.2.2.2.1
  have fM := FA_A0 hI.2.2.2.2.2.2.2.2.1
  have hd := hI.2.2.2.2.2.2.2.2.2
  have hS : va_S (fun a => s.heap.size ≤ a) s.heap H locs := by rw [← fX]; exact hX.2
  have hbA : ¬ s.heap.size ≤ b := Nat.not_le.mpr hbl
  have hcs : 200 + i ≤ room_1.cells ∧ 20000 + 208 * i ≤ room_1.slots := ⟨by show 200 + i ≤ 600000; omega, by show 20000 + 208 * i ≤ 7302250; omega⟩
  have e_1 : (x3 + 1).toInt = (i : Int) + 1 := ti_add hx3 (show (1 : Int32).toInt = 1 from by decide) (by omega) (by omega)
  have e_2 : (x3 + 2).toInt = (i : Int) + 2 := ti_add hx3 (show (2 : Int32).toInt = 2 from by decide) (by omega) (by omega)
  refine lv_aload_n C.1 C.2.1 dL_law_837 rfl (lv_at hl 2 rfl) ?_
  refine lv_aload_n C.1 C.2.1 dL_law_838 rfl (lv_at hl 3 rfl) ?_
  refine lv_iload_n C.1 C.2.1 dL_law_839 rfl (lv_at hl 0 rfl) ?_
  refine lv_iconst C.1 C.2.1 (v := 1) dL_law_840 (by decide) ?_
  refine lv_iadd C.1 C.2.1 dL_law_841 ?_
  refine va_sld C.1 C.2.1 hXs hbl hbA hS (vp_in_iff.mpr ⟨by omega, by omega⟩) dL_law_842 ?_
  refine lv_aload_n C.1 C.2.1 dL_law_843 rfl (lv_at hl 3 rfl) ?_
  refine lv_iload_n C.1 C.2.1 dL_law_844 rfl (lv_at hl 0 rfl) ?_
  refine lv_iconst C.1 C.2.1 (v := 2) dL_law_845 (by decide) ?_
  refine lv_iadd C.1 C.2.1 dL_law_846 ?_
  refine va_sld C.1 C.2.1 hXs hbl hbA hS (vp_in_iff.mpr ⟨by omega, by omega⟩) dL_law_847 ?_
  refine go2_l hX hM hd (fX.trans fM.symm) (run_V (o := 0) (As := [.int (xs (x3 + 1).toNatClampNeg), .int (xs (x3 + 2).toNatClampNeg)]) (rest := []) CX hX (by omega) rfl rfl (c_X7_at l G q nd _ τ ζ ρ (xs (x3 + 1).toNatClampNeg) (xs (x3 + 2).toNatClampNeg) hI.1 hI.2.1) (cw_V 2 CX bL_L_92 bI_X7_at bV_X7_at bN_X7 bC_X7_at ⟨rfl, rfl⟩ (by decide +kernel) ⟨Nat.le_of_ble_eq_true rfl, Nat.le_of_ble_eq_true rfl⟩) rfl hl.1 rfl (Nat.le_of_ble_eq_true rfl) dL_law_848 hcs) (fun r1 u1 H locs hp1 hX hM => ?_)
  have hS : va_S (fun a => s.heap.size ≤ a) s.heap H locs := by rw [← fX]; exact hX.2
  refine lv_aload_n C.1 C.2.1 dL_law_851 rfl (lv_at hl 1 rfl) ?_
  refine lv_aload_n C.1 C.2.1 dL_law_852 rfl (lv_at hl 3 rfl) ?_
  refine lv_iload_n C.1 C.2.1 dL_law_853 rfl (lv_at hl 0 rfl) ?_
  refine lv_iconst C.1 C.2.1 (v := 1) dL_law_854 (by decide) ?_
  refine lv_iadd C.1 C.2.1 dL_law_855 ?_
  refine va_sld C.1 C.2.1 hXs hbl hbA hS (vp_in_iff.mpr ⟨by omega, by omega⟩) dL_law_856 ?_
  refine lv_aload_n C.1 C.2.1 dL_law_857 rfl (lv_at hl 3 rfl) ?_
  refine lv_iload_n C.1 C.2.1 dL_law_858 rfl (lv_at hl 0 rfl) ?_
  refine lv_iconst C.1 C.2.1 (v := 2) dL_law_859 (by decide) ?_
  refine lv_iadd C.1 C.2.1 dL_law_860 ?_
  refine va_sld C.1 C.2.1 hXs hbl hbA hS (vp_in_iff.mpr ⟨by omega, by omega⟩) dL_law_861 ?_
  refine go2_l hM hX (fun k hk j hj => (hd j hj k hk).symm) (fM.trans fX.symm) (run_V (o := 0) (As := [.int (xs (x3 + 1).toNatClampNeg), .int (xs (x3 + 2).toNatClampNeg)]) (rest := [.long r1]) CM hM (by decide) rfl rfl (c_X8_at l G qM _ τ ξ (xs (x3 + 1).toNatClampNeg) (xs (x3 + 2).toNatClampNeg) ) (cw_V 2 CM bL_L_95 bI_X8_at bV_X8_at bN_X8 bC_X8_at ⟨rfl, rfl⟩ (by decide +kernel) ⟨Nat.le_of_ble_eq_true rfl, Nat.le_of_ble_eq_true rfl⟩) rfl hl.1 rfl (Nat.le_of_ble_eq_true rfl) dL_law_862 hcs) (fun r2 u2 H locs hp2 hM hX => ?_)
  obtain ⟨hI2, er⟩ := LI_next hI hp1 hp2 (iv_at hIV) hX hM
  refine W.lcmp C.1 C.2.1 dL_law_865 ?_
  subst er
  refine lv_if_eq C.1 C.2.1 (tgt := 1199) dL_law_866 (by decide) (fun _ => ?_) (fun c => absurd ((lc_eq (x := r1) (y := r1) rfl rfl).mpr rfl) c)
  refine W.widen (k := 200 + i + 6) (n := 20000 + 208 * (i + 6)) (by omega) (by omega) ?_
  exact hN _ _ _ _ _ _ _ _ _ rfl hI2 hl
set_option maxHeartbeats 4000000 in
set_option maxRecDepth 100000 in
theorem lc_window (C : LC G (fun a => s.heap.size ≤ a) p s m args c cL_law 4 RL) (hXs : va_X b L xs s s.heap) (hbl : b < s.heap.size) (hL : L ≤ 3072) (hx3 : x3.toInt = (i : Int)) (hi6 : i + 6 ≤ L) (hI : LI G s τ nd q qM ζ ξ ρ H locs) (hl : lv_has ls 4 [(3, .int x3), (2, .ref (qM 0)), (1, .ref (q 0)), (0, .ref b)]) (hN : NX G p l e s m args below meth c Q qM (q 0) i b x3) : W p l e room_1 s m args below meth c H locs (200 + i) (20000 + 208 * i) Q (F0 m 871 ls []) := by
  have hIV := hI.2.2.1
  have hX := hI.2.2.2.1
  have hM := hI.2.2.2.2.1
  have CX := LC_CX C hI.2.2.2.2.2.1 hI.2.2.2.2.2.2.2.1
  have CM := LC_CX C hI.2.2.2.2.2.2.1 hI.2.2.2.2.2.2.2.2.1
  have fX := FA_A0 hI.2.2.2.2.2.2.2.1
  have fM := FA_A0 hI.2.2.2.2.2.2.2.2.1
  have hd := hI.2.2.2.2.2.2.2.2.2
  have hS : va_S (fun a => s.heap.size ≤ a) s.heap H locs := by rw [← fX]; exact hX.2
  have hbA : ¬ s.heap.size ≤ b := Nat.not_le.mpr hbl
  have hcs : 200 + i ≤ room_1.cells ∧ 20000 + 208 * i ≤ room_1.slots := ⟨by show 200 + i ≤ 600000; omega, by show 20000 + 208 * i ≤ 7302250; omega⟩
  have e_1 : (x3 + 1).toInt = (i : Int) + 1 := ti_add hx3 (show (1 : Int32).toInt = 1 from by decide) (by omega) (by omega)
  have e_2 : (x3 + 2).toInt = (i : Int) + 2 := ti_add hx3 (show (2 : Int32).toInt = 2 from by decide) (by omega) (by omega)
  have e_3 : (x3 + 3).toInt = (i : Int) + 3 := ti_add hx3 (show (3 : Int32).toInt = 3 from by decide) (by omega) (by omega)
  have e_4 : (x3 + 4).toInt = (i : Int) + 4 := ti_add hx3 (show (4 : Int32).toInt = 4 from by decide) (by omega) (by omega)
  refine lv_aload_n C.1 C.2.1 dL_law_871 rfl (lv_at hl 2 rfl) ?_
  refine lv_aload_n C.1 C.2.1 dL_law_872 rfl (lv_at hl 3 rfl) ?_
  refine lv_iload_n C.1 C.2.1 dL_law_873 rfl (lv_at hl 0 rfl) ?_
  refine lv_iconst C.1 C.2.1 (v := 1) dL_law_874 (by decide) ?_
  refine lv_iadd C.1 C.2.1 dL_law_875 ?_
  refine va_sld C.1 C.2.1 hXs hbl hbA hS (vp_in_iff.mpr ⟨by omega, by omega⟩) dL_law_876 ?_
  refine lv_aload_n C.1 C.2.1 dL_law_877 rfl (lv_at hl 3 rfl) ?_
  refine lv_iload_n C.1 C.2.1 dL_law_878 rfl (lv_at hl 0 rfl) ?_
  refine lv_iconst C.1 C.2.1 (v := 2) dL_law_879 (by decide) ?_
  refine lv_iadd C.1 C.2.1 dL_law_880 ?_
  refine va_sld C.1 C.2.1 hXs hbl hbA hS (vp_in_iff.mpr ⟨by omega, by omega⟩) dL_law_881 ?_
  refine lv_aload_n C.1 C.2.1 dL_law_882 rfl (lv_at hl 3 rfl) ?_
  refine lv_iload_n C.1 C.2.1 dL_law_883 rfl (lv_at hl 0 rfl) ?_
  refine lv_iconst C.1 C.2.1 (v := 3) dL_law_884 (by decide) ?_
  refine lv_iadd C.1 C.2.1 dL_law_885 ?_
  refine va_sld C.1 C.2.1 hXs hbl hbA hS (vp_in_iff.mpr ⟨by omega, by omega⟩) dL_law_886 ?_
  refine lv_aload_n C.1 C.2.1 dL_law_887 rfl (lv_at hl 3 rfl) ?_
  refine lv_iload_n C.1 C.2.1 dL_law_888 rfl (lv_at hl 0 rfl) ?_
  refine lv_iconst C.1 C.2.1 (v := 4) dL_law_889 (by decide) ?_
  refine lv_iadd C.1 C.2.1 dL_law_890 ?_
  refine va_sld C.1 C.2.1 hXs hbl hbA hS (vp_in_iff.mpr ⟨by omega, by omega⟩) dL_law_891 ?_
  refine go2_i hX hM hd (fX.trans fM.symm) (run_V (o := 0) (As := [.int (xs (x3 + 1).toNatClampNeg), .int (xs (x3 + 2).toNatClampNeg), .int (xs (x3 + 3).toNatClampNeg), .int (xs (x3 + 4).toNatClampNeg)]) (rest := []) CX hX (by omega) rfl rfl (c_X7_window l G q nd _ τ ζ ρ (xs (x3 + 1).toNatClampNeg) (xs (x3 + 2).toNatClampNeg) (xs (x3 + 3).toNatClampNeg) (xs (x3 + 4).toNatClampNeg) hI.1 hI.2.1) (cw_V 4 CX bL_L_96 bI_X7_window bV_X7_window bN_X7 bC_X7_window ⟨rfl, rfl⟩ (by decide +kernel) ⟨Nat.le_of_ble_eq_true rfl, Nat.le_of_ble_eq_true rfl⟩) rfl hl.1 rfl (Nat.le_of_ble_eq_true rfl) dL_law_892 hcs) (fun r1 u1 H locs hp1 hX hM => ?_)
  have hS : va_S (fun a => s.heap.size ≤ a) s.heap H locs := by rw [← fX]; exact hX.2
  refine lv_aload_n C.1 C.2.1 dL_law_895 rfl (lv_at hl 1 rfl) ?_
  refine lv_aload_n C.1 C.2.1 dL_law_896 rfl (lv_at hl 3 rfl) ?_
  refine lv_iload_n C.1 C.2.1 dL_law_897 rfl (lv_at hl 0 rfl) ?_
  refine lv_iconst C.1 C.2.1 (v := 1) dL_law_898 (by decide) ?_
  refine lv_iadd C.1 C.2.1 dL_law_899 ?_
  refine va_sld C.1 C.2.1 hXs hbl hbA hS (vp_in_iff.mpr ⟨by omega, by omega⟩) dL_law_900 ?_
  refine lv_aload_n C.1 C.2.1 dL_law_901 rfl (lv_at hl 3 rfl) ?_
  refine lv_iload_n C.1 C.2.1 dL_law_902 rfl (lv_at hl 0 rfl) ?_
  refine lv_iconst C.1 C.2.1 (v := 2) dL_law_903 (by decide) ?_
  refine lv_iadd C.1 C.2.1 dL_law_904 ?_
  refine va_sld C.1 C.2.1 hXs hbl hbA hS (vp_in_iff.mpr ⟨by omega, by omega⟩) dL_law_905 ?_
  refine lv_aload_n C.1 C.2.1 dL_law_906 rfl (lv_at hl 3 rfl) ?_
  refine lv_iload_n C.1 C.2.1 dL_law_907 rfl (lv_at hl 0 rfl) ?_
  refine lv_iconst C.1 C.2.1 (v := 3) dL_law_908 (by decide) ?_
  refine lv_iadd C.1 C.2.1 dL_law_909 ?_
  refine va_sld C.1 C.2.1 hXs hbl hbA hS (vp_in_iff.mpr ⟨by omega, by omega⟩) dL_law_910 ?_
  refine lv_aload_n C.1 C.2.1 dL_law_911 rfl (lv_at hl 3 rfl) ?_
  refine lv_iload_n C.1 C.2.1 dL_law_912 rfl (lv_at hl 0 rfl) ?_
  refine lv_iconst C.1 C.2.1 (v := 4) dL_law_913 (by decide) ?_
  refine lv_iadd C.1 C.2.1 dL_law_914 ?_
  refine va_sld C.1 C.2.1 hXs hbl hbA hS (vp_in_iff.mpr ⟨by omega, by omega⟩) dL_law_915 ?_
  refine go2_i hM hX (fun k hk j hj => (hd j hj k hk).symm) (fM.trans fX.symm) (run_V (o := 0) (As := [.int (xs (x3 + 1).toNatClampNeg), .int (xs (x3 + 2).toNatClampNeg), .int (xs (x3 + 3).toNatClampNeg), .int (xs (x3 + 4).toNatClampNeg)]) (rest := [.int r1]) CM hM (by decide) rfl rfl (c_X8_window l G qM _ τ ξ (xs (x3 + 1).toNatClampNeg) (xs (x3 + 2).toNatClampNeg) (xs (x3 + 3).toNatClampNeg) (xs (x3 + 4).toNatClampNeg) ) (cw_V 4 CM bL_L_99 bI_X8_window bV_X8_window bN_X8 bC_X8_window ⟨rfl, rfl⟩ (by decide +kernel) ⟨Nat.le_of_ble_eq_true rfl, Nat.le_of_ble_eq_true rfl⟩) rfl hl.1 rfl (Nat.le_of_ble_eq_true rfl) dL_law_916 hcs) (fun r2 u2 H locs hp2 hM hX => ?_)
  obtain ⟨hI2, er⟩ := LI_next hI hp1 hp2 (iv_window hIV) hX hM
  refine lv_icmp_eq C.1 C.2.1 (tgt := 1199) dL_law_919 (by decide) (fun _ => ?_) (fun c => absurd er c)
  refine W.widen (k := 200 + i + 6) (n := 20000 + 208 * (i + 6)) (by omega) (by omega) ?_
  exact hN _ _ _ _ _ _ _ _ _ rfl hI2 hl
set_option maxHeartbeats 4000000 in
set_option maxRecDepth 100000 in
theorem lc_peak (C : LC G (fun a => s.heap.size ≤ a) p s m args c cL_law 4 RL) (hXs : va_X b L xs s s.heap) (hbl : b < s.heap.size) (hL : L ≤ 3072) (hx3 : x3.toInt = (i : Int)) (hi6 : i + 6 ≤ L) (hI : LI G s τ nd q qM ζ ξ ρ H locs) (hl : lv_has ls 4 [(3, .int x3), (2, .ref (qM 0)), (1, .ref (q 0)), (0, .ref b)]) (hN : NX G p l e s m args below meth c Q qM (q 0) i b x3) : W p l e room_1 s m args below meth c H locs (200 + i) (20000 + 208 * i) Q (F0 m 924 ls []) := by
  have hIV := hI.2.2.1
  have hX := hI.2.2.2.1
  have hM := hI.2.2.2.2.1
  have CX := LC_CX C hI.2.2.2.2.2.1 hI.2.2.2.2.2.2.2.1
  have CM := LC_CX C hI.2.2.2.2.2.2.1 hI.2.2.2.2.2.2.2.2.1
  have fX := FA_A0 hI.2.2.2.2.2.2.2.1
  have fM := FA_A0 hI.2.2.2.2.2.2.2.2.1
  have hd := hI.2.2.2.2.2.2.2.2.2
  have hS : va_S (fun a => s.heap.size ≤ a) s.heap H locs := by rw [← fX]; exact hX.2
  have hbA : ¬ s.heap.size ≤ b := Nat.not_le.mpr hbl
  have hcs : 200 + i ≤ room_1.cells ∧ 20000 + 208 * i ≤ room_1.slots := ⟨by show 200 + i ≤ 600000; omega, by show 20000 + 208 * i ≤ 7302250; omega⟩
  refine lv_aload_n C.1 C.2.1 dL_law_924 rfl (lv_at hl 2 rfl) ?_
  refine go2_i hX hM hd (fX.trans fM.symm) (run_V (o := 0) (As := []) (rest := []) CX hX (by omega) rfl rfl (c_X7_peak l G q nd _ τ ζ ρ  hI.1 hI.2.1 hIV.2.2.2.2.2.2.2.1) (cw_V 0 CX bL_L_100 bI_X7_peak bV_X7_peak bN_X7 bC_X7_peak ⟨rfl, rfl⟩ (by decide +kernel) ⟨Nat.le_of_ble_eq_true rfl, Nat.le_of_ble_eq_true rfl⟩) rfl hl.1 rfl (Nat.le_of_ble_eq_true rfl) dL_law_925 hcs) (fun r1 u1 H locs hp1 hX hM => ?_)
  have hS : va_S (fun a => s.heap.size ≤ a) s.heap H locs := by rw [← fX]; exact hX.2
  refine lv_aload_n C.1 C.2.1 dL_law_928 rfl (lv_at hl 1 rfl) ?_
  refine go2_i hM hX (fun k hk j hj => (hd j hj k hk).symm) (fM.trans fX.symm) (run_V (o := 0) (As := []) (rest := [.int r1]) CM hM (by decide) rfl rfl (c_X8_peak l G qM _ τ ξ  hIV.2.2.2.2.2.2.2.1) (cw_V 0 CM bL_L_103 bI_X8_peak bV_X8_peak bN_X8 bC_X8_peak ⟨rfl, rfl⟩ (by decide +kernel) ⟨Nat.le_of_ble_eq_true rfl, Nat.le_of_ble_eq_true rfl⟩) rfl hl.1 rfl (Nat.le_of_ble_eq_true rfl) dL_law_929 hcs) (fun r2 u2 H locs hp2 hM hX => ?_)
  obtain ⟨hI2, er⟩ := LI_next hI hp1 (show sp_peak τ = (r2, u2.1) from by rw [hp2.1, hp2.2.1]; rfl) (iv_peak hIV) hX hM
  refine lv_icmp_eq C.1 C.2.1 (tgt := 1199) dL_law_932 (by decide) (fun _ => ?_) (fun c => absurd er c)
  refine W.widen (k := 200 + i + 6) (n := 20000 + 208 * (i + 6)) (by omega) (by omega) ?_
  exact hN _ _ _ _ _ _ _ _ _ rfl hI2 hl
set_option maxHeartbeats 4000000 in
set_option maxRecDepth 100000 in
theorem lc_take (C : LC G (fun a => s.heap.size ≤ a) p s m args c cL_law 4 RL) (hXs : va_X b L xs s s.heap) (hbl : b < s.heap.size) (hL : L ≤ 3072) (hx3 : x3.toInt = (i : Int)) (hi6 : i + 6 ≤ L) (hI : LI G s τ nd q qM ζ ξ ρ H locs) (hl : lv_has ls 4 [(3, .int x3), (2, .ref (qM 0)), (1, .ref (q 0)), (0, .ref b)]) (hN : NX G p l e s m args below meth c Q qM (q 0) i b x3) : W p l e room_1 s m args below meth c H locs (200 + i) (20000 + 208 * i) Q (F0 m 937 ls []) := by
  have hIV := hI.2.2.1
  have hX := hI.2.2.2.1
  have hM := hI.2.2.2.2.1
  have CX := LC_CX C hI.2.2.2.2.2.1 hI.2.2.2.2.2.2.2.1
  have CM := LC_CX C hI.2.2.2.2.2.2.1 hI.2.2.2.2.2.2.2.2.1
  have fX := FA_A0 hI.2.2.2.2.2.2.2.1
  have fM := FA_A0 hI.2.2.2.2.2.2.2.2.1
  have hd := hI.2.2.2.2.2.2.2.2.2
  have hS : va_S (fun a => s.heap.size ≤ a) s.heap H locs := by rw [← fX]; exact hX.2
  have hbA : ¬ s.heap.size ≤ b := Nat.not_le.mpr hbl
  have hcs : 200 + i ≤ room_1.cells ∧ 20000 + 208 * i ≤ room_1.slots := ⟨by show 200 + i ≤ 600000; omega, by show 20000 + 208 * i ≤ 7302250; omega⟩
  have e_1 : (x3 + 1).toInt = (i : Int) + 1 := ti_add hx3 (show (1 : Int32).toInt = 1 from by decide) (by omega) (by omega)
  have e_2 : (x3 + 2).toInt = (i : Int) + 2 := ti_add hx3 (show (2 : Int32).toInt = 2 from by decide) (by omega) (by omega)
  refine lv_aload_n C.1 C.2.1 dL_law_937 rfl (lv_at hl 2 rfl) ?_
  refine lv_aload_n C.1 C.2.1 dL_law_938 rfl (lv_at hl 3 rfl) ?_
  refine lv_iload_n C.1 C.2.1 dL_law_939 rfl (lv_at hl 0 rfl) ?_
  refine lv_iconst C.1 C.2.1 (v := 1) dL_law_940 (by decide) ?_
  refine lv_iadd C.1 C.2.1 dL_law_941 ?_
  refine va_sld C.1 C.2.1 hXs hbl hbA hS (vp_in_iff.mpr ⟨by omega, by omega⟩) dL_law_942 ?_
  refine lv_aload_n C.1 C.2.1 dL_law_943 rfl (lv_at hl 3 rfl) ?_
  refine lv_iload_n C.1 C.2.1 dL_law_944 rfl (lv_at hl 0 rfl) ?_
  refine lv_iconst C.1 C.2.1 (v := 2) dL_law_945 (by decide) ?_
  refine lv_iadd C.1 C.2.1 dL_law_946 ?_
  refine va_sld C.1 C.2.1 hXs hbl hbA hS (vp_in_iff.mpr ⟨by omega, by omega⟩) dL_law_947 ?_
  refine go2_i hX hM hd (fX.trans fM.symm) (run_V (o := 0) (As := [.int (xs (x3 + 1).toNatClampNeg), .int (xs (x3 + 2).toNatClampNeg)]) (rest := []) CX hX (by omega) rfl rfl (c_X7_take l G q nd _ τ ζ ρ (xs (x3 + 1).toNatClampNeg) (xs (x3 + 2).toNatClampNeg) hI.1 hI.2.1 hIV.2.2.2.2.2.2.1 hIV.2.2.2.2.2.2.2.1) (cw_V 2 CX bL_L_104 bI_X7_take bV_X7_take bN_X7 bC_X7_take ⟨rfl, rfl⟩ (by decide +kernel) ⟨Nat.le_of_ble_eq_true rfl, Nat.le_of_ble_eq_true rfl⟩) rfl hl.1 rfl (Nat.le_of_ble_eq_true rfl) dL_law_948 hcs) (fun r1 u1 H locs hp1 hX hM => ?_)
  have hS : va_S (fun a => s.heap.size ≤ a) s.heap H locs := by rw [← fX]; exact hX.2
  refine lv_aload_n C.1 C.2.1 dL_law_951 rfl (lv_at hl 1 rfl) ?_
  refine lv_aload_n C.1 C.2.1 dL_law_952 rfl (lv_at hl 3 rfl) ?_
  refine lv_iload_n C.1 C.2.1 dL_law_953 rfl (lv_at hl 0 rfl) ?_
  refine lv_iconst C.1 C.2.1 (v := 1) dL_law_954 (by decide) ?_
  refine lv_iadd C.1 C.2.1 dL_law_955 ?_
  refine va_sld C.1 C.2.1 hXs hbl hbA hS (vp_in_iff.mpr ⟨by omega, by omega⟩) dL_law_956 ?_
  refine lv_aload_n C.1 C.2.1 dL_law_957 rfl (lv_at hl 3 rfl) ?_
  refine lv_iload_n C.1 C.2.1 dL_law_958 rfl (lv_at hl 0 rfl) ?_
  refine lv_iconst C.1 C.2.1 (v := 2) dL_law_959 (by decide) ?_
  refine lv_iadd C.1 C.2.1 dL_law_960 ?_
  refine va_sld C.1 C.2.1 hXs hbl hbA hS (vp_in_iff.mpr ⟨by omega, by omega⟩) dL_law_961 ?_
  refine go2_i hM hX (fun k hk j hj => (hd j hj k hk).symm) (fM.trans fX.symm) (run_V (o := 0) (As := [.int (xs (x3 + 1).toNatClampNeg), .int (xs (x3 + 2).toNatClampNeg)]) (rest := [.int r1]) CM hM (by decide) rfl rfl (c_X8_take l G qM _ τ ξ (xs (x3 + 1).toNatClampNeg) (xs (x3 + 2).toNatClampNeg) hIV.2.2.2.2.2.2.1 hIV.2.2.2.2.2.2.2.1 hIV.2.2.2.2.2.2.2.2.1) (cw_V 2 CM bL_L_107 bI_X8_take bV_X8_take bN_X8 bC_X8_take ⟨rfl, rfl⟩ (by decide +kernel) ⟨Nat.le_of_ble_eq_true rfl, Nat.le_of_ble_eq_true rfl⟩) rfl hl.1 rfl (Nat.le_of_ble_eq_true rfl) dL_law_962 hcs) (fun r2 u2 H locs hp2 hM hX => ?_)
  obtain ⟨hI2, er⟩ := LI_next hI hp1 hp2 (iv_take hIV) hX hM
  refine lv_icmp_eq C.1 C.2.1 (tgt := 1199) dL_law_965 (by decide) (fun _ => ?_) (fun c => absurd er c)
  refine W.widen (k := 200 + i + 6) (n := 20000 + 208 * (i + 6)) (by omega) (by omega) ?_
  exact hN _ _ _ _ _ _ _ _ _ rfl hI2 hl
set_option maxHeartbeats 4000000 in
set_option maxRecDepth 100000 in
theorem lc_part (C : LC G (fun a => s.heap.size ≤ a) p s m args c cL_law 4 RL) (hXs : va_X b L xs s s.heap) (hbl : b < s.heap.size) (hL : L ≤ 3072) (hx3 : x3.toInt = (i : Int)) (hi6 : i + 6 ≤ L) (hI : LI G s τ nd q qM ζ ξ ρ H locs) (hl : lv_has ls 4 [(3, .int x3), (2, .ref (qM 0)), (1, .ref (q 0)), (0, .ref b)]) (hN : NX G p l e s m args below meth c Q qM (q 0) i b x3) : W p l e room_1 s m args below meth c H locs (200 + i) (20000 + 208 * i) Q (F0 m 970 ls []) := by
  have hIV := hI.2.2.1
  have hX := hI.2.2.2.1
  have hM := hI.2.2.2.2.1
  have CX := LC_CX C hI.2.2.2.2.2.1 hI.2.2.2.2.2.2.2.1
  have CM := LC_CX C hI.2.2.2.2.2.2.1 hI.2.2.2.2.2.2.2.2.1
  have fX := FA_A0 hI.2.2.2.2.2.2.2.1
  have fM := FA_A0 hI.2.2.2.2.2.2.2.2.1
  have hd := hI.2.2.2.2.2.2.2.2.2
  have hS : va_S (fun a => s.heap.size ≤ a) s.heap H locs := by rw [← fX]; exact hX.2
  have hbA : ¬ s.heap.size ≤ b := Nat.not_le.mpr hbl
  have hcs : 200 + i ≤ room_1.cells ∧ 20000 + 208 * i ≤ room_1.slots := ⟨by show 200 + i ≤ 600000; omega, by show 20000 + 208 * i ≤ 7302250; omega⟩
  have e_1 : (x3 + 1).toInt = (i : Int) + 1 := ti_add hx3 (show (1 : Int32).toInt = 1 from by decide) (by omega) (by omega)
  have e_2 : (x3 + 2).toInt = (i : Int) + 2 := ti_add hx3 (show (2 : Int32).toInt = 2 from by decide) (by omega) (by omega)
  refine lv_aload_n C.1 C.2.1 dL_law_970 rfl (lv_at hl 2 rfl) ?_
  refine lv_aload_n C.1 C.2.1 dL_law_971 rfl (lv_at hl 3 rfl) ?_
  refine lv_iload_n C.1 C.2.1 dL_law_972 rfl (lv_at hl 0 rfl) ?_
  refine lv_iconst C.1 C.2.1 (v := 1) dL_law_973 (by decide) ?_
  refine lv_iadd C.1 C.2.1 dL_law_974 ?_
  refine va_sld C.1 C.2.1 hXs hbl hbA hS (vp_in_iff.mpr ⟨by omega, by omega⟩) dL_law_975 ?_
  refine lv_aload_n C.1 C.2.1 dL_law_976 rfl (lv_at hl 3 rfl) ?_
  refine lv_iload_n C.1 C.2.1 dL_law_977 rfl (lv_at hl 0 rfl) ?_
  refine lv_iconst C.1 C.2.1 (v := 2) dL_law_978 (by decide) ?_
  refine lv_iadd C.1 C.2.1 dL_law_979 ?_
  refine va_sld C.1 C.2.1 hXs hbl hbA hS (vp_in_iff.mpr ⟨by omega, by omega⟩) dL_law_980 ?_
  refine go2_l hX hM hd (fX.trans fM.symm) (run_V (o := 0) (As := [.int (xs (x3 + 1).toNatClampNeg), .int (xs (x3 + 2).toNatClampNeg)]) (rest := []) CX hX (by omega) rfl rfl (c_X7_part l G q nd _ τ ζ ρ (xs (x3 + 1).toNatClampNeg) (xs (x3 + 2).toNatClampNeg) hI.1 hI.2.1 hIV.2.2.2.2.2.2.1) (cw_V 2 CX bL_L_108 bI_X7_part bV_X7_part bN_X7 bC_X7_part ⟨rfl, rfl⟩ (by decide +kernel) ⟨Nat.le_of_ble_eq_true rfl, Nat.le_of_ble_eq_true rfl⟩) rfl hl.1 rfl (Nat.le_of_ble_eq_true rfl) dL_law_981 hcs) (fun r1 u1 H locs hp1 hX hM => ?_)
  have hS : va_S (fun a => s.heap.size ≤ a) s.heap H locs := by rw [← fX]; exact hX.2
  refine lv_aload_n C.1 C.2.1 dL_law_984 rfl (lv_at hl 1 rfl) ?_
  refine lv_aload_n C.1 C.2.1 dL_law_985 rfl (lv_at hl 3 rfl) ?_
  refine lv_iload_n C.1 C.2.1 dL_law_986 rfl (lv_at hl 0 rfl) ?_
  refine lv_iconst C.1 C.2.1 (v := 1) dL_law_987 (by decide) ?_
  refine lv_iadd C.1 C.2.1 dL_law_988 ?_
  refine va_sld C.1 C.2.1 hXs hbl hbA hS (vp_in_iff.mpr ⟨by omega, by omega⟩) dL_law_989 ?_
  refine lv_aload_n C.1 C.2.1 dL_law_990 rfl (lv_at hl 3 rfl) ?_
  refine lv_iload_n C.1 C.2.1 dL_law_991 rfl (lv_at hl 0 rfl) ?_
  refine lv_iconst C.1 C.2.1 (v := 2) dL_law_992 (by decide) ?_
  refine lv_iadd C.1 C.2.1 dL_law_993 ?_
  refine va_sld C.1 C.2.1 hXs hbl hbA hS (vp_in_iff.mpr ⟨by omega, by omega⟩) dL_law_994 ?_
  refine go2_l hM hX (fun k hk j hj => (hd j hj k hk).symm) (fM.trans fX.symm) (run_V (o := 0) (As := [.int (xs (x3 + 1).toNatClampNeg), .int (xs (x3 + 2).toNatClampNeg)]) (rest := [.long r1]) CM hM (by decide) rfl rfl (c_X8_part l G qM _ τ ξ (xs (x3 + 1).toNatClampNeg) (xs (x3 + 2).toNatClampNeg) hIV.2.2.2.2.2.2.1) (cw_V 2 CM bL_L_111 bI_X8_part bV_X8_part bN_X8 bC_X8_part ⟨rfl, rfl⟩ (by decide +kernel) ⟨Nat.le_of_ble_eq_true rfl, Nat.le_of_ble_eq_true rfl⟩) rfl hl.1 rfl (Nat.le_of_ble_eq_true rfl) dL_law_995 hcs) (fun r2 u2 H locs hp2 hM hX => ?_)
  obtain ⟨hI2, er⟩ := LI_next hI hp1 hp2 (iv_part hIV) hX hM
  refine W.lcmp C.1 C.2.1 dL_law_998 ?_
  subst er
  refine lv_if_eq C.1 C.2.1 (tgt := 1199) dL_law_999 (by decide) (fun _ => ?_) (fun c => absurd ((lc_eq (x := r1) (y := r1) rfl rfl).mpr rfl) c)
  refine W.widen (k := 200 + i + 6) (n := 20000 + 208 * (i + 6)) (by omega) (by omega) ?_
  exact hN _ _ _ _ _ _ _ _ _ rfl hI2 hl
set_option maxHeartbeats 4000000 in
set_option maxRecDepth 100000 in
theorem lc_back (C : LC G (fun a => s.heap.size ≤ a) p s m args c cL_law 4 RL) (hXs : va_X b L xs s s.heap) (hbl : b < s.heap.size) (hL : L ≤ 3072) (hx3 : x3.toInt = (i : Int)) (hi6 : i + 6 ≤ L) (hI : LI G s τ nd q qM ζ ξ ρ H locs) (hl : lv_has ls 4 [(3, .int x3), (2, .ref (qM 0)), (1, .ref (q 0)), (0, .ref b)]) (hN : NX G p l e s m args below meth c Q qM (q 0) i b x3) : W p l e room_1 s m args below meth c H locs (200 + i) (20000 + 208 * i) Q (F0 m 1004 ls []) := by
  have hIV := hI.2.2.1
  have hX := hI.2.2.2.1
  have hM := hI.2.2.2.2.1
  have CX := LC_CX C hI.2.2.2.2.2.1 hI.2.2.2.2.2.2.2.1
  have CM := LC_CX C hI.2.2.2.2.2.2.1 hI.2.2.2.2.2.2.2.2.1
  have fX := FA_A0 hI.2.2.2.2.2.2.2.1
  have fM := FA_A0 hI.2.2.2.2.2.2.2.2.1
  have hd := hI.2.2.2.2.2.2.2.2.2
  have hS : va_S (fun a => s.heap.size ≤ a) s.heap H locs := by rw [← fX]; exact hX.2
  have hbA : ¬ s.heap.size ≤ b := Nat.not_le.mpr hbl
  have hcs : 200 + i ≤ room_1.cells ∧ 20000 + 208 * i ≤ room_1.slots := ⟨by show 200 + i ≤ 600000; omega, by show 20000 + 208 * i ≤ 7302250; omega⟩
  refine lv_aload_n C.1 C.2.1 dL_law_1004 rfl (lv_at hl 2 rfl) ?_
  refine go2_i hX hM hd (fX.trans fM.symm) (run_V (o := 0) (As := []) (rest := []) CX hX (by omega) rfl rfl (c_X7_back l G q nd _ τ ζ ρ  hI.1 hI.2.1 hIV.2.2.2.2.2.2.1) (cw_V 0 CX bL_L_112 bI_X7_back bV_X7_back bN_X7 bC_X7_back ⟨rfl, rfl⟩ (by decide +kernel) ⟨Nat.le_of_ble_eq_true rfl, Nat.le_of_ble_eq_true rfl⟩) rfl hl.1 rfl (Nat.le_of_ble_eq_true rfl) dL_law_1005 hcs) (fun r1 u1 H locs hp1 hX hM => ?_)
  have hS : va_S (fun a => s.heap.size ≤ a) s.heap H locs := by rw [← fX]; exact hX.2
  refine lv_aload_n C.1 C.2.1 dL_law_1008 rfl (lv_at hl 1 rfl) ?_
  refine go2_i hM hX (fun k hk j hj => (hd j hj k hk).symm) (fM.trans fX.symm) (run_V (o := 0) (As := []) (rest := [.int r1]) CM hM (by decide) rfl rfl (c_X8_back l G qM _ τ ξ  hIV.2.2.2.2.2.2.1 hIV.2.2.2.2.2.2.2.2.1) (cw_V 0 CM bL_L_115 bI_X8_back bV_X8_back bN_X8 bC_X8_back ⟨rfl, rfl⟩ (by decide +kernel) ⟨Nat.le_of_ble_eq_true rfl, Nat.le_of_ble_eq_true rfl⟩) rfl hl.1 rfl (Nat.le_of_ble_eq_true rfl) dL_law_1009 hcs) (fun r2 u2 H locs hp2 hM hX => ?_)
  obtain ⟨hI2, er⟩ := LI_next hI hp1 hp2 (iv_back hIV) hX hM
  refine lv_icmp_eq C.1 C.2.1 (tgt := 1199) dL_law_1012 (by decide) (fun _ => ?_) (fun c => absurd er c)
  refine W.widen (k := 200 + i + 6) (n := 20000 + 208 * (i + 6)) (by omega) (by omega) ?_
  exact hN _ _ _ _ _ _ _ _ _ rfl hI2 hl
set_option maxHeartbeats 4000000 in
set_option maxRecDepth 100000 in
theorem lc_source (C : LC G (fun a => s.heap.size ≤ a) p s m args c cL_law 4 RL) (hXs : va_X b L xs s s.heap) (hbl : b < s.heap.size) (hL : L ≤ 3072) (hx3 : x3.toInt = (i : Int)) (hi6 : i + 6 ≤ L) (hI : LI G s τ nd q qM ζ ξ ρ H locs) (hl : lv_has ls 4 [(3, .int x3), (2, .ref (qM 0)), (1, .ref (q 0)), (0, .ref b)]) (hN : NX G p l e s m args below meth c Q qM (q 0) i b x3) : W p l e room_1 s m args below meth c H locs (200 + i) (20000 + 208 * i) Q (F0 m 1017 ls []) := by
  have hIV := hI.2.2.1
  have hX := hI.2.2.2.1
  have hM := hI.2.2.2.2.1
  have CX := LC_CX C hI.2.2.2.2.2.1 hI.2.2.2.2.2.2.2.1
  have CM := LC_CX C hI.2.2.2.2.2.2.1 hI.2.2.2.2.2.2.2.2.1
  have fX := FA_A0 hI.2.2.2.2.2.2.2.1
  have fM := FA_A0 hI.2.2.2.2.2.2.2.2.1
  have hd := hI.2.2.2.2.2.2.2.2.2
  have hS : va_S (fun a => s.heap.size ≤ a) s.heap H locs := by rw [← fX]; exact hX.2
  have hbA : ¬ s.heap.size ≤ b := Nat.not_le.mpr hbl
  have hcs : 200 + i ≤ room_1.cells ∧ 20000 + 208 * i ≤ room_1.slots := ⟨by show 200 + i ≤ 600000; omega, by show 20000 + 208 * i ≤ 7302250; omega⟩
  have e_1 : (x3 + 1).toInt = (i : Int) + 1 := ti_add hx3 (show (1 : Int32).toInt = 1 from by decide) (by omega) (by omega)
  have e_2 : (x3 + 2).toInt = (i : Int) + 2 := ti_add hx3 (show (2 : Int32).toInt = 2 from by decide) (by omega) (by omega)
  have e_3 : (x3 + 3).toInt = (i : Int) + 3 := ti_add hx3 (show (3 : Int32).toInt = 3 from by decide) (by omega) (by omega)
  refine lv_aload_n C.1 C.2.1 dL_law_1017 rfl (lv_at hl 2 rfl) ?_
  refine lv_aload_n C.1 C.2.1 dL_law_1018 rfl (lv_at hl 3 rfl) ?_
  refine lv_iload_n C.1 C.2.1 dL_law_1019 rfl (lv_at hl 0 rfl) ?_
  refine lv_iconst C.1 C.2.1 (v := 1) dL_law_1020 (by decide) ?_
  refine lv_iadd C.1 C.2.1 dL_law_1021 ?_
  refine va_sld C.1 C.2.1 hXs hbl hbA hS (vp_in_iff.mpr ⟨by omega, by omega⟩) dL_law_1022 ?_
  refine lv_aload_n C.1 C.2.1 dL_law_1023 rfl (lv_at hl 3 rfl) ?_
  refine lv_iload_n C.1 C.2.1 dL_law_1024 rfl (lv_at hl 0 rfl) ?_
  refine lv_iconst C.1 C.2.1 (v := 2) dL_law_1025 (by decide) ?_
  refine lv_iadd C.1 C.2.1 dL_law_1026 ?_
  refine va_sld C.1 C.2.1 hXs hbl hbA hS (vp_in_iff.mpr ⟨by omega, by omega⟩) dL_law_1027 ?_
  refine lv_aload_n C.1 C.2.1 dL_law_1028 rfl (lv_at hl 3 rfl) ?_
  refine lv_iload_n C.1 C.2.1 dL_law_1029 rfl (lv_at hl 0 rfl) ?_
  refine lv_iconst C.1 C.2.1 (v := 3) dL_law_1030 (by decide) ?_
  refine lv_iadd C.1 C.2.1 dL_law_1031 ?_
  refine va_sld C.1 C.2.1 hXs hbl hbA hS (vp_in_iff.mpr ⟨by omega, by omega⟩) dL_law_1032 ?_
  refine go2_i hX hM hd (fX.trans fM.symm) (run_V (o := 0) (As := [.int (xs (x3 + 1).toNatClampNeg), .int (xs (x3 + 2).toNatClampNeg), .int (xs (x3 + 3).toNatClampNeg)]) (rest := []) CX hX (by omega) rfl rfl (c_X7_source l G q nd _ τ ζ ρ (xs (x3 + 1).toNatClampNeg) (xs (x3 + 2).toNatClampNeg) (xs (x3 + 3).toNatClampNeg) hI.1 hI.2.1) (cw_V 3 CX bL_L_116 bI_X7_source bV_X7_source bN_X7 bC_X7_source ⟨rfl, rfl⟩ (by decide +kernel) ⟨Nat.le_of_ble_eq_true rfl, Nat.le_of_ble_eq_true rfl⟩) rfl hl.1 rfl (Nat.le_of_ble_eq_true rfl) dL_law_1033 hcs) (fun r1 u1 H locs hp1 hX hM => ?_)
  have hS : va_S (fun a => s.heap.size ≤ a) s.heap H locs := by rw [← fX]; exact hX.2
  refine lv_aload_n C.1 C.2.1 dL_law_1036 rfl (lv_at hl 1 rfl) ?_
  refine lv_aload_n C.1 C.2.1 dL_law_1037 rfl (lv_at hl 3 rfl) ?_
  refine lv_iload_n C.1 C.2.1 dL_law_1038 rfl (lv_at hl 0 rfl) ?_
  refine lv_iconst C.1 C.2.1 (v := 1) dL_law_1039 (by decide) ?_
  refine lv_iadd C.1 C.2.1 dL_law_1040 ?_
  refine va_sld C.1 C.2.1 hXs hbl hbA hS (vp_in_iff.mpr ⟨by omega, by omega⟩) dL_law_1041 ?_
  refine lv_aload_n C.1 C.2.1 dL_law_1042 rfl (lv_at hl 3 rfl) ?_
  refine lv_iload_n C.1 C.2.1 dL_law_1043 rfl (lv_at hl 0 rfl) ?_
  refine lv_iconst C.1 C.2.1 (v := 2) dL_law_1044 (by decide) ?_
  refine lv_iadd C.1 C.2.1 dL_law_1045 ?_
  refine va_sld C.1 C.2.1 hXs hbl hbA hS (vp_in_iff.mpr ⟨by omega, by omega⟩) dL_law_1046 ?_
  refine lv_aload_n C.1 C.2.1 dL_law_1047 rfl (lv_at hl 3 rfl) ?_
  refine lv_iload_n C.1 C.2.1 dL_law_1048 rfl (lv_at hl 0 rfl) ?_
  refine lv_iconst C.1 C.2.1 (v := 3) dL_law_1049 (by decide) ?_
  refine lv_iadd C.1 C.2.1 dL_law_1050 ?_
  refine va_sld C.1 C.2.1 hXs hbl hbA hS (vp_in_iff.mpr ⟨by omega, by omega⟩) dL_law_1051 ?_
  refine go2_i hM hX (fun k hk j hj => (hd j hj k hk).symm) (fM.trans fX.symm) (run_V (o := 0) (As := [.int (xs (x3 + 1).toNatClampNeg), .int (xs (x3 + 2).toNatClampNeg), .int (xs (x3 + 3).toNatClampNeg)]) (rest := [.int r1]) CM hM (by decide) rfl rfl (c_X8_source l G qM _ τ ξ (xs (x3 + 1).toNatClampNeg) (xs (x3 + 2).toNatClampNeg) (xs (x3 + 3).toNatClampNeg) ) (cw_V 3 CM bL_L_119 bI_X8_source bV_X8_source bN_X8 bC_X8_source ⟨rfl, rfl⟩ (by decide +kernel) ⟨Nat.le_of_ble_eq_true rfl, Nat.le_of_ble_eq_true rfl⟩) rfl hl.1 rfl (Nat.le_of_ble_eq_true rfl) dL_law_1052 hcs) (fun r2 u2 H locs hp2 hM hX => ?_)
  obtain ⟨hI2, er⟩ := LI_next hI hp1 hp2 (iv_source hIV) hX hM
  refine lv_icmp_eq C.1 C.2.1 (tgt := 1199) dL_law_1055 (by decide) (fun _ => ?_) (fun c => absurd er c)
  refine W.widen (k := 200 + i + 6) (n := 20000 + 208 * (i + 6)) (by omega) (by omega) ?_
  exact hN _ _ _ _ _ _ _ _ _ rfl hI2 hl
set_option maxHeartbeats 4000000 in
set_option maxRecDepth 100000 in
theorem lc_order (C : LC G (fun a => s.heap.size ≤ a) p s m args c cL_law 4 RL) (hXs : va_X b L xs s s.heap) (hbl : b < s.heap.size) (hL : L ≤ 3072) (hx3 : x3.toInt = (i : Int)) (hi6 : i + 6 ≤ L) (hI : LI G s τ nd q qM ζ ξ ρ H locs) (hl : lv_has ls 4 [(3, .int x3), (2, .ref (qM 0)), (1, .ref (q 0)), (0, .ref b)]) (hN : NX G p l e s m args below meth c Q qM (q 0) i b x3) : W p l e room_1 s m args below meth c H locs (200 + i) (20000 + 208 * i) Q (F0 m 1060 ls []) := by
  have hIV := hI.2.2.1
  have hX := hI.2.2.2.1
  have hM := hI.2.2.2.2.1
  have CX := LC_CX C hI.2.2.2.2.2.1 hI.2.2.2.2.2.2.2.1
  have CM := LC_CX C hI.2.2.2.2.2.2.1 hI.2.2.2.2.2.2.2.2.1
  have fX := FA_A0 hI.2.2.2.2.2.2.2.1
  have fM := FA_A0 hI.2.2.2.2.2.2.2.2.1
  have hd := hI.2.2.2.2.2.2.2.2.2
  have hS : va_S (fun a => s.heap.size ≤ a) s.heap H locs := by rw [← fX]; exact hX.2
  have hbA : ¬ s.heap.size ≤ b := Nat.not_le.mpr hbl
  have hcs : 200 + i ≤ room_1.cells ∧ 20000 + 208 * i ≤ room_1.slots := ⟨by show 200 + i ≤ 600000; omega, by show 20000 + 208 * i ≤ 7302250; omega⟩
  have e_1 : (x3 + 1).toInt = (i : Int) + 1 := ti_add hx3 (show (1 : Int32).toInt = 1 from by decide) (by omega) (by omega)
  have e_2 : (x3 + 2).toInt = (i : Int) + 2 := ti_add hx3 (show (2 : Int32).toInt = 2 from by decide) (by omega) (by omega)
  have e_3 : (x3 + 3).toInt = (i : Int) + 3 := ti_add hx3 (show (3 : Int32).toInt = 3 from by decide) (by omega) (by omega)
  refine lv_aload_n C.1 C.2.1 dL_law_1060 rfl (lv_at hl 2 rfl) ?_
  refine lv_aload_n C.1 C.2.1 dL_law_1061 rfl (lv_at hl 3 rfl) ?_
  refine lv_iload_n C.1 C.2.1 dL_law_1062 rfl (lv_at hl 0 rfl) ?_
  refine lv_iconst C.1 C.2.1 (v := 1) dL_law_1063 (by decide) ?_
  refine lv_iadd C.1 C.2.1 dL_law_1064 ?_
  refine va_sld C.1 C.2.1 hXs hbl hbA hS (vp_in_iff.mpr ⟨by omega, by omega⟩) dL_law_1065 ?_
  refine lv_aload_n C.1 C.2.1 dL_law_1066 rfl (lv_at hl 3 rfl) ?_
  refine lv_iload_n C.1 C.2.1 dL_law_1067 rfl (lv_at hl 0 rfl) ?_
  refine lv_iconst C.1 C.2.1 (v := 2) dL_law_1068 (by decide) ?_
  refine lv_iadd C.1 C.2.1 dL_law_1069 ?_
  refine va_sld C.1 C.2.1 hXs hbl hbA hS (vp_in_iff.mpr ⟨by omega, by omega⟩) dL_law_1070 ?_
  refine lv_aload_n C.1 C.2.1 dL_law_1071 rfl (lv_at hl 3 rfl) ?_
  refine lv_iload_n C.1 C.2.1 dL_law_1072 rfl (lv_at hl 0 rfl) ?_
  refine lv_iconst C.1 C.2.1 (v := 3) dL_law_1073 (by decide) ?_
  refine lv_iadd C.1 C.2.1 dL_law_1074 ?_
  refine va_sld C.1 C.2.1 hXs hbl hbA hS (vp_in_iff.mpr ⟨by omega, by omega⟩) dL_law_1075 ?_
  refine go2_i hX hM hd (fX.trans fM.symm) (run_V (o := 0) (As := [.int (xs (x3 + 1).toNatClampNeg), .int (xs (x3 + 2).toNatClampNeg), .int (xs (x3 + 3).toNatClampNeg)]) (rest := []) CX hX (by omega) rfl rfl (c_X7_order l G q nd _ τ ζ ρ (xs (x3 + 1).toNatClampNeg) (xs (x3 + 2).toNatClampNeg) (xs (x3 + 3).toNatClampNeg) hI.1 hI.2.1 hIV.2.2.2.2.2.2.2.2.2.1) (cw_V 3 CX bL_L_120 bI_X7_order bV_X7_order bN_X7 bC_X7_order ⟨rfl, rfl⟩ (by decide +kernel) ⟨Nat.le_of_ble_eq_true rfl, Nat.le_of_ble_eq_true rfl⟩) rfl hl.1 rfl (Nat.le_of_ble_eq_true rfl) dL_law_1076 hcs) (fun r1 u1 H locs hp1 hX hM => ?_)
  have hS : va_S (fun a => s.heap.size ≤ a) s.heap H locs := by rw [← fX]; exact hX.2
  refine lv_aload_n C.1 C.2.1 dL_law_1079 rfl (lv_at hl 1 rfl) ?_
  refine lv_aload_n C.1 C.2.1 dL_law_1080 rfl (lv_at hl 3 rfl) ?_
  refine lv_iload_n C.1 C.2.1 dL_law_1081 rfl (lv_at hl 0 rfl) ?_
  refine lv_iconst C.1 C.2.1 (v := 1) dL_law_1082 (by decide) ?_
  refine lv_iadd C.1 C.2.1 dL_law_1083 ?_
  refine va_sld C.1 C.2.1 hXs hbl hbA hS (vp_in_iff.mpr ⟨by omega, by omega⟩) dL_law_1084 ?_
  refine lv_aload_n C.1 C.2.1 dL_law_1085 rfl (lv_at hl 3 rfl) ?_
  refine lv_iload_n C.1 C.2.1 dL_law_1086 rfl (lv_at hl 0 rfl) ?_
  refine lv_iconst C.1 C.2.1 (v := 2) dL_law_1087 (by decide) ?_
  refine lv_iadd C.1 C.2.1 dL_law_1088 ?_
  refine va_sld C.1 C.2.1 hXs hbl hbA hS (vp_in_iff.mpr ⟨by omega, by omega⟩) dL_law_1089 ?_
  refine lv_aload_n C.1 C.2.1 dL_law_1090 rfl (lv_at hl 3 rfl) ?_
  refine lv_iload_n C.1 C.2.1 dL_law_1091 rfl (lv_at hl 0 rfl) ?_
  refine lv_iconst C.1 C.2.1 (v := 3) dL_law_1092 (by decide) ?_
  refine lv_iadd C.1 C.2.1 dL_law_1093 ?_
  refine va_sld C.1 C.2.1 hXs hbl hbA hS (vp_in_iff.mpr ⟨by omega, by omega⟩) dL_law_1094 ?_
  refine go2_i hM hX (fun k hk j hj => (hd j hj k hk).symm) (fM.trans fX.symm) (run_V (o := 0) (As := [.int (xs (x3 + 1).toNatClampNeg), .int (xs (x3 + 2).toNatClampNeg), .int (xs (x3 + 3).toNatClampNeg)]) (rest := [.int r1]) CM hM (by decide) rfl rfl (c_X8_order l G qM _ τ ξ (xs (x3 + 1).toNatClampNeg) (xs (x3 + 2).toNatClampNeg) (xs (x3 + 3).toNatClampNeg) hIV.2.2.2.2.2.2.2.2.2.1) (cw_V 3 CM bL_L_123 bI_X8_order bV_X8_order bN_X8 bC_X8_order ⟨rfl, rfl⟩ (by decide +kernel) ⟨Nat.le_of_ble_eq_true rfl, Nat.le_of_ble_eq_true rfl⟩) rfl hl.1 rfl (Nat.le_of_ble_eq_true rfl) dL_law_1095 hcs) (fun r2 u2 H locs hp2 hM hX => ?_)
  obtain ⟨hI2, er⟩ := LI_next hI hp1 hp2 (iv_order hIV) hX hM
  refine lv_icmp_eq C.1 C.2.1 (tgt := 1199) dL_law_1098 (by decide) (fun _ => ?_) (fun c => absurd er c)
  refine W.widen (k := 200 + i + 6) (n := 20000 + 208 * (i + 6)) (by omega) (by omega) ?_
  exact hN _ _ _ _ _ _ _ _ _ rfl hI2 hl
set_option maxHeartbeats 4000000 in
set_option maxRecDepth 100000 in
theorem lc_wipe (C : LC G (fun a => s.heap.size ≤ a) p s m args c cL_law 4 RL) (hXs : va_X b L xs s s.heap) (hbl : b < s.heap.size) (hL : L ≤ 3072) (hx3 : x3.toInt = (i : Int)) (hi6 : i + 6 ≤ L) (hI : LI G s τ nd q qM ζ ξ ρ H locs) (hl : lv_has ls 4 [(3, .int x3), (2, .ref (qM 0)), (1, .ref (q 0)), (0, .ref b)]) (hN : NX G p l e s m args below meth c Q qM (q 0) i b x3) : W p l e room_1 s m args below meth c H locs (200 + i) (20000 + 208 * i) Q (F0 m 1103 ls []) := by
  have hIV := hI.2.2.1
  have hX := hI.2.2.2.1
  have hM := hI.2.2.2.2.1
  have CX := LC_CX C hI.2.2.2.2.2.1 hI.2.2.2.2.2.2.2.1
  have CM := LC_CX C hI.2.2.2.2.2.2.1 hI.2.2.2.2.2.2.2.2.1
  have fX := FA_A0 hI.2.2.2.2.2.2.2.1
  have fM := FA_A0 hI.2.2.2.2.2.2.2.2.1
  have hd := hI.2.2.2.2.2.2.2.2.2
  have hS : va_S (fun a => s.heap.size ≤ a) s.heap H locs := by rw [← fX]; exact hX.2
  have hbA : ¬ s.heap.size ≤ b := Nat.not_le.mpr hbl
  have hcs : 200 + i ≤ room_1.cells ∧ 20000 + 208 * i ≤ room_1.slots := ⟨by show 200 + i ≤ 600000; omega, by show 20000 + 208 * i ≤ 7302250; omega⟩
  refine lv_aload_n C.1 C.2.1 dL_law_1103 rfl (lv_at hl 2 rfl) ?_
  refine go2_i hX hM hd (fX.trans fM.symm) (run_V (o := 0) (As := []) (rest := []) CX hX (by omega) rfl rfl (c_X7_wipe l G q nd _ τ ζ ρ  hI.1 hI.2.1 hIV.2.2.2.2.2.2.2.2.2.1) (cw_V 0 CX bL_L_124 bI_X7_wipe bV_X7_wipe bN_X7 bC_X7_wipe ⟨rfl, rfl⟩ (by decide +kernel) ⟨Nat.le_of_ble_eq_true rfl, Nat.le_of_ble_eq_true rfl⟩) rfl hl.1 rfl (Nat.le_of_ble_eq_true rfl) dL_law_1104 hcs) (fun r1 u1 H locs hp1 hX hM => ?_)
  have hS : va_S (fun a => s.heap.size ≤ a) s.heap H locs := by rw [← fX]; exact hX.2
  refine lv_aload_n C.1 C.2.1 dL_law_1107 rfl (lv_at hl 1 rfl) ?_
  refine go2_i hM hX (fun k hk j hj => (hd j hj k hk).symm) (fM.trans fX.symm) (run_V (o := 0) (As := []) (rest := [.int r1]) CM hM (by decide) rfl rfl (c_X8_wipe l G qM _ τ ξ  ) (cw_V 0 CM bL_L_127 bI_X8_wipe bV_X8_wipe bN_X8 bC_X8_wipe ⟨rfl, rfl⟩ (by decide +kernel) ⟨Nat.le_of_ble_eq_true rfl, Nat.le_of_ble_eq_true rfl⟩) rfl hl.1 rfl (Nat.le_of_ble_eq_true rfl) dL_law_1108 hcs) (fun r2 u2 H locs hp2 hM hX => ?_)
  obtain ⟨hI2, er⟩ := LI_next hI hp1 hp2 (iv_wipe hIV) hX hM
  refine lv_icmp_eq C.1 C.2.1 (tgt := 1199) dL_law_1111 (by decide) (fun _ => ?_) (fun c => absurd er c)
  refine W.widen (k := 200 + i + 6) (n := 20000 + 208 * (i + 6)) (by omega) (by omega) ?_
  exact hN _ _ _ _ _ _ _ _ _ rfl hI2 hl
set_option maxHeartbeats 4000000 in
set_option maxRecDepth 100000 in
theorem lc_night (C : LC G (fun a => s.heap.size ≤ a) p s m args c cL_law 4 RL) (hXs : va_X b L xs s s.heap) (hbl : b < s.heap.size) (hL : L ≤ 3072) (hx3 : x3.toInt = (i : Int)) (hi6 : i + 6 ≤ L) (hI : LI G s τ nd q qM ζ ξ ρ H locs) (hl : lv_has ls 4 [(3, .int x3), (2, .ref (qM 0)), (1, .ref (q 0)), (0, .ref b)]) (hN : NX G p l e s m args below meth c Q qM (q 0) i b x3) : W p l e room_1 s m args below meth c H locs (200 + i) (20000 + 208 * i) Q (F0 m 1116 ls []) := by
  have hIV := hI.2.2.1
  have hX := hI.2.2.2.1
  have hM := hI.2.2.2.2.1
  have CX := LC_CX C hI.2.2.2.2.2.1 hI.2.2.2.2.2.2.2.1
  have CM := LC_CX C hI.2.2.2.2.2.2.1 hI.2.2.2.2.2.2.2.2.1
  have fX := FA_A0 hI.2.2.2.2.2.2.2.1
  have fM := FA_A0 hI.2.2.2.2.2.2.2.2.1
  have hd := hI.2.2.2.2.2.2.2.2.2
  have hS : va_S (fun a => s.heap.size ≤ a) s.heap H locs := by rw [← fX]; exact hX.2
  have hbA : ¬ s.heap.size ≤ b := Nat.not_le.mpr hbl
  have hcs : 200 + i ≤ room_1.cells ∧ 20000 + 208 * i ≤ room_1.slots := ⟨by show 200 + i ≤ 600000; omega, by show 20000 + 208 * i ≤ 7302250; omega⟩
  have e_1 : (x3 + 1).toInt = (i : Int) + 1 := ti_add hx3 (show (1 : Int32).toInt = 1 from by decide) (by omega) (by omega)
  refine lv_aload_n C.1 C.2.1 dL_law_1116 rfl (lv_at hl 2 rfl) ?_
  refine lv_aload_n C.1 C.2.1 dL_law_1117 rfl (lv_at hl 3 rfl) ?_
  refine lv_iload_n C.1 C.2.1 dL_law_1118 rfl (lv_at hl 0 rfl) ?_
  refine lv_iconst C.1 C.2.1 (v := 1) dL_law_1119 (by decide) ?_
  refine lv_iadd C.1 C.2.1 dL_law_1120 ?_
  refine va_sld C.1 C.2.1 hXs hbl hbA hS (vp_in_iff.mpr ⟨by omega, by omega⟩) dL_law_1121 ?_
  refine go2_i hX hM hd (fX.trans fM.symm) (run_V (o := 0) (As := [.int (xs (x3 + 1).toNatClampNeg)]) (rest := []) CX hX (by omega) rfl rfl (c_X7_night l G q nd _ τ ζ ρ (xs (x3 + 1).toNatClampNeg) hI.1 hI.2.1 hIV.2.2.2.2.2.2.2.2.2.1 hIV.2.2.2.2.2.2.2.2.2.2.2.1) (cw_V 1 CX bL_L_128 bI_X7_night bV_X7_night bN_X7 bC_X7_night ⟨rfl, rfl⟩ (by decide +kernel) ⟨Nat.le_of_ble_eq_true rfl, Nat.le_of_ble_eq_true rfl⟩) rfl hl.1 rfl (Nat.le_of_ble_eq_true rfl) dL_law_1122 hcs) (fun r1 u1 H locs hp1 hX hM => ?_)
  have hS : va_S (fun a => s.heap.size ≤ a) s.heap H locs := by rw [← fX]; exact hX.2
  refine lv_aload_n C.1 C.2.1 dL_law_1125 rfl (lv_at hl 1 rfl) ?_
  refine lv_aload_n C.1 C.2.1 dL_law_1126 rfl (lv_at hl 3 rfl) ?_
  refine lv_iload_n C.1 C.2.1 dL_law_1127 rfl (lv_at hl 0 rfl) ?_
  refine lv_iconst C.1 C.2.1 (v := 1) dL_law_1128 (by decide) ?_
  refine lv_iadd C.1 C.2.1 dL_law_1129 ?_
  refine va_sld C.1 C.2.1 hXs hbl hbA hS (vp_in_iff.mpr ⟨by omega, by omega⟩) dL_law_1130 ?_
  refine go2_i hM hX (fun k hk j hj => (hd j hj k hk).symm) (fM.trans fX.symm) (run_V (o := 0) (As := [.int (xs (x3 + 1).toNatClampNeg)]) (rest := [.int r1]) CM hM (by decide) rfl rfl (c_X8_night l G qM _ τ ξ (xs (x3 + 1).toNatClampNeg) hIV.2.2.2.2.2.2.2.2.2.1 hIV.2.2.2.2.2.2.2.2.2.2.1 hIV.2.2.2.2.2.2.2.2.2.2.2.1) (cw_V 1 CM bL_L_131 bI_X8_night bV_X8_night bN_X8 bC_X8_night ⟨rfl, rfl⟩ (by decide +kernel) ⟨Nat.le_of_ble_eq_true rfl, Nat.le_of_ble_eq_true rfl⟩) rfl hl.1 rfl (Nat.le_of_ble_eq_true rfl) dL_law_1131 hcs) (fun r2 u2 H locs hp2 hM hX => ?_)
  obtain ⟨hI2, er⟩ := LI_next hI hp1 hp2 (iv_night hIV) hX hM
  refine lv_icmp_eq C.1 C.2.1 (tgt := 1199) dL_law_1134 (by decide) (fun _ => ?_) (fun c => absurd er c)
  refine W.widen (k := 200 + i + 6) (n := 20000 + 208 * (i + 6)) (by omega) (by omega) ?_
  exact hN _ _ _ _ _ _ _ _ _ rfl hI2 hl
set_option maxHeartbeats 4000000 in
set_option maxRecDepth 100000 in
theorem lc_told (C : LC G (fun a => s.heap.size ≤ a) p s m args c cL_law 4 RL) (hXs : va_X b L xs s s.heap) (hbl : b < s.heap.size) (hL : L ≤ 3072) (hx3 : x3.toInt = (i : Int)) (hi6 : i + 6 ≤ L) (hI : LI G s τ nd q qM ζ ξ ρ H locs) (hl : lv_has ls 4 [(3, .int x3), (2, .ref (qM 0)), (1, .ref (q 0)), (0, .ref b)]) (hN : NX G p l e s m args below meth c Q qM (q 0) i b x3) : W p l e room_1 s m args below meth c H locs (200 + i) (20000 + 208 * i) Q (F0 m 1139 ls []) := by
  have hIV := hI.2.2.1
  have hX := hI.2.2.2.1
  have hM := hI.2.2.2.2.1
  have CX := LC_CX C hI.2.2.2.2.2.1 hI.2.2.2.2.2.2.2.1
  have CM := LC_CX C hI.2.2.2.2.2.2.1 hI.2.2.2.2.2.2.2.2.1
  have fX := FA_A0 hI.2.2.2.2.2.2.2.1
  have fM := FA_A0 hI.2.2.2.2.2.2.2.2.1
  have hd := hI.2.2.2.2.2.2.2.2.2
  have hS : va_S (fun a => s.heap.size ≤ a) s.heap H locs := by rw [← fX]; exact hX.2
  have hbA : ¬ s.heap.size ≤ b := Nat.not_le.mpr hbl
  have hcs : 200 + i ≤ room_1.cells ∧ 20000 + 208 * i ≤ room_1.slots := ⟨by show 200 + i ≤ 600000; omega, by show 20000 + 208 * i ≤ 7302250; omega⟩
  have e_1 : (x3 + 1).toInt = (i : Int) + 1 := ti_add hx3 (show (1 : Int32).toInt = 1 from by decide) (by omega) (by omega)
  refine lv_aload_n C.1 C.2.1 dL_law_1139 rfl (lv_at hl 2 rfl) ?_
  refine lv_aload_n C.1 C.2.1 dL_law_1140 rfl (lv_at hl 3 rfl) ?_
  refine lv_iload_n C.1 C.2.1 dL_law_1141 rfl (lv_at hl 0 rfl) ?_
  refine lv_iconst C.1 C.2.1 (v := 1) dL_law_1142 (by decide) ?_
  refine lv_iadd C.1 C.2.1 dL_law_1143 ?_
  refine va_sld C.1 C.2.1 hXs hbl hbA hS (vp_in_iff.mpr ⟨by omega, by omega⟩) dL_law_1144 ?_
  refine go2_i hX hM hd (fX.trans fM.symm) (run_V (o := 0) (As := [.int (xs (x3 + 1).toNatClampNeg)]) (rest := []) CX hX (by omega) rfl rfl (c_X7_told l G q nd _ τ ζ ρ (xs (x3 + 1).toNatClampNeg) hI.1 hI.2.1) (cw_V 1 CX bL_L_132 bI_X7_told bV_X7_told bN_X7 bC_X7_told ⟨rfl, rfl⟩ (by decide +kernel) ⟨Nat.le_of_ble_eq_true rfl, Nat.le_of_ble_eq_true rfl⟩) rfl hl.1 rfl (Nat.le_of_ble_eq_true rfl) dL_law_1145 hcs) (fun r1 u1 H locs hp1 hX hM => ?_)
  have hS : va_S (fun a => s.heap.size ≤ a) s.heap H locs := by rw [← fX]; exact hX.2
  refine lv_aload_n C.1 C.2.1 dL_law_1148 rfl (lv_at hl 1 rfl) ?_
  refine lv_aload_n C.1 C.2.1 dL_law_1149 rfl (lv_at hl 3 rfl) ?_
  refine lv_iload_n C.1 C.2.1 dL_law_1150 rfl (lv_at hl 0 rfl) ?_
  refine lv_iconst C.1 C.2.1 (v := 1) dL_law_1151 (by decide) ?_
  refine lv_iadd C.1 C.2.1 dL_law_1152 ?_
  refine va_sld C.1 C.2.1 hXs hbl hbA hS (vp_in_iff.mpr ⟨by omega, by omega⟩) dL_law_1153 ?_
  refine go2_i hM hX (fun k hk j hj => (hd j hj k hk).symm) (fM.trans fX.symm) (run_V (o := 0) (As := [.int (xs (x3 + 1).toNatClampNeg)]) (rest := [.int r1]) CM hM (by decide) rfl rfl (c_X8_told l G qM _ τ ξ (xs (x3 + 1).toNatClampNeg) ) (cw_V 1 CM bL_L_135 bI_X8_told bV_X8_told bN_X8 bC_X8_told ⟨rfl, rfl⟩ (by decide +kernel) ⟨Nat.le_of_ble_eq_true rfl, Nat.le_of_ble_eq_true rfl⟩) rfl hl.1 rfl (Nat.le_of_ble_eq_true rfl) dL_law_1154 hcs) (fun r2 u2 H locs hp2 hM hX => ?_)
  obtain ⟨hI2, er⟩ := LI_next hI hp1 hp2 (iv_told hIV) hX hM
  refine lv_icmp_eq C.1 C.2.1 (tgt := 1199) dL_law_1157 (by decide) (fun _ => ?_) (fun c => absurd er c)
  refine W.widen (k := 200 + i + 6) (n := 20000 + 208 * (i + 6)) (by omega) (by omega) ?_
  exact hN _ _ _ _ _ _ _ _ _ rfl hI2 hl
set_option maxHeartbeats 4000000 in
set_option maxRecDepth 100000 in
theorem lc_count (C : LC G (fun a => s.heap.size ≤ a) p s m args c cL_law 4 RL) (hXs : va_X b L xs s s.heap) (hbl : b < s.heap.size) (hL : L ≤ 3072) (hx3 : x3.toInt = (i : Int)) (hi6 : i + 6 ≤ L) (hI : LI G s τ nd q qM ζ ξ ρ H locs) (hl : lv_has ls 4 [(3, .int x3), (2, .ref (qM 0)), (1, .ref (q 0)), (0, .ref b)]) (hN : NX G p l e s m args below meth c Q qM (q 0) i b x3) : W p l e room_1 s m args below meth c H locs (200 + i) (20000 + 208 * i) Q (F0 m 1162 ls []) := by
  have hIV := hI.2.2.1
  have hX := hI.2.2.2.1
  have hM := hI.2.2.2.2.1
  have CX := LC_CX C hI.2.2.2.2.2.1 hI.2.2.2.2.2.2.2.1
  have CM := LC_CX C hI.2.2.2.2.2.2.1 hI.2.2.2.2.2.2.2.2.1
  have fX := FA_A0 hI.2.2.2.2.2.2.2.1
  have fM := FA_A0 hI.2.2.2.2.2.2.2.2.1
  have hd := hI.2.2.2.2.2.2.2.2.2
  have hS : va_S (fun a => s.heap.size ≤ a) s.heap H locs := by rw [← fX]; exact hX.2
  have hbA : ¬ s.heap.size ≤ b := Nat.not_le.mpr hbl
  have hcs : 200 + i ≤ room_1.cells ∧ 20000 + 208 * i ≤ room_1.slots := ⟨by show 200 + i ≤ 600000; omega, by show 20000 + 208 * i ≤ 7302250; omega⟩
  have e_1 : (x3 + 1).toInt = (i : Int) + 1 := ti_add hx3 (show (1 : Int32).toInt = 1 from by decide) (by omega) (by omega)
  refine lv_aload_n C.1 C.2.1 dL_law_1162 rfl (lv_at hl 2 rfl) ?_
  refine lv_aload_n C.1 C.2.1 dL_law_1163 rfl (lv_at hl 3 rfl) ?_
  refine lv_iload_n C.1 C.2.1 dL_law_1164 rfl (lv_at hl 0 rfl) ?_
  refine lv_iconst C.1 C.2.1 (v := 1) dL_law_1165 (by decide) ?_
  refine lv_iadd C.1 C.2.1 dL_law_1166 ?_
  refine va_sld C.1 C.2.1 hXs hbl hbA hS (vp_in_iff.mpr ⟨by omega, by omega⟩) dL_law_1167 ?_
  refine go2_i hX hM hd (fX.trans fM.symm) (run_V (o := 0) (As := [.int (xs (x3 + 1).toNatClampNeg)]) (rest := []) CX hX (by omega) rfl rfl (c_X7_count l G q nd _ τ ζ ρ (xs (x3 + 1).toNatClampNeg) hI.1 hI.2.1) (cw_V 1 CX bL_L_136 bI_X7_count bV_X7_count bN_X7 bC_X7_count ⟨rfl, rfl⟩ (by decide +kernel) ⟨Nat.le_of_ble_eq_true rfl, Nat.le_of_ble_eq_true rfl⟩) rfl hl.1 rfl (Nat.le_of_ble_eq_true rfl) dL_law_1168 hcs) (fun r1 u1 H locs hp1 hX hM => ?_)
  have hS : va_S (fun a => s.heap.size ≤ a) s.heap H locs := by rw [← fX]; exact hX.2
  refine lv_aload_n C.1 C.2.1 dL_law_1171 rfl (lv_at hl 1 rfl) ?_
  refine lv_aload_n C.1 C.2.1 dL_law_1172 rfl (lv_at hl 3 rfl) ?_
  refine lv_iload_n C.1 C.2.1 dL_law_1173 rfl (lv_at hl 0 rfl) ?_
  refine lv_iconst C.1 C.2.1 (v := 1) dL_law_1174 (by decide) ?_
  refine lv_iadd C.1 C.2.1 dL_law_1175 ?_
  refine va_sld C.1 C.2.1 hXs hbl hbA hS (vp_in_iff.mpr ⟨by omega, by omega⟩) dL_law_1176 ?_
  refine go2_i hM hX (fun k hk j hj => (hd j hj k hk).symm) (fM.trans fX.symm) (run_V (o := 0) (As := [.int (xs (x3 + 1).toNatClampNeg)]) (rest := [.int r1]) CM hM (by decide) rfl rfl (c_X8_count l G qM _ τ ξ (xs (x3 + 1).toNatClampNeg) ) (cw_V 1 CM bL_L_139 bI_X8_count bV_X8_count bN_X8 bC_X8_count ⟨rfl, rfl⟩ (by decide +kernel) ⟨Nat.le_of_ble_eq_true rfl, Nat.le_of_ble_eq_true rfl⟩) rfl hl.1 rfl (Nat.le_of_ble_eq_true rfl) dL_law_1177 hcs) (fun r2 u2 H locs hp2 hM hX => ?_)
  obtain ⟨hI2, er⟩ := LI_next hI hp1 hp2 (iv_count hIV) hX hM
  refine lv_icmp_eq C.1 C.2.1 (tgt := 1199) dL_law_1180 (by decide) (fun _ => ?_) (fun c => absurd er c)
  refine W.widen (k := 200 + i + 6) (n := 20000 + 208 * (i + 6)) (by omega) (by omega) ?_
  exact hN _ _ _ _ _ _ _ _ _ rfl hI2 hl
set_option maxHeartbeats 4000000 in
set_option maxRecDepth 100000 in
theorem lc_digest (C : LC G (fun a => s.heap.size ≤ a) p s m args c cL_law 4 RL) (hXs : va_X b L xs s s.heap) (hbl : b < s.heap.size) (hL : L ≤ 3072) (hx3 : x3.toInt = (i : Int)) (hi6 : i + 6 ≤ L) (hI : LI G s τ nd q qM ζ ξ ρ H locs) (hl : lv_has ls 4 [(3, .int x3), (2, .ref (qM 0)), (1, .ref (q 0)), (0, .ref b)]) (hN : NX G p l e s m args below meth c Q qM (q 0) i b x3) : W p l e room_1 s m args below meth c H locs (200 + i) (20000 + 208 * i) Q (F0 m 1185 ls []) := by
  have hIV := hI.2.2.1
  have hX := hI.2.2.2.1
  have hM := hI.2.2.2.2.1
  have CX := LC_CX C hI.2.2.2.2.2.1 hI.2.2.2.2.2.2.2.1
  have CM := LC_CX C hI.2.2.2.2.2.2.1 hI.2.2.2.2.2.2.2.2.1
  have fX := FA_A0 hI.2.2.2.2.2.2.2.1
  have fM := FA_A0 hI.2.2.2.2.2.2.2.2.1
  have hd := hI.2.2.2.2.2.2.2.2.2
  have hS : va_S (fun a => s.heap.size ≤ a) s.heap H locs := by rw [← fX]; exact hX.2
  have hbA : ¬ s.heap.size ≤ b := Nat.not_le.mpr hbl
  have hcs : 200 + i ≤ room_1.cells ∧ 20000 + 208 * i ≤ room_1.slots := ⟨by show 200 + i ≤ 600000; omega, by show 20000 + 208 * i ≤ 7302250; omega⟩
  refine lv_aload_n C.1 C.2.1 dL_law_1185 rfl (lv_at hl 2 rfl) ?_
  refine go2_l hX hM hd (fX.trans fM.symm) (run_V (o := 0) (As := []) (rest := []) CX hX (by omega) rfl rfl (c_X7_digest l G q nd _ τ ζ ρ  hI.1 hI.2.1 hIV.2.1 hIV.2.2.1 hIV.2.2.2.1) (cw_V 0 CX bL_L_140 bI_X7_digest bV_X7_digest bN_X7 bC_X7_digest ⟨rfl, rfl⟩ (by decide +kernel) ⟨Nat.le_of_ble_eq_true rfl, Nat.le_of_ble_eq_true rfl⟩) rfl hl.1 rfl (Nat.le_of_ble_eq_true rfl) dL_law_1186 hcs) (fun r1 u1 H locs hp1 hX hM => ?_)
  have hS : va_S (fun a => s.heap.size ≤ a) s.heap H locs := by rw [← fX]; exact hX.2
  refine lv_aload_n C.1 C.2.1 dL_law_1189 rfl (lv_at hl 1 rfl) ?_
  refine go2_l hM hX (fun k hk j hj => (hd j hj k hk).symm) (fM.trans fX.symm) (run_V (o := 0) (As := []) (rest := [.long r1]) CM hM (by decide) rfl rfl (c_X8_digest l G qM _ τ ξ  hIV.1 hIV.2.2.2.1 hIV.2.1 hIV.2.2.1) (cw_V 0 CM bL_L_144 bI_X8_digest bV_X8_digest bN_X8 bC_X8_digest ⟨rfl, rfl⟩ (by decide +kernel) ⟨Nat.le_of_ble_eq_true rfl, Nat.le_of_ble_eq_true rfl⟩) rfl hl.1 rfl (Nat.le_of_ble_eq_true rfl) dL_law_1190 hcs) (fun r2 u2 H locs hp2 hM hX => ?_)
  obtain ⟨hI2, er⟩ := LI_next hI hp1 hp2 (iv_digest hIV) hX hM
  refine W.lcmp C.1 C.2.1 dL_law_1193 ?_
  subst er
  refine lv_if_eq C.1 C.2.1 (tgt := 1199) dL_law_1194 (by decide) (fun _ => ?_) (fun c => absurd ((lc_eq (x := r1) (y := r1) rfl rfl).mpr rfl) c)
  refine W.widen (k := 200 + i + 6) (n := 20000 + 208 * (i + 6)) (by omega) (by omega) ?_
  exact hN _ _ _ _ _ _ _ _ _ rfl hI2 hl
end R46
