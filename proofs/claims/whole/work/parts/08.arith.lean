/-! numbers by their values, and a method's body with its end named -/
theorem ti_bm {a : Int} (h1 : -2147483648 ≤ a) (h2 : a < 2147483648) : a.bmod (2 ^ 32) = a := by
  rw [Int.bmod_def]
  split <;> omega
theorem ti_add {x y : Int32} {a b : Int} (hx : x.toInt = a) (hy : y.toInt = b) (h1 : -2147483648 ≤ a + b) (h2 : a + b < 2147483648) : (x + y).toInt = a + b := by
  rw [Int32.toInt_add, hx, hy, ti_bm h1 h2]
theorem ti_sub {x y : Int32} {a b : Int} (hx : x.toInt = a) (hy : y.toInt = b) (h1 : -2147483648 ≤ a - b) (h2 : a - b < 2147483648) : (x - y).toInt = a - b := by
  rw [Int32.toInt_sub, hx, hy, ti_bm h1 h2]
theorem ti_mul {x y : Int32} {a b : Int} (hx : x.toInt = a) (hy : y.toInt = b) (h1 : -2147483648 ≤ a * b) (h2 : a * b < 2147483648) : (x * y).toInt = a * b := by
  rw [Int32.toInt_mul, hx, hy, ti_bm h1 h2]
theorem ti_neg {x : Int32} {a : Int} (hx : x.toInt = a) (h1 : -2147483648 ≤ -a) (h2 : -a < 2147483648) : (-x).toInt = -a := by
  rw [Int32.toInt_neg, hx, ti_bm h1 h2]
theorem ti_div {x y : Int32} {a b : Int} (hx : x.toInt = a) (hy : y.toInt = b) (h1 : 0 ≤ a) (h2 : 0 < b) : (x / y).toInt = a / b := by
  have hb : a < 2147483648 := by rw [← hx]; exact Int32.toInt_lt x
  have h3 : a / b ≤ a := Int.ediv_le_self _ h1
  have h4 : 0 ≤ a / b := Int.ediv_nonneg h1 (by omega)
  rw [Int32.toInt_div, hx, hy, Int.tdiv_eq_ediv_of_nonneg h1, ti_bm (by omega) (by omega)]
theorem ti_rem {x y : Int32} {a b : Int} (hx : x.toInt = a) (hy : y.toInt = b) (h1 : 0 ≤ a) (h2 : 0 < b) : (x - x / y * y).toInt = a % b := by
  have hb : a < 2147483648 := by rw [← hx]; exact Int32.toInt_lt x
  have h4 : 0 ≤ a / b := Int.ediv_nonneg h1 (by omega)
  have h5 : a / b * b ≤ a := Int.ediv_mul_le a (by omega)
  have h6 : 0 ≤ a / b * b := Int.mul_nonneg h4 (by omega)
  have e : a - a / b * b = a % b := by rw [Int.emod_def, Int.mul_comm]
  have := ti_sub hx (ti_mul (ti_div hx hy h1 h2) hy (by omega) (by omega)) (by omega) (by omega)
  rw [this, e]
theorem ti_i2l {x : Int32} {a : Int} (hx : x.toInt = a) : x.toInt64.toInt = a := by rw [Int32.toInt_toInt64, hx]
theorem tl_bm {a : Int} (h1 : -9223372036854775808 ≤ a) (h2 : a < 9223372036854775808) : a.bmod (2 ^ 64) = a := by
  rw [Int.bmod_def]
  split <;> omega
theorem tl_add {x y : Int64} {a b : Int} (hx : x.toInt = a) (hy : y.toInt = b) (h1 : -9223372036854775808 ≤ a + b) (h2 : a + b < 9223372036854775808) : (x + y).toInt = a + b := by
  rw [Int64.toInt_add, hx, hy, tl_bm h1 h2]
theorem tl_sub {x y : Int64} {a b : Int} (hx : x.toInt = a) (hy : y.toInt = b) (h1 : -9223372036854775808 ≤ a - b) (h2 : a - b < 9223372036854775808) : (x - y).toInt = a - b := by
  rw [Int64.toInt_sub, hx, hy, tl_bm h1 h2]
theorem tl_mul {x y : Int64} {a b : Int} (hx : x.toInt = a) (hy : y.toInt = b) (h1 : -9223372036854775808 ≤ a * b) (h2 : a * b < 9223372036854775808) : (x * y).toInt = a * b := by
  rw [Int64.toInt_mul, hx, hy, tl_bm h1 h2]
theorem tl_neg {x : Int64} {a : Int} (hx : x.toInt = a) (h1 : -9223372036854775808 ≤ -a) (h2 : -a < 9223372036854775808) : (-x).toInt = -a := by
  rw [Int64.toInt_neg, hx, tl_bm h1 h2]
theorem tc_lt {x y : Int32} {a b : Int} (hx : x.toInt = a) (hy : y.toInt = b) : x < y ↔ a < b := by rw [← hx, ← hy]; exact Int32.lt_iff_toInt_lt
theorem tc_le {x y : Int32} {a b : Int} (hx : x.toInt = a) (hy : y.toInt = b) : x ≤ y ↔ a ≤ b := by rw [← hx, ← hy]; exact Int32.le_iff_toInt_le
theorem tc_eq {x y : Int32} {a b : Int} (hx : x.toInt = a) (hy : y.toInt = b) : x = y ↔ a = b := by rw [← hx, ← hy]; exact Int32.toInt_inj.symm
theorem tn_lt {x y : Int32} {a b : Int} (hx : x.toInt = a) (hy : y.toInt = b) : ¬ x < y ↔ ¬ a < b := not_congr (tc_lt hx hy)
theorem tn_le {x y : Int32} {a b : Int} (hx : x.toInt = a) (hy : y.toInt = b) : ¬ x ≤ y ↔ ¬ a ≤ b := not_congr (tc_le hx hy)
theorem tn_eq {x y : Int32} {a b : Int} (hx : x.toInt = a) (hy : y.toInt = b) : ¬ x = y ↔ ¬ a = b := not_congr (tc_eq hx hy)
theorem lc_lt {x y : Int64} {a b : Int} (hx : x.toInt = a) (hy : y.toInt = b) : lg_cmp x y < 0 ↔ a < b := by rw [lg_cmp_lt, ← hx, ← hy]; exact Int64.lt_iff_toInt_lt
theorem lc_le {x y : Int64} {a b : Int} (hx : x.toInt = a) (hy : y.toInt = b) : lg_cmp x y ≤ 0 ↔ a ≤ b := by rw [lg_cmp_le, ← hx, ← hy]; exact Int64.le_iff_toInt_le
theorem lc_ge {x y : Int64} {a b : Int} (hx : x.toInt = a) (hy : y.toInt = b) : 0 ≤ lg_cmp x y ↔ b ≤ a := by rw [lg_cmp_ge, ← hx, ← hy]; exact Int64.le_iff_toInt_le
theorem lc_gt {x y : Int64} {a b : Int} (hx : x.toInt = a) (hy : y.toInt = b) : 0 < lg_cmp x y ↔ b < a := by rw [lg_cmp_gt, ← hx, ← hy]; exact Int64.lt_iff_toInt_lt
theorem lc_eq {x y : Int64} {a b : Int} (hx : x.toInt = a) (hy : y.toInt = b) : lg_cmp x y = 0 ↔ a = b := by rw [lg_cmp_eq, ← hx, ← hy]; exact Int64.toInt_inj.symm
theorem ln_lt {x y : Int64} {a b : Int} (hx : x.toInt = a) (hy : y.toInt = b) : ¬ lg_cmp x y < 0 ↔ ¬ a < b := not_congr (lc_lt hx hy)
theorem ln_le {x y : Int64} {a b : Int} (hx : x.toInt = a) (hy : y.toInt = b) : ¬ lg_cmp x y ≤ 0 ↔ ¬ a ≤ b := not_congr (lc_le hx hy)
theorem ln_ge {x y : Int64} {a b : Int} (hx : x.toInt = a) (hy : y.toInt = b) : ¬ 0 ≤ lg_cmp x y ↔ ¬ b ≤ a := not_congr (lc_ge hx hy)
theorem ln_gt {x y : Int64} {a b : Int} (hx : x.toInt = a) (hy : y.toInt = b) : ¬ 0 < lg_cmp x y ↔ ¬ b < a := not_congr (lc_gt hx hy)
theorem ln_eq {x y : Int64} {a b : Int} (hx : x.toInt = a) (hy : y.toInt = b) : ¬ lg_cmp x y = 0 ↔ ¬ a = b := not_congr (lc_eq hx hy)
abbrev rmA (f k : Nat) : Room := { frames := f, cells := 0, slots := 0, locals := k }
theorem nameQ {p : Program} {l : Launch} {e : Env} {R : Room} {s : State} {m : MethodId} {args : Array Value} {below : List Frame} {meth : Method} {c : Code} {H : Heap} {locs : List Loc} {cells slots : Nat} {Q : State → Prop} {g : JFrame} (k : ∀ QQ : State → Prop, QQ = Q → W p l e R s m args below meth c H locs cells slots QQ g) : W p l e R s m args below meth c H locs cells slots Q g := k Q rfl
theorem Met_B {l : Launch} {G : GG} {y : MethodName} {cc : ByteArray} {nL sz n : Nat} {ret : Option FieldType} {rm : Room} {av : List Value} {q : Nat → Nat} {E : Nat → va_E} {Qc : Array Value → State → Outcome → State → Prop} {own : String} (hown : y.cls = own) (hy : plainName y.cls = true) (hL : (lg_sl av).length ≤ nL)
    (body : ∀ (p : Program) (e : Env) (s : State) (m : MethodId) (args : Array Value) (below : List Frame) (meth : Method) (c : Code) (ls : Array Slot), s.heap.size = sz → CX G p s m args c cc nL own n q → WB G n q E s s.heap [] → meth.sig.returnType = ret → meth.locks = false → lv_has ls nL (lv_args 0 av) → ∀ QQ : State → Prop, QQ = MQ below Qc args s 0 0 (FA n q sz) →
      W p l e rm s m args below meth c s.heap [] 0 0 QQ (F0 m 0 ls [])) : Met l y (WSb y cc nL ret) rm (va_Pc av (PW G n q sz E)) Qc 0 0 (FA n q sz) :=
  Met_W hy hL (fun p e s m below meth c ls h1 h2 h3 h4 h5 h6 => body p e s m av.toArray below meth c ls h1 (by rw [← hown]; exact h2) h3 h4 h5 h6 _ rfl)
