/-! the smallest methods: at, set, isIn, max, min, abs -/
def atv (I : Nat → Nat → Int32) (a : Nat) (k : Int32) : Int32 := if inb k (shp a).2 then I a (ixn k) else 0
def setv (I : Nat → Nat → Int32) (a : Nat) (k v : Int32) : Nat → Nat → Int32 := if inb k (shp a).2 then up2 I a (ixn k) v else I
def b2i (P : Prop) [d : Decidable P] : Int32 := if P then 1 else 0
theorem shp_small (a : Nat) : (shp a).2 < 2 ^ 31 := by
  by_cases h : a < NNN
  · have : ∀ a, a < NNN → (shp a).2 < 2 ^ 31 := by decide +kernel
    exact this a h
  · unfold shp
    rw [List.getD_eq_getElem?_getD, List.getElem?_eq_none (by rw [SHL_len]; omega)]
    decide
theorem i_neg {k : Int32} : k < 0 ↔ k.toInt < 0 := by rw [Int32.lt_iff_toInt_lt]; rfl
theorem i_len {k : Int32} {n : Nat} (h : n < 2 ^ 31) : Int32.ofNat n ≤ k ↔ (n : Int) ≤ k.toInt := by
  rw [Int32.le_iff_toInt_le, Int32.toInt_ofNat_small h]
section
variable {L : Nat} {xs : Nat → Int32} {n : Nat} {σ : Mm} {r : Option Value × Mm} {I : Nat → Nat → Int32} {Lm : Nat → Nat → Int64} {Rm : Nat → Nat → Nat} {a : Nat} {k v x y : Int32}
theorem p_at (h : a < n) (h1 : (shp a).1 = 1) : Em L xs 160 [.ref a, .int k] (n, I, Lm, Rm) r ↔ r = (some (.int (atv I a k)), n, I, Lm, Rm) := by
  rw [em_160]
  simp only [x160_0, x160_1, x160_4, x160_5, x160_6, x160_7, x160_10, x160_11, x160_12, x160_13, x160_16, x160_17, h, h1, atv, inb, i_neg, i_len (shp_small a)]
  by_cases c1 : k.toInt < 0
  · simp [c1, show ¬ (0 ≤ k.toInt) by omega]
  · by_cases c2 : ((shp a).2 : Int) ≤ k.toInt
    · simp [c1, c2, show ¬ (k.toInt < ((shp a).2 : Int)) by omega]
    · simp [c1, c2, show (0 ≤ k.toInt) by omega, show (k.toInt < ((shp a).2 : Int)) by omega]
theorem p_set (h : a < n) (h1 : (shp a).1 = 1) : Em L xs 161 [.ref a, .int k, .int v] (n, I, Lm, Rm) r ↔ r = (none, n, setv I a k v, Lm, Rm) := by
  rw [em_161]
  simp only [x161_0, x161_1, x161_4, x161_5, x161_6, x161_7, x161_10, x161_11, x161_12, x161_13, x161_14, h, h1, setv, inb, i_neg, i_len (shp_small a)]
  by_cases c1 : k.toInt < 0
  · simp [c1, show ¬ (0 ≤ k.toInt) by omega]
  · by_cases c2 : ((shp a).2 : Int) ≤ k.toInt
    · simp [c1, c2, show ¬ (k.toInt < ((shp a).2 : Int)) by omega]
    · simp [c1, c2, show (0 ≤ k.toInt) by omega, show (k.toInt < ((shp a).2 : Int)) by omega]
theorem p_isIn : Em L xs 159 [.int x, .int y] σ r ↔ r = (some (.int (b2i (0 ≤ x ∧ x < y))), σ) := by
  rw [em_159]
  simp only [x159_0, x159_1, x159_4, x159_5, x159_6, x159_9, x159_10, x159_13, x159_14, b2i]
  by_cases c1 : x < 0
  · simp [c1, Int32.not_le.mpr c1]
  · by_cases c2 : y ≤ x
    · simp [c1, c2, Int32.not_lt.mpr c2]
    · simp [c1, c2, Int32.not_lt.mp c1, Int32.not_le.mp c2]
theorem p_max : Em L xs 296 [.int x, .int y] σ r ↔ r = (some (.int (if x < y then y else x)), σ) := by
  rw [em_296]
  simp only [x296_0, x296_1, x296_2, x296_5, x296_6, x296_9, x296_10]
  by_cases c1 : x < y <;> simp [c1]
theorem p_min : Em L xs 298 [.int x, .int y] σ r ↔ r = (some (.int (if y < x then y else x)), σ) := by
  rw [em_298]
  simp only [x298_0, x298_1, x298_2, x298_5, x298_6, x298_9, x298_10]
  by_cases c1 : y < x <;> simp [c1]
theorem p_abs : Em L xs 295 [.int x] σ r ↔ r = (some (.int (if 0 ≤ x then x else -x)), σ) := by
  rw [em_295]
  simp only [x295_0, x295_1, x295_4, x295_5, x295_6, x295_9, x295_10]
  by_cases c1 : 0 ≤ x <;> simp [c1]
end
