/-! rules: integers of a million, on both sides -/
def iZ (a : Int) : Int32 := Int32.ofInt a
def lZ (a : Int) : Int64 := Int64.ofInt a
def b20 (a : Int) : Prop := -1000000 ≤ a ∧ a ≤ 1000000
def b62 (a : Int) : Prop := -4000000000000000000 ≤ a ∧ a ≤ 4000000000000000000
def clI (a : Int) : Int := max (-1000000) (min 1000000 a)
def dvI (a b : Int) : Int := if b = 0 then 0 else a.fdiv b
/-- two values and the reference's operation -/
def jnI : Nat → Int → Int → Int
  | 1, a, b => clI (a + b)
  | 2, a, b => clI (a - b)
  | 3, a, b => clI (a * b)
  | 4, a, b => dvI a b
  | 5, a, b => min a b
  | 6, a, b => max a b
  | 11, a, b => if a < b then 1 else 0
  | 12, a, b => if b < a then 1 else 0
  | 13, a, b => if a = b then 1 else 0
  | 14, a, b => a * b
  | _, a, b => if 0 < a + b then 1 else 0
theorem b62_of {a : Int} (h : b20 a) : b62 a := by unfold b20 at h; unfold b62; omega
theorem iZ_t {a : Int} (h : b20 a) : (iZ a).toInt = a := by
  unfold b20 at h
  exact Int32.toInt_ofInt_of_le (by omega) (by omega)
theorem lZ_t {a : Int} (h : b62 a) : (lZ a).toInt = a := by
  unfold b62 at h
  exact Int64.toInt_ofInt_of_le (by omega) (by omega)
theorem iZ_le {a b : Int} (ha : b20 a) (hb : b20 b) : iZ a ≤ iZ b ↔ a ≤ b := by rw [Int32.le_iff_toInt_le, iZ_t ha, iZ_t hb]
theorem iZ_lt {a b : Int} (ha : b20 a) (hb : b20 b) : iZ a < iZ b ↔ a < b := by rw [Int32.lt_iff_toInt_lt, iZ_t ha, iZ_t hb]
theorem iZ_eq {a b : Int} (ha : b20 a) (hb : b20 b) : iZ a = iZ b ↔ a = b := by rw [← Int32.toInt_inj, iZ_t ha, iZ_t hb]
theorem lZ_le {a b : Int} (ha : b62 a) (hb : b62 b) : lZ a ≤ lZ b ↔ a ≤ b := by rw [Int64.le_iff_toInt_le, lZ_t ha, lZ_t hb]
theorem lZ_lt {a b : Int} (ha : b62 a) (hb : b62 b) : lZ a < lZ b ↔ a < b := by rw [Int64.lt_iff_toInt_lt, lZ_t ha, lZ_t hb]
theorem lZ_eq {a b : Int} (ha : b62 a) (hb : b62 b) : lZ a = lZ b ↔ a = b := by rw [← Int64.toInt_inj, lZ_t ha, lZ_t hb]
theorem iZ_l {a : Int} (h : b20 a) : (iZ a).toInt64 = lZ a := by
  rw [← Int64.toInt_inj, Int32.toInt_toInt64, iZ_t h, lZ_t (b62_of h)]
theorem lZ_i {a : Int} : (lZ a).toInt32 = iZ a := Int64.toInt32_ofInt
theorem lZ_add {a b : Int} : lZ a + lZ b = lZ (a + b) := (Int64.ofInt_add a b).symm
theorem lZ_sub {a b : Int} : lZ a - lZ b = lZ (a - b) := (Int64.ofInt_sub a b).symm
theorem lZ_mul {a b : Int} : lZ a * lZ b = lZ (a * b) := (Int64.ofInt_mul a b).symm
theorem iZ_add {a b : Int} : iZ a + iZ b = iZ (a + b) := (Int32.ofInt_add a b).symm
theorem iZ_sub {a b : Int} : iZ a - iZ b = iZ (a - b) := (Int32.ofInt_sub a b).symm
theorem iZ_mul {a b : Int} : iZ a * iZ b = iZ (a * b) := (Int32.ofInt_mul a b).symm
theorem iZ_nI {k : Nat} : iZ (k : Int) = nI k := Int32.ofInt_eq_ofNat
theorem lZ_0 : (0 : Int64) = lZ 0 := rfl
theorem lZ_1 : (1 : Int64) = lZ 1 := rfl
theorem lZ_M : (1000000 : Int64) = lZ 1000000 := rfl
theorem lZ_m : -lZ 1000000 = lZ (-1000000) := rfl
theorem iZ_0 : (0 : Int32) = iZ 0 := rfl
theorem iZ_1 : (1 : Int32) = iZ 1 := rfl
theorem b20_0 : b20 0 := by unfold b20; omega
theorem b20_1 : b20 1 := by unfold b20; omega
theorem b62_M : b62 1000000 := by unfold b62; omega
theorem b62_m : b62 (-1000000) := by unfold b62; omega
theorem b20_cl {a : Int} : b20 (clI a) := by unfold b20 clI; omega
theorem mul_b62 {a b : Int} (ha : b20 a) (hb : b20 b) : b62 (a * b) := by
  unfold b20 at ha hb
  have h1 : (a * b).natAbs = a.natAbs * b.natAbs := Int.natAbs_mul a b
  have h2 : a.natAbs * b.natAbs ≤ 1000000 * 1000000 := Nat.mul_le_mul (by omega) (by omega)
  unfold b62
  omega
theorem tdiv_b20 {a b : Int} (ha : b20 a) : b20 (a.tdiv b) := by
  have h1 : (a.tdiv b).natAbs = a.natAbs / b.natAbs := Int.natAbs_tdiv a b
  have h2 : a.natAbs / b.natAbs ≤ a.natAbs := Nat.div_le_self _ _
  unfold b20 at ha ⊢
  omega
theorem tdm_b20 {a b : Int} (ha : b20 a) : b20 (a.tdiv b * b) := by
  have h1 : (a.tdiv b * b).natAbs = a.natAbs / b.natAbs * b.natAbs := by rw [Int.natAbs_mul, Int.natAbs_tdiv]; rfl
  have h2 : a.natAbs / b.natAbs * b.natAbs ≤ a.natAbs := Nat.div_mul_le_self _ _
  unfold b20 at ha ⊢
  omega
theorem tdm_eq {a b : Int} : a.tdiv b * b = a ↔ b ∣ a := ⟨fun h => ⟨a.tdiv b, by rw [Int.mul_comm]; exact h.symm⟩, fun h => Int.tdiv_mul_cancel h⟩
theorem iZ_div {a b : Int} (ha : b20 a) (hb : b20 b) : iZ a / iZ b = iZ (a.tdiv b) := by
  unfold b20 at ha hb
  exact (Int32.ofInt_tdiv (show -2147483648 ≤ a by omega) (show a ≤ 2147483647 by omega) (show -2147483648 ≤ b by omega) (show b ≤ 2147483647 by omega)).symm
theorem lZ_div {a b : Int} (ha : b20 a) (hb : b20 b) : lZ a / lZ b = lZ (a.tdiv b) := by
  unfold b20 at ha hb
  exact (Int64.ofInt_tdiv (show -9223372036854775808 ≤ a by omega) (show a ≤ 9223372036854775807 by omega) (show -9223372036854775808 ≤ b by omega) (show b ≤ 9223372036854775807 by omega)).symm
theorem xor_sg {x y : Int32} : 0 ≤ x ^^^ y ↔ (0 ≤ x ↔ 0 ≤ y) := by
  have k := BitVec.msb_xor (x := x.toBitVec) (y := y.toBitVec)
  rw [BitVec.msb_eq_toInt, BitVec.msb_eq_toInt, BitVec.msb_eq_toInt] at k
  rw [Int32.le_iff_toInt_le, Int32.le_iff_toInt_le, Int32.le_iff_toInt_le, show (0 : Int32).toInt = 0 from rfl, show (x ^^^ y).toInt = (x.toBitVec ^^^ y.toBitVec).toInt from rfl, show x.toInt = x.toBitVec.toInt from rfl, show y.toInt = y.toBitVec.toInt from rfl]
  by_cases p : x.toBitVec.toInt < 0
  · by_cases q : y.toBitVec.toInt < 0
    · rw [decide_eq_true p, decide_eq_true q] at k
      have k2 := of_decide_eq_false k
      omega
    · rw [decide_eq_true p, decide_eq_false q] at k
      have k2 := of_decide_eq_true k
      omega
  · by_cases q : y.toBitVec.toInt < 0
    · rw [decide_eq_false p, decide_eq_true q] at k
      have k2 := of_decide_eq_true k
      omega
    · rw [decide_eq_false p, decide_eq_false q] at k
      have k2 := of_decide_eq_false k
      omega
theorem fdv {a b : Int} (hb : b ≠ 0) : a.fdiv b = if ¬ b ∣ a ∧ ¬ (0 ≤ a ↔ 0 ≤ b) then a.tdiv b - 1 else a.tdiv b := by
  rw [Int.fdiv_eq_tdiv]
  by_cases d : b ∣ a
  · rw [if_pos d, if_neg (fun z => z.1 d)]; omega
  · rw [if_neg d]
    by_cases c : 0 ≤ a
    · rw [if_pos c]
      by_cases e : 0 ≤ b
      · rw [if_pos e, if_neg (fun z => z.2 ⟨fun _ => e, fun _ => c⟩)]; omega
      · rw [if_neg e, if_pos ⟨d, fun z => e (z.mp c)⟩]
    · rw [if_neg c]
      by_cases e : 0 ≤ b
      · rw [if_pos e, if_pos ⟨d, fun z => c (z.mpr e)⟩, Int.sign_eq_one_of_pos (by omega)]
      · rw [if_neg e, if_neg (fun z => z.2 ⟨fun k => absurd k c, fun k => absurd k e⟩), Int.sign_eq_neg_one_of_neg (by omega)]; omega
section
variable {L : Nat} {xs : Nat → Int32} {r : Option Value × Mm} {I : Nat → Nat → Int32} {Lm : Nat → Nat → Int64} {Rm : Nat → Nat → Nat} {n : Nat} {a b : Int}
theorem p_minl (ha : b62 a) (hb : b62 b) : Em L xs 299 [.long (lZ a), .long (lZ b)] (n, I, Lm, Rm) r ↔ r = (some (.long (lZ (min a b))), n, I, Lm, Rm) := by
  rw [em_299]
  by_cases c : b < a
  · have c2 := (lZ_lt hb ha).mpr c
    simp only [x299_0, x299_1, x299_2, x299_3, x299_6, x299_7, x299_10, x299_11, lg_cmp_gt, c2, if_true, Int.min_eq_right (Int.le_of_lt c)]
  · have c2 : ¬ lZ b < lZ a := fun k => c ((lZ_lt hb ha).mp k)
    simp only [x299_0, x299_1, x299_2, x299_3, x299_6, x299_7, x299_10, x299_11, lg_cmp_gt, c2, if_false, Int.min_eq_left (Int.not_lt.mp c)]
theorem p_maxl (ha : b62 a) (hb : b62 b) : Em L xs 297 [.long (lZ a), .long (lZ b)] (n, I, Lm, Rm) r ↔ r = (some (.long (lZ (max a b))), n, I, Lm, Rm) := by
  rw [em_297]
  by_cases c : a < b
  · have c2 := (lZ_lt ha hb).mpr c
    simp only [x297_0, x297_1, x297_2, x297_3, x297_6, x297_7, x297_10, x297_11, lg_cmp_lt, c2, if_true, Int.max_eq_right (Int.le_of_lt c)]
  · have c2 : ¬ lZ a < lZ b := fun k => c ((lZ_lt ha hb).mp k)
    simp only [x297_0, x297_1, x297_2, x297_3, x297_6, x297_7, x297_10, x297_11, lg_cmp_lt, c2, if_false, Int.max_eq_left (Int.not_lt.mp c)]
theorem c_within (ha : b62 a) : Em L xs 57 [.long (lZ a)] (n, I, Lm, Rm) r ↔ r = (some (.int (iZ (clI a))), n, I, Lm, Rm) := by
  have h1 : b62 (min 1000000 a) := by unfold b62 at ha ⊢; omega
  have e1 := fun r => p_minl (L := L) (xs := xs) (I := I) (Lm := Lm) (Rm := Rm) (n := n) (r := r) b62_M ha
  have e2 := fun r => p_maxl (L := L) (xs := xs) (I := I) (Lm := Lm) (Rm := Rm) (n := n) (r := r) b62_m h1
  rw [em_57]
  simp only [x57_0, x57_3, x57_6, x57_7, x57_10, x57_13, x57_14, ex5, Option.toList_some, Option.toList_none, List.cons_append, List.nil_append, true_and, and_true, nI_1, p_at, p_set, p_isIn, p_max, p_min, p_abs, lZ_M, lZ_m, e1, e2, lZ_i]
  exact Iff.rfl
theorem r_clip (ha : b62 a) : Em L xs 268 [.long (lZ a)] (n, I, Lm, Rm) r ↔ r = (some (.long (lZ (clI a))), n, I, Lm, Rm) := by
  rw [em_268]
  by_cases c : a ≤ 1000000
  · by_cases d : -1000000 ≤ a
    · rw [show clI a = a by unfold clI; omega]
      simp only [x268_0, x268_1, x268_4, x268_5, x268_8, x268_11, x268_14, x268_15, x268_18, x268_19, x268_22, x268_25, x268_28, x268_29, lg_cmp_le, lg_cmp_ge, lZ_M, lZ_m, lZ_le ha b62_M, lZ_le b62_m ha, c, d, if_true]
    · rw [show clI a = -1000000 by unfold clI; omega]
      simp only [x268_0, x268_1, x268_4, x268_5, x268_8, x268_11, x268_14, x268_15, x268_18, x268_19, x268_22, x268_25, x268_28, x268_29, lg_cmp_le, lg_cmp_ge, lZ_M, lZ_m, lZ_le ha b62_M, lZ_le b62_m ha, c, d, if_true, if_false]
  · rw [show clI a = 1000000 by unfold clI; omega]
    simp only [x268_0, x268_1, x268_4, x268_5, x268_8, x268_11, x268_14, x268_15, x268_18, x268_19, x268_22, x268_25, x268_28, x268_29, lg_cmp_le, lg_cmp_ge, lZ_M, lZ_m, lZ_le ha b62_M, lZ_le b62_m ha, c, if_false]
theorem p_fdiv (ha : b20 a) (hb : b20 b) (h0 : b ≠ 0) : Em L xs 294 [.int (iZ a), .int (iZ b)] (n, I, Lm, Rm) r ↔ r = (some (.int (iZ (a.fdiv b))), n, I, Lm, Rm) := by
  have z0 : ¬ iZ b = 0 := by rw [iZ_0, iZ_eq hb b20_0]; exact h0
  have sa : 0 ≤ iZ a ↔ 0 ≤ a := by rw [iZ_0]; exact iZ_le b20_0 ha
  have sb : 0 ≤ iZ b ↔ 0 ≤ b := by rw [iZ_0]; exact iZ_le b20_0 hb
  have sx : 0 ≤ iZ a ^^^ iZ b ↔ (0 ≤ a ↔ 0 ≤ b) := by rw [xor_sg, sa, sb]
  have sm : iZ (a.tdiv b) * iZ b = iZ a ↔ b ∣ a := by rw [iZ_mul, iZ_eq (tdm_b20 ha) ha, tdm_eq]
  have s1 : iZ (a.tdiv b) - 1 = iZ (a.tdiv b - 1) := by rw [iZ_1, iZ_sub]
  rw [em_294, fdv h0]
  by_cases c : (0 ≤ a ↔ 0 ≤ b)
  · have c1 := sx.mpr c
    rw [if_neg (fun z => z.2 c)]
    simp only [x294_0, x294_1, x294_2, x294_3, x294_4, x294_5, x294_6, x294_7, x294_10, x294_11, x294_12, x294_13, x294_14, x294_17, x294_18, x294_19, x294_20, x294_21, x294_22, z0, not_false_eq_true, true_and, iZ_div ha hb, c1, if_true]
  · have c1 : ¬ 0 ≤ iZ a ^^^ iZ b := fun k => c (sx.mp k)
    by_cases d : b ∣ a
    · have d1 := sm.mpr d
      rw [if_neg (fun z => z.1 d)]
      simp only [x294_0, x294_1, x294_2, x294_3, x294_4, x294_5, x294_6, x294_7, x294_10, x294_11, x294_12, x294_13, x294_14, x294_17, x294_18, x294_19, x294_20, x294_21, x294_22, z0, not_false_eq_true, true_and, iZ_div ha hb, c1, d1, if_true, if_false]
    · have d1 : ¬ iZ (a.tdiv b) * iZ b = iZ a := fun k => d (sm.mp k)
      rw [if_pos ⟨d, c⟩]
      simp only [x294_0, x294_1, x294_2, x294_3, x294_4, x294_5, x294_6, x294_7, x294_10, x294_11, x294_12, x294_13, x294_14, x294_17, x294_18, x294_19, x294_20, x294_21, x294_22, z0, not_false_eq_true, true_and, iZ_div ha hb, c1, d1, if_false, s1]
theorem r_floor (ha : b20 a) (hb : b20 b) : Em L xs 269 [.long (lZ a), .long (lZ b)] (n, I, Lm, Rm) r ↔ r = (some (.long (lZ (dvI a b))), n, I, Lm, Rm) := by
  have h20 : b62 0 := b62_of b20_0
  rw [em_269]
  by_cases h0 : b = 0
  · rw [show dvI a b = 0 from if_pos h0]
    have z0 : lZ b = 0 := by rw [h0]; rfl
    simp only [x269_0, x269_1, x269_2, x269_3, x269_6, x269_7, x269_8, x269_9, x269_10, x269_11, x269_13, x269_14, x269_15, x269_16, x269_17, x269_18, x269_21, x269_22, x269_23, x269_24, x269_27, x269_28, x269_31, x269_32, x269_33, x269_34, x269_35, x269_38, x269_39, x269_42, x269_43, x269_46, x269_48, x269_49, x269_50, x269_53, x269_55, lg_cmp_eq, z0, if_true]
    exact Iff.rfl
  · rw [show dvI a b = a.fdiv b from if_neg h0, fdv h0]
    have z0 : ¬ lZ b = 0 := by rw [lZ_0, lZ_eq (b62_of hb) h20]; exact h0
    have sa : 0 ≤ lZ a ↔ 0 ≤ a := by rw [lZ_0]; exact lZ_le h20 (b62_of ha)
    have sb : 0 ≤ lZ b ↔ 0 ≤ b := by rw [lZ_0]; exact lZ_le h20 (b62_of hb)
    have hm := tdm_b20 (b := b) ha
    have hs : b62 (a - a.tdiv b * b) := by unfold b20 at ha hm; unfold b62; omega
    have sm : lZ (a - a.tdiv b * b) = 0 ↔ b ∣ a := by
      rw [lZ_0, lZ_eq hs h20, ← tdm_eq]; omega
    have s1 : lZ (a.tdiv b) - 1 = lZ (a.tdiv b - 1) := by rw [lZ_1, lZ_sub]
    have t1 : ((1 : Int32) = 0) = False := eq_false (by decide)
    have t2 : ((0 : Int32) = 1) = False := eq_false (by decide)
    by_cases d : b ∣ a
    · have d1 := sm.mpr d
      rw [if_neg (fun z => z.1 d)]
      simp only [x269_0, x269_1, x269_2, x269_3, x269_6, x269_7, x269_8, x269_9, x269_10, x269_11, x269_13, x269_14, x269_15, x269_16, x269_17, x269_18, x269_21, x269_22, x269_23, x269_24, x269_27, x269_28, x269_31, x269_32, x269_33, x269_34, x269_35, x269_38, x269_39, x269_42, x269_43, x269_46, x269_48, x269_49, x269_50, x269_53, x269_55, lg_cmp_eq, z0, if_false, not_false_eq_true, true_and, lZ_div ha hb, lZ_mul, lZ_sub, d1, if_true]
    · have d1 : ¬ lZ (a - a.tdiv b * b) = 0 := fun k => d (sm.mp k)
      by_cases c : 0 ≤ a
      · have c1 := sa.mpr c
        by_cases e : 0 ≤ b
        · have e1 := sb.mpr e
          rw [if_neg (fun z => z.2 ⟨fun _ => e, fun _ => c⟩)]
          simp only [x269_0, x269_1, x269_2, x269_3, x269_6, x269_7, x269_8, x269_9, x269_10, x269_11, x269_13, x269_14, x269_15, x269_16, x269_17, x269_18, x269_21, x269_22, x269_23, x269_24, x269_27, x269_28, x269_31, x269_32, x269_33, x269_34, x269_35, x269_38, x269_39, x269_42, x269_43, x269_46, x269_48, x269_49, x269_50, x269_53, x269_55, lg_cmp_eq, lg_cmp_ge, z0, if_false, not_false_eq_true, true_and, lZ_div ha hb, lZ_mul, lZ_sub, d1, c1, e1, if_true]
        · have e1 : ¬ 0 ≤ lZ b := fun k => e (sb.mp k)
          rw [if_pos ⟨d, fun z => e (z.mp c)⟩]
          simp only [x269_0, x269_1, x269_2, x269_3, x269_6, x269_7, x269_8, x269_9, x269_10, x269_11, x269_13, x269_14, x269_15, x269_16, x269_17, x269_18, x269_21, x269_22, x269_23, x269_24, x269_27, x269_28, x269_31, x269_32, x269_33, x269_34, x269_35, x269_38, x269_39, x269_42, x269_43, x269_46, x269_48, x269_49, x269_50, x269_53, x269_55, lg_cmp_eq, lg_cmp_ge, z0, if_false, not_false_eq_true, true_and, lZ_div ha hb, lZ_mul, lZ_sub, d1, c1, e1, if_true, t1, t2, s1]
      · have c1 : ¬ 0 ≤ lZ a := fun k => c (sa.mp k)
        by_cases e : 0 ≤ b
        · have e1 := sb.mpr e
          rw [if_pos ⟨d, fun z => c (z.mpr e)⟩]
          simp only [x269_0, x269_1, x269_2, x269_3, x269_6, x269_7, x269_8, x269_9, x269_10, x269_11, x269_13, x269_14, x269_15, x269_16, x269_17, x269_18, x269_21, x269_22, x269_23, x269_24, x269_27, x269_28, x269_31, x269_32, x269_33, x269_34, x269_35, x269_38, x269_39, x269_42, x269_43, x269_46, x269_48, x269_49, x269_50, x269_53, x269_55, lg_cmp_eq, lg_cmp_ge, z0, if_false, not_false_eq_true, true_and, lZ_div ha hb, lZ_mul, lZ_sub, d1, c1, e1, if_true, t1, t2, s1]
        · have e1 : ¬ 0 ≤ lZ b := fun k => e (sb.mp k)
          rw [if_neg (fun z => z.2 ⟨fun k => absurd k c, fun k => absurd k e⟩)]
          simp only [x269_0, x269_1, x269_2, x269_3, x269_6, x269_7, x269_8, x269_9, x269_10, x269_11, x269_13, x269_14, x269_15, x269_16, x269_17, x269_18, x269_21, x269_22, x269_23, x269_24, x269_27, x269_28, x269_31, x269_32, x269_33, x269_34, x269_35, x269_38, x269_39, x269_42, x269_43, x269_46, x269_48, x269_49, x269_50, x269_53, x269_55, lg_cmp_eq, lg_cmp_ge, z0, if_false, not_false_eq_true, true_and, lZ_div ha hb, lZ_mul, lZ_sub, d1, c1, e1, if_true]
end
