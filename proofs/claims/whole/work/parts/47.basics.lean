/-! answers side by side: what both say first -/
theorem lz_1 : 1 < 179 := by decide
theorem ly_1 : (shp 1).1 = 1 := rfl
theorem lz_2 : 2 < 179 := by decide
theorem ly_2 : (shp 2).1 = 1 := rfl
theorem lz_4 : 4 < 179 := by decide
theorem ly_4 : (shp 4).1 = 1 := rfl
theorem lz_5 : 5 < 179 := by decide
theorem ly_5 : (shp 5).1 = 1 := rfl
theorem lz_6 : 6 < 179 := by decide
theorem ly_6 : (shp 6).1 = 1 := rfl
theorem lz_7 : 7 < 179 := by decide
theorem ly_7 : (shp 7).1 = 1 := rfl
theorem lz_8 : 8 < 179 := by decide
theorem ly_8 : (shp 8).1 = 1 := rfl
theorem lz_9 : 9 < 179 := by decide
theorem ly_9 : (shp 9).1 = 1 := rfl
theorem lz_10 : 10 < 179 := by decide
theorem ly_10 : (shp 10).1 = 1 := rfl
theorem sw1 (x : Int32) : x = 0 ∨ x = 1 ∨ (x.toInt < 0 ∨ 1 < x.toInt) := by
  by_cases c : x.toInt < 0 ∨ 1 < x.toInt
  · exact Or.inr (Or.inr (c))
  · have h : x.toInt = 0 ∨ x.toInt = 1 := by omega
    rcases h with h | h
    · exact Or.inl (Int32.toInt_inj.mp (h.trans rfl))
    · exact Or.inr (Or.inl (Int32.toInt_inj.mp (h.trans rfl)))
theorem sw3 (x : Int32) : x = 0 ∨ x = 1 ∨ x = 2 ∨ x = 3 ∨ (x.toInt < 0 ∨ 3 < x.toInt) := by
  by_cases c : x.toInt < 0 ∨ 3 < x.toInt
  · exact Or.inr (Or.inr (Or.inr (Or.inr (c))))
  · have h : x.toInt = 0 ∨ x.toInt = 1 ∨ x.toInt = 2 ∨ x.toInt = 3 := by omega
    rcases h with h | h | h | h
    · exact Or.inl (Int32.toInt_inj.mp (h.trans rfl))
    · exact Or.inr (Or.inl (Int32.toInt_inj.mp (h.trans rfl)))
    · exact Or.inr (Or.inr (Or.inl (Int32.toInt_inj.mp (h.trans rfl))))
    · exact Or.inr (Or.inr (Or.inr (Or.inl (Int32.toInt_inj.mp (h.trans rfl)))))
theorem sw4 (x : Int32) : x = 0 ∨ x = 1 ∨ x = 2 ∨ x = 3 ∨ x = 4 ∨ (x.toInt < 0 ∨ 4 < x.toInt) := by
  by_cases c : x.toInt < 0 ∨ 4 < x.toInt
  · exact Or.inr (Or.inr (Or.inr (Or.inr (Or.inr (c)))))
  · have h : x.toInt = 0 ∨ x.toInt = 1 ∨ x.toInt = 2 ∨ x.toInt = 3 ∨ x.toInt = 4 := by omega
    rcases h with h | h | h | h | h
    · exact Or.inl (Int32.toInt_inj.mp (h.trans rfl))
    · exact Or.inr (Or.inl (Int32.toInt_inj.mp (h.trans rfl)))
    · exact Or.inr (Or.inr (Or.inl (Int32.toInt_inj.mp (h.trans rfl))))
    · exact Or.inr (Or.inr (Or.inr (Or.inl (Int32.toInt_inj.mp (h.trans rfl)))))
    · exact Or.inr (Or.inr (Or.inr (Or.inr (Or.inl (Int32.toInt_inj.mp (h.trans rfl))))))
theorem sw7 (x : Int32) : x = 0 ∨ x = 1 ∨ x = 2 ∨ x = 3 ∨ x = 4 ∨ x = 5 ∨ x = 6 ∨ x = 7 ∨ (x.toInt < 0 ∨ 7 < x.toInt) := by
  by_cases c : x.toInt < 0 ∨ 7 < x.toInt
  · exact Or.inr (Or.inr (Or.inr (Or.inr (Or.inr (Or.inr (Or.inr (Or.inr (c))))))))
  · have h : x.toInt = 0 ∨ x.toInt = 1 ∨ x.toInt = 2 ∨ x.toInt = 3 ∨ x.toInt = 4 ∨ x.toInt = 5 ∨ x.toInt = 6 ∨ x.toInt = 7 := by omega
    rcases h with h | h | h | h | h | h | h | h
    · exact Or.inl (Int32.toInt_inj.mp (h.trans rfl))
    · exact Or.inr (Or.inl (Int32.toInt_inj.mp (h.trans rfl)))
    · exact Or.inr (Or.inr (Or.inl (Int32.toInt_inj.mp (h.trans rfl))))
    · exact Or.inr (Or.inr (Or.inr (Or.inl (Int32.toInt_inj.mp (h.trans rfl)))))
    · exact Or.inr (Or.inr (Or.inr (Or.inr (Or.inl (Int32.toInt_inj.mp (h.trans rfl))))))
    · exact Or.inr (Or.inr (Or.inr (Or.inr (Or.inr (Or.inl (Int32.toInt_inj.mp (h.trans rfl)))))))
    · exact Or.inr (Or.inr (Or.inr (Or.inr (Or.inr (Or.inr (Or.inl (Int32.toInt_inj.mp (h.trans rfl))))))))
    · exact Or.inr (Or.inr (Or.inr (Or.inr (Or.inr (Or.inr (Or.inr (Or.inl (Int32.toInt_inj.mp (h.trans rfl)))))))))
theorem sw8 (x : Int32) : x = 0 ∨ x = 1 ∨ x = 2 ∨ x = 3 ∨ x = 4 ∨ x = 5 ∨ x = 6 ∨ x = 7 ∨ x = 8 ∨ (x.toInt < 0 ∨ 8 < x.toInt) := by
  by_cases c : x.toInt < 0 ∨ 8 < x.toInt
  · exact Or.inr (Or.inr (Or.inr (Or.inr (Or.inr (Or.inr (Or.inr (Or.inr (Or.inr (c)))))))))
  · have h : x.toInt = 0 ∨ x.toInt = 1 ∨ x.toInt = 2 ∨ x.toInt = 3 ∨ x.toInt = 4 ∨ x.toInt = 5 ∨ x.toInt = 6 ∨ x.toInt = 7 ∨ x.toInt = 8 := by omega
    rcases h with h | h | h | h | h | h | h | h | h
    · exact Or.inl (Int32.toInt_inj.mp (h.trans rfl))
    · exact Or.inr (Or.inl (Int32.toInt_inj.mp (h.trans rfl)))
    · exact Or.inr (Or.inr (Or.inl (Int32.toInt_inj.mp (h.trans rfl))))
    · exact Or.inr (Or.inr (Or.inr (Or.inl (Int32.toInt_inj.mp (h.trans rfl)))))
    · exact Or.inr (Or.inr (Or.inr (Or.inr (Or.inl (Int32.toInt_inj.mp (h.trans rfl))))))
    · exact Or.inr (Or.inr (Or.inr (Or.inr (Or.inr (Or.inl (Int32.toInt_inj.mp (h.trans rfl)))))))
    · exact Or.inr (Or.inr (Or.inr (Or.inr (Or.inr (Or.inr (Or.inl (Int32.toInt_inj.mp (h.trans rfl))))))))
    · exact Or.inr (Or.inr (Or.inr (Or.inr (Or.inr (Or.inr (Or.inr (Or.inl (Int32.toInt_inj.mp (h.trans rfl)))))))))
    · exact Or.inr (Or.inr (Or.inr (Or.inr (Or.inr (Or.inr (Or.inr (Or.inr (Or.inl (Int32.toInt_inj.mp (h.trans rfl))))))))))
theorem sw9 (x : Int32) : x = 0 ∨ x = 1 ∨ x = 2 ∨ x = 3 ∨ x = 4 ∨ x = 5 ∨ x = 6 ∨ x = 7 ∨ x = 8 ∨ x = 9 ∨ (x.toInt < 0 ∨ 9 < x.toInt) := by
  by_cases c : x.toInt < 0 ∨ 9 < x.toInt
  · exact Or.inr (Or.inr (Or.inr (Or.inr (Or.inr (Or.inr (Or.inr (Or.inr (Or.inr (Or.inr (c))))))))))
  · have h : x.toInt = 0 ∨ x.toInt = 1 ∨ x.toInt = 2 ∨ x.toInt = 3 ∨ x.toInt = 4 ∨ x.toInt = 5 ∨ x.toInt = 6 ∨ x.toInt = 7 ∨ x.toInt = 8 ∨ x.toInt = 9 := by omega
    rcases h with h | h | h | h | h | h | h | h | h | h
    · exact Or.inl (Int32.toInt_inj.mp (h.trans rfl))
    · exact Or.inr (Or.inl (Int32.toInt_inj.mp (h.trans rfl)))
    · exact Or.inr (Or.inr (Or.inl (Int32.toInt_inj.mp (h.trans rfl))))
    · exact Or.inr (Or.inr (Or.inr (Or.inl (Int32.toInt_inj.mp (h.trans rfl)))))
    · exact Or.inr (Or.inr (Or.inr (Or.inr (Or.inl (Int32.toInt_inj.mp (h.trans rfl))))))
    · exact Or.inr (Or.inr (Or.inr (Or.inr (Or.inr (Or.inl (Int32.toInt_inj.mp (h.trans rfl)))))))
    · exact Or.inr (Or.inr (Or.inr (Or.inr (Or.inr (Or.inr (Or.inl (Int32.toInt_inj.mp (h.trans rfl))))))))
    · exact Or.inr (Or.inr (Or.inr (Or.inr (Or.inr (Or.inr (Or.inr (Or.inl (Int32.toInt_inj.mp (h.trans rfl)))))))))
    · exact Or.inr (Or.inr (Or.inr (Or.inr (Or.inr (Or.inr (Or.inr (Or.inr (Or.inl (Int32.toInt_inj.mp (h.trans rfl))))))))))
    · exact Or.inr (Or.inr (Or.inr (Or.inr (Or.inr (Or.inr (Or.inr (Or.inr (Or.inr (Or.inl (Int32.toInt_inj.mp (h.trans rfl)))))))))))

section
variable {L : Nat} {xs : Nat → Int32} {σ : Mm} {r : Option Value × Mm} {I J K : Nat → Nat → Int32} {Lm : Nat → Nat → Int64} {Rm : Nat → Nat → Nat} {n s so t N NS NH m M P nw S U : Nat} {V W : Vw} {sp s2 ai p : Nat} {x y h v : Int32} {u u1 u2 : Int64}
/-- both give the same answer and change nothing but scratch -/
abbrev PrQ (L : Nat) (xs : Nat → Int32) (I : Nat → Nat → Int32) (Lm : Nat → Nat → Int64) (nw sp s2 ai S mc : Nat) (ac : List Value) (mr : Nat) (ar : List Value) : Prop := ∃ (v : Int32) (J J2 : Nat → Nat → Int32) (s3 : Nat), (∀ r, Em L xs mc ac (179, I, Lm, RG nw sp s2 ai) r ↔ r = (some (.int v), 179, J, Lm, RG nw sp s3 ai)) ∧ (∀ r, Em L xs mr ar (179, J, Lm, RG nw sp s3 ai) r ↔ r = (some (.int v), 179, J2, Lm, RG nw sp s3 ai)) ∧ SqC S I J ∧ SqM J J2
theorem r_isInL : Em L xs 167 [.long u, .long u1, .long u2] σ r ↔ r = (some (.int (if u1 ≤ u ∧ u ≤ u2 then 1 else 0)), σ) := by
  rw [em_167]
  by_cases c1 : u < u1
  · have c : ¬ (u1 ≤ u ∧ u ≤ u2) := fun k => Int64.not_le.mpr c1 k.1
    simp only [x167_0, x167_1, x167_2, x167_3, x167_6, x167_7, x167_9, x167_10, x167_13, x167_14, x167_17, x167_18, lg_cmp_lt, lg_cmp_gt, c1, c, if_true, if_false, true_or, true_and]
  · by_cases c2 : u2 < u
    · have c : ¬ (u1 ≤ u ∧ u ≤ u2) := fun k => Int64.not_le.mpr c2 k.2
      simp only [x167_0, x167_1, x167_2, x167_3, x167_6, x167_7, x167_9, x167_10, x167_13, x167_14, x167_17, x167_18, lg_cmp_lt, lg_cmp_gt, c1, c2, c, if_true, if_false, true_or, true_and]
    · have c : u1 ≤ u ∧ u ≤ u2 := ⟨Int64.not_lt.mp c1, Int64.not_lt.mp c2⟩
      simp only [x167_0, x167_1, x167_2, x167_3, x167_6, x167_7, x167_9, x167_10, x167_13, x167_14, x167_17, x167_18, lg_cmp_lt, lg_cmp_gt, c1, c2, c, and_self, if_true, if_false, or_true, true_and]
theorem nI_m1 (hn : n < 2 ^ 31) : (nI n - 1).toInt = (n : Int) - 1 := by
  cases n with
  | zero => rfl
  | succ n => rw [nI_pred, nI_toInt (by omega)]; omega
theorem inL_n (hn : n < 2 ^ 31) : ((0 : Int64) ≤ x.toInt64 ∧ x.toInt64 ≤ (nI n - 1).toInt64) ↔ inb x n := by
  rw [Int64.le_iff_toInt_le, Int64.le_iff_toInt_le, Int32.toInt_toInt64, Int32.toInt_toInt64, nI_m1 hn]
  have h0 : (0 : Int64).toInt = 0 := rfl
  rw [h0]
  unfold inb
  constructor <;> intro k <;> omega
theorem inL_m (hn : n < 2 ^ 30) : ((0 : Int64) ≤ x.toInt64 ∧ x.toInt64 ≤ (nI n).toInt64) ↔ inb x (n + 1) := by
  rw [Int64.le_iff_toInt_le, Int64.le_iff_toInt_le, Int32.toInt_toInt64, Int32.toInt_toInt64, nI_toInt (by omega)]
  have h0 : (0 : Int64).toInt = 0 := rfl
  rw [h0]
  unfold inb
  constructor <;> intro k <;> omega
theorem if_inb (c : inb x n) (a b : Int32) (d : inb x n ↔ (0 ≤ u ∧ u ≤ u2)) : (if 0 ≤ u ∧ u ≤ u2 then a else b) = a := if_pos (d.mp c)
theorem if_out (c : ¬ inb x n) (a b : Int32) (d : inb x n ↔ (0 ≤ u ∧ u ≤ u2)) : (if 0 ≤ u ∧ u ≤ u2 then a else b) = b := if_neg (fun k => c (d.mpr k))
theorem r_isIn1 (hn : n < 2 ^ 31) (c : inb x n) : Em L xs 167 [.long x.toInt64, .long 0, .long (nI n - 1).toInt64] σ r ↔ r = (some (.int 1), σ) := by rw [r_isInL, if_inb c _ _ (inL_n hn).symm]
theorem r_isIn0 (hn : n < 2 ^ 31) (c : ¬ inb x n) : Em L xs 167 [.long x.toInt64, .long 0, .long (nI n - 1).toInt64] σ r ↔ r = (some (.int 0), σ) := by rw [r_isInL, if_out c _ _ (inL_n hn).symm]
theorem r_isInM1 (hn : n < 2 ^ 30) (c : inb x (n + 1)) : Em L xs 167 [.long x.toInt64, .long 0, .long (nI n).toInt64] σ r ↔ r = (some (.int 1), σ) := by rw [r_isInL, if_inb c _ _ (inL_m hn).symm]
theorem r_isInM0 (hn : n < 2 ^ 30) (c : ¬ inb x (n + 1)) : Em L xs 167 [.long x.toInt64, .long 0, .long (nI n).toInt64] σ r ↔ r = (some (.int 0), σ) := by rw [r_isInL, if_out c _ _ (inL_m hn).symm]
theorem c_hasP1 (hB : SB nw sp s2 ai s so) (hC : CR I s so N NS NH V) (c : inb x N) (r : Option Value × Mm) : Em L xs 61 [.ref s, .int x] (179, I, Lm, RG nw sp s2 ai) r ↔ r = (some (.int 1), 179, I, Lm, RG nw sp s2 ai) := by rw [c_hasP hB hC, if_pos c]
theorem c_hasP0 (hB : SB nw sp s2 ai s so) (hC : CR I s so N NS NH V) (c : ¬ inb x N) (r : Option Value × Mm) : Em L xs 61 [.ref s, .int x] (179, I, Lm, RG nw sp s2 ai) r ↔ r = (some (.int 0), 179, I, Lm, RG nw sp s2 ai) := by rw [c_hasP hB hC, if_neg c]
theorem c_canW1 (hB : SB nw sp s2 ai s so) (hM : I s 6 = nI M) (hM2 : M ≤ 60) (c : inb x (M + 1)) (r : Option Value × Mm) : Em L xs 62 [.ref s, .int x] (179, I, Lm, RG nw sp s2 ai) r ↔ r = (some (.int 1), 179, I, Lm, RG nw sp s2 ai) := by rw [c_canW hB hM hM2, if_pos c]
theorem c_canW0 (hB : SB nw sp s2 ai s so) (hM : I s 6 = nI M) (hM2 : M ≤ 60) (c : ¬ inb x (M + 1)) (r : Option Value × Mm) : Em L xs 62 [.ref s, .int x] (179, I, Lm, RG nw sp s2 ai) r ↔ r = (some (.int 0), 179, I, Lm, RG nw sp s2 ai) := by rw [c_canW hB hM hM2, if_neg c]
theorem c_isPl1 (hB : SB nw sp s2 ai s so) (hC : CR I s so N NS NH V) (c : x = -1 ∨ inb x NH) (r : Option Value × Mm) : Em L xs 63 [.ref s, .int x] (179, I, Lm, RG nw sp s2 ai) r ↔ r = (some (.int 1), 179, I, Lm, RG nw sp s2 ai) := by rw [c_isPl hB hC, if_pos c]
theorem c_isPl0 (hB : SB nw sp s2 ai s so) (hC : CR I s so N NS NH V) (c : ¬ (x = -1 ∨ inb x NH)) (r : Option Value × Mm) : Em L xs 63 [.ref s, .int x] (179, I, Lm, RG nw sp s2 ai) r ↔ r = (some (.int 0), 179, I, Lm, RG nw sp s2 ai) := by rw [c_isPl hB hC, if_neg c]
theorem b2i_in (hn : n < 2 ^ 31) (c : inb x n) : b2i (0 ≤ x ∧ x < nI n) = 1 := if_pos ((inb_nat hn).mpr c)
theorem b2i_out (hn : n < 2 ^ 31) (c : ¬ inb x n) : b2i (0 ≤ x ∧ x < nI n) = 0 := if_neg (fun k => c ((inb_nat hn).mp k))
theorem r_isP1 (hN : N ≤ 12) (hG : GM I Lm N NS NH M P V) (c : inb x N) (r : Option Value × Mm) : Em L xs 215 [.ref 112, .int x] (179, I, Lm, RG nw sp s2 ai) r ↔ r = (some (.int 1), 179, I, Lm, RG nw sp s2 ai) := by
  rw [em_215]
  simp only [x215_0, x215_1, x215_2, x215_3, x215_4, x215_7, x215_8, x215_9, x215_10, x215_13, sh_112, sh_113, sh_114, sh_115, sh_116, sh_117, sh_118, sh_119, sh_120, sh_121, sh_122, sh_123, sh_124, sh_125, sh_126, sh_127, sh_128, sh_129, sh_130, sh_131, sh_132, sh_133, sh_134, sh_135, sh_136, sh_137, sh_138, sh_139, sh_140, sh_141, sh_142, sh_143, sh_144, sh_145, sh_146, sh_147, sh_148, sh_149, sh_150, sh_151, sh_152, sh_153, sh_154, sh_155, sh_156, sh_157, sh_158, sh_159, sh_160, sh_161, sh_162, sh_163, sh_164, sh_165, sh_166, sh_167, sh_168, sh_169, sh_170, sh_171, sh_172, sh_173, sh_174, sh_175, sh_176, sh_177, sh_178, lq_112, lq_113, lq_114, lq_115, lq_116, lq_117, lq_118, lq_119, lq_120, lq_121, lq_122, lq_123, lq_124, lq_125, lq_126, lq_127, lq_128, lq_129, lq_130, lq_131, lq_132, lq_133, lq_134, lq_135, lq_136, lq_137, lq_138, lq_139, lq_140, lq_141, lq_142, lq_143, lq_144, lq_145, lq_146, lq_147, lq_148, lq_149, lq_150, lq_151, lq_152, lq_153, lq_154, lq_155, lq_156, lq_157, lq_158, lq_159, lq_160, lq_161, lq_162, lq_163, lq_164, lq_165, lq_166, lq_167, lq_168, lq_169, lq_170, lq_171, lq_172, lq_173, lq_174, lq_175, lq_176, lq_177, lq_178, rg_112_0, rg_112_9, rg_112_10, rg_112_11, rg_112_12, rg_112_13, rg_112_14, rg_112_15, rg_112_16, rg_112_17, rg_112_18, rg_112_19, rg_112_20, rg_112_21, rg_112_22, rg_112_23, rg_112_24, rg_112_25, rg_112_26, rg_112_27, rg_112_28, rg_112_29, rg_112_30, rg_112_31, rg_112_32, rg_112_33, rg_112_34, rg_112_35, rg_112_36, rg_112_37, rg_112_38, rg_112_39, rg_112_40, rg_112_41, rg_112_43, rg_112_44, rg_112_45, rg_112_46, rg_112_47, rg_112_48, rg_112_49, rg_112_51, rg_112_55, rg_112_57, rg_112_60, rg_112_61, rg_112_62, rg_112_63, rg_112_64, rg_112_66, rg_112_67, rg_112_68, rg_112_69, rg_112_70, rg_112_71, rg_112_72, rg_112_73, rg_112_74, rg_112_80, rg_112_83, rg_112_84, rg_112_85, rg_112_86, rg_112_90, rg_112_91, rg_112_92, ex5, Option.toList_some, Option.toList_none, List.cons_append, List.nil_append, true_and, and_true, nI_1, p_at, p_set, p_isIn, p_max, p_min, p_abs, r_people hG.2.1.2.2, r_isIn1 (show N < 2 ^ 31 by omega) c, or_true]
theorem r_isP0 (hN : N ≤ 12) (hG : GM I Lm N NS NH M P V) (c : ¬ inb x N) (r : Option Value × Mm) : Em L xs 215 [.ref 112, .int x] (179, I, Lm, RG nw sp s2 ai) r ↔ r = (some (.int 0), 179, I, Lm, RG nw sp s2 ai) := by
  rw [em_215]
  simp only [x215_0, x215_1, x215_2, x215_3, x215_4, x215_7, x215_8, x215_9, x215_10, x215_13, sh_112, sh_113, sh_114, sh_115, sh_116, sh_117, sh_118, sh_119, sh_120, sh_121, sh_122, sh_123, sh_124, sh_125, sh_126, sh_127, sh_128, sh_129, sh_130, sh_131, sh_132, sh_133, sh_134, sh_135, sh_136, sh_137, sh_138, sh_139, sh_140, sh_141, sh_142, sh_143, sh_144, sh_145, sh_146, sh_147, sh_148, sh_149, sh_150, sh_151, sh_152, sh_153, sh_154, sh_155, sh_156, sh_157, sh_158, sh_159, sh_160, sh_161, sh_162, sh_163, sh_164, sh_165, sh_166, sh_167, sh_168, sh_169, sh_170, sh_171, sh_172, sh_173, sh_174, sh_175, sh_176, sh_177, sh_178, lq_112, lq_113, lq_114, lq_115, lq_116, lq_117, lq_118, lq_119, lq_120, lq_121, lq_122, lq_123, lq_124, lq_125, lq_126, lq_127, lq_128, lq_129, lq_130, lq_131, lq_132, lq_133, lq_134, lq_135, lq_136, lq_137, lq_138, lq_139, lq_140, lq_141, lq_142, lq_143, lq_144, lq_145, lq_146, lq_147, lq_148, lq_149, lq_150, lq_151, lq_152, lq_153, lq_154, lq_155, lq_156, lq_157, lq_158, lq_159, lq_160, lq_161, lq_162, lq_163, lq_164, lq_165, lq_166, lq_167, lq_168, lq_169, lq_170, lq_171, lq_172, lq_173, lq_174, lq_175, lq_176, lq_177, lq_178, rg_112_0, rg_112_9, rg_112_10, rg_112_11, rg_112_12, rg_112_13, rg_112_14, rg_112_15, rg_112_16, rg_112_17, rg_112_18, rg_112_19, rg_112_20, rg_112_21, rg_112_22, rg_112_23, rg_112_24, rg_112_25, rg_112_26, rg_112_27, rg_112_28, rg_112_29, rg_112_30, rg_112_31, rg_112_32, rg_112_33, rg_112_34, rg_112_35, rg_112_36, rg_112_37, rg_112_38, rg_112_39, rg_112_40, rg_112_41, rg_112_43, rg_112_44, rg_112_45, rg_112_46, rg_112_47, rg_112_48, rg_112_49, rg_112_51, rg_112_55, rg_112_57, rg_112_60, rg_112_61, rg_112_62, rg_112_63, rg_112_64, rg_112_66, rg_112_67, rg_112_68, rg_112_69, rg_112_70, rg_112_71, rg_112_72, rg_112_73, rg_112_74, rg_112_80, rg_112_83, rg_112_84, rg_112_85, rg_112_86, rg_112_90, rg_112_91, rg_112_92, ex5, Option.toList_some, Option.toList_none, List.cons_append, List.nil_append, true_and, and_true, nI_1, p_at, p_set, p_isIn, p_max, p_min, p_abs, r_people hG.2.1.2.2, r_isIn0 (show N < 2 ^ 31 by omega) c, true_or]
theorem r_isH1 (hH : NH ≤ 4) (hG : GM I Lm N NS NH M P V) (c : inb x NH) (r : Option Value × Mm) : Em L xs 216 [.ref 112, .int x] (179, I, Lm, RG nw sp s2 ai) r ↔ r = (some (.int 1), 179, I, Lm, RG nw sp s2 ai) := by
  rw [em_216]
  simp only [x216_0, x216_1, x216_2, x216_3, x216_4, x216_7, x216_8, x216_9, x216_10, x216_13, sh_112, sh_113, sh_114, sh_115, sh_116, sh_117, sh_118, sh_119, sh_120, sh_121, sh_122, sh_123, sh_124, sh_125, sh_126, sh_127, sh_128, sh_129, sh_130, sh_131, sh_132, sh_133, sh_134, sh_135, sh_136, sh_137, sh_138, sh_139, sh_140, sh_141, sh_142, sh_143, sh_144, sh_145, sh_146, sh_147, sh_148, sh_149, sh_150, sh_151, sh_152, sh_153, sh_154, sh_155, sh_156, sh_157, sh_158, sh_159, sh_160, sh_161, sh_162, sh_163, sh_164, sh_165, sh_166, sh_167, sh_168, sh_169, sh_170, sh_171, sh_172, sh_173, sh_174, sh_175, sh_176, sh_177, sh_178, lq_112, lq_113, lq_114, lq_115, lq_116, lq_117, lq_118, lq_119, lq_120, lq_121, lq_122, lq_123, lq_124, lq_125, lq_126, lq_127, lq_128, lq_129, lq_130, lq_131, lq_132, lq_133, lq_134, lq_135, lq_136, lq_137, lq_138, lq_139, lq_140, lq_141, lq_142, lq_143, lq_144, lq_145, lq_146, lq_147, lq_148, lq_149, lq_150, lq_151, lq_152, lq_153, lq_154, lq_155, lq_156, lq_157, lq_158, lq_159, lq_160, lq_161, lq_162, lq_163, lq_164, lq_165, lq_166, lq_167, lq_168, lq_169, lq_170, lq_171, lq_172, lq_173, lq_174, lq_175, lq_176, lq_177, lq_178, rg_112_0, rg_112_9, rg_112_10, rg_112_11, rg_112_12, rg_112_13, rg_112_14, rg_112_15, rg_112_16, rg_112_17, rg_112_18, rg_112_19, rg_112_20, rg_112_21, rg_112_22, rg_112_23, rg_112_24, rg_112_25, rg_112_26, rg_112_27, rg_112_28, rg_112_29, rg_112_30, rg_112_31, rg_112_32, rg_112_33, rg_112_34, rg_112_35, rg_112_36, rg_112_37, rg_112_38, rg_112_39, rg_112_40, rg_112_41, rg_112_43, rg_112_44, rg_112_45, rg_112_46, rg_112_47, rg_112_48, rg_112_49, rg_112_51, rg_112_55, rg_112_57, rg_112_60, rg_112_61, rg_112_62, rg_112_63, rg_112_64, rg_112_66, rg_112_67, rg_112_68, rg_112_69, rg_112_70, rg_112_71, rg_112_72, rg_112_73, rg_112_74, rg_112_80, rg_112_83, rg_112_84, rg_112_85, rg_112_86, rg_112_90, rg_112_91, rg_112_92, ex5, Option.toList_some, Option.toList_none, List.cons_append, List.nil_append, true_and, and_true, nI_1, p_at, p_set, p_isIn, p_max, p_min, p_abs, r_hatMany hG.2.1.2.1, r_isIn1 (show NH < 2 ^ 31 by omega) c, or_true]
theorem r_isH0 (hH : NH ≤ 4) (hG : GM I Lm N NS NH M P V) (c : ¬ inb x NH) (r : Option Value × Mm) : Em L xs 216 [.ref 112, .int x] (179, I, Lm, RG nw sp s2 ai) r ↔ r = (some (.int 0), 179, I, Lm, RG nw sp s2 ai) := by
  rw [em_216]
  simp only [x216_0, x216_1, x216_2, x216_3, x216_4, x216_7, x216_8, x216_9, x216_10, x216_13, sh_112, sh_113, sh_114, sh_115, sh_116, sh_117, sh_118, sh_119, sh_120, sh_121, sh_122, sh_123, sh_124, sh_125, sh_126, sh_127, sh_128, sh_129, sh_130, sh_131, sh_132, sh_133, sh_134, sh_135, sh_136, sh_137, sh_138, sh_139, sh_140, sh_141, sh_142, sh_143, sh_144, sh_145, sh_146, sh_147, sh_148, sh_149, sh_150, sh_151, sh_152, sh_153, sh_154, sh_155, sh_156, sh_157, sh_158, sh_159, sh_160, sh_161, sh_162, sh_163, sh_164, sh_165, sh_166, sh_167, sh_168, sh_169, sh_170, sh_171, sh_172, sh_173, sh_174, sh_175, sh_176, sh_177, sh_178, lq_112, lq_113, lq_114, lq_115, lq_116, lq_117, lq_118, lq_119, lq_120, lq_121, lq_122, lq_123, lq_124, lq_125, lq_126, lq_127, lq_128, lq_129, lq_130, lq_131, lq_132, lq_133, lq_134, lq_135, lq_136, lq_137, lq_138, lq_139, lq_140, lq_141, lq_142, lq_143, lq_144, lq_145, lq_146, lq_147, lq_148, lq_149, lq_150, lq_151, lq_152, lq_153, lq_154, lq_155, lq_156, lq_157, lq_158, lq_159, lq_160, lq_161, lq_162, lq_163, lq_164, lq_165, lq_166, lq_167, lq_168, lq_169, lq_170, lq_171, lq_172, lq_173, lq_174, lq_175, lq_176, lq_177, lq_178, rg_112_0, rg_112_9, rg_112_10, rg_112_11, rg_112_12, rg_112_13, rg_112_14, rg_112_15, rg_112_16, rg_112_17, rg_112_18, rg_112_19, rg_112_20, rg_112_21, rg_112_22, rg_112_23, rg_112_24, rg_112_25, rg_112_26, rg_112_27, rg_112_28, rg_112_29, rg_112_30, rg_112_31, rg_112_32, rg_112_33, rg_112_34, rg_112_35, rg_112_36, rg_112_37, rg_112_38, rg_112_39, rg_112_40, rg_112_41, rg_112_43, rg_112_44, rg_112_45, rg_112_46, rg_112_47, rg_112_48, rg_112_49, rg_112_51, rg_112_55, rg_112_57, rg_112_60, rg_112_61, rg_112_62, rg_112_63, rg_112_64, rg_112_66, rg_112_67, rg_112_68, rg_112_69, rg_112_70, rg_112_71, rg_112_72, rg_112_73, rg_112_74, rg_112_80, rg_112_83, rg_112_84, rg_112_85, rg_112_86, rg_112_90, rg_112_91, rg_112_92, ex5, Option.toList_some, Option.toList_none, List.cons_append, List.nil_append, true_and, and_true, nI_1, p_at, p_set, p_isIn, p_max, p_min, p_abs, r_hatMany hG.2.1.2.1, r_isIn0 (show NH < 2 ^ 31 by omega) c, true_or]
theorem z_earned (hR : MR I 0 N NS NH V) (hW : WV V N NS NH) (hp : p < N) (r : Option Value × Mm) : Em L xs 221 [.ref 112, .int (nI p)] (179, I, Lm, RG nw sp s2 ai) r ↔ r = (some (.int (earnV V p)), 179, I, Lm, RG nw sp s2 ai) := by
  have k := r_earned (L := L) (xs := xs) (Lm := Lm) (r := r) (nw := nw) (sp := sp) (s2 := s2) (ai := ai) hR hW hp
  rw [Nat.zero_add] at k; exact k
theorem z_slip (hR : MR I 0 N NS NH V) (hW : WV V N NS NH) (hp : p < N) (r : Option Value × Mm) : Em L xs 222 [.ref 112, .int (nI p)] (179, I, Lm, RG nw sp s2 ai) r ↔ r = (some (.int (slipV V p)), 179, I, Lm, RG nw sp s2 ai) := by
  have k := r_slip (L := L) (xs := xs) (Lm := Lm) (r := r) (nw := nw) (sp := sp) (s2 := s2) (ai := ai) hR hW hp
  rw [Nat.zero_add] at k; exact k
theorem z_kept (hR : MR I 0 N NS NH V) (hW : WV V N NS NH) (hp : p < N) (r : Option Value × Mm) : Em L xs 223 [.ref 112, .int (nI p)] (179, I, Lm, RG nw sp s2 ai) r ↔ r = (some (.int (earnV V p - slipV V p)), 179, I, Lm, RG nw sp s2 ai) := by
  have k := r_kept (L := L) (xs := xs) (Lm := Lm) (r := r) (nw := nw) (sp := sp) (s2 := s2) (ai := ai) hR hW hp
  rw [Nat.zero_add] at k; exact k
theorem z_worthNow (hR : MR I 0 N NS NH V) (hW : WV V N NS NH) (hM : MW V 0 N) (hp : p < N) (r : Option Value × Mm) : Em L xs 232 [.ref 112, .int (nI p)] (179, I, Lm, RG nw sp s2 ai) r ↔ r = (some (.int (nwV V N p)), 179, I, Lm, RG nw sp s2 ai) := by
  have k := r_worthNow (L := L) (xs := xs) (Lm := Lm) (r := r) (nw := nw) (sp := sp) (s2 := s2) (ai := ai) hR hW hM hp
  rw [Nat.zero_add] at k; exact k
theorem z_worthWith (hR : MR I 0 N NS NH V) (hW : WV V N NS NH) (hM : MW V 0 N) (hp : p < N) (hx : rng x 0 60) (r : Option Value × Mm) : Em L xs 233 [.ref 112, .int (nI p), .int x] (179, I, Lm, RG nw sp s2 ai) r ↔ r = (some (.int (wV V N p x (V 1 p))), 179, I, Lm, RG nw sp s2 ai) := by
  have k := r_worthWith (L := L) (xs := xs) (Lm := Lm) (r := r) (nw := nw) (sp := sp) (s2 := s2) (ai := ai) hR hW hM hp hx
  rw [Nat.zero_add] at k; exact k
theorem z_worthIn (hR : MR I 0 N NS NH V) (hW : WV V N NS NH) (hM : MW V 0 N) (hp : p < N) (hx : h = -1 ∨ inb h NH) (r : Option Value × Mm) : Em L xs 259 [.ref 112, .int (nI p), .int h] (179, I, Lm, RG nw sp s2 ai) r ↔ r = (some (.int (wV V N p (V 2 p) h)), 179, I, Lm, RG nw sp s2 ai) := by
  have k := r_worthIn (L := L) (xs := xs) (Lm := Lm) (r := r) (nw := nw) (sp := sp) (s2 := s2) (ai := ai) hR hW hM hp hx
  rw [Nat.zero_add] at k; exact k
theorem z_best (hR : MR I 0 N NS NH V) (hW : WV V N NS NH) (hM : MW V 0 N) (hp : p < N) (hm : I 112 52 = nI M) (hm2 : M ≤ 60) (r : Option Value × Mm) : Em L xs 234 [.ref 112, .int (nI p)] (179, I, Lm, RG nw sp s2 ai) r ↔ r = (some (.int (bestV V N M p)), 179, I, Lm, RG nw sp s2 ai) := by
  have k := r_best (L := L) (xs := xs) (Lm := Lm) (r := r) (nw := nw) (sp := sp) (s2 := s2) (ai := ai) hR hW hM hp hm hm2
  rw [Nat.zero_add] at k; exact k
theorem z_wishOf (hR : MR I 0 N NS NH V) (hW : WV V N NS NH) (hM : MW V 0 N) (hH : I 148 4 = nI NH) (hp : p < N) (r : Option Value × Mm) : Em L xs 261 [.ref 112, .int (nI p)] (179, I, Lm, RG nw sp s2 ai) r ↔ r = (some (.int (wishV V N NH p)), 179, I, Lm, RG nw sp s2 ai) := by
  have k := r_wishOf (L := L) (xs := xs) (Lm := Lm) (r := r) (nw := nw) (sp := sp) (s2 := s2) (ai := ai) hR hW hM hH hp
  rw [Nat.zero_add] at k; exact k
theorem z_moreAlone (hR : MR I 0 N NS NH V) (hW : WV V N NS NH) (hM : MW V 0 N) (hm : I 112 52 = nI M) (hm2 : M ≤ 60) (hp : p < N) (r : Option Value × Mm) : Em L xs 266 [.ref 112, .int (nI p)] (179, I, Lm, RG nw sp s2 ai) r ↔ r = (some (.int (moreV V N M p)), 179, I, Lm, RG nw sp s2 ai) := by
  have k := r_moreAlone (L := L) (xs := xs) (Lm := Lm) (r := r) (nw := nw) (sp := sp) (s2 := s2) (ai := ai) hR hW hM hm hm2 hp
  rw [Nat.zero_add] at k; exact k
end
