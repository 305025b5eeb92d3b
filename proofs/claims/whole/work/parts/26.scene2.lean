def absI (x : Int32) : Int32 := if 0 ≤ x then x else -x
def maxI (x y : Int32) : Int32 := if x < y then y else x
/-- how many persons of the first n are in h -/
def cnN (V : Vw) (h : Int32) : Nat → Nat
  | 0 => 0
  | n + 1 => if V 1 n = h then cnN V h n + 1 else cnN V h n
/-- the most hours of the first n, but p's, that are in h -/
def mxV (V : Vw) (p : Nat) (h : Int32) : Nat → Int32
  | 0 => 0
  | n + 1 => if n ≠ p ∧ V 1 n = h then maxI (mxV V p h n) (V 2 n) else mxV V p h n
def meanV (V : Vw) (N : Nat) (h : Int32) : Int32 := if 0 < cnN V h N then 100 * sumV V N h / nI (cnN V h N) else 0
/-- a spread, out of how far all are apart -/
def spW (n : Nat) (d : Int32) : Int32 := if n = 0 then 0 else 100 * d / (nI n * nI n)
def dstV (V : Vw) (N : Nat) (h c S : Int32) : Int32 := sg (fun p => if V 1 p = h then absI (c * slipV V p - S) else 0) N
def spreadV (V : Vw) (N : Nat) (h : Int32) : Int32 := spW (cnN V h N) (dstV V N h (nI (cnN V h N)) (sumV V N h))
/-- but the scratch of the scene at s nothing has changed -/
def Fr (s : Nat) (I I1 : Nat → Nat → Int32) : Prop := ∀ p, p ≠ s + 7 → p ≠ s + 8 → I1 p = I p
theorem Fr.rf {s : Nat} {I : Nat → Nat → Int32} : Fr s I I := fun _ _ _ => rfl
theorem Fr.tr {s : Nat} {I I1 I2 : Nat → Nat → Int32} (h : Fr s I I1) (h2 : Fr s I1 I2) : Fr s I I2 := fun p a b => (h2 p a b).trans (h p a b)
theorem setv_ne {I : Nat → Nat → Int32} {a p : Nat} {k v : Int32} (h : p ≠ a) : setv I a k v p = I p := by
  unfold setv; split
  · exact up2_ne h
  · rfl
theorem So_ne {nw sp s2 ai s so : Nat} (hB : SB nw sp s2 ai s so) (k : Nat) (hk : k ≤ 6) (j : Nat) (hj : j = 7 ∨ j = 8) : so + k ≠ s + j := by
  obtain ⟨hs, ho, -⟩ := hB
  rcases hs with rfl | rfl | rfl <;> rcases ho with rfl | rfl | rfl <;> omega
theorem CR.fr {nw sp s2 ai s so N NS NH : Nat} {I I1 : Nat → Nat → Int32} {V : Vw} (hB : SB nw sp s2 ai s so) (h : CR I s so N NS NH V) (hF : Fr s I I1) : CR I1 s so N NS NH V := by
  obtain ⟨⟨a1, a2, a3⟩, b1, c1, d1, e1⟩ := h
  have hp : ∀ k, k ≠ 7 → k ≠ 8 → I1 (s + k) = I (s + k) := fun k h1 h2 => hF _ (by omega) (by omega)
  have ho : ∀ k, k ≤ 6 → I1 (so + k) = I (so + k) := fun k hk => hF _ (So_ne hB k hk 7 (Or.inl rfl)) (So_ne hB k hk 8 (Or.inr rfl))
  refine ⟨⟨?_, ?_, ?_⟩, b1, fun k hk => ?_, fun k hk => ?_, fun k hk => ?_⟩
  · rw [hp 16 (by decide) (by decide)]; exact a1
  · have := ho 0 (by decide); rw [Nat.add_zero] at this; rw [this]; exact a2
  · rw [hp 1 (by decide) (by decide)]; exact a3
  · rw [hp 20 (by decide) (by decide), hp 21 (by decide) (by decide), hp 22 (by decide) (by decide), hp 24 (by decide) (by decide)]; exact c1 k hk
  · rw [ho 2 (by decide), ho 3 (by decide), ho 4 (by decide), ho 5 (by decide), ho 6 (by decide)]; exact d1 k hk
  · rw [hp 3 (by decide) (by decide), hp 4 (by decide) (by decide), hp 5 (by decide) (by decide), hp 6 (by decide) (by decide)]; exact e1 k hk
theorem cnN_le (V : Vw) (h : Int32) : ∀ n, cnN V h n ≤ n
  | 0 => Nat.le_refl 0
  | n + 1 => by unfold cnN; have := cnN_le V h n; split <;> omega
theorem cnt_nI (V : Vw) (h : Int32) : ∀ n, cntV V n h = nI (cnN V h n)
  | 0 => nI_0.symm
  | n + 1 => by
    have ih := cnt_nI V h n
    have e : cntV V (n + 1) h = cntV V n h + (if V 1 n = h then 1 else 0) := rfl
    have e2 : cnN V h (n + 1) = if V 1 n = h then cnN V h n + 1 else cnN V h n := rfl
    rw [e, e2, ih]
    by_cases c : V 1 n = h
    · simp only [c, if_true]; exact nI_1 _
    · simp only [c, if_false]; exact Int32.add_zero _
section
variable {L : Nat} {xs : Nat → Int32} {σ : Mm} {r : Option Value × Mm} {I : Nat → Nat → Int32} {Lm : Nat → Nat → Int64} {Rm : Nat → Nat → Nat} {n s so N NS NH : Nat} {V : Vw} {nw sp s2 ai p : Nat} {x y h : Int32}
theorem c_needsIn (hB : SB nw sp s2 ai s so) (hC : CR I s so N NS NH V) (hW : WV V N NS NH) : Em L xs 68 [.ref s, .int h] (179, I, Lm, RG nw sp s2 ai) r ↔ r = (some (.int (needV V N h)), 179, I, Lm, RG nw sp s2 ai) := by
  have hN := hC.2.1.1; have hN2 := wd_le s
  rw [em_68]
  obtain ⟨hs, ho, hq⟩ := id hB
  have key : ∀ j, j ≤ N → (Ev L xs 2 68 4 [some (.ref s), some (.int h), some (.int (needV V j h)), some (.int (nI j))] [] (179, I, Lm, RG nw sp s2 ai) r ↔ r = (some (.int (needV V N h)), 179, I, Lm, RG nw sp s2 ai)) := by
    refine up_ind ?_ ?_
    · rw [x68_4]
      simp only [x68_0, x68_1, x68_2, x68_3, x68_5, x68_6, x68_9, x68_12, x68_15, x68_16, x68_19, x68_22, x68_23, x68_26, x68_27, x68_30, x68_31, x68_32, x68_33, x68_36, x68_37, x68_38, x68_41, x68_44, x68_45, sh_s, lq_s, sh_s1, lq_s1, sh_s2, lq_s2, sh_s3, lq_s3, sh_s4, lq_s4, sh_s5, lq_s5, sh_s6, lq_s6, sh_s7, lq_s7, sh_s8, lq_s8, sh_s9, lq_s9, sh_s10, lq_s10, sh_s11, lq_s11, sh_s12, lq_s12, sh_s13, lq_s13, sh_s14, lq_s14, sh_s15, lq_s15, sh_s16, lq_s16, sh_s17, lq_s17, sh_s18, lq_s18, sh_s19, lq_s19, sh_s20, lq_s20, sh_s21, lq_s21, sh_s22, lq_s22, sh_s23, lq_s23, sh_s24, lq_s24, sh_s25, lq_s25, rg_s0_0, rg_s0_1, rg_s0_2, rg_s0_3, rg_s1_0, rg_s1_1, rg_s1_2, rg_s1_3, rg_s1_4, rg_s7_0, rg_s9_0, rg_s9_1, rg_s9_2, rg_s9_3, rg_s9_4, rg_s9_5, rg_s16_6, rg_s16_7, rg_s16_0, rg_s16_1, rg_s16_2, rg_s16_3, rg_s16_4, rg_s16_5, sh_o, lq_o, sh_o1, lq_o1, sh_o2, lq_o2, sh_o3, lq_o3, sh_o4, lq_o4, sh_o5, lq_o5, sh_o6, lq_o6, rg_o0, rg_o1, rg_o2, rg_o3, rg_o4, rg_o5, ex5, Option.toList_some, Option.toList_none, List.cons_append, List.nil_append, true_and, and_true, nI_1, p_at, p_set, p_isIn, p_max, p_min, p_abs, hs, hC.1.1, nI_le (Nat.le_refl N) (by omega), if_true]
    · intro j hj ih
      rw [x68_4]
      simp only [x68_0, x68_1, x68_2, x68_3, x68_5, x68_6, x68_9, x68_12, x68_15, x68_16, x68_19, x68_22, x68_23, x68_26, x68_27, x68_30, x68_31, x68_32, x68_33, x68_36, x68_37, x68_38, x68_41, x68_44, x68_45, sh_s, lq_s, sh_s1, lq_s1, sh_s2, lq_s2, sh_s3, lq_s3, sh_s4, lq_s4, sh_s5, lq_s5, sh_s6, lq_s6, sh_s7, lq_s7, sh_s8, lq_s8, sh_s9, lq_s9, sh_s10, lq_s10, sh_s11, lq_s11, sh_s12, lq_s12, sh_s13, lq_s13, sh_s14, lq_s14, sh_s15, lq_s15, sh_s16, lq_s16, sh_s17, lq_s17, sh_s18, lq_s18, sh_s19, lq_s19, sh_s20, lq_s20, sh_s21, lq_s21, sh_s22, lq_s22, sh_s23, lq_s23, sh_s24, lq_s24, sh_s25, lq_s25, rg_s0_0, rg_s0_1, rg_s0_2, rg_s0_3, rg_s1_0, rg_s1_1, rg_s1_2, rg_s1_3, rg_s1_4, rg_s7_0, rg_s9_0, rg_s9_1, rg_s9_2, rg_s9_3, rg_s9_4, rg_s9_5, rg_s16_6, rg_s16_7, rg_s16_0, rg_s16_1, rg_s16_2, rg_s16_3, rg_s16_4, rg_s16_5, sh_o, lq_o, sh_o1, lq_o1, sh_o2, lq_o2, sh_o3, lq_o3, sh_o4, lq_o4, sh_o5, lq_o5, sh_o6, lq_o6, rg_o0, rg_o1, rg_o2, rg_o3, rg_o4, rg_o5, ex5, Option.toList_some, Option.toList_none, List.cons_append, List.nil_append, true_and, and_true, nI_1, p_at, p_set, p_isIn, p_max, p_min, p_abs, hs, hC.1.1, nI_ge hj (by omega), if_false, a_hat hB hC hj, c_needOf hB hC hW hj]
      have e : needV V (j + 1) h = needV V j h + (if V 1 j = h then vS V j 8 else 0) := rfl
      rw [e] at ih
      by_cases c : V 1 j = h
      · simp only [c, if_true] at ih ⊢; exact ih
      · simp only [c, if_false, Int32.add_zero] at ih ⊢; exact ih
  simp only [x68_0, x68_1, x68_2, x68_3, x68_5, x68_6, x68_9, x68_12, x68_15, x68_16, x68_19, x68_22, x68_23, x68_26, x68_27, x68_30, x68_31, x68_32, x68_33, x68_36, x68_37, x68_38, x68_41, x68_44, x68_45]
  exact key 0 (Nat.zero_le _)
theorem c_meanIn (hB : SB nw sp s2 ai s so) (hC : CR I s so N NS NH V) (hW : WV V N NS NH) : Em L xs 69 [.ref s, .int h] (179, I, Lm, RG nw sp s2 ai) r ↔ r = (some (.int (meanV V N h)), 179, I, Lm, RG nw sp s2 ai) := by
  have hN := hC.2.1.1; have hN2 := wd_le s; have hle := cnN_le V h N
  rw [em_69]
  obtain ⟨hs, ho, hq⟩ := id hB
  by_cases c : 0 < cnN V h N
  · simp only [x69_0, x69_1, x69_4, x69_5, x69_8, x69_9, x69_10, x69_13, x69_15, x69_16, x69_17, x69_20, x69_21, x69_22, x69_23, x69_26, x69_27, sh_s, lq_s, sh_s1, lq_s1, sh_s2, lq_s2, sh_s3, lq_s3, sh_s4, lq_s4, sh_s5, lq_s5, sh_s6, lq_s6, sh_s7, lq_s7, sh_s8, lq_s8, sh_s9, lq_s9, sh_s10, lq_s10, sh_s11, lq_s11, sh_s12, lq_s12, sh_s13, lq_s13, sh_s14, lq_s14, sh_s15, lq_s15, sh_s16, lq_s16, sh_s17, lq_s17, sh_s18, lq_s18, sh_s19, lq_s19, sh_s20, lq_s20, sh_s21, lq_s21, sh_s22, lq_s22, sh_s23, lq_s23, sh_s24, lq_s24, sh_s25, lq_s25, rg_s0_0, rg_s0_1, rg_s0_2, rg_s0_3, rg_s1_0, rg_s1_1, rg_s1_2, rg_s1_3, rg_s1_4, rg_s7_0, rg_s9_0, rg_s9_1, rg_s9_2, rg_s9_3, rg_s9_4, rg_s9_5, rg_s16_6, rg_s16_7, rg_s16_0, rg_s16_1, rg_s16_2, rg_s16_3, rg_s16_4, rg_s16_5, sh_o, lq_o, sh_o1, lq_o1, sh_o2, lq_o2, sh_o3, lq_o3, sh_o4, lq_o4, sh_o5, lq_o5, sh_o6, lq_o6, rg_o0, rg_o1, rg_o2, rg_o3, rg_o4, rg_o5, ex5, Option.toList_some, Option.toList_none, List.cons_append, List.nil_append, true_and, and_true, nI_1, p_at, p_set, p_isIn, p_max, p_min, p_abs, hs, c_countIn hB hC, c_sumIn hB hC hW, cnt_nI, meanV, c, if_true, show (nI (cnN V h N) ≤ 0) = False from eq_false (nI_nle c (by omega)), if_false, show (nI (cnN V h N) = 0) = False from eq_false (nI_ne0 c (by omega)), not_false_eq_true]
  · simp only [x69_0, x69_1, x69_4, x69_5, x69_8, x69_9, x69_10, x69_13, x69_15, x69_16, x69_17, x69_20, x69_21, x69_22, x69_23, x69_26, x69_27, sh_s, lq_s, sh_s1, lq_s1, sh_s2, lq_s2, sh_s3, lq_s3, sh_s4, lq_s4, sh_s5, lq_s5, sh_s6, lq_s6, sh_s7, lq_s7, sh_s8, lq_s8, sh_s9, lq_s9, sh_s10, lq_s10, sh_s11, lq_s11, sh_s12, lq_s12, sh_s13, lq_s13, sh_s14, lq_s14, sh_s15, lq_s15, sh_s16, lq_s16, sh_s17, lq_s17, sh_s18, lq_s18, sh_s19, lq_s19, sh_s20, lq_s20, sh_s21, lq_s21, sh_s22, lq_s22, sh_s23, lq_s23, sh_s24, lq_s24, sh_s25, lq_s25, rg_s0_0, rg_s0_1, rg_s0_2, rg_s0_3, rg_s1_0, rg_s1_1, rg_s1_2, rg_s1_3, rg_s1_4, rg_s7_0, rg_s9_0, rg_s9_1, rg_s9_2, rg_s9_3, rg_s9_4, rg_s9_5, rg_s16_6, rg_s16_7, rg_s16_0, rg_s16_1, rg_s16_2, rg_s16_3, rg_s16_4, rg_s16_5, sh_o, lq_o, sh_o1, lq_o1, sh_o2, lq_o2, sh_o3, lq_o3, sh_o4, lq_o4, sh_o5, lq_o5, sh_o6, lq_o6, rg_o0, rg_o1, rg_o2, rg_o3, rg_o4, rg_o5, ex5, Option.toList_some, Option.toList_none, List.cons_append, List.nil_append, true_and, and_true, nI_1, p_at, p_set, p_isIn, p_max, p_min, p_abs, hs, c_countIn hB hC, c_sumIn hB hC hW, cnt_nI, meanV, c, if_false, show (nI (cnN V h N) ≤ 0) = True from eq_true (by rw [show cnN V h N = 0 by omega]; decide), if_true]
theorem c_most (hB : SB nw sp s2 ai s so) (hC : CR I s so N NS NH V) (hp : p < N) : Em L xs 11 [.ref (s + 16), .int (nI p), .int h] (179, I, Lm, RG nw sp s2 ai) r ↔ r = (some (.int (mxV V p h N)), 179, I, Lm, RG nw sp s2 ai) := by
  have hN := hC.2.1.1; have hN2 := wd_le s
  rw [em_11]
  obtain ⟨hs, ho, hq⟩ := id hB
  have key : ∀ j, j ≤ N → (Ev L xs 1 11 5 [some (.ref (s + 16)), some (.int (nI p)), some (.int h), some (.int (mxV V p h j)), some (.int (nI j))] [] (179, I, Lm, RG nw sp s2 ai) r ↔ r = (some (.int (mxV V p h N)), 179, I, Lm, RG nw sp s2 ai)) := by
    refine up_ind ?_ ?_
    · rw [x11_5]
      simp only [x11_0, x11_1, x11_2, x11_3, x11_7, x11_8, x11_11, x11_14, x11_16, x11_17, x11_20, x11_21, x11_24, x11_26, x11_29, x11_30, x11_33, x11_34, x11_35, x11_38, x11_40, x11_43, x11_46, x11_47, x11_50, x11_53, x11_54, sh_s, lq_s, sh_s1, lq_s1, sh_s2, lq_s2, sh_s3, lq_s3, sh_s4, lq_s4, sh_s5, lq_s5, sh_s6, lq_s6, sh_s7, lq_s7, sh_s8, lq_s8, sh_s9, lq_s9, sh_s10, lq_s10, sh_s11, lq_s11, sh_s12, lq_s12, sh_s13, lq_s13, sh_s14, lq_s14, sh_s15, lq_s15, sh_s16, lq_s16, sh_s17, lq_s17, sh_s18, lq_s18, sh_s19, lq_s19, sh_s20, lq_s20, sh_s21, lq_s21, sh_s22, lq_s22, sh_s23, lq_s23, sh_s24, lq_s24, sh_s25, lq_s25, rg_s0_0, rg_s0_1, rg_s0_2, rg_s0_3, rg_s1_0, rg_s1_1, rg_s1_2, rg_s1_3, rg_s1_4, rg_s7_0, rg_s9_0, rg_s9_1, rg_s9_2, rg_s9_3, rg_s9_4, rg_s9_5, rg_s16_6, rg_s16_7, rg_s16_0, rg_s16_1, rg_s16_2, rg_s16_3, rg_s16_4, rg_s16_5, sh_o, lq_o, sh_o1, lq_o1, sh_o2, lq_o2, sh_o3, lq_o3, sh_o4, lq_o4, sh_o5, lq_o5, sh_o6, lq_o6, rg_o0, rg_o1, rg_o2, rg_o3, rg_o4, rg_o5, ex5, Option.toList_some, Option.toList_none, List.cons_append, List.nil_append, true_and, and_true, nI_1, p_at, p_set, p_isIn, p_max, p_min, p_abs, hs, hC.1.1, nI_le (Nat.le_refl N) (by omega), if_true]
    · intro j hj ih
      rw [x11_5]
      simp only [x11_0, x11_1, x11_2, x11_3, x11_7, x11_8, x11_11, x11_14, x11_16, x11_17, x11_20, x11_21, x11_24, x11_26, x11_29, x11_30, x11_33, x11_34, x11_35, x11_38, x11_40, x11_43, x11_46, x11_47, x11_50, x11_53, x11_54, sh_s, lq_s, sh_s1, lq_s1, sh_s2, lq_s2, sh_s3, lq_s3, sh_s4, lq_s4, sh_s5, lq_s5, sh_s6, lq_s6, sh_s7, lq_s7, sh_s8, lq_s8, sh_s9, lq_s9, sh_s10, lq_s10, sh_s11, lq_s11, sh_s12, lq_s12, sh_s13, lq_s13, sh_s14, lq_s14, sh_s15, lq_s15, sh_s16, lq_s16, sh_s17, lq_s17, sh_s18, lq_s18, sh_s19, lq_s19, sh_s20, lq_s20, sh_s21, lq_s21, sh_s22, lq_s22, sh_s23, lq_s23, sh_s24, lq_s24, sh_s25, lq_s25, rg_s0_0, rg_s0_1, rg_s0_2, rg_s0_3, rg_s1_0, rg_s1_1, rg_s1_2, rg_s1_3, rg_s1_4, rg_s7_0, rg_s9_0, rg_s9_1, rg_s9_2, rg_s9_3, rg_s9_4, rg_s9_5, rg_s16_6, rg_s16_7, rg_s16_0, rg_s16_1, rg_s16_2, rg_s16_3, rg_s16_4, rg_s16_5, sh_o, lq_o, sh_o1, lq_o1, sh_o2, lq_o2, sh_o3, lq_o3, sh_o4, lq_o4, sh_o5, lq_o5, sh_o6, lq_o6, rg_o0, rg_o1, rg_o2, rg_o3, rg_o4, rg_o5, ex5, Option.toList_some, Option.toList_none, List.cons_append, List.nil_append, true_and, and_true, nI_1, p_at, p_set, p_isIn, p_max, p_min, p_abs, hs, hC.1.1, nI_ge hj (by omega), if_false, a_hat hB hC hj, a_hrs hB hC hj, nI_eq (show j < 2 ^ 31 by omega) (show p < 2 ^ 31 by omega)]
      have e : mxV V p h (j + 1) = if j ≠ p ∧ V 1 j = h then maxI (mxV V p h j) (V 2 j) else mxV V p h j := rfl
      rw [e] at ih
      by_cases c : j = p
      · simp only [c, ne_eq, not_true_eq_false, false_and, if_false, if_true] at ih ⊢; exact ih
      · by_cases c2 : V 1 j = h
        · simp only [c, c2, ne_eq, not_false_eq_true, true_and, if_false, if_true, maxI] at ih ⊢; exact ih
        · simp only [c, c2, ne_eq, not_false_eq_true, true_and, if_false] at ih ⊢; exact ih
  simp only [x11_0, x11_1, x11_2, x11_3, x11_7, x11_8, x11_11, x11_14, x11_16, x11_17, x11_20, x11_21, x11_24, x11_26, x11_29, x11_30, x11_33, x11_34, x11_35, x11_38, x11_40, x11_43, x11_46, x11_47, x11_50, x11_53, x11_54]
  exact key 0 (Nat.zero_le _)
/-- spreadOf of a row of ints -/
theorem p_spreadOf {a m : Nat} (h : a < n) (h1 : (shp a).1 = 1) (hm : m ≤ 20) (h2 : m ≤ (shp a).2) : Em L xs 164 [.ref a, .int (nI m), .int x] (n, I, Lm, Rm) r ↔ r = (some (.int (spW m (sg (fun i => absI (nI m * I a i - x)) m))), n, I, Lm, Rm) := by
  have h3 := shp_small a
  rw [em_164]
  by_cases c : m = 0
  · subst c
    simp only [x164_0, x164_1, x164_2, x164_5, x164_6, x164_7, x164_8, x164_9, x164_10, x164_14, x164_15, x164_18, x164_20, x164_21, x164_22, x164_25, x164_26, x164_27, x164_28, x164_30, x164_31, x164_32, x164_33, x164_34, x164_37, x164_38, x164_39, x164_42, x164_45, x164_47, x164_48, x164_49, x164_50, x164_51, x164_52, x164_53, show ((1 : Int32) ≤ nI 0) = False from eq_false (by decide), if_false, spW, if_true]
  · have key : ∀ j, j ≤ m → (Ev L xs 1 164 12 [some (.ref a), some (.int (nI m)), some (.int x), some (.int (sg (fun i => absI (nI m * I a i - x)) j)), some (.int (nI j))] [] (n, I, Lm, Rm) r ↔ r = (some (.int (spW m (sg (fun i => absI (nI m * I a i - x)) m))), n, I, Lm, Rm)) := by
      refine up_ind ?_ ?_
      · rw [x164_12]
        have hmm : (nI m * nI m = 0) = False := eq_false (by rw [pk_mul]; exact nI_ne0 (Nat.mul_pos (by omega) (by omega)) (by have := Nat.mul_le_mul hm hm; omega))
        simp only [x164_0, x164_1, x164_2, x164_5, x164_6, x164_7, x164_8, x164_9, x164_10, x164_14, x164_15, x164_18, x164_20, x164_21, x164_22, x164_25, x164_26, x164_27, x164_28, x164_30, x164_31, x164_32, x164_33, x164_34, x164_37, x164_38, x164_39, x164_42, x164_45, x164_47, x164_48, x164_49, x164_50, x164_51, x164_52, x164_53, nI_le (Nat.le_refl m) (by omega), if_true, hmm, not_false_eq_true, true_and, spW, c, if_false]
      · intro j hj ih
        rw [x164_12]
        have hb : (inb (nI j) (shp a).2) = True := eq_true (inb_nI' (by omega) h3)
        have hlen : (Int32.ofNat (shp a).2 ≤ nI j) = False := eq_false (by rw [i_len h3, nI_toInt (by omega)]; omega)
        simp only [x164_0, x164_1, x164_2, x164_5, x164_6, x164_7, x164_8, x164_9, x164_10, x164_14, x164_15, x164_18, x164_20, x164_21, x164_22, x164_25, x164_26, x164_27, x164_28, x164_30, x164_31, x164_32, x164_33, x164_34, x164_37, x164_38, x164_39, x164_42, x164_45, x164_47, x164_48, x164_49, x164_50, x164_51, x164_52, x164_53, ex5, Option.toList_some, Option.toList_none, List.cons_append, List.nil_append, true_and, and_true, nI_1, p_at, p_set, p_isIn, p_max, p_min, p_abs, nI_ge hj (by omega), if_false, h, h1, hlen, hb, true_and, ixn_nI (show j < 2 ^ 31 by omega), ne_eq, Nat.one_ne_zero, not_false_eq_true]
        exact ih
    simp only [x164_0, x164_1, x164_2, x164_5, x164_6, x164_7, x164_8, x164_9, x164_10, x164_14, x164_15, x164_18, x164_20, x164_21, x164_22, x164_25, x164_26, x164_27, x164_28, x164_30, x164_31, x164_32, x164_33, x164_34, x164_37, x164_38, x164_39, x164_42, x164_45, x164_47, x164_48, x164_49, x164_50, x164_51, x164_52, x164_53, show ((1 : Int32) ≤ nI m) = True from eq_true (nI_le (a := 1) (by omega) (by omega)), if_true]
    exact key 0 (Nat.zero_le _)
end
