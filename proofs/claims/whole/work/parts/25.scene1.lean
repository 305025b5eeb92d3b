theorem up_ind {P : Nat → Prop} {N : Nat} (hN : P N) (hs : ∀ j, j < N → P (j + 1) → P j) : ∀ j, j ≤ N → P j := by
  have h : ∀ d j, j + d = N → P j := by
    intro d
    induction d with
    | zero => intro j hj; rw [show j = N by omega]; exact hN
    | succ d ih => intro j hj; exact hs j (by omega) (ih (j + 1) (by omega))
  exact fun j hj => h (N - j) j (by omega)
theorem i100 : ((100 : Int32) = 0) = False := by decide
section
variable {L : Nat} {xs : Nat → Int32} {σ : Mm} {r : Option Value × Mm} {I : Nat → Nat → Int32} {Lm : Nat → Nat → Int64} {s so N NS NH : Nat} {V : Vw} {nw sp s2 ai p : Nat} {x y h : Int32}
theorem p_slipOf : Em L xs 163 [.int x, .int y] σ r ↔ r = (some (.int (slipW x y)), σ) := by
  rw [em_163]
  simp only [x163_0, x163_1, x163_3, x163_4, x163_5, x163_6, x163_8, x163_9, i100, not_false_eq_true, true_and, slipW]
theorem c_earned (hB : SB nw sp s2 ai s so) (hC : CR I s so N NS NH V) (hW : WV V N NS NH) (hp : p < N) : Em L xs 64 [.ref s, .int (nI p)] (179, I, Lm, RG nw sp s2 ai) r ↔ r = (some (.int (earnV V p)), 179, I, Lm, RG nw sp s2 ai) := by
  have e1 := a_hrs hB hC hp; have e2 := a_srt hB hC hp; have e3 := a_bri hB hC (hW.1 p hp).1
  obtain ⟨hs, ho, hq⟩ := hB
  rw [em_64]
  simp only [x64_0, x64_1, x64_4, x64_7, x64_8, x64_11, x64_12, x64_15, x64_18, x64_19, x64_22, x64_25, x64_26, x64_29, x64_32, x64_33, sh_s, lq_s, sh_s1, lq_s1, sh_s2, lq_s2, sh_s3, lq_s3, sh_s4, lq_s4, sh_s5, lq_s5, sh_s6, lq_s6, sh_s7, lq_s7, sh_s8, lq_s8, sh_s9, lq_s9, sh_s10, lq_s10, sh_s11, lq_s11, sh_s12, lq_s12, sh_s13, lq_s13, sh_s14, lq_s14, sh_s15, lq_s15, sh_s16, lq_s16, sh_s17, lq_s17, sh_s18, lq_s18, sh_s19, lq_s19, sh_s20, lq_s20, sh_s21, lq_s21, sh_s22, lq_s22, sh_s23, lq_s23, sh_s24, lq_s24, sh_s25, lq_s25, rg_s0_0, rg_s0_1, rg_s0_2, rg_s0_3, rg_s1_0, rg_s1_1, rg_s1_2, rg_s1_3, rg_s1_4, rg_s7_0, rg_s9_0, rg_s9_1, rg_s9_2, rg_s9_3, rg_s9_4, rg_s9_5, rg_s16_6, rg_s16_7, rg_s16_0, rg_s16_1, rg_s16_2, rg_s16_3, rg_s16_4, rg_s16_5, sh_o, lq_o, sh_o1, lq_o1, sh_o2, lq_o2, sh_o3, lq_o3, sh_o4, lq_o4, sh_o5, lq_o5, sh_o6, lq_o6, rg_o0, rg_o1, rg_o2, rg_o3, rg_o4, rg_o5, ex5, Option.toList_some, Option.toList_none, List.cons_append, List.nil_append, true_and, and_true, nI_1, p_at, p_set, p_isIn, p_max, p_min, p_abs, hs, ho, hq, e1, e2, e3, earnV, vS]
theorem c_needOf (hB : SB nw sp s2 ai s so) (hC : CR I s so N NS NH V) (hW : WV V N NS NH) (hp : p < N) : Em L xs 65 [.ref s, .int (nI p)] (179, I, Lm, RG nw sp s2 ai) r ↔ r = (some (.int (vS V p 8)), 179, I, Lm, RG nw sp s2 ai) := by
  have e2 := a_srt hB hC hp; have e3 := a_nee hB hC (hW.1 p hp).1
  obtain ⟨hs, ho, hq⟩ := hB
  rw [em_65]
  simp only [x65_0, x65_1, x65_4, x65_7, x65_8, x65_11, x65_14, x65_15, x65_18, x65_21, sh_s, lq_s, sh_s1, lq_s1, sh_s2, lq_s2, sh_s3, lq_s3, sh_s4, lq_s4, sh_s5, lq_s5, sh_s6, lq_s6, sh_s7, lq_s7, sh_s8, lq_s8, sh_s9, lq_s9, sh_s10, lq_s10, sh_s11, lq_s11, sh_s12, lq_s12, sh_s13, lq_s13, sh_s14, lq_s14, sh_s15, lq_s15, sh_s16, lq_s16, sh_s17, lq_s17, sh_s18, lq_s18, sh_s19, lq_s19, sh_s20, lq_s20, sh_s21, lq_s21, sh_s22, lq_s22, sh_s23, lq_s23, sh_s24, lq_s24, sh_s25, lq_s25, rg_s0_0, rg_s0_1, rg_s0_2, rg_s0_3, rg_s1_0, rg_s1_1, rg_s1_2, rg_s1_3, rg_s1_4, rg_s7_0, rg_s9_0, rg_s9_1, rg_s9_2, rg_s9_3, rg_s9_4, rg_s9_5, rg_s16_6, rg_s16_7, rg_s16_0, rg_s16_1, rg_s16_2, rg_s16_3, rg_s16_4, rg_s16_5, sh_o, lq_o, sh_o1, lq_o1, sh_o2, lq_o2, sh_o3, lq_o3, sh_o4, lq_o4, sh_o5, lq_o5, sh_o6, lq_o6, rg_o0, rg_o1, rg_o2, rg_o3, rg_o4, rg_o5, ex5, Option.toList_some, Option.toList_none, List.cons_append, List.nil_append, true_and, and_true, nI_1, p_at, p_set, p_isIn, p_max, p_min, p_abs, hs, ho, hq, e2, e3, vS]
theorem c_slip (hB : SB nw sp s2 ai s so) (hC : CR I s so N NS NH V) (hW : WV V N NS NH) (hp : p < N) : Em L xs 66 [.ref s, .int (nI p)] (179, I, Lm, RG nw sp s2 ai) r ↔ r = (some (.int (slipV V p)), 179, I, Lm, RG nw sp s2 ai) := by
  have e1 := a_hat hB hC hp
  rw [em_66]
  rcases (hW.1 p hp).2.1 with h1 | h1
  · obtain ⟨hs, ho, hq⟩ := id hB
    simp only [x66_0, x66_1, x66_4, x66_7, x66_8, x66_11, x66_12, x66_13, x66_16, x66_17, x66_20, x66_21, x66_22, x66_25, x66_26, x66_29, x66_32, x66_33, x66_36, x66_39, sh_s, lq_s, sh_s1, lq_s1, sh_s2, lq_s2, sh_s3, lq_s3, sh_s4, lq_s4, sh_s5, lq_s5, sh_s6, lq_s6, sh_s7, lq_s7, sh_s8, lq_s8, sh_s9, lq_s9, sh_s10, lq_s10, sh_s11, lq_s11, sh_s12, lq_s12, sh_s13, lq_s13, sh_s14, lq_s14, sh_s15, lq_s15, sh_s16, lq_s16, sh_s17, lq_s17, sh_s18, lq_s18, sh_s19, lq_s19, sh_s20, lq_s20, sh_s21, lq_s21, sh_s22, lq_s22, sh_s23, lq_s23, sh_s24, lq_s24, sh_s25, lq_s25, rg_s0_0, rg_s0_1, rg_s0_2, rg_s0_3, rg_s1_0, rg_s1_1, rg_s1_2, rg_s1_3, rg_s1_4, rg_s7_0, rg_s9_0, rg_s9_1, rg_s9_2, rg_s9_3, rg_s9_4, rg_s9_5, rg_s16_6, rg_s16_7, rg_s16_0, rg_s16_1, rg_s16_2, rg_s16_3, rg_s16_4, rg_s16_5, sh_o, lq_o, sh_o1, lq_o1, sh_o2, lq_o2, sh_o3, lq_o3, sh_o4, lq_o4, sh_o5, lq_o5, sh_o6, lq_o6, rg_o0, rg_o1, rg_o2, rg_o3, rg_o4, rg_o5, ex5, Option.toList_some, Option.toList_none, List.cons_append, List.nil_append, true_and, and_true, nI_1, p_at, p_set, p_isIn, p_max, p_min, p_abs, hs, ho, hq, e1, slipV, h1, c_earned hB hC hW hp, show ¬ ((0 : Int32) ≤ -1) by decide, show ((-1 : Int32) < 0) by decide, if_true, if_false]
  · have e2 := a_kee hB hC h1
    have h2 : 0 ≤ V 1 p := Int32.le_iff_toInt_le.mpr h1.1
    obtain ⟨hs, ho, hq⟩ := id hB
    simp only [x66_0, x66_1, x66_4, x66_7, x66_8, x66_11, x66_12, x66_13, x66_16, x66_17, x66_20, x66_21, x66_22, x66_25, x66_26, x66_29, x66_32, x66_33, x66_36, x66_39, sh_s, lq_s, sh_s1, lq_s1, sh_s2, lq_s2, sh_s3, lq_s3, sh_s4, lq_s4, sh_s5, lq_s5, sh_s6, lq_s6, sh_s7, lq_s7, sh_s8, lq_s8, sh_s9, lq_s9, sh_s10, lq_s10, sh_s11, lq_s11, sh_s12, lq_s12, sh_s13, lq_s13, sh_s14, lq_s14, sh_s15, lq_s15, sh_s16, lq_s16, sh_s17, lq_s17, sh_s18, lq_s18, sh_s19, lq_s19, sh_s20, lq_s20, sh_s21, lq_s21, sh_s22, lq_s22, sh_s23, lq_s23, sh_s24, lq_s24, sh_s25, lq_s25, rg_s0_0, rg_s0_1, rg_s0_2, rg_s0_3, rg_s1_0, rg_s1_1, rg_s1_2, rg_s1_3, rg_s1_4, rg_s7_0, rg_s9_0, rg_s9_1, rg_s9_2, rg_s9_3, rg_s9_4, rg_s9_5, rg_s16_6, rg_s16_7, rg_s16_0, rg_s16_1, rg_s16_2, rg_s16_3, rg_s16_4, rg_s16_5, sh_o, lq_o, sh_o1, lq_o1, sh_o2, lq_o2, sh_o3, lq_o3, sh_o4, lq_o4, sh_o5, lq_o5, sh_o6, lq_o6, rg_o0, rg_o1, rg_o2, rg_o3, rg_o4, rg_o5, ex5, Option.toList_some, Option.toList_none, List.cons_append, List.nil_append, true_and, and_true, nI_1, p_at, p_set, p_isIn, p_max, p_min, p_abs, hs, ho, hq, e1, slipV, h2, Int32.not_lt.mpr h2, c_earned hB hC hW hp, e2, p_slipOf, if_true, if_false]
theorem c_countIn (hB : SB nw sp s2 ai s so) (hC : CR I s so N NS NH V) : Em L xs 10 [.ref (s + 16), .int h] (179, I, Lm, RG nw sp s2 ai) r ↔ r = (some (.int (cntV V N h)), 179, I, Lm, RG nw sp s2 ai) := by
  have hN := hC.2.1.1; have hN2 := wd_le s
  rw [em_10]
  obtain ⟨hs, ho, hq⟩ := id hB
  have key : ∀ j, j ≤ N → (Ev L xs 1 10 4 [some (.ref (s + 16)), some (.int h), some (.int (cntV V j h)), some (.int (nI j))] [] (179, I, Lm, RG nw sp s2 ai) r ↔ r = (some (.int (cntV V N h)), 179, I, Lm, RG nw sp s2 ai)) := by
    refine up_ind ?_ ?_
    · rw [x10_4]
      simp only [x10_0, x10_1, x10_2, x10_3, x10_5, x10_6, x10_9, x10_12, x10_13, x10_16, x10_17, x10_20, x10_21, x10_24, x10_27, x10_30, x10_33, x10_34, sh_s, lq_s, sh_s1, lq_s1, sh_s2, lq_s2, sh_s3, lq_s3, sh_s4, lq_s4, sh_s5, lq_s5, sh_s6, lq_s6, sh_s7, lq_s7, sh_s8, lq_s8, sh_s9, lq_s9, sh_s10, lq_s10, sh_s11, lq_s11, sh_s12, lq_s12, sh_s13, lq_s13, sh_s14, lq_s14, sh_s15, lq_s15, sh_s16, lq_s16, sh_s17, lq_s17, sh_s18, lq_s18, sh_s19, lq_s19, sh_s20, lq_s20, sh_s21, lq_s21, sh_s22, lq_s22, sh_s23, lq_s23, sh_s24, lq_s24, sh_s25, lq_s25, rg_s0_0, rg_s0_1, rg_s0_2, rg_s0_3, rg_s1_0, rg_s1_1, rg_s1_2, rg_s1_3, rg_s1_4, rg_s7_0, rg_s9_0, rg_s9_1, rg_s9_2, rg_s9_3, rg_s9_4, rg_s9_5, rg_s16_6, rg_s16_7, rg_s16_0, rg_s16_1, rg_s16_2, rg_s16_3, rg_s16_4, rg_s16_5, sh_o, lq_o, sh_o1, lq_o1, sh_o2, lq_o2, sh_o3, lq_o3, sh_o4, lq_o4, sh_o5, lq_o5, sh_o6, lq_o6, rg_o0, rg_o1, rg_o2, rg_o3, rg_o4, rg_o5, ex5, Option.toList_some, Option.toList_none, List.cons_append, List.nil_append, true_and, and_true, nI_1, p_at, p_set, p_isIn, p_max, p_min, p_abs, hs, hC.1.1, nI_le (Nat.le_refl N) (by omega), if_true]
    · intro j hj ih
      rw [x10_4]
      simp only [x10_0, x10_1, x10_2, x10_3, x10_5, x10_6, x10_9, x10_12, x10_13, x10_16, x10_17, x10_20, x10_21, x10_24, x10_27, x10_30, x10_33, x10_34, sh_s, lq_s, sh_s1, lq_s1, sh_s2, lq_s2, sh_s3, lq_s3, sh_s4, lq_s4, sh_s5, lq_s5, sh_s6, lq_s6, sh_s7, lq_s7, sh_s8, lq_s8, sh_s9, lq_s9, sh_s10, lq_s10, sh_s11, lq_s11, sh_s12, lq_s12, sh_s13, lq_s13, sh_s14, lq_s14, sh_s15, lq_s15, sh_s16, lq_s16, sh_s17, lq_s17, sh_s18, lq_s18, sh_s19, lq_s19, sh_s20, lq_s20, sh_s21, lq_s21, sh_s22, lq_s22, sh_s23, lq_s23, sh_s24, lq_s24, sh_s25, lq_s25, rg_s0_0, rg_s0_1, rg_s0_2, rg_s0_3, rg_s1_0, rg_s1_1, rg_s1_2, rg_s1_3, rg_s1_4, rg_s7_0, rg_s9_0, rg_s9_1, rg_s9_2, rg_s9_3, rg_s9_4, rg_s9_5, rg_s16_6, rg_s16_7, rg_s16_0, rg_s16_1, rg_s16_2, rg_s16_3, rg_s16_4, rg_s16_5, sh_o, lq_o, sh_o1, lq_o1, sh_o2, lq_o2, sh_o3, lq_o3, sh_o4, lq_o4, sh_o5, lq_o5, sh_o6, lq_o6, rg_o0, rg_o1, rg_o2, rg_o3, rg_o4, rg_o5, ex5, Option.toList_some, Option.toList_none, List.cons_append, List.nil_append, true_and, and_true, nI_1, p_at, p_set, p_isIn, p_max, p_min, p_abs, hs, hC.1.1, nI_ge hj (by omega), if_false, a_hat hB hC hj]
      have e : cntV V (j + 1) h = cntV V j h + (if V 1 j = h then 1 else 0) := rfl
      rw [e] at ih
      by_cases c : V 1 j = h
      · simp only [c, if_true] at ih ⊢; exact ih
      · simp only [c, if_false, Int32.add_zero] at ih ⊢; exact ih
  simp only [x10_0, x10_1, x10_2, x10_3, x10_5, x10_6, x10_9, x10_12, x10_13, x10_16, x10_17, x10_20, x10_21, x10_24, x10_27, x10_30, x10_33, x10_34]
  exact key 0 (Nat.zero_le _)
theorem c_sumIn (hB : SB nw sp s2 ai s so) (hC : CR I s so N NS NH V) (hW : WV V N NS NH) : Em L xs 67 [.ref s, .int h] (179, I, Lm, RG nw sp s2 ai) r ↔ r = (some (.int (sumV V N h)), 179, I, Lm, RG nw sp s2 ai) := by
  have hN := hC.2.1.1; have hN2 := wd_le s
  rw [em_67]
  obtain ⟨hs, ho, hq⟩ := id hB
  have key : ∀ j, j ≤ N → (Ev L xs 3 67 4 [some (.ref s), some (.int h), some (.int (sumV V j h)), some (.int (nI j))] [] (179, I, Lm, RG nw sp s2 ai) r ↔ r = (some (.int (sumV V N h)), 179, I, Lm, RG nw sp s2 ai)) := by
    refine up_ind ?_ ?_
    · rw [x67_4]
      simp only [x67_0, x67_1, x67_2, x67_3, x67_5, x67_6, x67_9, x67_12, x67_15, x67_16, x67_19, x67_22, x67_23, x67_26, x67_27, x67_30, x67_31, x67_32, x67_33, x67_36, x67_37, x67_38, x67_41, x67_44, x67_45, sh_s, lq_s, sh_s1, lq_s1, sh_s2, lq_s2, sh_s3, lq_s3, sh_s4, lq_s4, sh_s5, lq_s5, sh_s6, lq_s6, sh_s7, lq_s7, sh_s8, lq_s8, sh_s9, lq_s9, sh_s10, lq_s10, sh_s11, lq_s11, sh_s12, lq_s12, sh_s13, lq_s13, sh_s14, lq_s14, sh_s15, lq_s15, sh_s16, lq_s16, sh_s17, lq_s17, sh_s18, lq_s18, sh_s19, lq_s19, sh_s20, lq_s20, sh_s21, lq_s21, sh_s22, lq_s22, sh_s23, lq_s23, sh_s24, lq_s24, sh_s25, lq_s25, rg_s0_0, rg_s0_1, rg_s0_2, rg_s0_3, rg_s1_0, rg_s1_1, rg_s1_2, rg_s1_3, rg_s1_4, rg_s7_0, rg_s9_0, rg_s9_1, rg_s9_2, rg_s9_3, rg_s9_4, rg_s9_5, rg_s16_6, rg_s16_7, rg_s16_0, rg_s16_1, rg_s16_2, rg_s16_3, rg_s16_4, rg_s16_5, sh_o, lq_o, sh_o1, lq_o1, sh_o2, lq_o2, sh_o3, lq_o3, sh_o4, lq_o4, sh_o5, lq_o5, sh_o6, lq_o6, rg_o0, rg_o1, rg_o2, rg_o3, rg_o4, rg_o5, ex5, Option.toList_some, Option.toList_none, List.cons_append, List.nil_append, true_and, and_true, nI_1, p_at, p_set, p_isIn, p_max, p_min, p_abs, hs, hC.1.1, nI_le (Nat.le_refl N) (by omega), if_true]
    · intro j hj ih
      rw [x67_4]
      simp only [x67_0, x67_1, x67_2, x67_3, x67_5, x67_6, x67_9, x67_12, x67_15, x67_16, x67_19, x67_22, x67_23, x67_26, x67_27, x67_30, x67_31, x67_32, x67_33, x67_36, x67_37, x67_38, x67_41, x67_44, x67_45, sh_s, lq_s, sh_s1, lq_s1, sh_s2, lq_s2, sh_s3, lq_s3, sh_s4, lq_s4, sh_s5, lq_s5, sh_s6, lq_s6, sh_s7, lq_s7, sh_s8, lq_s8, sh_s9, lq_s9, sh_s10, lq_s10, sh_s11, lq_s11, sh_s12, lq_s12, sh_s13, lq_s13, sh_s14, lq_s14, sh_s15, lq_s15, sh_s16, lq_s16, sh_s17, lq_s17, sh_s18, lq_s18, sh_s19, lq_s19, sh_s20, lq_s20, sh_s21, lq_s21, sh_s22, lq_s22, sh_s23, lq_s23, sh_s24, lq_s24, sh_s25, lq_s25, rg_s0_0, rg_s0_1, rg_s0_2, rg_s0_3, rg_s1_0, rg_s1_1, rg_s1_2, rg_s1_3, rg_s1_4, rg_s7_0, rg_s9_0, rg_s9_1, rg_s9_2, rg_s9_3, rg_s9_4, rg_s9_5, rg_s16_6, rg_s16_7, rg_s16_0, rg_s16_1, rg_s16_2, rg_s16_3, rg_s16_4, rg_s16_5, sh_o, lq_o, sh_o1, lq_o1, sh_o2, lq_o2, sh_o3, lq_o3, sh_o4, lq_o4, sh_o5, lq_o5, sh_o6, lq_o6, rg_o0, rg_o1, rg_o2, rg_o3, rg_o4, rg_o5, ex5, Option.toList_some, Option.toList_none, List.cons_append, List.nil_append, true_and, and_true, nI_1, p_at, p_set, p_isIn, p_max, p_min, p_abs, hs, hC.1.1, nI_ge hj (by omega), if_false, a_hat hB hC hj, c_slip hB hC hW hj]
      have e : sumV V (j + 1) h = sumV V j h + (if V 1 j = h then slipV V j else 0) := rfl
      rw [e] at ih
      by_cases c : V 1 j = h
      · simp only [c, if_true] at ih ⊢; exact ih
      · simp only [c, if_false, Int32.add_zero] at ih ⊢; exact ih
  simp only [x67_0, x67_1, x67_2, x67_3, x67_5, x67_6, x67_9, x67_12, x67_15, x67_16, x67_19, x67_22, x67_23, x67_26, x67_27, x67_30, x67_31, x67_32, x67_33, x67_36, x67_37, x67_38, x67_41, x67_44, x67_45]
  exact key 0 (Nat.zero_le _)
end
