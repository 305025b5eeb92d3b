/-! till it rests: sixty rounds, rings left out -/
section
variable {L : Nat} {xs : Nat → Int32} {σ : Mm} {I J J0 : Nat → Nat → Int32} {Lm : Nat → Nat → Int64} {Rm : Nat → Nat → Nat} {n s so N NS NH m M : Nat} {V : Vw} {nw sp s2 ai p : Nat} {x y h b t e w v : Int32}
theorem wd_2 (hs : Sc s) : wd s = 20 ∨ wd s = 12 := by rcases hs with rfl | rfl | rfl <;> decide
theorem tr_lt (hs : Sc s) {row p : Nat} (hr : row < 60) (hp : p < wd s) : row * wd s + p < (shp (s + 25)).2 := by
  rw [sh_s25 hs]
  show row * wd s + p < 60 * wd s
  rcases wd_2 hs with e | e <;> rw [e] at hp ⊢ <;> omega
theorem c_noteTrail (hB : SB nw sp s2 ai s so) (hC : CR I s so N NS NH V) (hD : I s 4 = nI (wd s)) {row : Nat} (hr : row < 60) : ∃ J, (∀ r, Em L xs 80 [.ref s, .int (nI row)] (179, I, Lm, RG nw sp s2 ai) r ↔ r = (none, 179, J, Lm, RG nw sp s2 ai)) ∧ (∀ p, p ≠ s + 25 → J p = I p) ∧ (∀ i, i < row * wd s → J (s + 25) i = I (s + 25) i) ∧ (∀ k, k < N → J (s + 25) (row * wd s + k) = V 2 k) := by
  have hN := hC.2.1.1; have hN2 := wd_le s
  obtain ⟨hs, ho, hq⟩ := id hB
  have key : ∀ j, j ≤ N → ∀ J, (∀ p, p ≠ s + 25 → J p = I p) → (∀ i, i < row * wd s → J (s + 25) i = I (s + 25) i) → (∀ k, k < j → J (s + 25) (row * wd s + k) = V 2 k) → ∃ J', (∀ r, Ev L xs 1 80 2 [some (.ref s), some (.int (nI row)), some (.int (nI j))] [] (179, J, Lm, RG nw sp s2 ai) r ↔ r = (none, 179, J', Lm, RG nw sp s2 ai)) ∧ (∀ p, p ≠ s + 25 → J' p = I p) ∧ (∀ i, i < row * wd s → J' (s + 25) i = I (s + 25) i) ∧ (∀ k, k < N → J' (s + 25) (row * wd s + k) = V 2 k) := by
    refine up_ind ?_ ?_
    · intro J h1 h2 h3
      refine ⟨J, fun r => ?_, h1, h2, h3⟩
      have hc : J (s + 16) 8 = nI N := by rw [h1 _ (by omega)]; exact hC.1.1
      rw [x80_2]
      simp only [x80_0, x80_1, x80_3, x80_4, x80_7, x80_10, x80_13, x80_14, x80_17, x80_18, x80_19, x80_22, x80_23, x80_24, x80_25, x80_26, x80_29, x80_32, x80_33, x80_36, x80_39, x80_42, x80_45, sh_s, lq_s, sh_s1, lq_s1, sh_s2, lq_s2, sh_s3, lq_s3, sh_s4, lq_s4, sh_s5, lq_s5, sh_s6, lq_s6, sh_s7, lq_s7, sh_s8, lq_s8, sh_s9, lq_s9, sh_s10, lq_s10, sh_s11, lq_s11, sh_s12, lq_s12, sh_s13, lq_s13, sh_s14, lq_s14, sh_s15, lq_s15, sh_s16, lq_s16, sh_s17, lq_s17, sh_s18, lq_s18, sh_s19, lq_s19, sh_s20, lq_s20, sh_s21, lq_s21, sh_s22, lq_s22, sh_s23, lq_s23, sh_s24, lq_s24, sh_s25, lq_s25, rg_s0_0, rg_s0_1, rg_s0_2, rg_s0_3, rg_s1_0, rg_s1_1, rg_s1_2, rg_s1_3, rg_s1_4, rg_s7_0, rg_s9_0, rg_s9_1, rg_s9_2, rg_s9_3, rg_s9_4, rg_s9_5, rg_s16_6, rg_s16_7, rg_s16_0, rg_s16_1, rg_s16_2, rg_s16_3, rg_s16_4, rg_s16_5, sh_o, lq_o, sh_o1, lq_o1, sh_o2, lq_o2, sh_o3, lq_o3, sh_o4, lq_o4, sh_o5, lq_o5, sh_o6, lq_o6, rg_o0, rg_o1, rg_o2, rg_o3, rg_o4, rg_o5, ex5, Option.toList_some, Option.toList_none, List.cons_append, List.nil_append, true_and, and_true, nI_1, p_at, p_set, p_isIn, p_max, p_min, p_abs, hs, hc, nI_le (Nat.le_refl N) (by omega), if_true]
    · intro j hj ih J h1 h2 h3
      have hc : J (s + 16) 8 = nI N := by rw [h1 _ (by omega)]; exact hC.1.1
      have hd : J s 4 = nI (wd s) := by rw [h1 _ (by omega)]; exact hD
      have hh : atv J (s + 22) (nI j) = V 2 j := by
        have e : atv J (s + 22) (nI j) = atv I (s + 22) (nI j) := by unfold atv; rw [h1 _ (by omega)]
        rw [e]; exact a_hrs hB hC hj
      have hlt := tr_lt hs hr (show j < wd s by omega)
      have hst : setv J (s + 25) (nI (row * wd s + j)) (V 2 j) = up2 J (s + 25) (row * wd s + j) (V 2 j) := setv_lt hlt
      obtain ⟨J', g1, g2⟩ := ih (up2 J (s + 25) (row * wd s + j) (V 2 j)) (fun p hp => by rw [← h1 p hp]; exact funext fun k => up2_p hp) (fun i hi => by rw [up2_k (by omega)]; exact h2 i hi) (fun k hk => by
        by_cases c : k = j
        · rw [c, up2_eq]
        · rw [up2_k (by omega)]; exact h3 k (by omega))
      refine ⟨J', fun r => ?_, g2⟩
      rw [x80_2]
      simp only [x80_0, x80_1, x80_3, x80_4, x80_7, x80_10, x80_13, x80_14, x80_17, x80_18, x80_19, x80_22, x80_23, x80_24, x80_25, x80_26, x80_29, x80_32, x80_33, x80_36, x80_39, x80_42, x80_45, sh_s, lq_s, sh_s1, lq_s1, sh_s2, lq_s2, sh_s3, lq_s3, sh_s4, lq_s4, sh_s5, lq_s5, sh_s6, lq_s6, sh_s7, lq_s7, sh_s8, lq_s8, sh_s9, lq_s9, sh_s10, lq_s10, sh_s11, lq_s11, sh_s12, lq_s12, sh_s13, lq_s13, sh_s14, lq_s14, sh_s15, lq_s15, sh_s16, lq_s16, sh_s17, lq_s17, sh_s18, lq_s18, sh_s19, lq_s19, sh_s20, lq_s20, sh_s21, lq_s21, sh_s22, lq_s22, sh_s23, lq_s23, sh_s24, lq_s24, sh_s25, lq_s25, rg_s0_0, rg_s0_1, rg_s0_2, rg_s0_3, rg_s1_0, rg_s1_1, rg_s1_2, rg_s1_3, rg_s1_4, rg_s7_0, rg_s9_0, rg_s9_1, rg_s9_2, rg_s9_3, rg_s9_4, rg_s9_5, rg_s16_6, rg_s16_7, rg_s16_0, rg_s16_1, rg_s16_2, rg_s16_3, rg_s16_4, rg_s16_5, sh_o, lq_o, sh_o1, lq_o1, sh_o2, lq_o2, sh_o3, lq_o3, sh_o4, lq_o4, sh_o5, lq_o5, sh_o6, lq_o6, rg_o0, rg_o1, rg_o2, rg_o3, rg_o4, rg_o5, ex5, Option.toList_some, Option.toList_none, List.cons_append, List.nil_append, true_and, and_true, nI_1, p_at, p_set, p_isIn, p_max, p_min, p_abs, hs, hc, hd, nI_ge hj (by omega), if_false, hh, pk_mul, nI_add, hst]
      exact g1 r
  obtain ⟨J', h1, h2⟩ := key 0 (Nat.zero_le _) I (fun _ _ => rfl) (fun _ _ => rfl) (fun k hk => absurd hk (Nat.not_lt_zero k))
  refine ⟨J', fun r => ?_, h2⟩
  rw [em_80]
  simp only [x80_0, x80_1, x80_3, x80_4, x80_7, x80_10, x80_13, x80_14, x80_17, x80_18, x80_19, x80_22, x80_23, x80_24, x80_25, x80_26, x80_29, x80_32, x80_33, x80_36, x80_39, x80_42, x80_45]
  exact h1 r
theorem c_isOnTrail (hB : SB nw sp s2 ai s so) (hC : CR I s so N NS NH V) (hD : I s 4 = nI (wd s)) {row : Nat} (hr : row < 60) : ∃ v : Int32, (∀ r, Em L xs 82 [.ref s, .int (nI row)] (179, I, Lm, RG nw sp s2 ai) r ↔ r = (some (.int v), 179, I, Lm, RG nw sp s2 ai)) ∧ ((v = 1 ∧ ∀ p, p < N → I (s + 25) (row * wd s + p) = V 2 p) ∨ v = 0) := by
  have hN := hC.2.1.1; have hN2 := wd_le s
  obtain ⟨hs, ho, hq⟩ := id hB
  have key : ∀ j, j ≤ N → (∀ p, p < j → I (s + 25) (row * wd s + p) = V 2 p) → ∃ v : Int32, (∀ r, Ev L xs 1 82 2 [some (.ref s), some (.int (nI row)), some (.int (nI j))] [] (179, I, Lm, RG nw sp s2 ai) r ↔ r = (some (.int v), 179, I, Lm, RG nw sp s2 ai)) ∧ ((v = 1 ∧ ∀ p, p < N → I (s + 25) (row * wd s + p) = V 2 p) ∨ v = 0) := by
    refine up_ind ?_ ?_
    · intro h1
      refine ⟨1, fun r => ?_, Or.inl ⟨rfl, h1⟩⟩
      rw [x82_2]
      simp only [x82_0, x82_1, x82_3, x82_4, x82_7, x82_10, x82_13, x82_14, x82_17, x82_18, x82_19, x82_22, x82_23, x82_24, x82_25, x82_28, x82_29, x82_32, x82_35, x82_36, x82_39, x82_42, x82_43, x82_44, x82_47, x82_50, x82_51, sh_s, lq_s, sh_s1, lq_s1, sh_s2, lq_s2, sh_s3, lq_s3, sh_s4, lq_s4, sh_s5, lq_s5, sh_s6, lq_s6, sh_s7, lq_s7, sh_s8, lq_s8, sh_s9, lq_s9, sh_s10, lq_s10, sh_s11, lq_s11, sh_s12, lq_s12, sh_s13, lq_s13, sh_s14, lq_s14, sh_s15, lq_s15, sh_s16, lq_s16, sh_s17, lq_s17, sh_s18, lq_s18, sh_s19, lq_s19, sh_s20, lq_s20, sh_s21, lq_s21, sh_s22, lq_s22, sh_s23, lq_s23, sh_s24, lq_s24, sh_s25, lq_s25, rg_s0_0, rg_s0_1, rg_s0_2, rg_s0_3, rg_s1_0, rg_s1_1, rg_s1_2, rg_s1_3, rg_s1_4, rg_s7_0, rg_s9_0, rg_s9_1, rg_s9_2, rg_s9_3, rg_s9_4, rg_s9_5, rg_s16_6, rg_s16_7, rg_s16_0, rg_s16_1, rg_s16_2, rg_s16_3, rg_s16_4, rg_s16_5, sh_o, lq_o, sh_o1, lq_o1, sh_o2, lq_o2, sh_o3, lq_o3, sh_o4, lq_o4, sh_o5, lq_o5, sh_o6, lq_o6, rg_o0, rg_o1, rg_o2, rg_o3, rg_o4, rg_o5, ex5, Option.toList_some, Option.toList_none, List.cons_append, List.nil_append, true_and, and_true, nI_1, p_at, p_set, p_isIn, p_max, p_min, p_abs, hs, hC.1.1, nI_le (Nat.le_refl N) (by omega), if_true, or_true]
    · intro j hj ih h1
      have hlt := tr_lt hs hr (show j < wd s by omega)
      have ha : atv I (s + 25) (nI (row * wd s + j)) = I (s + 25) (row * wd s + j) := atv_lt hlt
      by_cases c : I (s + 25) (row * wd s + j) = V 2 j
      · obtain ⟨v, g1, g2⟩ := ih (fun p hp => by
          by_cases d : p = j
          · rw [d]; exact c
          · exact h1 p (by omega))
        refine ⟨v, fun r => ?_, g2⟩
        rw [x82_2]
        simp only [x82_0, x82_1, x82_3, x82_4, x82_7, x82_10, x82_13, x82_14, x82_17, x82_18, x82_19, x82_22, x82_23, x82_24, x82_25, x82_28, x82_29, x82_32, x82_35, x82_36, x82_39, x82_42, x82_43, x82_44, x82_47, x82_50, x82_51, sh_s, lq_s, sh_s1, lq_s1, sh_s2, lq_s2, sh_s3, lq_s3, sh_s4, lq_s4, sh_s5, lq_s5, sh_s6, lq_s6, sh_s7, lq_s7, sh_s8, lq_s8, sh_s9, lq_s9, sh_s10, lq_s10, sh_s11, lq_s11, sh_s12, lq_s12, sh_s13, lq_s13, sh_s14, lq_s14, sh_s15, lq_s15, sh_s16, lq_s16, sh_s17, lq_s17, sh_s18, lq_s18, sh_s19, lq_s19, sh_s20, lq_s20, sh_s21, lq_s21, sh_s22, lq_s22, sh_s23, lq_s23, sh_s24, lq_s24, sh_s25, lq_s25, rg_s0_0, rg_s0_1, rg_s0_2, rg_s0_3, rg_s1_0, rg_s1_1, rg_s1_2, rg_s1_3, rg_s1_4, rg_s7_0, rg_s9_0, rg_s9_1, rg_s9_2, rg_s9_3, rg_s9_4, rg_s9_5, rg_s16_6, rg_s16_7, rg_s16_0, rg_s16_1, rg_s16_2, rg_s16_3, rg_s16_4, rg_s16_5, sh_o, lq_o, sh_o1, lq_o1, sh_o2, lq_o2, sh_o3, lq_o3, sh_o4, lq_o4, sh_o5, lq_o5, sh_o6, lq_o6, rg_o0, rg_o1, rg_o2, rg_o3, rg_o4, rg_o5, ex5, Option.toList_some, Option.toList_none, List.cons_append, List.nil_append, true_and, and_true, nI_1, p_at, p_set, p_isIn, p_max, p_min, p_abs, hs, hC.1.1, hD, nI_ge hj (by omega), if_false, pk_mul, nI_add, ha, a_hrs hB hC hj, c, if_true]
        exact g1 r
      · refine ⟨0, fun r => ?_, Or.inr rfl⟩
        rw [x82_2]
        simp only [x82_0, x82_1, x82_3, x82_4, x82_7, x82_10, x82_13, x82_14, x82_17, x82_18, x82_19, x82_22, x82_23, x82_24, x82_25, x82_28, x82_29, x82_32, x82_35, x82_36, x82_39, x82_42, x82_43, x82_44, x82_47, x82_50, x82_51, sh_s, lq_s, sh_s1, lq_s1, sh_s2, lq_s2, sh_s3, lq_s3, sh_s4, lq_s4, sh_s5, lq_s5, sh_s6, lq_s6, sh_s7, lq_s7, sh_s8, lq_s8, sh_s9, lq_s9, sh_s10, lq_s10, sh_s11, lq_s11, sh_s12, lq_s12, sh_s13, lq_s13, sh_s14, lq_s14, sh_s15, lq_s15, sh_s16, lq_s16, sh_s17, lq_s17, sh_s18, lq_s18, sh_s19, lq_s19, sh_s20, lq_s20, sh_s21, lq_s21, sh_s22, lq_s22, sh_s23, lq_s23, sh_s24, lq_s24, sh_s25, lq_s25, rg_s0_0, rg_s0_1, rg_s0_2, rg_s0_3, rg_s1_0, rg_s1_1, rg_s1_2, rg_s1_3, rg_s1_4, rg_s7_0, rg_s9_0, rg_s9_1, rg_s9_2, rg_s9_3, rg_s9_4, rg_s9_5, rg_s16_6, rg_s16_7, rg_s16_0, rg_s16_1, rg_s16_2, rg_s16_3, rg_s16_4, rg_s16_5, sh_o, lq_o, sh_o1, lq_o1, sh_o2, lq_o2, sh_o3, lq_o3, sh_o4, lq_o4, sh_o5, lq_o5, sh_o6, lq_o6, rg_o0, rg_o1, rg_o2, rg_o3, rg_o4, rg_o5, ex5, Option.toList_some, Option.toList_none, List.cons_append, List.nil_append, true_and, and_true, nI_1, p_at, p_set, p_isIn, p_max, p_min, p_abs, hs, hC.1.1, hD, nI_ge hj (by omega), if_false, pk_mul, nI_add, ha, a_hrs hB hC hj, c, true_or]
  obtain ⟨v, h1, h2⟩ := key 0 (Nat.zero_le _) (fun k hk => absurd hk (Nat.not_lt_zero k))
  refine ⟨v, fun r => ?_, h2⟩
  rw [em_82]
  simp only [x82_0, x82_1, x82_3, x82_4, x82_7, x82_10, x82_13, x82_14, x82_17, x82_18, x82_19, x82_22, x82_23, x82_24, x82_25, x82_28, x82_29, x82_32, x82_35, x82_36, x82_39, x82_42, x82_43, x82_44, x82_47, x82_50, x82_51]
  exact h1 r
theorem c_firstOfTrail (hB : SB nw sp s2 ai s so) (hC : CR I s so N NS NH V) (hD : I s 4 = nI (wd s)) {rows : Nat} (hr : rows ≤ 60) : ∃ v : Int32, (∀ r, Em L xs 81 [.ref s, .int (nI rows)] (179, I, Lm, RG nw sp s2 ai) r ↔ r = (some (.int v), 179, I, Lm, RG nw sp s2 ai)) ∧ (v = -1 ∨ ∃ q, q < rows ∧ v = nI q ∧ ∀ p, p < N → I (s + 25) (q * wd s + p) = V 2 p) := by
  obtain ⟨hs, ho, hq⟩ := id hB
  have key : ∀ j, j ≤ rows → ∃ v : Int32, (∀ r, Ev L xs 2 81 2 [some (.ref s), some (.int (nI rows)), some (.int (nI j))] [] (179, I, Lm, RG nw sp s2 ai) r ↔ r = (some (.int v), 179, I, Lm, RG nw sp s2 ai)) ∧ (v = -1 ∨ ∃ q, q < rows ∧ v = nI q ∧ ∀ p, p < N → I (s + 25) (q * wd s + p) = V 2 p) := by
    refine up_ind ?_ ?_
    · refine ⟨-1, fun r => ?_, Or.inl rfl⟩
      rw [x81_2]
      simp only [x81_0, x81_1, x81_3, x81_4, x81_7, x81_8, x81_9, x81_12, x81_15, x81_16, x81_17, x81_20, x81_23, x81_24, ex5, Option.toList_some, Option.toList_none, List.cons_append, List.nil_append, true_and, and_true, nI_1, p_at, p_set, p_isIn, p_max, p_min, p_abs, nI_le (Nat.le_refl rows) (by omega), if_true]
    · intro j hj ih
      obtain ⟨v, g1, g2⟩ := c_isOnTrail (L := L) (xs := xs) (Lm := Lm) hB hC hD (show j < 60 by omega)
      rcases g2 with ⟨rfl, g2⟩ | rfl
      · refine ⟨nI j, fun r => ?_, Or.inr ⟨j, hj, rfl, g2⟩⟩
        rw [x81_2]
        simp only [x81_0, x81_1, x81_3, x81_4, x81_7, x81_8, x81_9, x81_12, x81_15, x81_16, x81_17, x81_20, x81_23, x81_24, sh_s, lq_s, sh_s1, lq_s1, sh_s2, lq_s2, sh_s3, lq_s3, sh_s4, lq_s4, sh_s5, lq_s5, sh_s6, lq_s6, sh_s7, lq_s7, sh_s8, lq_s8, sh_s9, lq_s9, sh_s10, lq_s10, sh_s11, lq_s11, sh_s12, lq_s12, sh_s13, lq_s13, sh_s14, lq_s14, sh_s15, lq_s15, sh_s16, lq_s16, sh_s17, lq_s17, sh_s18, lq_s18, sh_s19, lq_s19, sh_s20, lq_s20, sh_s21, lq_s21, sh_s22, lq_s22, sh_s23, lq_s23, sh_s24, lq_s24, sh_s25, lq_s25, rg_s0_0, rg_s0_1, rg_s0_2, rg_s0_3, rg_s1_0, rg_s1_1, rg_s1_2, rg_s1_3, rg_s1_4, rg_s7_0, rg_s9_0, rg_s9_1, rg_s9_2, rg_s9_3, rg_s9_4, rg_s9_5, rg_s16_6, rg_s16_7, rg_s16_0, rg_s16_1, rg_s16_2, rg_s16_3, rg_s16_4, rg_s16_5, sh_o, lq_o, sh_o1, lq_o1, sh_o2, lq_o2, sh_o3, lq_o3, sh_o4, lq_o4, sh_o5, lq_o5, sh_o6, lq_o6, rg_o0, rg_o1, rg_o2, rg_o3, rg_o4, rg_o5, ex5, Option.toList_some, Option.toList_none, List.cons_append, List.nil_append, true_and, and_true, nI_1, p_at, p_set, p_isIn, p_max, p_min, p_abs, hs, nI_ge hj (by omega), if_false, g1, one_ne]
      · obtain ⟨v, k1, k2⟩ := ih
        refine ⟨v, fun r => ?_, k2⟩
        rw [x81_2]
        simp only [x81_0, x81_1, x81_3, x81_4, x81_7, x81_8, x81_9, x81_12, x81_15, x81_16, x81_17, x81_20, x81_23, x81_24, sh_s, lq_s, sh_s1, lq_s1, sh_s2, lq_s2, sh_s3, lq_s3, sh_s4, lq_s4, sh_s5, lq_s5, sh_s6, lq_s6, sh_s7, lq_s7, sh_s8, lq_s8, sh_s9, lq_s9, sh_s10, lq_s10, sh_s11, lq_s11, sh_s12, lq_s12, sh_s13, lq_s13, sh_s14, lq_s14, sh_s15, lq_s15, sh_s16, lq_s16, sh_s17, lq_s17, sh_s18, lq_s18, sh_s19, lq_s19, sh_s20, lq_s20, sh_s21, lq_s21, sh_s22, lq_s22, sh_s23, lq_s23, sh_s24, lq_s24, sh_s25, lq_s25, rg_s0_0, rg_s0_1, rg_s0_2, rg_s0_3, rg_s1_0, rg_s1_1, rg_s1_2, rg_s1_3, rg_s1_4, rg_s7_0, rg_s9_0, rg_s9_1, rg_s9_2, rg_s9_3, rg_s9_4, rg_s9_5, rg_s16_6, rg_s16_7, rg_s16_0, rg_s16_1, rg_s16_2, rg_s16_3, rg_s16_4, rg_s16_5, sh_o, lq_o, sh_o1, lq_o1, sh_o2, lq_o2, sh_o3, lq_o3, sh_o4, lq_o4, sh_o5, lq_o5, sh_o6, lq_o6, rg_o0, rg_o1, rg_o2, rg_o3, rg_o4, rg_o5, ex5, Option.toList_some, Option.toList_none, List.cons_append, List.nil_append, true_and, and_true, nI_1, p_at, p_set, p_isIn, p_max, p_min, p_abs, hs, nI_ge hj (by omega), if_false, g1, if_true]
        exact k1 r
  obtain ⟨v, h1, h2⟩ := key 0 (Nat.zero_le _)
  refine ⟨v, fun r => ?_, h2⟩
  rw [em_81]
  simp only [x81_0, x81_1, x81_3, x81_4, x81_7, x81_8, x81_9, x81_12, x81_15, x81_16, x81_17, x81_20, x81_23, x81_24]
  exact h1 r
theorem c_settle (hB : SB nw sp s2 ai s so) (hC : CR I s so N NS NH V) (hW : WV V N NS NH) (hM : I s 6 = nI M) (hM2 : M ≤ 60) (hD : I s 4 = nI (wd s)) : ∃ J, (∀ r, Em L xs 79 [.ref s] (179, I, Lm, RG nw sp s2 ai) r ↔ r = (none, 179, J, Lm, RG nw sp s2 ai)) ∧ CR J s so N NS NH (itV N M V 60) ∧ Fq s I J := by
  have hN := hC.2.1.1; have hN2 := wd_le s
  obtain ⟨hs, ho, hq⟩ := id hB
  have h60 : (60 : Int32) = nI 60 := rfl
  have key : ∀ d, d ≤ 60 → ∀ l J w, d ≤ l → l ≤ 60 → itV N M V l = itV N M V 60 → CR J s so N NS NH (itV N M V d) → Fq s I J → (∀ q, q < d → ∀ p, p < N → J (s + 25) (q * wd s + p) = itV N M V q 2 p) → ∃ J', (∀ r, Ev L xs 5 79 5 [some (.ref s), some (.int (nI l)), some (.int (nI (d + 1))), w] [] (179, J, Lm, RG nw sp s2 ai) r ↔ r = (none, 179, J', Lm, RG nw sp s2 ai)) ∧ CR J' s so N NS NH (itV N M V 60) ∧ Fq s I J' := by
    have fin : ∀ d l J w, l ≤ 60 → d = l → itV N M V l = itV N M V 60 → CR J s so N NS NH (itV N M V d) → Fq s I J → ∃ J', (∀ r, Ev L xs 5 79 5 [some (.ref s), some (.int (nI l)), some (.int (nI (d + 1))), w] [] (179, J, Lm, RG nw sp s2 ai) r ↔ r = (none, 179, J', Lm, RG nw sp s2 ai)) ∧ CR J' s so N NS NH (itV N M V 60) ∧ Fq s I J' := by
      intro d l J w hl hdl he hC1 hF
      subst hdl
      refine ⟨J, fun r => ?_, he ▸ hC1, hF⟩
      rw [x79_5]
      simp only [x79_0, x79_2, x79_3, x79_4, x79_6, x79_7, x79_10, x79_11, x79_13, x79_16, x79_17, x79_18, x79_19, x79_20, x79_23, x79_24, x79_27, x79_30, x79_31, x79_32, x79_34, x79_37, x79_38, x79_39, x79_42, x79_45, x79_46, x79_47, x79_48, x79_51, x79_52, x79_53, x79_56, x79_57, x79_59, x79_60, x79_61, x79_62, x79_63, x79_64, x79_65, x79_66, x79_67, x79_70, x79_73, nI_lt (show d < d + 1 by omega) (show d + 1 < 2 ^ 31 by omega), if_true]
    refine up_ind ?_ ?_
    · intro l J w h1 h2 h3 h4 h5 h6
      exact fin 60 l J w h2 (by omega) h3 h4 h5
    · intro d hd ih l J w h1 h2 h3 h4 h5 h6
      by_cases cl : d = l
      · exact fin d l J w h2 cl h3 h4 h5
      have hM1 : ∀ {J : Nat → Nat → Int32}, Fq s I J → J s 6 = nI M := fun hF => by rw [hF s (by omega) (by omega) (by omega) (by omega) (by omega)]; exact hM
      have hD1 : ∀ {J : Nat → Nat → Int32}, Fq s I J → J s 4 = nI (wd s) := fun hF => by rw [hF s (by omega) (by omega) (by omega) (by omega) (by omega)]; exact hD
      have hW1 := itV_WV (N := N) (M := M) hW hM2 d
      obtain ⟨K, k1, k2, k3, k4⟩ := c_noteTrail (L := L) (xs := xs) (Lm := Lm) hB h4 (hD1 h5) (show d < 60 by omega)
      have hKq : Fq s I K := h5.tr (fun p _ _ _ _ a => k2 p a)
      have hC2 : CR K s so N NS NH (itV N M V d) := by
        have hF2 : Fq s J K := fun p _ _ _ _ a => k2 p a
        obtain ⟨⟨a1, a2, a3⟩, b1, c1, d1, e1⟩ := h4
        have hz : ∀ k, k ≠ 25 → K (s + k) = J (s + k) := fun k hk => k2 _ (by omega)
        have ho2 : ∀ k, k ≤ 6 → K (so + k) = J (so + k) := fun k hk => k2 _ (by
          rcases hs with rfl | rfl | rfl <;> rcases ho with rfl | rfl | rfl <;> omega)
        refine ⟨⟨?_, ?_, ?_⟩, b1, fun k hk => ?_, fun k hk => ?_, fun k hk => ?_⟩
        · rw [hz 16 (by decide)]; exact a1
        · have := ho2 0 (by decide); rw [Nat.add_zero] at this; rw [this]; exact a2
        · rw [hz 1 (by decide)]; exact a3
        · rw [hz 20 (by decide), hz 21 (by decide), hz 22 (by decide), hz 24 (by decide)]; exact c1 k hk
        · rw [ho2 2 (by decide), ho2 3 (by decide), ho2 4 (by decide), ho2 5 (by decide), ho2 6 (by decide)]; exact d1 k hk
        · rw [hz 3 (by decide), hz 4 (by decide), hz 5 (by decide), hz 6 (by decide)]; exact e1 k hk
      have hT : ∀ q, q < d + 1 → ∀ p, p < N → K (s + 25) (q * wd s + p) = itV N M V q 2 p := by
        intro q hq p hp
        by_cases c : q = d
        · rw [c]; exact k4 p hp
        · rw [k3 _ (by
            have : (q + 1) * wd s ≤ d * wd s := Nat.mul_le_mul_right _ (by omega)
            rw [Nat.succ_mul] at this; omega)]
          exact h6 q (by omega) p hp
      obtain ⟨G, g1, g2, g3⟩ := c_changes (L := L) (xs := xs) (Lm := Lm) hB hC2 hW1 (hM1 hKq) hM2
      have hGT : ∀ q, q < d + 1 → ∀ p, p < N → G (s + 25) (q * wd s + p) = itV N M V q 2 p := by
        intro q hq p hp
        rw [g3 _ (by omega) (by omega) (by omega)]
        exact hT q hq p hp
      have n1 : (nI (d + 1) - 1) = nI d := nI_pred d
      have hl1 : (nI l < nI (d + 1)) = False := eq_false (nI_nlt (by omega) (by omega))
      have hl2 : (nI 60 < nI (d + 1)) = False := eq_false (nI_nlt (by omega) (by omega))
      by_cases c0 : rdC N M (itV N M V d) N = 0
      · have hfx := rdC_fix (N := N) (M := M) (V := itV N M V d) N c0
        have e60 : itV N M V 60 = itV N M V d := by
          have e := itV_add (N := N) (M := M) (V := V) d (60 - d)
          rw [show d + (60 - d) = 60 by omega, itV_fix hfx] at e
          exact e
        refine ⟨G, fun r => ?_, ?_, hKq.tr g3.q⟩
        · rw [x79_5]
          simp only [x79_0, x79_2, x79_3, x79_4, x79_6, x79_7, x79_10, x79_11, x79_13, x79_16, x79_17, x79_18, x79_19, x79_20, x79_23, x79_24, x79_27, x79_30, x79_31, x79_32, x79_34, x79_37, x79_38, x79_39, x79_42, x79_45, x79_46, x79_47, x79_48, x79_51, x79_52, x79_53, x79_56, x79_57, x79_59, x79_60, x79_61, x79_62, x79_63, x79_64, x79_65, x79_66, x79_67, x79_70, x79_73, sh_s, lq_s, sh_s1, lq_s1, sh_s2, lq_s2, sh_s3, lq_s3, sh_s4, lq_s4, sh_s5, lq_s5, sh_s6, lq_s6, sh_s7, lq_s7, sh_s8, lq_s8, sh_s9, lq_s9, sh_s10, lq_s10, sh_s11, lq_s11, sh_s12, lq_s12, sh_s13, lq_s13, sh_s14, lq_s14, sh_s15, lq_s15, sh_s16, lq_s16, sh_s17, lq_s17, sh_s18, lq_s18, sh_s19, lq_s19, sh_s20, lq_s20, sh_s21, lq_s21, sh_s22, lq_s22, sh_s23, lq_s23, sh_s24, lq_s24, sh_s25, lq_s25, rg_s0_0, rg_s0_1, rg_s0_2, rg_s0_3, rg_s1_0, rg_s1_1, rg_s1_2, rg_s1_3, rg_s1_4, rg_s7_0, rg_s9_0, rg_s9_1, rg_s9_2, rg_s9_3, rg_s9_4, rg_s9_5, rg_s16_6, rg_s16_7, rg_s16_0, rg_s16_1, rg_s16_2, rg_s16_3, rg_s16_4, rg_s16_5, sh_o, lq_o, sh_o1, lq_o1, sh_o2, lq_o2, sh_o3, lq_o3, sh_o4, lq_o4, sh_o5, lq_o5, sh_o6, lq_o6, rg_o0, rg_o1, rg_o2, rg_o3, rg_o4, rg_o5, ex5, Option.toList_some, Option.toList_none, List.cons_append, List.nil_append, true_and, and_true, nI_1, p_at, p_set, p_isIn, p_max, p_min, p_abs, hs, hl1, h60, hl2, if_false, n1, k1, g1, c0, if_true]
        · rw [e60]; rw [hfx] at g2; exact g2
      have hFG := hKq.tr g3.q
      by_cases c1 : l = 60
      · subst c1
        obtain ⟨v, v1, v2⟩ := c_firstOfTrail (L := L) (xs := xs) (Lm := Lm) hB g2 (hD1 hFG) (show d + 1 ≤ 60 by omega)
        rcases v2 with rfl | ⟨q, hq1, rfl, hq2⟩
        · obtain ⟨J', j1, j2⟩ := ih 60 G (some (.int (-1))) (by omega) (by omega) rfl g2 hFG hGT
          refine ⟨J', fun r => ?_, j2⟩
          rw [x79_5]
          simp only [x79_0, x79_2, x79_3, x79_4, x79_6, x79_7, x79_10, x79_11, x79_13, x79_16, x79_17, x79_18, x79_19, x79_20, x79_23, x79_24, x79_27, x79_30, x79_31, x79_32, x79_34, x79_37, x79_38, x79_39, x79_42, x79_45, x79_46, x79_47, x79_48, x79_51, x79_52, x79_53, x79_56, x79_57, x79_59, x79_60, x79_61, x79_62, x79_63, x79_64, x79_65, x79_66, x79_67, x79_70, x79_73, sh_s, lq_s, sh_s1, lq_s1, sh_s2, lq_s2, sh_s3, lq_s3, sh_s4, lq_s4, sh_s5, lq_s5, sh_s6, lq_s6, sh_s7, lq_s7, sh_s8, lq_s8, sh_s9, lq_s9, sh_s10, lq_s10, sh_s11, lq_s11, sh_s12, lq_s12, sh_s13, lq_s13, sh_s14, lq_s14, sh_s15, lq_s15, sh_s16, lq_s16, sh_s17, lq_s17, sh_s18, lq_s18, sh_s19, lq_s19, sh_s20, lq_s20, sh_s21, lq_s21, sh_s22, lq_s22, sh_s23, lq_s23, sh_s24, lq_s24, sh_s25, lq_s25, rg_s0_0, rg_s0_1, rg_s0_2, rg_s0_3, rg_s1_0, rg_s1_1, rg_s1_2, rg_s1_3, rg_s1_4, rg_s7_0, rg_s9_0, rg_s9_1, rg_s9_2, rg_s9_3, rg_s9_4, rg_s9_5, rg_s16_6, rg_s16_7, rg_s16_0, rg_s16_1, rg_s16_2, rg_s16_3, rg_s16_4, rg_s16_5, sh_o, lq_o, sh_o1, lq_o1, sh_o2, lq_o2, sh_o3, lq_o3, sh_o4, lq_o4, sh_o5, lq_o5, sh_o6, lq_o6, rg_o0, rg_o1, rg_o2, rg_o3, rg_o4, rg_o5, ex5, Option.toList_some, Option.toList_none, List.cons_append, List.nil_append, true_and, and_true, nI_1, p_at, p_set, p_isIn, p_max, p_min, p_abs, hs, hl1, h60, hl2, if_false, n1, k1, g1, c0, if_true, v1, show ((-1 : Int32) < 0) by decide]
          exact j1 r
        · have hring : itV N M V q = itV N M V (d + 1) := by
            refine itV_eq fun p hp => ?_
            have e1 := hGT q hq1 p hp
            rw [hq2 p hp] at e1
            exact e1.symm
          have hm := itV_ring (N := N) (M := M) (V := V) hq1 hring (60 - (d + 1))
          rw [show d + 1 + (60 - (d + 1)) = 60 by omega] at hm
          have hlt : (60 - (d + 1)) % (d + 1 - q) ≤ 60 - (d + 1) := Nat.mod_le _ _
          obtain ⟨J', j1, j2⟩ := ih (d + 1 + (60 - (d + 1)) % (d + 1 - q)) G (some (.int (nI q))) (by omega) (by omega) hm g2 hFG hGT
          refine ⟨J', fun r => ?_, j2⟩
          have s1 : nI 60 - nI (d + 1) = nI (60 - (d + 1)) := pk_sub (by omega)
          have s2 : nI (d + 1) - nI q = nI (d + 1 - q) := pk_sub (by omega)
          have s3 : ¬ nI (d + 1 - q) = 0 := nI_ne0 (by omega) (by omega)
          have s4 := pk_rem (a := 60 - (d + 1)) (d := d + 1 - q) (by omega) (by omega) (by omega)
          have s5 : (nI (d + 1) ≤ nI q) = False := eq_false (nI_ge hq1 (by omega))
          have s6 : (nI q < 0) = False := eq_false (nI_pos (by omega))
          rw [x79_5]
          simp only [x79_0, x79_2, x79_3, x79_4, x79_6, x79_7, x79_10, x79_11, x79_13, x79_16, x79_17, x79_18, x79_19, x79_20, x79_23, x79_24, x79_27, x79_30, x79_31, x79_32, x79_34, x79_37, x79_38, x79_39, x79_42, x79_45, x79_46, x79_47, x79_48, x79_51, x79_52, x79_53, x79_56, x79_57, x79_59, x79_60, x79_61, x79_62, x79_63, x79_64, x79_65, x79_66, x79_67, x79_70, x79_73, sh_s, lq_s, sh_s1, lq_s1, sh_s2, lq_s2, sh_s3, lq_s3, sh_s4, lq_s4, sh_s5, lq_s5, sh_s6, lq_s6, sh_s7, lq_s7, sh_s8, lq_s8, sh_s9, lq_s9, sh_s10, lq_s10, sh_s11, lq_s11, sh_s12, lq_s12, sh_s13, lq_s13, sh_s14, lq_s14, sh_s15, lq_s15, sh_s16, lq_s16, sh_s17, lq_s17, sh_s18, lq_s18, sh_s19, lq_s19, sh_s20, lq_s20, sh_s21, lq_s21, sh_s22, lq_s22, sh_s23, lq_s23, sh_s24, lq_s24, sh_s25, lq_s25, rg_s0_0, rg_s0_1, rg_s0_2, rg_s0_3, rg_s1_0, rg_s1_1, rg_s1_2, rg_s1_3, rg_s1_4, rg_s7_0, rg_s9_0, rg_s9_1, rg_s9_2, rg_s9_3, rg_s9_4, rg_s9_5, rg_s16_6, rg_s16_7, rg_s16_0, rg_s16_1, rg_s16_2, rg_s16_3, rg_s16_4, rg_s16_5, sh_o, lq_o, sh_o1, lq_o1, sh_o2, lq_o2, sh_o3, lq_o3, sh_o4, lq_o4, sh_o5, lq_o5, sh_o6, lq_o6, rg_o0, rg_o1, rg_o2, rg_o3, rg_o4, rg_o5, ex5, Option.toList_some, Option.toList_none, List.cons_append, List.nil_append, true_and, and_true, nI_1, p_at, p_set, p_isIn, p_max, p_min, p_abs, hs, hl1, h60, hl2, if_false, n1, k1, g1, c0, if_true, v1, s1, s2, s3, s4, s5, s6, not_false_eq_true, nI_add]
          exact j1 r
      · obtain ⟨J', j1, j2⟩ := ih l G (some (.int (-1))) (by omega) h2 h3 g2 hFG hGT
        refine ⟨J', fun r => ?_, j2⟩
        have s7 : (nI l = nI 60) = False := by rw [nI_same (by omega) (by omega)]; exact eq_false c1
        rw [x79_5]
        simp only [x79_0, x79_2, x79_3, x79_4, x79_6, x79_7, x79_10, x79_11, x79_13, x79_16, x79_17, x79_18, x79_19, x79_20, x79_23, x79_24, x79_27, x79_30, x79_31, x79_32, x79_34, x79_37, x79_38, x79_39, x79_42, x79_45, x79_46, x79_47, x79_48, x79_51, x79_52, x79_53, x79_56, x79_57, x79_59, x79_60, x79_61, x79_62, x79_63, x79_64, x79_65, x79_66, x79_67, x79_70, x79_73, sh_s, lq_s, sh_s1, lq_s1, sh_s2, lq_s2, sh_s3, lq_s3, sh_s4, lq_s4, sh_s5, lq_s5, sh_s6, lq_s6, sh_s7, lq_s7, sh_s8, lq_s8, sh_s9, lq_s9, sh_s10, lq_s10, sh_s11, lq_s11, sh_s12, lq_s12, sh_s13, lq_s13, sh_s14, lq_s14, sh_s15, lq_s15, sh_s16, lq_s16, sh_s17, lq_s17, sh_s18, lq_s18, sh_s19, lq_s19, sh_s20, lq_s20, sh_s21, lq_s21, sh_s22, lq_s22, sh_s23, lq_s23, sh_s24, lq_s24, sh_s25, lq_s25, rg_s0_0, rg_s0_1, rg_s0_2, rg_s0_3, rg_s1_0, rg_s1_1, rg_s1_2, rg_s1_3, rg_s1_4, rg_s7_0, rg_s9_0, rg_s9_1, rg_s9_2, rg_s9_3, rg_s9_4, rg_s9_5, rg_s16_6, rg_s16_7, rg_s16_0, rg_s16_1, rg_s16_2, rg_s16_3, rg_s16_4, rg_s16_5, sh_o, lq_o, sh_o1, lq_o1, sh_o2, lq_o2, sh_o3, lq_o3, sh_o4, lq_o4, sh_o5, lq_o5, sh_o6, lq_o6, rg_o0, rg_o1, rg_o2, rg_o3, rg_o4, rg_o5, ex5, Option.toList_some, Option.toList_none, List.cons_append, List.nil_append, true_and, and_true, nI_1, p_at, p_set, p_isIn, p_max, p_min, p_abs, hs, hl1, h60, hl2, if_false, n1, k1, g1, c0, s7, if_true, show ((-1 : Int32) < 0) by decide]
        exact j1 r
  obtain ⟨J', h1, h2⟩ := key 0 (Nat.zero_le _) 60 I none (by omega) (by omega) rfl hC Fq.rf (fun q hq => absurd hq (Nat.not_lt_zero q))
  refine ⟨J', fun r => ?_, h2⟩
  rw [em_79]
  have n1 : nI (0 + 1) = 1 := rfl
  rw [n1] at h1
  simp only [x79_0, x79_2, x79_3, x79_4, x79_6, x79_7, x79_10, x79_11, x79_13, x79_16, x79_17, x79_18, x79_19, x79_20, x79_23, x79_24, x79_27, x79_30, x79_31, x79_32, x79_34, x79_37, x79_38, x79_39, x79_42, x79_45, x79_46, x79_47, x79_48, x79_51, x79_52, x79_53, x79_56, x79_57, x79_59, x79_60, x79_61, x79_62, x79_63, x79_64, x79_65, x79_66, x79_67, x79_70, x79_73, h60]
  exact h1 r
end
