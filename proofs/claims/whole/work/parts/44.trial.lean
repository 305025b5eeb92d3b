/-! the trial: a copy of a scene, crowds, hours alike, noted hours -/
def Tw (nw S U : Nat) : Prop := (nw = 37 ∧ S = 38 ∧ U = 64) ∨ (nw = 71 ∧ S = 72 ∧ U = 98)
def Ft (I J : Nat → Nat → Int32) : Prop := ∀ p, p < 11 ∨ 36 < p → J p = I p
def quadM (J : Nat → Nat → Int32) (a b c d j : Nat) (v1 v2 v3 v4 : Int32) : Nat → Nat → Int32 := up2 (up2 (up2 (up2 J a j v1) b j v2) c j v3) d j v4
theorem quadV {J : Nat → Nat → Int32} {a b c d j : Nat} {v1 v2 v3 v4 : Int32} (h1 : a ≠ b) (h2 : a ≠ c) (h3 : a ≠ d) (h4 : b ≠ c) (h5 : b ≠ d) (h6 : c ≠ d) (k : Nat) :
    quadM J a b c d j v1 v2 v3 v4 a k = (if k = j then v1 else J a k) ∧ quadM J a b c d j v1 v2 v3 v4 b k = (if k = j then v2 else J b k) ∧ quadM J a b c d j v1 v2 v3 v4 c k = (if k = j then v3 else J c k) ∧ quadM J a b c d j v1 v2 v3 v4 d k = (if k = j then v4 else J d k) := by
  simp [quadM, up2, h1, h2, h3, h4, h5, h6, Ne.symm h1, Ne.symm h2, Ne.symm h3, Ne.symm h4, Ne.symm h5, Ne.symm h6]
theorem quadF {J : Nat → Nat → Int32} {a b c d j p : Nat} {v1 v2 v3 v4 : Int32} (h1 : p ≠ a) (h2 : p ≠ b) (h3 : p ≠ c) (h4 : p ≠ d) : quadM J a b c d j v1 v2 v3 v4 p = J p := by
  funext k
  simp [quadM, up2, h1, h2, h3, h4]
theorem atv_setv {I : Nat → Nat → Int32} {a b : Nat} {k v x : Int32} (h : ¬ b = a) : atv (setv I a k v) b x = atv I b x := by unfold atv; rw [setv_ne h]
section
variable {L : Nat} {xs : Nat → Int32} {σ : Mm} {r : Option Value × Mm} {I J K : Nat → Nat → Int32} {Lm : Nat → Nat → Int64} {Rm : Nat → Nat → Nat} {n s so t N NS NH m M nw S U : Nat} {V W : Vw} {sp s2 ai p : Nat} {x y h v : Int32}
theorem twSB (hT : Tw nw S U) : SB nw sp s2 ai S (S + 9) := by
  rcases hT with ⟨-, rfl, -⟩ | ⟨-, rfl, -⟩
  · exact ⟨Or.inr (Or.inl rfl), Or.inr (Or.inl rfl), rfl⟩
  · exact ⟨Or.inr (Or.inr rfl), Or.inr (Or.inr rfl), rfl⟩
theorem ttSB (hT : Tw nw S U) (ht : t = 11) : SB nw sp (S + 9) ai t (S + 9) := by
  subst ht
  exact ⟨Or.inl rfl, (twSB (sp := 0) (s2 := 0) (ai := 0) hT).2.1, rfl⟩
theorem crVw (hC : CR I s so N NS NH V) (h1 : ∀ k, k < N → W 0 k = V 0 k ∧ W 1 k = V 1 k ∧ W 2 k = V 2 k ∧ W 3 k = V 3 k) (h2 : ∀ f k, 3 < f → f < 13 → W f k = V f k) : CR I s so N NS NH W := by
  obtain ⟨a1, b1, c1, d1, e1⟩ := hC
  refine ⟨a1, b1, fun k hk => ?_, fun k hk => ?_, fun k hk => ?_⟩
  · obtain ⟨q0, q1, q2, q3⟩ := h1 k hk
    rw [q0, q1, q2, q3]; exact c1 k hk
  · rw [h2 4 k (by decide) (by decide), h2 5 k (by decide) (by decide), h2 6 k (by decide) (by decide), h2 7 k (by decide) (by decide), h2 8 k (by decide) (by decide)]; exact d1 k hk
  · rw [h2 9 k (by decide) (by decide), h2 10 k (by decide) (by decide), h2 11 k (by decide) (by decide), h2 12 k (by decide) (by decide)]; exact e1 k hk
/-- a scene's part of what is shown, moved to other memory -/
theorem crFr (hC : CR I s so N NS NH V) (h1 : ∀ i, i ≤ 25 → i ≠ 7 → i ≠ 8 → i ≠ 25 → J (s + i) = I (s + i)) (h2 : ∀ i, i ≤ 6 → J (so + i) = I (so + i)) : CR J s so N NS NH V := by
  obtain ⟨⟨a1, a2, a3⟩, b1, c1, d1, e1⟩ := hC
  have hp : ∀ i, i ≤ 25 → i ≠ 7 → i ≠ 8 → i ≠ 25 → J (s + i) = I (s + i) := h1
  refine ⟨⟨?_, ?_, ?_⟩, b1, fun k hk => ?_, fun k hk => ?_, fun k hk => ?_⟩
  · rw [hp 16 (by decide) (by decide) (by decide) (by decide)]; exact a1
  · have := h2 0 (by decide); rw [Nat.add_zero] at this; rw [this]; exact a2
  · rw [hp 1 (by decide) (by decide) (by decide) (by decide)]; exact a3
  · rw [hp 20 (by decide) (by decide) (by decide) (by decide), hp 21 (by decide) (by decide) (by decide) (by decide), hp 22 (by decide) (by decide) (by decide) (by decide), hp 24 (by decide) (by decide) (by decide) (by decide)]; exact c1 k hk
  · rw [h2 2 (by decide), h2 3 (by decide), h2 4 (by decide), h2 5 (by decide), h2 6 (by decide)]; exact d1 k hk
  · rw [hp 3 (by decide) (by decide) (by decide) (by decide), hp 4 (by decide) (by decide) (by decide) (by decide), hp 5 (by decide) (by decide) (by decide) (by decide), hp 6 (by decide) (by decide) (by decide) (by decide)]; exact e1 k hk
theorem c_copyHats (hB : SB nw sp s2 ai s so) (hC : CR I s so N NS NH V) (ht : Sc t) (hne : ∀ i j, i ≤ 25 → j ≤ 25 → (s + i = t + j) = False) : ∃ J, (∀ r, Em L xs 6 [.ref (t + 1), .ref (s + 1)] (179, I, Lm, RG nw sp s2 ai) r ↔ r = (none, 179, J, Lm, RG nw sp s2 ai)) ∧ (∀ p, p ≠ t + 1 → p ≠ t + 3 → p ≠ t + 4 → p ≠ t + 5 → p ≠ t + 6 → J p = I p) ∧ J (t + 1) 5 = nI NH ∧ (∀ k, k < NH → J (t + 3) k = V 9 k ∧ J (t + 4) k = V 10 k ∧ J (t + 5) k = V 11 k ∧ J (t + 6) k = V 12 k) := by
  have hH := hC.2.1.2.2
  obtain ⟨hs, ho, hq⟩ := id hB
  have hne2 : ∀ i j, i ≤ 25 → j ≤ 25 → s + i ≠ t + j := fun i j a b => of_eq_false (hne i j a b)
  have key : ∀ j, j ≤ NH → ∀ J, (∀ p, p ≠ t + 1 → p ≠ t + 3 → p ≠ t + 4 → p ≠ t + 5 → p ≠ t + 6 → J p = I p) → J (t + 1) 5 = nI NH → (∀ k, k < j → J (t + 3) k = V 9 k ∧ J (t + 4) k = V 10 k ∧ J (t + 5) k = V 11 k ∧ J (t + 6) k = V 12 k) → ∃ J', (∀ r, Ev L xs 1 6 10 [some (.ref (t + 1)), some (.ref (s + 1)), some (.int (nI j))] [] (179, J, Lm, RG nw sp s2 ai) r ↔ r = (none, 179, J', Lm, RG nw sp s2 ai)) ∧ (∀ p, p ≠ t + 1 → p ≠ t + 3 → p ≠ t + 4 → p ≠ t + 5 → p ≠ t + 6 → J' p = I p) ∧ J' (t + 1) 5 = nI NH ∧ (∀ k, k < NH → J' (t + 3) k = V 9 k ∧ J' (t + 4) k = V 10 k ∧ J' (t + 5) k = V 11 k ∧ J' (t + 6) k = V 12 k) := by
    refine up_ind ?_ ?_
    · intro J h1 h2 h3
      refine ⟨J, fun r => ?_, h1, h2, h3⟩
      rw [x6_10]
      simp only [x6_0, x6_1, x6_2, x6_5, x6_8, x6_9, x6_11, x6_12, x6_15, x6_18, x6_19, x6_22, x6_23, x6_24, x6_27, x6_28, x6_31, x6_34, x6_35, x6_38, x6_39, x6_40, x6_43, x6_44, x6_47, x6_50, x6_51, x6_54, x6_55, x6_56, x6_59, x6_60, x6_63, x6_66, x6_67, x6_70, x6_71, x6_72, x6_75, x6_76, x6_79, x6_82, x6_85, x6_88, sh_s, lq_s, sh_s1, lq_s1, sh_s2, lq_s2, sh_s3, lq_s3, sh_s4, lq_s4, sh_s5, lq_s5, sh_s6, lq_s6, sh_s7, lq_s7, sh_s8, lq_s8, sh_s9, lq_s9, sh_s10, lq_s10, sh_s11, lq_s11, sh_s12, lq_s12, sh_s13, lq_s13, sh_s14, lq_s14, sh_s15, lq_s15, sh_s16, lq_s16, sh_s17, lq_s17, sh_s18, lq_s18, sh_s19, lq_s19, sh_s20, lq_s20, sh_s21, lq_s21, sh_s22, lq_s22, sh_s23, lq_s23, sh_s24, lq_s24, sh_s25, lq_s25, rg_s0_0, rg_s0_1, rg_s0_2, rg_s0_3, rg_s1_0, rg_s1_1, rg_s1_2, rg_s1_3, rg_s1_4, rg_s7_0, rg_s9_0, rg_s9_1, rg_s9_2, rg_s9_3, rg_s9_4, rg_s9_5, rg_s16_6, rg_s16_7, rg_s16_0, rg_s16_1, rg_s16_2, rg_s16_3, rg_s16_4, rg_s16_5, sh_o, lq_o, sh_o1, lq_o1, sh_o2, lq_o2, sh_o3, lq_o3, sh_o4, lq_o4, sh_o5, lq_o5, sh_o6, lq_o6, rg_o0, rg_o1, rg_o2, rg_o3, rg_o4, rg_o5, ex5, Option.toList_some, Option.toList_none, List.cons_append, List.nil_append, true_and, and_true, nI_1, p_at, p_set, p_isIn, p_max, p_min, p_abs, ht, h2, nI_le (Nat.le_refl NH) (by omega), if_true]
    · intro j hj ih J h1 h2 h3
      have hJ : ∀ i, i ≤ 25 → i ≠ 7 → i ≠ 8 → i ≠ 25 → J (s + i) = I (s + i) := fun i hi _ _ _ => h1 _ (hne2 i 1 hi (by decide)) (hne2 i 3 hi (by decide)) (hne2 i 4 hi (by decide)) (hne2 i 5 hi (by decide)) (hne2 i 6 hi (by decide))
      have hat : ∀ i, i ≤ 25 → i ≠ 7 → i ≠ 8 → i ≠ 25 → ∀ x, atv J (s + i) x = atv I (s + i) x := fun i a b c d x => by unfold atv; rw [hJ i a b c d]
      have hin : inb (nI j) NH := inb_nI' hj (by omega)
      have ij : ixn (nI j) = j := ixn_nI (by omega)
      have e9 : atv J (s + 3) (nI j) = V 9 j := by rw [hat 3 (by decide) (by decide) (by decide) (by decide), a_kee hB hC hin, ij]
      have e10 : atv (setv J (t + 3) (nI j) (V 9 j)) (s + 4) (nI j) = V 10 j := by rw [atv_setv (hne2 4 3 (by decide) (by decide)), hat 4 (by decide) (by decide) (by decide) (by decide), a_lea hB hC hin, ij]
      have e11 : atv (setv (setv J (t + 3) (nI j) (V 9 j)) (t + 4) (nI j) (V 10 j)) (s + 5) (nI j) = V 11 j := by rw [atv_setv (hne2 5 4 (by decide) (by decide)), atv_setv (hne2 5 3 (by decide) (by decide)), hat 5 (by decide) (by decide) (by decide) (by decide), a_loo hB hC hin, ij]
      have e12 : atv (setv (setv (setv J (t + 3) (nI j) (V 9 j)) (t + 4) (nI j) (V 10 j)) (t + 5) (nI j) (V 11 j)) (s + 6) (nI j) = V 12 j := by rw [atv_setv (hne2 6 5 (by decide) (by decide)), atv_setv (hne2 6 4 (by decide) (by decide)), atv_setv (hne2 6 3 (by decide) (by decide)), hat 6 (by decide) (by decide) (by decide) (by decide), a_kin hB hC hin, ij]
      have st3 : ∀ J v, setv J (t + 3) (nI j) v = up2 J (t + 3) j v := fun _ _ => setv_lt (by rw [sh_s3 ht]; show j < 4; omega)
      have st4 : ∀ J v, setv J (t + 4) (nI j) v = up2 J (t + 4) j v := fun _ _ => setv_lt (by rw [sh_s4 ht]; show j < 4; omega)
      have st5 : ∀ J v, setv J (t + 5) (nI j) v = up2 J (t + 5) j v := fun _ _ => setv_lt (by rw [sh_s5 ht]; show j < 4; omega)
      have st6 : ∀ J v, setv J (t + 6) (nI j) v = up2 J (t + 6) j v := fun _ _ => setv_lt (by rw [sh_s6 ht]; show j < 4; omega)
      have hQ := quadV (J := J) (a := t + 3) (b := t + 4) (c := t + 5) (d := t + 6) (j := j) (v1 := V 9 j) (v2 := V 10 j) (v3 := V 11 j) (v4 := V 12 j) (by omega) (by omega) (by omega) (by omega) (by omega) (by omega)
      have hQF : ∀ p, p ≠ t + 3 → p ≠ t + 4 → p ≠ t + 5 → p ≠ t + 6 → quadM J (t + 3) (t + 4) (t + 5) (t + 6) j (V 9 j) (V 10 j) (V 11 j) (V 12 j) p = J p := fun p a b c d => quadF a b c d
      obtain ⟨J', g1, g2⟩ := ih (quadM J (t + 3) (t + 4) (t + 5) (t + 6) j (V 9 j) (V 10 j) (V 11 j) (V 12 j)) (fun p a b c d e => (hQF p b c d e).trans (h1 p a b c d e)) (by rw [hQF (t + 1) (by omega) (by omega) (by omega) (by omega)]; exact h2) (fun k hk => by
        obtain ⟨q1, q2, q3, q4⟩ := hQ k
        rw [q1, q2, q3, q4]
        by_cases c : k = j
        · subst c; simp
        · simp only [c, if_false]; exact h3 k (by omega))
      refine ⟨J', fun r => ?_, g2⟩
      have g1 := g1 r
      unfold quadM at g1
      rw [← st3, ← st4, ← st5, ← st6] at g1
      rw [x6_10]
      simp only [x6_0, x6_1, x6_2, x6_5, x6_8, x6_9, x6_11, x6_12, x6_15, x6_18, x6_19, x6_22, x6_23, x6_24, x6_27, x6_28, x6_31, x6_34, x6_35, x6_38, x6_39, x6_40, x6_43, x6_44, x6_47, x6_50, x6_51, x6_54, x6_55, x6_56, x6_59, x6_60, x6_63, x6_66, x6_67, x6_70, x6_71, x6_72, x6_75, x6_76, x6_79, x6_82, x6_85, x6_88, sh_s, lq_s, sh_s1, lq_s1, sh_s2, lq_s2, sh_s3, lq_s3, sh_s4, lq_s4, sh_s5, lq_s5, sh_s6, lq_s6, sh_s7, lq_s7, sh_s8, lq_s8, sh_s9, lq_s9, sh_s10, lq_s10, sh_s11, lq_s11, sh_s12, lq_s12, sh_s13, lq_s13, sh_s14, lq_s14, sh_s15, lq_s15, sh_s16, lq_s16, sh_s17, lq_s17, sh_s18, lq_s18, sh_s19, lq_s19, sh_s20, lq_s20, sh_s21, lq_s21, sh_s22, lq_s22, sh_s23, lq_s23, sh_s24, lq_s24, sh_s25, lq_s25, rg_s0_0, rg_s0_1, rg_s0_2, rg_s0_3, rg_s1_0, rg_s1_1, rg_s1_2, rg_s1_3, rg_s1_4, rg_s7_0, rg_s9_0, rg_s9_1, rg_s9_2, rg_s9_3, rg_s9_4, rg_s9_5, rg_s16_6, rg_s16_7, rg_s16_0, rg_s16_1, rg_s16_2, rg_s16_3, rg_s16_4, rg_s16_5, sh_o, lq_o, sh_o1, lq_o1, sh_o2, lq_o2, sh_o3, lq_o3, sh_o4, lq_o4, sh_o5, lq_o5, sh_o6, lq_o6, rg_o0, rg_o1, rg_o2, rg_o3, rg_o4, rg_o5, ex5, Option.toList_some, Option.toList_none, List.cons_append, List.nil_append, true_and, and_true, nI_1, p_at, p_set, p_isIn, p_max, p_min, p_abs, ht, hs, h2, nI_ge hj (by omega), if_false, e9, e10, e11, e12]
      exact g1
  have hne0 : ∀ i, i ≤ 25 → s + i ≠ t + 1 := fun i a => hne2 i 1 a (by decide)
  obtain ⟨J', h1, h2⟩ := key 0 (Nat.zero_le _) (up2 I (t + 1) 5 (nI NH)) (fun p a _ _ _ _ => funext fun k => up2_p a) up2_eq (fun k hk => absurd hk (Nat.not_lt_zero k))
  refine ⟨J', fun r => ?_, h2⟩
  rw [em_6]
  simp only [x6_0, x6_1, x6_2, x6_5, x6_8, x6_9, x6_11, x6_12, x6_15, x6_18, x6_19, x6_22, x6_23, x6_24, x6_27, x6_28, x6_31, x6_34, x6_35, x6_38, x6_39, x6_40, x6_43, x6_44, x6_47, x6_50, x6_51, x6_54, x6_55, x6_56, x6_59, x6_60, x6_63, x6_66, x6_67, x6_70, x6_71, x6_72, x6_75, x6_76, x6_79, x6_82, x6_85, x6_88, sh_s, lq_s, sh_s1, lq_s1, sh_s2, lq_s2, sh_s3, lq_s3, sh_s4, lq_s4, sh_s5, lq_s5, sh_s6, lq_s6, sh_s7, lq_s7, sh_s8, lq_s8, sh_s9, lq_s9, sh_s10, lq_s10, sh_s11, lq_s11, sh_s12, lq_s12, sh_s13, lq_s13, sh_s14, lq_s14, sh_s15, lq_s15, sh_s16, lq_s16, sh_s17, lq_s17, sh_s18, lq_s18, sh_s19, lq_s19, sh_s20, lq_s20, sh_s21, lq_s21, sh_s22, lq_s22, sh_s23, lq_s23, sh_s24, lq_s24, sh_s25, lq_s25, rg_s0_0, rg_s0_1, rg_s0_2, rg_s0_3, rg_s1_0, rg_s1_1, rg_s1_2, rg_s1_3, rg_s1_4, rg_s7_0, rg_s9_0, rg_s9_1, rg_s9_2, rg_s9_3, rg_s9_4, rg_s9_5, rg_s16_6, rg_s16_7, rg_s16_0, rg_s16_1, rg_s16_2, rg_s16_3, rg_s16_4, rg_s16_5, sh_o, lq_o, sh_o1, lq_o1, sh_o2, lq_o2, sh_o3, lq_o3, sh_o4, lq_o4, sh_o5, lq_o5, sh_o6, lq_o6, rg_o0, rg_o1, rg_o2, rg_o3, rg_o4, rg_o5, ex5, Option.toList_some, Option.toList_none, List.cons_append, List.nil_append, true_and, and_true, nI_1, p_at, p_set, p_isIn, p_max, p_min, p_abs, ht, hs, hC.1.2.2]
  exact h1 r
theorem c_copyPeople (hB : SB nw sp s2 ai s so) (hC : CR I s so N NS NH V) (ht : Sc t) (hwt : N ≤ wd t) (hne : ∀ i j, i ≤ 25 → j ≤ 25 → (s + i = t + j) = False) : ∃ J, (∀ r, Em L xs 8 [.ref (t + 16), .ref (s + 16)] (179, I, Lm, RG nw sp s2 ai) r ↔ r = (none, 179, J, Lm, RG nw sp s2 ai)) ∧ (∀ p, p ≠ t + 16 → p ≠ t + 20 → p ≠ t + 21 → p ≠ t + 22 → p ≠ t + 24 → J p = I p) ∧ J (t + 16) 8 = nI N ∧ (∀ k, k < N → J (t + 20) k = V 0 k ∧ J (t + 21) k = V 1 k ∧ J (t + 22) k = V 2 k ∧ J (t + 24) k = V 3 k) := by
  have hwd := wd_le t
  obtain ⟨hs, ho, hq⟩ := id hB
  have hne2 : ∀ i j, i ≤ 25 → j ≤ 25 → s + i ≠ t + j := fun i j a b => of_eq_false (hne i j a b)
  have key : ∀ j, j ≤ N → ∀ J, (∀ p, p ≠ t + 16 → p ≠ t + 20 → p ≠ t + 21 → p ≠ t + 22 → p ≠ t + 24 → J p = I p) → J (t + 16) 8 = nI N → (∀ k, k < j → J (t + 20) k = V 0 k ∧ J (t + 21) k = V 1 k ∧ J (t + 22) k = V 2 k ∧ J (t + 24) k = V 3 k) → ∃ J', (∀ r, Ev L xs 1 8 10 [some (.ref (t + 16)), some (.ref (s + 16)), some (.int (nI j))] [] (179, J, Lm, RG nw sp s2 ai) r ↔ r = (none, 179, J', Lm, RG nw sp s2 ai)) ∧ (∀ p, p ≠ t + 16 → p ≠ t + 20 → p ≠ t + 21 → p ≠ t + 22 → p ≠ t + 24 → J' p = I p) ∧ J' (t + 16) 8 = nI N ∧ (∀ k, k < N → J' (t + 20) k = V 0 k ∧ J' (t + 21) k = V 1 k ∧ J' (t + 22) k = V 2 k ∧ J' (t + 24) k = V 3 k) := by
    refine up_ind ?_ ?_
    · intro J h1 h2 h3
      refine ⟨J, fun r => ?_, h1, h2, h3⟩
      rw [x8_10]
      simp only [x8_0, x8_1, x8_2, x8_5, x8_8, x8_9, x8_11, x8_12, x8_15, x8_18, x8_19, x8_22, x8_23, x8_24, x8_27, x8_28, x8_31, x8_34, x8_35, x8_38, x8_39, x8_40, x8_43, x8_44, x8_47, x8_50, x8_51, x8_54, x8_55, x8_56, x8_59, x8_60, x8_63, x8_66, x8_67, x8_70, x8_71, x8_72, x8_75, x8_76, x8_79, x8_82, x8_85, x8_88, sh_s, lq_s, sh_s1, lq_s1, sh_s2, lq_s2, sh_s3, lq_s3, sh_s4, lq_s4, sh_s5, lq_s5, sh_s6, lq_s6, sh_s7, lq_s7, sh_s8, lq_s8, sh_s9, lq_s9, sh_s10, lq_s10, sh_s11, lq_s11, sh_s12, lq_s12, sh_s13, lq_s13, sh_s14, lq_s14, sh_s15, lq_s15, sh_s16, lq_s16, sh_s17, lq_s17, sh_s18, lq_s18, sh_s19, lq_s19, sh_s20, lq_s20, sh_s21, lq_s21, sh_s22, lq_s22, sh_s23, lq_s23, sh_s24, lq_s24, sh_s25, lq_s25, rg_s0_0, rg_s0_1, rg_s0_2, rg_s0_3, rg_s1_0, rg_s1_1, rg_s1_2, rg_s1_3, rg_s1_4, rg_s7_0, rg_s9_0, rg_s9_1, rg_s9_2, rg_s9_3, rg_s9_4, rg_s9_5, rg_s16_6, rg_s16_7, rg_s16_0, rg_s16_1, rg_s16_2, rg_s16_3, rg_s16_4, rg_s16_5, sh_o, lq_o, sh_o1, lq_o1, sh_o2, lq_o2, sh_o3, lq_o3, sh_o4, lq_o4, sh_o5, lq_o5, sh_o6, lq_o6, rg_o0, rg_o1, rg_o2, rg_o3, rg_o4, rg_o5, ex5, Option.toList_some, Option.toList_none, List.cons_append, List.nil_append, true_and, and_true, nI_1, p_at, p_set, p_isIn, p_max, p_min, p_abs, ht, h2, nI_le (Nat.le_refl N) (by omega), if_true]
    · intro j hj ih J h1 h2 h3
      have hJ : ∀ i, i ≤ 25 → i ≠ 7 → i ≠ 8 → i ≠ 25 → J (s + i) = I (s + i) := fun i hi _ _ _ => h1 _ (hne2 i 16 hi (by decide)) (hne2 i 20 hi (by decide)) (hne2 i 21 hi (by decide)) (hne2 i 22 hi (by decide)) (hne2 i 24 hi (by decide))
      have hat : ∀ i, i ≤ 25 → i ≠ 7 → i ≠ 8 → i ≠ 25 → ∀ x, atv J (s + i) x = atv I (s + i) x := fun i a b c d x => by unfold atv; rw [hJ i a b c d]
      have e0 : atv J (s + 20) (nI j) = V 0 j := by rw [hat 20 (by decide) (by decide) (by decide) (by decide)]; exact a_srt hB hC hj
      have e1 : atv (setv J (t + 20) (nI j) (V 0 j)) (s + 21) (nI j) = V 1 j := by rw [atv_setv (hne2 21 20 (by decide) (by decide)), hat 21 (by decide) (by decide) (by decide) (by decide)]; exact a_hat hB hC hj
      have e2 : atv (setv (setv J (t + 20) (nI j) (V 0 j)) (t + 21) (nI j) (V 1 j)) (s + 22) (nI j) = V 2 j := by rw [atv_setv (hne2 22 21 (by decide) (by decide)), atv_setv (hne2 22 20 (by decide) (by decide)), hat 22 (by decide) (by decide) (by decide) (by decide)]; exact a_hrs hB hC hj
      have e3 : atv (setv (setv (setv J (t + 20) (nI j) (V 0 j)) (t + 21) (nI j) (V 1 j)) (t + 22) (nI j) (V 2 j)) (s + 24) (nI j) = V 3 j := by rw [atv_setv (hne2 24 22 (by decide) (by decide)), atv_setv (hne2 24 21 (by decide) (by decide)), atv_setv (hne2 24 20 (by decide) (by decide)), hat 24 (by decide) (by decide) (by decide) (by decide)]; exact a_mat hB hC hj
      have st0 : ∀ J v, setv J (t + 20) (nI j) v = up2 J (t + 20) j v := fun _ _ => setv_lt (by rw [sh_s20 ht]; show j < wd t; omega)
      have st1 : ∀ J v, setv J (t + 21) (nI j) v = up2 J (t + 21) j v := fun _ _ => setv_lt (by rw [sh_s21 ht]; show j < wd t; omega)
      have st2 : ∀ J v, setv J (t + 22) (nI j) v = up2 J (t + 22) j v := fun _ _ => setv_lt (by rw [sh_s22 ht]; show j < wd t; omega)
      have st3 : ∀ J v, setv J (t + 24) (nI j) v = up2 J (t + 24) j v := fun _ _ => setv_lt (by rw [sh_s24 ht]; show j < wd t; omega)
      have hQ := quadV (J := J) (a := t + 20) (b := t + 21) (c := t + 22) (d := t + 24) (j := j) (v1 := V 0 j) (v2 := V 1 j) (v3 := V 2 j) (v4 := V 3 j) (by omega) (by omega) (by omega) (by omega) (by omega) (by omega)
      have hQF : ∀ p, p ≠ t + 20 → p ≠ t + 21 → p ≠ t + 22 → p ≠ t + 24 → quadM J (t + 20) (t + 21) (t + 22) (t + 24) j (V 0 j) (V 1 j) (V 2 j) (V 3 j) p = J p := fun p a b c d => quadF a b c d
      obtain ⟨J', g1, g2⟩ := ih (quadM J (t + 20) (t + 21) (t + 22) (t + 24) j (V 0 j) (V 1 j) (V 2 j) (V 3 j)) (fun p a b c d e => (hQF p b c d e).trans (h1 p a b c d e)) (by rw [hQF (t + 16) (by omega) (by omega) (by omega) (by omega)]; exact h2) (fun k hk => by
        obtain ⟨q1, q2, q3, q4⟩ := hQ k
        rw [q1, q2, q3, q4]
        by_cases c : k = j
        · subst c; simp
        · simp only [c, if_false]; exact h3 k (by omega))
      refine ⟨J', fun r => ?_, g2⟩
      have g1 := g1 r
      unfold quadM at g1
      rw [← st0, ← st1, ← st2, ← st3] at g1
      rw [x8_10]
      simp only [x8_0, x8_1, x8_2, x8_5, x8_8, x8_9, x8_11, x8_12, x8_15, x8_18, x8_19, x8_22, x8_23, x8_24, x8_27, x8_28, x8_31, x8_34, x8_35, x8_38, x8_39, x8_40, x8_43, x8_44, x8_47, x8_50, x8_51, x8_54, x8_55, x8_56, x8_59, x8_60, x8_63, x8_66, x8_67, x8_70, x8_71, x8_72, x8_75, x8_76, x8_79, x8_82, x8_85, x8_88, sh_s, lq_s, sh_s1, lq_s1, sh_s2, lq_s2, sh_s3, lq_s3, sh_s4, lq_s4, sh_s5, lq_s5, sh_s6, lq_s6, sh_s7, lq_s7, sh_s8, lq_s8, sh_s9, lq_s9, sh_s10, lq_s10, sh_s11, lq_s11, sh_s12, lq_s12, sh_s13, lq_s13, sh_s14, lq_s14, sh_s15, lq_s15, sh_s16, lq_s16, sh_s17, lq_s17, sh_s18, lq_s18, sh_s19, lq_s19, sh_s20, lq_s20, sh_s21, lq_s21, sh_s22, lq_s22, sh_s23, lq_s23, sh_s24, lq_s24, sh_s25, lq_s25, rg_s0_0, rg_s0_1, rg_s0_2, rg_s0_3, rg_s1_0, rg_s1_1, rg_s1_2, rg_s1_3, rg_s1_4, rg_s7_0, rg_s9_0, rg_s9_1, rg_s9_2, rg_s9_3, rg_s9_4, rg_s9_5, rg_s16_6, rg_s16_7, rg_s16_0, rg_s16_1, rg_s16_2, rg_s16_3, rg_s16_4, rg_s16_5, sh_o, lq_o, sh_o1, lq_o1, sh_o2, lq_o2, sh_o3, lq_o3, sh_o4, lq_o4, sh_o5, lq_o5, sh_o6, lq_o6, rg_o0, rg_o1, rg_o2, rg_o3, rg_o4, rg_o5, ex5, Option.toList_some, Option.toList_none, List.cons_append, List.nil_append, true_and, and_true, nI_1, p_at, p_set, p_isIn, p_max, p_min, p_abs, ht, hs, h2, nI_ge hj (by omega), if_false, e0, e1, e2, e3]
      exact g1
  obtain ⟨J', h1, h2⟩ := key 0 (Nat.zero_le _) (up2 I (t + 16) 8 (nI N)) (fun p a _ _ _ _ => funext fun k => up2_p a) up2_eq (fun k hk => absurd hk (Nat.not_lt_zero k))
  refine ⟨J', fun r => ?_, h2⟩
  rw [em_8]
  simp only [x8_0, x8_1, x8_2, x8_5, x8_8, x8_9, x8_11, x8_12, x8_15, x8_18, x8_19, x8_22, x8_23, x8_24, x8_27, x8_28, x8_31, x8_34, x8_35, x8_38, x8_39, x8_40, x8_43, x8_44, x8_47, x8_50, x8_51, x8_54, x8_55, x8_56, x8_59, x8_60, x8_63, x8_66, x8_67, x8_70, x8_71, x8_72, x8_75, x8_76, x8_79, x8_82, x8_85, x8_88, sh_s, lq_s, sh_s1, lq_s1, sh_s2, lq_s2, sh_s3, lq_s3, sh_s4, lq_s4, sh_s5, lq_s5, sh_s6, lq_s6, sh_s7, lq_s7, sh_s8, lq_s8, sh_s9, lq_s9, sh_s10, lq_s10, sh_s11, lq_s11, sh_s12, lq_s12, sh_s13, lq_s13, sh_s14, lq_s14, sh_s15, lq_s15, sh_s16, lq_s16, sh_s17, lq_s17, sh_s18, lq_s18, sh_s19, lq_s19, sh_s20, lq_s20, sh_s21, lq_s21, sh_s22, lq_s22, sh_s23, lq_s23, sh_s24, lq_s24, sh_s25, lq_s25, rg_s0_0, rg_s0_1, rg_s0_2, rg_s0_3, rg_s1_0, rg_s1_1, rg_s1_2, rg_s1_3, rg_s1_4, rg_s7_0, rg_s9_0, rg_s9_1, rg_s9_2, rg_s9_3, rg_s9_4, rg_s9_5, rg_s16_6, rg_s16_7, rg_s16_0, rg_s16_1, rg_s16_2, rg_s16_3, rg_s16_4, rg_s16_5, sh_o, lq_o, sh_o1, lq_o1, sh_o2, lq_o2, sh_o3, lq_o3, sh_o4, lq_o4, sh_o5, lq_o5, sh_o6, lq_o6, rg_o0, rg_o1, rg_o2, rg_o3, rg_o4, rg_o5, ex5, Option.toList_some, Option.toList_none, List.cons_append, List.nil_append, true_and, and_true, nI_1, p_at, p_set, p_isIn, p_max, p_min, p_abs, ht, hs, hC.1.1]
  exact h1 r
end
