def crwV (V : Vw) (srt hat : Int32) : Vw := fun f k => if f = 0 then srt else if f = 1 then hat else if f = 2 then 0 else if f = 3 then -1 else V f k
def wkV (V : Vw) (h : Int32) : Vw := fun f k => if f = 2 then h else V f k
/-- whether the first n of two rows are alike -/
def eqRow (A B : Nat → Int32) : Nat → Int32
  | 0 => 1
  | n + 1 => if A n = B n then eqRow A B n else 0
theorem eqRow_all {A B : Nat → Int32} {N : Nat} : (eqRow A B N = 1 ∧ ∀ k, k < N → A k = B k) ∨ (eqRow A B N = 0 ∧ ∃ k, k < N ∧ ¬ A k = B k) := by
  induction N with
  | zero => exact Or.inl ⟨rfl, fun p hp => absurd hp (Nat.not_lt_zero p)⟩
  | succ N ih =>
    by_cases c : A N = B N
    · have e : eqRow A B (N + 1) = eqRow A B N := by simp only [eqRow, if_pos c]
      rw [e]
      rcases ih with ⟨a, b⟩ | ⟨a, p, b, d⟩
      · refine Or.inl ⟨a, fun p hp => ?_⟩
        by_cases q : p = N
        · rw [q]; exact c
        · exact b p (by omega)
      · exact Or.inr ⟨a, p, by omega, d⟩
    · exact Or.inr ⟨by simp only [eqRow, if_neg c], N, by omega, c⟩
section
variable {L : Nat} {xs : Nat → Int32} {σ : Mm} {r : Option Value × Mm} {I J K : Nat → Nat → Int32} {Lm : Nat → Nat → Int64} {Rm : Nat → Nat → Nat} {n s so t N NS NH m M nw S U : Nat} {V W : Vw} {sp s2 ai p : Nat} {x y h v : Int32}
theorem rg_so (ht : t = 11) : up2 (RG nw sp s2 ai) t 5 (so + 1) = RG nw sp so ai := by
  subst ht
  funext p k
  unfold up2 RG
  by_cases c : p = 11 ∧ k = 5
  · obtain ⟨rfl, rfl⟩ := c; simp
  · rw [if_neg c, if_neg c, if_neg c]
theorem tw_ne (hT : Tw nw S U) (ht : t = 11) (i j : Nat) (hj : j ≤ 25) : S + i ≠ t + j := by
  rcases hT with ⟨-, rfl, -⟩ | ⟨-, rfl, -⟩ <;> omega
theorem twSo (hT : Tw nw S U) (hso : so = S + 9) : SB nw sp s2 ai S so := by subst hso; exact twSB hT
theorem ttSo (hT : Tw nw S U) (ht : t = 11) (hso : so = S + 9) : SB nw sp so ai t so := by subst hso; exact ttSB hT ht
theorem c_copyOf (hT : Tw nw S U) (ht : t = 11) (hso : so = S + 9) (hC : CR I S so N NS NH V) (hM : I S 6 = nI M) : ∃ J, (∀ r, Em L xs 60 [.ref t, .ref S] (179, I, Lm, RG nw sp s2 ai) r ↔ r = (none, 179, J, Lm, RG nw sp so ai)) ∧ CR J t so N NS NH V ∧ J t 6 = nI M ∧ J t 4 = I t 4 ∧ J (t + 23) = I (t + 23) ∧ Ft I J := by
  have hB : SB nw sp s2 ai S so := twSo hT hso
  have hB2 : SB nw sp so ai S so := twSo hT hso
  have hBt : SB nw sp so ai t so := ttSo hT ht hso
  have hs := hB.1; have hts := hBt.1; have hq := hB.2.2
  have hwt : wd t = 20 := by subst ht; rfl
  have hN := hC.2.1.1; have hwS := wd_le S
  have hn : ∀ i j, j ≤ 25 → S + i ≠ t + j := fun i j hj => tw_ne hT ht i j hj
  have hne : ∀ i j, i ≤ 25 → j ≤ 25 → (S + i = t + j) = False := fun i j _ hj => eq_false (hn i j hj)
  have hno : ∀ i j, j ≤ 25 → so + i ≠ t + j := fun i j hj => by have := hn (9 + i) j hj; omega
  have hC1 : CR (up2 I t 6 (nI M)) S so N NS NH V := crFr hC (fun i _ _ _ _ => funext fun k => up2_p (hn i 0 (by decide))) (fun i _ => funext fun k => up2_p (hno i 0 (by decide)))
  obtain ⟨J2, a1, a2, a3, a4⟩ := c_copyHats (L := L) (xs := xs) (Lm := Lm) hB2 hC1 hts hne
  have hC2 : CR J2 S so N NS NH V := crFr hC1 (fun i _ _ _ _ => a2 _ (hn i 1 (by decide)) (hn i 3 (by decide)) (hn i 4 (by decide)) (hn i 5 (by decide)) (hn i 6 (by decide))) (fun i _ => a2 _ (hno i 1 (by decide)) (hno i 3 (by decide)) (hno i 4 (by decide)) (hno i 5 (by decide)) (hno i 6 (by decide)))
  obtain ⟨J3, b1, b2, b3, b4⟩ := c_copyPeople (L := L) (xs := xs) (Lm := Lm) hB2 hC2 hts (by omega) hne
  have hC3 : CR J3 S so N NS NH V := crFr hC2 (fun i _ _ _ _ => b2 _ (hn i 16 (by decide)) (hn i 20 (by decide)) (hn i 21 (by decide)) (hn i 22 (by decide)) (hn i 24 (by decide))) (fun i _ => b2 _ (hno i 16 (by decide)) (hno i 20 (by decide)) (hno i 21 (by decide)) (hno i 22 (by decide)) (hno i 24 (by decide)))
  have e1 : ∀ p, p ≠ t → p ≠ t + 1 → p ≠ t + 3 → p ≠ t + 4 → p ≠ t + 5 → p ≠ t + 6 → p ≠ t + 16 → p ≠ t + 20 → p ≠ t + 21 → p ≠ t + 22 → p ≠ t + 24 → J3 p = I p := fun p c0 c1 c2 c3 c4 c5 c6 c7 c8 c9 c10 => ((b2 p c6 c7 c8 c9 c10).trans (a2 p c1 c2 c3 c4 c5)).trans (funext fun k => up2_p c0)
  have et : J3 t = up2 I t 6 (nI M) t := (b2 t (by omega) (by omega) (by omega) (by omega) (by omega)).trans (a2 t (by omega) (by omega) (by omega) (by omega) (by omega))
  refine ⟨J3, fun r => ?_, ⟨⟨b3, hC3.1.2.1, ?_⟩, ⟨by omega, hC.2.1.2⟩, b4, hC3.2.2.2.1, fun k hk => ?_⟩, ?_, ?_, e1 _ (by omega) (by omega) (by omega) (by omega) (by omega) (by omega) (by omega) (by omega) (by omega) (by omega) (by omega), fun p hp => e1 p (by omega) (by omega) (by omega) (by omega) (by omega) (by omega) (by omega) (by omega) (by omega) (by omega) (by omega)⟩
  · rw [em_60]
    simp only [x60_0, x60_1, x60_2, x60_5, x60_8, x60_9, x60_10, x60_13, x60_16, x60_17, x60_20, x60_21, x60_24, x60_27, x60_28, x60_31, x60_32, x60_35, x60_38, sh_s, lq_s, sh_s1, lq_s1, sh_s2, lq_s2, sh_s3, lq_s3, sh_s4, lq_s4, sh_s5, lq_s5, sh_s6, lq_s6, sh_s7, lq_s7, sh_s8, lq_s8, sh_s9, lq_s9, sh_s10, lq_s10, sh_s11, lq_s11, sh_s12, lq_s12, sh_s13, lq_s13, sh_s14, lq_s14, sh_s15, lq_s15, sh_s16, lq_s16, sh_s17, lq_s17, sh_s18, lq_s18, sh_s19, lq_s19, sh_s20, lq_s20, sh_s21, lq_s21, sh_s22, lq_s22, sh_s23, lq_s23, sh_s24, lq_s24, sh_s25, lq_s25, rg_s0_0, rg_s0_1, rg_s0_2, rg_s0_3, rg_s1_0, rg_s1_1, rg_s1_2, rg_s1_3, rg_s1_4, rg_s7_0, rg_s9_0, rg_s9_1, rg_s9_2, rg_s9_3, rg_s9_4, rg_s9_5, rg_s16_6, rg_s16_7, rg_s16_0, rg_s16_1, rg_s16_2, rg_s16_3, rg_s16_4, rg_s16_5, sh_o, lq_o, sh_o1, lq_o1, sh_o2, lq_o2, sh_o3, lq_o3, sh_o4, lq_o4, sh_o5, lq_o5, sh_o6, lq_o6, rg_o0, rg_o1, rg_o2, rg_o3, rg_o4, rg_o5, ex5, Option.toList_some, Option.toList_none, List.cons_append, List.nil_append, true_and, and_true, nI_1, p_at, p_set, p_isIn, p_max, p_min, p_abs, hs, hts, hq, hM, rg_so ht, a1, b1]
  · rw [b2 (t + 1) (by omega) (by omega) (by omega) (by omega) (by omega)]; exact a3
  · rw [b2 (t + 3) (by omega) (by omega) (by omega) (by omega) (by omega), b2 (t + 4) (by omega) (by omega) (by omega) (by omega) (by omega), b2 (t + 5) (by omega) (by omega) (by omega) (by omega) (by omega), b2 (t + 6) (by omega) (by omega) (by omega) (by omega) (by omega)]; exact a4 k hk
  · rw [et]; exact up2_eq
  · rw [et]; exact up2_k (by decide)
theorem c_alike (hB : SB nw sp s2 ai s so) (hC : CR I s so N NS NH V) (hn : n ≤ wd s) : ∃ J, (∀ r, Em L xs 9 [.ref (s + 16), .int (nI n), .int x, .int y] (179, I, Lm, RG nw sp s2 ai) r ↔ r = (none, 179, J, Lm, RG nw sp s2 ai)) ∧ CR J s so n NS NH (crwV V x y) ∧ (∀ p, p ≠ s + 16 → p ≠ s + 20 → p ≠ s + 21 → p ≠ s + 22 → p ≠ s + 24 → J p = I p) := by
  have hwd := wd_le s
  obtain ⟨hs, ho, hq⟩ := id hB
  have key : ∀ j, j ≤ n → ∀ J, (∀ p, p ≠ s + 16 → p ≠ s + 20 → p ≠ s + 21 → p ≠ s + 22 → p ≠ s + 24 → J p = I p) → J (s + 16) 8 = nI n → (∀ k, k < j → J (s + 20) k = x ∧ J (s + 21) k = y ∧ J (s + 22) k = 0 ∧ J (s + 24) k = -1) → ∃ J', (∀ r, Ev L xs 1 9 8 [some (.ref (s + 16)), some (.int (nI n)), some (.int x), some (.int y), some (.int (nI j))] [] (179, J, Lm, RG nw sp s2 ai) r ↔ r = (none, 179, J', Lm, RG nw sp s2 ai)) ∧ (∀ p, p ≠ s + 16 → p ≠ s + 20 → p ≠ s + 21 → p ≠ s + 22 → p ≠ s + 24 → J' p = I p) ∧ J' (s + 16) 8 = nI n ∧ (∀ k, k < n → J' (s + 20) k = x ∧ J' (s + 21) k = y ∧ J' (s + 22) k = 0 ∧ J' (s + 24) k = -1) := by
    refine up_ind ?_ ?_
    · intro J h1 h2 h3
      refine ⟨J, fun r => ?_, h1, h2, h3⟩
      rw [x9_8]
      simp only [x9_0, x9_1, x9_2, x9_5, x9_6, x9_10, x9_11, x9_14, x9_17, x9_18, x9_21, x9_23, x9_24, x9_27, x9_28, x9_31, x9_33, x9_34, x9_37, x9_38, x9_41, x9_43, x9_44, x9_47, x9_48, x9_51, x9_53, x9_54, x9_57, x9_60, x9_63, sh_s, lq_s, sh_s1, lq_s1, sh_s2, lq_s2, sh_s3, lq_s3, sh_s4, lq_s4, sh_s5, lq_s5, sh_s6, lq_s6, sh_s7, lq_s7, sh_s8, lq_s8, sh_s9, lq_s9, sh_s10, lq_s10, sh_s11, lq_s11, sh_s12, lq_s12, sh_s13, lq_s13, sh_s14, lq_s14, sh_s15, lq_s15, sh_s16, lq_s16, sh_s17, lq_s17, sh_s18, lq_s18, sh_s19, lq_s19, sh_s20, lq_s20, sh_s21, lq_s21, sh_s22, lq_s22, sh_s23, lq_s23, sh_s24, lq_s24, sh_s25, lq_s25, rg_s0_0, rg_s0_1, rg_s0_2, rg_s0_3, rg_s1_0, rg_s1_1, rg_s1_2, rg_s1_3, rg_s1_4, rg_s7_0, rg_s9_0, rg_s9_1, rg_s9_2, rg_s9_3, rg_s9_4, rg_s9_5, rg_s16_6, rg_s16_7, rg_s16_0, rg_s16_1, rg_s16_2, rg_s16_3, rg_s16_4, rg_s16_5, sh_o, lq_o, sh_o1, lq_o1, sh_o2, lq_o2, sh_o3, lq_o3, sh_o4, lq_o4, sh_o5, lq_o5, sh_o6, lq_o6, rg_o0, rg_o1, rg_o2, rg_o3, rg_o4, rg_o5, ex5, Option.toList_some, Option.toList_none, List.cons_append, List.nil_append, true_and, and_true, nI_1, p_at, p_set, p_isIn, p_max, p_min, p_abs, hs, h2, nI_le (Nat.le_refl n) (by omega), if_true]
    · intro j hj ih J h1 h2 h3
      have st0 : ∀ J v, setv J (s + 20) (nI j) v = up2 J (s + 20) j v := fun _ _ => setv_lt (by rw [sh_s20 hs]; show j < wd s; omega)
      have st1 : ∀ J v, setv J (s + 21) (nI j) v = up2 J (s + 21) j v := fun _ _ => setv_lt (by rw [sh_s21 hs]; show j < wd s; omega)
      have st2 : ∀ J v, setv J (s + 22) (nI j) v = up2 J (s + 22) j v := fun _ _ => setv_lt (by rw [sh_s22 hs]; show j < wd s; omega)
      have st3 : ∀ J v, setv J (s + 24) (nI j) v = up2 J (s + 24) j v := fun _ _ => setv_lt (by rw [sh_s24 hs]; show j < wd s; omega)
      have hQ := quadV (J := J) (a := s + 20) (b := s + 21) (c := s + 22) (d := s + 24) (j := j) (v1 := x) (v2 := y) (v3 := 0) (v4 := -1) (by omega) (by omega) (by omega) (by omega) (by omega) (by omega)
      have hQF : ∀ p, p ≠ s + 20 → p ≠ s + 21 → p ≠ s + 22 → p ≠ s + 24 → quadM J (s + 20) (s + 21) (s + 22) (s + 24) j x y 0 (-1) p = J p := fun p a b c d => quadF a b c d
      obtain ⟨J', g1, g2⟩ := ih (quadM J (s + 20) (s + 21) (s + 22) (s + 24) j x y 0 (-1)) (fun p a b c d e => (hQF p b c d e).trans (h1 p a b c d e)) (by rw [hQF (s + 16) (by omega) (by omega) (by omega) (by omega)]; exact h2) (fun k hk => by
        obtain ⟨q1, q2, q3, q4⟩ := hQ k
        rw [q1, q2, q3, q4]
        by_cases c : k = j
        · subst c; simp
        · simp only [c, if_false]; exact h3 k (by omega))
      refine ⟨J', fun r => ?_, g2⟩
      have g1 := g1 r
      unfold quadM at g1
      rw [← st0, ← st1, ← st2, ← st3] at g1
      rw [x9_8]
      simp only [x9_0, x9_1, x9_2, x9_5, x9_6, x9_10, x9_11, x9_14, x9_17, x9_18, x9_21, x9_23, x9_24, x9_27, x9_28, x9_31, x9_33, x9_34, x9_37, x9_38, x9_41, x9_43, x9_44, x9_47, x9_48, x9_51, x9_53, x9_54, x9_57, x9_60, x9_63, sh_s, lq_s, sh_s1, lq_s1, sh_s2, lq_s2, sh_s3, lq_s3, sh_s4, lq_s4, sh_s5, lq_s5, sh_s6, lq_s6, sh_s7, lq_s7, sh_s8, lq_s8, sh_s9, lq_s9, sh_s10, lq_s10, sh_s11, lq_s11, sh_s12, lq_s12, sh_s13, lq_s13, sh_s14, lq_s14, sh_s15, lq_s15, sh_s16, lq_s16, sh_s17, lq_s17, sh_s18, lq_s18, sh_s19, lq_s19, sh_s20, lq_s20, sh_s21, lq_s21, sh_s22, lq_s22, sh_s23, lq_s23, sh_s24, lq_s24, sh_s25, lq_s25, rg_s0_0, rg_s0_1, rg_s0_2, rg_s0_3, rg_s1_0, rg_s1_1, rg_s1_2, rg_s1_3, rg_s1_4, rg_s7_0, rg_s9_0, rg_s9_1, rg_s9_2, rg_s9_3, rg_s9_4, rg_s9_5, rg_s16_6, rg_s16_7, rg_s16_0, rg_s16_1, rg_s16_2, rg_s16_3, rg_s16_4, rg_s16_5, sh_o, lq_o, sh_o1, lq_o1, sh_o2, lq_o2, sh_o3, lq_o3, sh_o4, lq_o4, sh_o5, lq_o5, sh_o6, lq_o6, rg_o0, rg_o1, rg_o2, rg_o3, rg_o4, rg_o5, ex5, Option.toList_some, Option.toList_none, List.cons_append, List.nil_append, true_and, and_true, nI_1, p_at, p_set, p_isIn, p_max, p_min, p_abs, hs, h2, nI_ge hj (by omega), if_false]
      exact g1
  obtain ⟨J', h1, h2, h3, h4⟩ := key 0 (Nat.zero_le _) (up2 I (s + 16) 8 (nI n)) (fun p a _ _ _ _ => funext fun k => up2_p a) up2_eq (fun k hk => absurd hk (Nat.not_lt_zero k))
  have hoF : ∀ i, i ≤ 6 → J' (so + i) = I (so + i) := fun i hi => by
    refine h2 _ ?_ ?_ ?_ ?_ ?_ <;> rcases hs with rfl | rfl | rfl <;> rcases ho with rfl | rfl | rfl <;> omega
  have hsF : ∀ i, i ≠ 16 → i ≠ 20 → i ≠ 21 → i ≠ 22 → i ≠ 24 → J' (s + i) = I (s + i) := fun i a b c d e => h2 _ (by omega) (by omega) (by omega) (by omega) (by omega)
  refine ⟨J', fun r => ?_, ⟨⟨h3, ?_, ?_⟩, ⟨hn, hC.2.1.2⟩, h4, fun k hk => ?_, fun k hk => ?_⟩, h2⟩
  · rw [em_9]
    simp only [x9_0, x9_1, x9_2, x9_5, x9_6, x9_10, x9_11, x9_14, x9_17, x9_18, x9_21, x9_23, x9_24, x9_27, x9_28, x9_31, x9_33, x9_34, x9_37, x9_38, x9_41, x9_43, x9_44, x9_47, x9_48, x9_51, x9_53, x9_54, x9_57, x9_60, x9_63, sh_s, lq_s, sh_s1, lq_s1, sh_s2, lq_s2, sh_s3, lq_s3, sh_s4, lq_s4, sh_s5, lq_s5, sh_s6, lq_s6, sh_s7, lq_s7, sh_s8, lq_s8, sh_s9, lq_s9, sh_s10, lq_s10, sh_s11, lq_s11, sh_s12, lq_s12, sh_s13, lq_s13, sh_s14, lq_s14, sh_s15, lq_s15, sh_s16, lq_s16, sh_s17, lq_s17, sh_s18, lq_s18, sh_s19, lq_s19, sh_s20, lq_s20, sh_s21, lq_s21, sh_s22, lq_s22, sh_s23, lq_s23, sh_s24, lq_s24, sh_s25, lq_s25, rg_s0_0, rg_s0_1, rg_s0_2, rg_s0_3, rg_s1_0, rg_s1_1, rg_s1_2, rg_s1_3, rg_s1_4, rg_s7_0, rg_s9_0, rg_s9_1, rg_s9_2, rg_s9_3, rg_s9_4, rg_s9_5, rg_s16_6, rg_s16_7, rg_s16_0, rg_s16_1, rg_s16_2, rg_s16_3, rg_s16_4, rg_s16_5, sh_o, lq_o, sh_o1, lq_o1, sh_o2, lq_o2, sh_o3, lq_o3, sh_o4, lq_o4, sh_o5, lq_o5, sh_o6, lq_o6, rg_o0, rg_o1, rg_o2, rg_o3, rg_o4, rg_o5, ex5, Option.toList_some, Option.toList_none, List.cons_append, List.nil_append, true_and, and_true, nI_1, p_at, p_set, p_isIn, p_max, p_min, p_abs, hs]
    exact h1 r
  · have := hoF 0 (by decide); rw [Nat.add_zero] at this; rw [this]; exact hC.1.2.1
  · rw [hsF 1 (by decide) (by decide) (by decide) (by decide) (by decide)]; exact hC.1.2.2
  · rw [hoF 2 (by decide), hoF 3 (by decide), hoF 4 (by decide), hoF 5 (by decide), hoF 6 (by decide)]; exact hC.2.2.2.1 k hk
  · rw [hsF 3 (by decide) (by decide) (by decide) (by decide) (by decide), hsF 4 (by decide) (by decide) (by decide) (by decide) (by decide), hsF 5 (by decide) (by decide) (by decide) (by decide) (by decide), hsF 6 (by decide) (by decide) (by decide) (by decide) (by decide)]; exact hC.2.2.2.2 k hk
theorem c_workAll (hB : SB nw sp s2 ai s so) (hC : CR I s so N NS NH V) : ∃ J, (∀ r, Em L xs 12 [.ref (s + 16), .int h] (179, I, Lm, RG nw sp s2 ai) r ↔ r = (none, 179, J, Lm, RG nw sp s2 ai)) ∧ CR J s so N NS NH (wkV V h) ∧ (∀ p, p ≠ s + 22 → J p = I p) := by
  have hwd := wd_le s; have hN := hC.2.1.1
  obtain ⟨hs, ho, hq⟩ := id hB
  have key : ∀ j, j ≤ N → ∀ J, (∀ p, p ≠ s + 22 → J p = I p) → (∀ k, k < j → J (s + 22) k = h) → ∃ J', (∀ r, Ev L xs 1 12 2 [some (.ref (s + 16)), some (.int h), some (.int (nI j))] [] (179, J, Lm, RG nw sp s2 ai) r ↔ r = (none, 179, J', Lm, RG nw sp s2 ai)) ∧ (∀ p, p ≠ s + 22 → J' p = I p) ∧ (∀ k, k < N → J' (s + 22) k = h) := by
    refine up_ind ?_ ?_
    · intro J h1 h3
      refine ⟨J, fun r => ?_, h1, h3⟩
      have hc : J (s + 16) 8 = nI N := by rw [h1 _ (by omega)]; exact hC.1.1
      rw [x12_2]
      simp only [x12_0, x12_1, x12_3, x12_4, x12_7, x12_10, x12_11, x12_14, x12_15, x12_16, x12_19, x12_22, x12_25, sh_s, lq_s, sh_s1, lq_s1, sh_s2, lq_s2, sh_s3, lq_s3, sh_s4, lq_s4, sh_s5, lq_s5, sh_s6, lq_s6, sh_s7, lq_s7, sh_s8, lq_s8, sh_s9, lq_s9, sh_s10, lq_s10, sh_s11, lq_s11, sh_s12, lq_s12, sh_s13, lq_s13, sh_s14, lq_s14, sh_s15, lq_s15, sh_s16, lq_s16, sh_s17, lq_s17, sh_s18, lq_s18, sh_s19, lq_s19, sh_s20, lq_s20, sh_s21, lq_s21, sh_s22, lq_s22, sh_s23, lq_s23, sh_s24, lq_s24, sh_s25, lq_s25, rg_s0_0, rg_s0_1, rg_s0_2, rg_s0_3, rg_s1_0, rg_s1_1, rg_s1_2, rg_s1_3, rg_s1_4, rg_s7_0, rg_s9_0, rg_s9_1, rg_s9_2, rg_s9_3, rg_s9_4, rg_s9_5, rg_s16_6, rg_s16_7, rg_s16_0, rg_s16_1, rg_s16_2, rg_s16_3, rg_s16_4, rg_s16_5, sh_o, lq_o, sh_o1, lq_o1, sh_o2, lq_o2, sh_o3, lq_o3, sh_o4, lq_o4, sh_o5, lq_o5, sh_o6, lq_o6, rg_o0, rg_o1, rg_o2, rg_o3, rg_o4, rg_o5, ex5, Option.toList_some, Option.toList_none, List.cons_append, List.nil_append, true_and, and_true, nI_1, p_at, p_set, p_isIn, p_max, p_min, p_abs, hs, hc, nI_le (Nat.le_refl N) (by omega), if_true]
    · intro j hj ih J h1 h3
      have hc : J (s + 16) 8 = nI N := by rw [h1 _ (by omega)]; exact hC.1.1
      have st2 : ∀ J v, setv J (s + 22) (nI j) v = up2 J (s + 22) j v := fun _ _ => setv_lt (by rw [sh_s22 hs]; show j < wd s; omega)
      obtain ⟨J', g1, g2⟩ := ih (up2 J (s + 22) j h) (fun p a => (funext fun k => up2_p a : up2 J (s + 22) j h p = J p).trans (h1 p a)) (fun k hk => by
        by_cases c : k = j
        · rw [c, up2_eq]
        · rw [up2_k c]; exact h3 k (by omega))
      refine ⟨J', fun r => ?_, g2⟩
      have g1 := g1 r
      rw [← st2] at g1
      rw [x12_2]
      simp only [x12_0, x12_1, x12_3, x12_4, x12_7, x12_10, x12_11, x12_14, x12_15, x12_16, x12_19, x12_22, x12_25, sh_s, lq_s, sh_s1, lq_s1, sh_s2, lq_s2, sh_s3, lq_s3, sh_s4, lq_s4, sh_s5, lq_s5, sh_s6, lq_s6, sh_s7, lq_s7, sh_s8, lq_s8, sh_s9, lq_s9, sh_s10, lq_s10, sh_s11, lq_s11, sh_s12, lq_s12, sh_s13, lq_s13, sh_s14, lq_s14, sh_s15, lq_s15, sh_s16, lq_s16, sh_s17, lq_s17, sh_s18, lq_s18, sh_s19, lq_s19, sh_s20, lq_s20, sh_s21, lq_s21, sh_s22, lq_s22, sh_s23, lq_s23, sh_s24, lq_s24, sh_s25, lq_s25, rg_s0_0, rg_s0_1, rg_s0_2, rg_s0_3, rg_s1_0, rg_s1_1, rg_s1_2, rg_s1_3, rg_s1_4, rg_s7_0, rg_s9_0, rg_s9_1, rg_s9_2, rg_s9_3, rg_s9_4, rg_s9_5, rg_s16_6, rg_s16_7, rg_s16_0, rg_s16_1, rg_s16_2, rg_s16_3, rg_s16_4, rg_s16_5, sh_o, lq_o, sh_o1, lq_o1, sh_o2, lq_o2, sh_o3, lq_o3, sh_o4, lq_o4, sh_o5, lq_o5, sh_o6, lq_o6, rg_o0, rg_o1, rg_o2, rg_o3, rg_o4, rg_o5, ex5, Option.toList_some, Option.toList_none, List.cons_append, List.nil_append, true_and, and_true, nI_1, p_at, p_set, p_isIn, p_max, p_min, p_abs, hs, hc, nI_ge hj (by omega), if_false]
      exact g1
  obtain ⟨J', h1, h2, h4⟩ := key 0 (Nat.zero_le _) I (fun _ _ => rfl) (fun k hk => absurd hk (Nat.not_lt_zero k))
  refine ⟨J', fun r => ?_, ?_, h2⟩
  · rw [em_12]
    simp only [x12_0, x12_1, x12_3, x12_4, x12_7, x12_10, x12_11, x12_14, x12_15, x12_16, x12_19, x12_22, x12_25, sh_s, lq_s, sh_s1, lq_s1, sh_s2, lq_s2, sh_s3, lq_s3, sh_s4, lq_s4, sh_s5, lq_s5, sh_s6, lq_s6, sh_s7, lq_s7, sh_s8, lq_s8, sh_s9, lq_s9, sh_s10, lq_s10, sh_s11, lq_s11, sh_s12, lq_s12, sh_s13, lq_s13, sh_s14, lq_s14, sh_s15, lq_s15, sh_s16, lq_s16, sh_s17, lq_s17, sh_s18, lq_s18, sh_s19, lq_s19, sh_s20, lq_s20, sh_s21, lq_s21, sh_s22, lq_s22, sh_s23, lq_s23, sh_s24, lq_s24, sh_s25, lq_s25, rg_s0_0, rg_s0_1, rg_s0_2, rg_s0_3, rg_s1_0, rg_s1_1, rg_s1_2, rg_s1_3, rg_s1_4, rg_s7_0, rg_s9_0, rg_s9_1, rg_s9_2, rg_s9_3, rg_s9_4, rg_s9_5, rg_s16_6, rg_s16_7, rg_s16_0, rg_s16_1, rg_s16_2, rg_s16_3, rg_s16_4, rg_s16_5, sh_o, lq_o, sh_o1, lq_o1, sh_o2, lq_o2, sh_o3, lq_o3, sh_o4, lq_o4, sh_o5, lq_o5, sh_o6, lq_o6, rg_o0, rg_o1, rg_o2, rg_o3, rg_o4, rg_o5, ex5, Option.toList_some, Option.toList_none, List.cons_append, List.nil_append, true_and, and_true, nI_1, p_at, p_set, p_isIn, p_max, p_min, p_abs, hs]
    exact h1 r
  · have hoF : ∀ i, i ≤ 6 → J' (so + i) = I (so + i) := fun i hi => h2 _ (So_n2 hB i hi 22 (Or.inr rfl))
    obtain ⟨⟨a1, a2, a3⟩, b1, c1, d1, e1⟩ := hC
    have hsF : ∀ i, i ≠ 22 → J' (s + i) = I (s + i) := fun i a => h2 _ (by omega)
    refine ⟨⟨?_, ?_, ?_⟩, b1, fun k hk => ?_, fun k hk => ?_, fun k hk => ?_⟩
    · rw [hsF 16 (by decide)]; exact a1
    · have := hoF 0 (by decide); rw [Nat.add_zero] at this; rw [this]; exact a2
    · rw [hsF 1 (by decide)]; exact a3
    · rw [hsF 20 (by decide), hsF 21 (by decide), hsF 24 (by decide)]
      obtain ⟨q0, q1, q2, q3⟩ := c1 k hk
      exact ⟨q0, q1, h4 k hk, q3⟩
    · rw [hoF 2 (by decide), hoF 3 (by decide), hoF 4 (by decide), hoF 5 (by decide), hoF 6 (by decide)]; exact d1 k hk
    · rw [hsF 3 (by decide), hsF 4 (by decide), hsF 5 (by decide), hsF 6 (by decide)]; exact e1 k hk
theorem c_noteHours (hB : SB nw sp s2 ai s so) (hC : CR I s so N NS NH V) : ∃ J, (∀ r, Em L xs 13 [.ref (s + 16)] (179, I, Lm, RG nw sp s2 ai) r ↔ r = (none, 179, J, Lm, RG nw sp s2 ai)) ∧ (∀ p, p ≠ s + 23 → J p = I p) ∧ (∀ k, k < N → J (s + 23) k = V 2 k) := by
  have hwd := wd_le s; have hN := hC.2.1.1
  obtain ⟨hs, ho, hq⟩ := id hB
  have key : ∀ j, j ≤ N → ∀ J, (∀ p, p ≠ s + 23 → J p = I p) → (∀ k, k < j → J (s + 23) k = V 2 k) → ∃ J', (∀ r, Ev L xs 1 13 2 [some (.ref (s + 16)), some (.int (nI j))] [] (179, J, Lm, RG nw sp s2 ai) r ↔ r = (none, 179, J', Lm, RG nw sp s2 ai)) ∧ (∀ p, p ≠ s + 23 → J' p = I p) ∧ (∀ k, k < N → J' (s + 23) k = V 2 k) := by
    refine up_ind ?_ ?_
    · intro J h1 h3
      refine ⟨J, fun r => ?_, h1, h3⟩
      have hc : J (s + 16) 8 = nI N := by rw [h1 _ (by omega)]; exact hC.1.1
      rw [x13_2]
      simp only [x13_0, x13_1, x13_3, x13_4, x13_7, x13_10, x13_11, x13_14, x13_15, x13_16, x13_19, x13_20, x13_23, x13_26, x13_29, x13_32, sh_s, lq_s, sh_s1, lq_s1, sh_s2, lq_s2, sh_s3, lq_s3, sh_s4, lq_s4, sh_s5, lq_s5, sh_s6, lq_s6, sh_s7, lq_s7, sh_s8, lq_s8, sh_s9, lq_s9, sh_s10, lq_s10, sh_s11, lq_s11, sh_s12, lq_s12, sh_s13, lq_s13, sh_s14, lq_s14, sh_s15, lq_s15, sh_s16, lq_s16, sh_s17, lq_s17, sh_s18, lq_s18, sh_s19, lq_s19, sh_s20, lq_s20, sh_s21, lq_s21, sh_s22, lq_s22, sh_s23, lq_s23, sh_s24, lq_s24, sh_s25, lq_s25, rg_s0_0, rg_s0_1, rg_s0_2, rg_s0_3, rg_s1_0, rg_s1_1, rg_s1_2, rg_s1_3, rg_s1_4, rg_s7_0, rg_s9_0, rg_s9_1, rg_s9_2, rg_s9_3, rg_s9_4, rg_s9_5, rg_s16_6, rg_s16_7, rg_s16_0, rg_s16_1, rg_s16_2, rg_s16_3, rg_s16_4, rg_s16_5, sh_o, lq_o, sh_o1, lq_o1, sh_o2, lq_o2, sh_o3, lq_o3, sh_o4, lq_o4, sh_o5, lq_o5, sh_o6, lq_o6, rg_o0, rg_o1, rg_o2, rg_o3, rg_o4, rg_o5, ex5, Option.toList_some, Option.toList_none, List.cons_append, List.nil_append, true_and, and_true, nI_1, p_at, p_set, p_isIn, p_max, p_min, p_abs, hs, hc, nI_le (Nat.le_refl N) (by omega), if_true]
    · intro j hj ih J h1 h3
      have hc : J (s + 16) 8 = nI N := by rw [h1 _ (by omega)]; exact hC.1.1
      have hv : atv J (s + 22) (nI j) = V 2 j := by
        have e : atv J (s + 22) (nI j) = atv I (s + 22) (nI j) := by unfold atv; rw [h1 _ (by omega)]
        rw [e]; exact a_hrs hB hC hj
      have st2 : ∀ J v, setv J (s + 23) (nI j) v = up2 J (s + 23) j v := fun _ _ => setv_lt (by rw [sh_s23 hs]; show j < wd s; omega)
      obtain ⟨J', g1, g2⟩ := ih (up2 J (s + 23) j (V 2 j)) (fun p a => (funext fun k => up2_p a : up2 J (s + 23) j (V 2 j) p = J p).trans (h1 p a)) (fun k hk => by
        by_cases c : k = j
        · rw [c, up2_eq]
        · rw [up2_k c]; exact h3 k (by omega))
      refine ⟨J', fun r => ?_, g2⟩
      have g1 := g1 r
      rw [← st2] at g1
      rw [x13_2]
      simp only [x13_0, x13_1, x13_3, x13_4, x13_7, x13_10, x13_11, x13_14, x13_15, x13_16, x13_19, x13_20, x13_23, x13_26, x13_29, x13_32, sh_s, lq_s, sh_s1, lq_s1, sh_s2, lq_s2, sh_s3, lq_s3, sh_s4, lq_s4, sh_s5, lq_s5, sh_s6, lq_s6, sh_s7, lq_s7, sh_s8, lq_s8, sh_s9, lq_s9, sh_s10, lq_s10, sh_s11, lq_s11, sh_s12, lq_s12, sh_s13, lq_s13, sh_s14, lq_s14, sh_s15, lq_s15, sh_s16, lq_s16, sh_s17, lq_s17, sh_s18, lq_s18, sh_s19, lq_s19, sh_s20, lq_s20, sh_s21, lq_s21, sh_s22, lq_s22, sh_s23, lq_s23, sh_s24, lq_s24, sh_s25, lq_s25, rg_s0_0, rg_s0_1, rg_s0_2, rg_s0_3, rg_s1_0, rg_s1_1, rg_s1_2, rg_s1_3, rg_s1_4, rg_s7_0, rg_s9_0, rg_s9_1, rg_s9_2, rg_s9_3, rg_s9_4, rg_s9_5, rg_s16_6, rg_s16_7, rg_s16_0, rg_s16_1, rg_s16_2, rg_s16_3, rg_s16_4, rg_s16_5, sh_o, lq_o, sh_o1, lq_o1, sh_o2, lq_o2, sh_o3, lq_o3, sh_o4, lq_o4, sh_o5, lq_o5, sh_o6, lq_o6, rg_o0, rg_o1, rg_o2, rg_o3, rg_o4, rg_o5, ex5, Option.toList_some, Option.toList_none, List.cons_append, List.nil_append, true_and, and_true, nI_1, p_at, p_set, p_isIn, p_max, p_min, p_abs, hs, hc, nI_ge hj (by omega), if_false, hv]
      exact g1
  obtain ⟨J', h1, h2⟩ := key 0 (Nat.zero_le _) I (fun _ _ => rfl) (fun k hk => absurd hk (Nat.not_lt_zero k))
  refine ⟨J', fun r => ?_, h2⟩
  rw [em_13]
  simp only [x13_0, x13_1, x13_3, x13_4, x13_7, x13_10, x13_11, x13_14, x13_15, x13_16, x13_19, x13_20, x13_23, x13_26, x13_29, x13_32, sh_s, lq_s, sh_s1, lq_s1, sh_s2, lq_s2, sh_s3, lq_s3, sh_s4, lq_s4, sh_s5, lq_s5, sh_s6, lq_s6, sh_s7, lq_s7, sh_s8, lq_s8, sh_s9, lq_s9, sh_s10, lq_s10, sh_s11, lq_s11, sh_s12, lq_s12, sh_s13, lq_s13, sh_s14, lq_s14, sh_s15, lq_s15, sh_s16, lq_s16, sh_s17, lq_s17, sh_s18, lq_s18, sh_s19, lq_s19, sh_s20, lq_s20, sh_s21, lq_s21, sh_s22, lq_s22, sh_s23, lq_s23, sh_s24, lq_s24, sh_s25, lq_s25, rg_s0_0, rg_s0_1, rg_s0_2, rg_s0_3, rg_s1_0, rg_s1_1, rg_s1_2, rg_s1_3, rg_s1_4, rg_s7_0, rg_s9_0, rg_s9_1, rg_s9_2, rg_s9_3, rg_s9_4, rg_s9_5, rg_s16_6, rg_s16_7, rg_s16_0, rg_s16_1, rg_s16_2, rg_s16_3, rg_s16_4, rg_s16_5, sh_o, lq_o, sh_o1, lq_o1, sh_o2, lq_o2, sh_o3, lq_o3, sh_o4, lq_o4, sh_o5, lq_o5, sh_o6, lq_o6, rg_o0, rg_o1, rg_o2, rg_o3, rg_o4, rg_o5, ex5, Option.toList_some, Option.toList_none, List.cons_append, List.nil_append, true_and, and_true, nI_1, p_at, p_set, p_isIn, p_max, p_min, p_abs, hs]
  exact h1 r
theorem c_asNoted {A : Nat → Int32} (hB : SB nw sp s2 ai s so) (hC : CR I s so N NS NH V) (hA : ∀ k, k < N → I (s + 23) k = A k) : Em L xs 14 [.ref (s + 16)] (179, I, Lm, RG nw sp s2 ai) r ↔ r = (some (.int (eqRow A (V 2) N)), 179, I, Lm, RG nw sp s2 ai) := by
  have hN := hC.2.1.1; have hN2 := wd_le s
  rw [em_14]
  obtain ⟨hs, ho, hq⟩ := id hB
  have key : ∀ j, j ≤ N → (∀ p, p < j → A p = V 2 p) → (Ev L xs 1 14 2 [some (.ref (s + 16)), some (.int (nI j))] [] (179, I, Lm, RG nw sp s2 ai) r ↔ r = (some (.int (eqRow A (V 2) N)), 179, I, Lm, RG nw sp s2 ai)) := by
    refine up_ind ?_ ?_
    · intro hf
      have hv : eqRow A (V 2) N = 1 := by
        rcases eqRow_all (A := A) (B := V 2) (N := N) with ⟨a, -⟩ | ⟨-, p, a, b⟩
        · exact a
        · exact absurd (hf p a) b
      rw [x14_2]
      simp only [x14_0, x14_1, x14_3, x14_4, x14_7, x14_10, x14_11, x14_14, x14_15, x14_18, x14_19, x14_22, x14_23, x14_26, x14_29, x14_30, x14_31, x14_34, x14_37, x14_38, sh_s, lq_s, sh_s1, lq_s1, sh_s2, lq_s2, sh_s3, lq_s3, sh_s4, lq_s4, sh_s5, lq_s5, sh_s6, lq_s6, sh_s7, lq_s7, sh_s8, lq_s8, sh_s9, lq_s9, sh_s10, lq_s10, sh_s11, lq_s11, sh_s12, lq_s12, sh_s13, lq_s13, sh_s14, lq_s14, sh_s15, lq_s15, sh_s16, lq_s16, sh_s17, lq_s17, sh_s18, lq_s18, sh_s19, lq_s19, sh_s20, lq_s20, sh_s21, lq_s21, sh_s22, lq_s22, sh_s23, lq_s23, sh_s24, lq_s24, sh_s25, lq_s25, rg_s0_0, rg_s0_1, rg_s0_2, rg_s0_3, rg_s1_0, rg_s1_1, rg_s1_2, rg_s1_3, rg_s1_4, rg_s7_0, rg_s9_0, rg_s9_1, rg_s9_2, rg_s9_3, rg_s9_4, rg_s9_5, rg_s16_6, rg_s16_7, rg_s16_0, rg_s16_1, rg_s16_2, rg_s16_3, rg_s16_4, rg_s16_5, sh_o, lq_o, sh_o1, lq_o1, sh_o2, lq_o2, sh_o3, lq_o3, sh_o4, lq_o4, sh_o5, lq_o5, sh_o6, lq_o6, rg_o0, rg_o1, rg_o2, rg_o3, rg_o4, rg_o5, ex5, Option.toList_some, Option.toList_none, List.cons_append, List.nil_append, true_and, and_true, nI_1, p_at, p_set, p_isIn, p_max, p_min, p_abs, hs, hC.1.1, nI_le (Nat.le_refl N) (by omega), if_true, hv, or_true]
    · intro j hj ih hf
      have ha : atv I (s + 23) (nI j) = A j := by rw [atv_lt (by rw [sh_s23 hs]; show j < wd s; omega)]; exact hA j hj
      rw [x14_2]
      by_cases c : A j = V 2 j
      · simp only [x14_0, x14_1, x14_3, x14_4, x14_7, x14_10, x14_11, x14_14, x14_15, x14_18, x14_19, x14_22, x14_23, x14_26, x14_29, x14_30, x14_31, x14_34, x14_37, x14_38, sh_s, lq_s, sh_s1, lq_s1, sh_s2, lq_s2, sh_s3, lq_s3, sh_s4, lq_s4, sh_s5, lq_s5, sh_s6, lq_s6, sh_s7, lq_s7, sh_s8, lq_s8, sh_s9, lq_s9, sh_s10, lq_s10, sh_s11, lq_s11, sh_s12, lq_s12, sh_s13, lq_s13, sh_s14, lq_s14, sh_s15, lq_s15, sh_s16, lq_s16, sh_s17, lq_s17, sh_s18, lq_s18, sh_s19, lq_s19, sh_s20, lq_s20, sh_s21, lq_s21, sh_s22, lq_s22, sh_s23, lq_s23, sh_s24, lq_s24, sh_s25, lq_s25, rg_s0_0, rg_s0_1, rg_s0_2, rg_s0_3, rg_s1_0, rg_s1_1, rg_s1_2, rg_s1_3, rg_s1_4, rg_s7_0, rg_s9_0, rg_s9_1, rg_s9_2, rg_s9_3, rg_s9_4, rg_s9_5, rg_s16_6, rg_s16_7, rg_s16_0, rg_s16_1, rg_s16_2, rg_s16_3, rg_s16_4, rg_s16_5, sh_o, lq_o, sh_o1, lq_o1, sh_o2, lq_o2, sh_o3, lq_o3, sh_o4, lq_o4, sh_o5, lq_o5, sh_o6, lq_o6, rg_o0, rg_o1, rg_o2, rg_o3, rg_o4, rg_o5, ex5, Option.toList_some, Option.toList_none, List.cons_append, List.nil_append, true_and, and_true, nI_1, p_at, p_set, p_isIn, p_max, p_min, p_abs, hs, hC.1.1, nI_ge hj (by omega), if_false, ha, a_hrs hB hC hj, c, if_true]
        refine ih fun p hp => ?_
        by_cases q : p = j
        · rw [q]; exact c
        · exact hf p (by omega)
      · have hv : eqRow A (V 2) N = 0 := by
          rcases eqRow_all (A := A) (B := V 2) (N := N) with ⟨-, a⟩ | ⟨a, -⟩
          · exact absurd (a j hj) c
          · exact a
        simp only [x14_0, x14_1, x14_3, x14_4, x14_7, x14_10, x14_11, x14_14, x14_15, x14_18, x14_19, x14_22, x14_23, x14_26, x14_29, x14_30, x14_31, x14_34, x14_37, x14_38, sh_s, lq_s, sh_s1, lq_s1, sh_s2, lq_s2, sh_s3, lq_s3, sh_s4, lq_s4, sh_s5, lq_s5, sh_s6, lq_s6, sh_s7, lq_s7, sh_s8, lq_s8, sh_s9, lq_s9, sh_s10, lq_s10, sh_s11, lq_s11, sh_s12, lq_s12, sh_s13, lq_s13, sh_s14, lq_s14, sh_s15, lq_s15, sh_s16, lq_s16, sh_s17, lq_s17, sh_s18, lq_s18, sh_s19, lq_s19, sh_s20, lq_s20, sh_s21, lq_s21, sh_s22, lq_s22, sh_s23, lq_s23, sh_s24, lq_s24, sh_s25, lq_s25, rg_s0_0, rg_s0_1, rg_s0_2, rg_s0_3, rg_s1_0, rg_s1_1, rg_s1_2, rg_s1_3, rg_s1_4, rg_s7_0, rg_s9_0, rg_s9_1, rg_s9_2, rg_s9_3, rg_s9_4, rg_s9_5, rg_s16_6, rg_s16_7, rg_s16_0, rg_s16_1, rg_s16_2, rg_s16_3, rg_s16_4, rg_s16_5, sh_o, lq_o, sh_o1, lq_o1, sh_o2, lq_o2, sh_o3, lq_o3, sh_o4, lq_o4, sh_o5, lq_o5, sh_o6, lq_o6, rg_o0, rg_o1, rg_o2, rg_o3, rg_o4, rg_o5, ex5, Option.toList_some, Option.toList_none, List.cons_append, List.nil_append, true_and, and_true, nI_1, p_at, p_set, p_isIn, p_max, p_min, p_abs, hs, hC.1.1, nI_ge hj (by omega), if_false, ha, a_hrs hB hC hj, c, hv, true_or]
  simp only [x14_0, x14_1, x14_3, x14_4, x14_7, x14_10, x14_11, x14_14, x14_15, x14_18, x14_19, x14_22, x14_23, x14_26, x14_29, x14_30, x14_31, x14_34, x14_37, x14_38]
  exact key 0 (Nat.zero_le _) (fun p hp => absurd hp (Nat.not_lt_zero p))
/-! whether there is such a one -/
theorem inb_nat {x : Int32} (hn : n < 2 ^ 31) : (0 ≤ x ∧ x < nI n) ↔ inb x n := by
  rw [Int32.le_iff_toInt_le, Int32.lt_iff_toInt_lt, nI_toInt hn]
  exact Iff.rfl
theorem c_hasP (hB : SB nw sp s2 ai s so) (hC : CR I s so N NS NH V) : Em L xs 61 [.ref s, .int x] (179, I, Lm, RG nw sp s2 ai) r ↔ r = (some (.int (if inb x N then 1 else 0)), 179, I, Lm, RG nw sp s2 ai) := by
  have hN := hC.2.1.1; have hN2 := wd_le s
  obtain ⟨hs, ho, hq⟩ := id hB
  have e : b2i (0 ≤ x ∧ x < nI N) = if inb x N then 1 else 0 := by
    unfold b2i
    by_cases c : inb x N
    · rw [if_pos ((inb_nat (by omega)).mpr c), if_pos c]
    · rw [if_neg (fun k => c ((inb_nat (by omega)).mp k)), if_neg c]
  have e2 : (b2i (0 ≤ x ∧ x < nI N) = 0 ∨ b2i (0 ≤ x ∧ x < nI N) = 1) = True := by
    rw [e]; split <;> simp
  rw [em_61]
  simp only [x61_0, x61_1, x61_2, x61_5, x61_8, x61_11, sh_s, lq_s, sh_s1, lq_s1, sh_s2, lq_s2, sh_s3, lq_s3, sh_s4, lq_s4, sh_s5, lq_s5, sh_s6, lq_s6, sh_s7, lq_s7, sh_s8, lq_s8, sh_s9, lq_s9, sh_s10, lq_s10, sh_s11, lq_s11, sh_s12, lq_s12, sh_s13, lq_s13, sh_s14, lq_s14, sh_s15, lq_s15, sh_s16, lq_s16, sh_s17, lq_s17, sh_s18, lq_s18, sh_s19, lq_s19, sh_s20, lq_s20, sh_s21, lq_s21, sh_s22, lq_s22, sh_s23, lq_s23, sh_s24, lq_s24, sh_s25, lq_s25, rg_s0_0, rg_s0_1, rg_s0_2, rg_s0_3, rg_s1_0, rg_s1_1, rg_s1_2, rg_s1_3, rg_s1_4, rg_s7_0, rg_s9_0, rg_s9_1, rg_s9_2, rg_s9_3, rg_s9_4, rg_s9_5, rg_s16_6, rg_s16_7, rg_s16_0, rg_s16_1, rg_s16_2, rg_s16_3, rg_s16_4, rg_s16_5, sh_o, lq_o, sh_o1, lq_o1, sh_o2, lq_o2, sh_o3, lq_o3, sh_o4, lq_o4, sh_o5, lq_o5, sh_o6, lq_o6, rg_o0, rg_o1, rg_o2, rg_o3, rg_o4, rg_o5, ex5, Option.toList_some, Option.toList_none, List.cons_append, List.nil_append, true_and, and_true, nI_1, p_at, p_set, p_isIn, p_max, p_min, p_abs, hs, hC.1.1, e2]
  rw [e]
theorem c_canW (hB : SB nw sp s2 ai s so) (hM : I s 6 = nI M) (hM2 : M ≤ 60) : Em L xs 62 [.ref s, .int x] (179, I, Lm, RG nw sp s2 ai) r ↔ r = (some (.int (if inb x (M + 1) then 1 else 0)), 179, I, Lm, RG nw sp s2 ai) := by
  obtain ⟨hs, ho, hq⟩ := id hB
  rw [em_62]
  by_cases c1 : x < 0
  · have c : ¬ inb x (M + 1) := fun k => by have := i_neg.mp c1; have := k.1; omega
    simp only [x62_0, x62_1, x62_4, x62_5, x62_6, x62_9, x62_12, x62_13, x62_16, x62_17, sh_s, lq_s, sh_s1, lq_s1, sh_s2, lq_s2, sh_s3, lq_s3, sh_s4, lq_s4, sh_s5, lq_s5, sh_s6, lq_s6, sh_s7, lq_s7, sh_s8, lq_s8, sh_s9, lq_s9, sh_s10, lq_s10, sh_s11, lq_s11, sh_s12, lq_s12, sh_s13, lq_s13, sh_s14, lq_s14, sh_s15, lq_s15, sh_s16, lq_s16, sh_s17, lq_s17, sh_s18, lq_s18, sh_s19, lq_s19, sh_s20, lq_s20, sh_s21, lq_s21, sh_s22, lq_s22, sh_s23, lq_s23, sh_s24, lq_s24, sh_s25, lq_s25, rg_s0_0, rg_s0_1, rg_s0_2, rg_s0_3, rg_s1_0, rg_s1_1, rg_s1_2, rg_s1_3, rg_s1_4, rg_s7_0, rg_s9_0, rg_s9_1, rg_s9_2, rg_s9_3, rg_s9_4, rg_s9_5, rg_s16_6, rg_s16_7, rg_s16_0, rg_s16_1, rg_s16_2, rg_s16_3, rg_s16_4, rg_s16_5, sh_o, lq_o, sh_o1, lq_o1, sh_o2, lq_o2, sh_o3, lq_o3, sh_o4, lq_o4, sh_o5, lq_o5, sh_o6, lq_o6, rg_o0, rg_o1, rg_o2, rg_o3, rg_o4, rg_o5, ex5, Option.toList_some, Option.toList_none, List.cons_append, List.nil_append, true_and, and_true, nI_1, p_at, p_set, p_isIn, p_max, p_min, p_abs, hs, hM, c1, c, if_true, if_false, true_or]
  · by_cases c2 : nI M < x
    · have c : ¬ inb x (M + 1) := fun k => by
        have c3 := Int32.lt_iff_toInt_lt.mp c2
        rw [nI_toInt (by omega)] at c3
        have := k.2; omega
      simp only [x62_0, x62_1, x62_4, x62_5, x62_6, x62_9, x62_12, x62_13, x62_16, x62_17, sh_s, lq_s, sh_s1, lq_s1, sh_s2, lq_s2, sh_s3, lq_s3, sh_s4, lq_s4, sh_s5, lq_s5, sh_s6, lq_s6, sh_s7, lq_s7, sh_s8, lq_s8, sh_s9, lq_s9, sh_s10, lq_s10, sh_s11, lq_s11, sh_s12, lq_s12, sh_s13, lq_s13, sh_s14, lq_s14, sh_s15, lq_s15, sh_s16, lq_s16, sh_s17, lq_s17, sh_s18, lq_s18, sh_s19, lq_s19, sh_s20, lq_s20, sh_s21, lq_s21, sh_s22, lq_s22, sh_s23, lq_s23, sh_s24, lq_s24, sh_s25, lq_s25, rg_s0_0, rg_s0_1, rg_s0_2, rg_s0_3, rg_s1_0, rg_s1_1, rg_s1_2, rg_s1_3, rg_s1_4, rg_s7_0, rg_s9_0, rg_s9_1, rg_s9_2, rg_s9_3, rg_s9_4, rg_s9_5, rg_s16_6, rg_s16_7, rg_s16_0, rg_s16_1, rg_s16_2, rg_s16_3, rg_s16_4, rg_s16_5, sh_o, lq_o, sh_o1, lq_o1, sh_o2, lq_o2, sh_o3, lq_o3, sh_o4, lq_o4, sh_o5, lq_o5, sh_o6, lq_o6, rg_o0, rg_o1, rg_o2, rg_o3, rg_o4, rg_o5, ex5, Option.toList_some, Option.toList_none, List.cons_append, List.nil_append, true_and, and_true, nI_1, p_at, p_set, p_isIn, p_max, p_min, p_abs, hs, hM, c1, c2, c, if_true, if_false, true_or]
    · have c : inb x (M + 1) := by
        have c3 := Int32.le_iff_toInt_le.mp (Int32.not_lt.mp c2)
        rw [nI_toInt (by omega)] at c3
        have c4 : ¬ x.toInt < 0 := fun k => c1 (i_neg.mpr k)
        exact ⟨by omega, by omega⟩
      simp only [x62_0, x62_1, x62_4, x62_5, x62_6, x62_9, x62_12, x62_13, x62_16, x62_17, sh_s, lq_s, sh_s1, lq_s1, sh_s2, lq_s2, sh_s3, lq_s3, sh_s4, lq_s4, sh_s5, lq_s5, sh_s6, lq_s6, sh_s7, lq_s7, sh_s8, lq_s8, sh_s9, lq_s9, sh_s10, lq_s10, sh_s11, lq_s11, sh_s12, lq_s12, sh_s13, lq_s13, sh_s14, lq_s14, sh_s15, lq_s15, sh_s16, lq_s16, sh_s17, lq_s17, sh_s18, lq_s18, sh_s19, lq_s19, sh_s20, lq_s20, sh_s21, lq_s21, sh_s22, lq_s22, sh_s23, lq_s23, sh_s24, lq_s24, sh_s25, lq_s25, rg_s0_0, rg_s0_1, rg_s0_2, rg_s0_3, rg_s1_0, rg_s1_1, rg_s1_2, rg_s1_3, rg_s1_4, rg_s7_0, rg_s9_0, rg_s9_1, rg_s9_2, rg_s9_3, rg_s9_4, rg_s9_5, rg_s16_6, rg_s16_7, rg_s16_0, rg_s16_1, rg_s16_2, rg_s16_3, rg_s16_4, rg_s16_5, sh_o, lq_o, sh_o1, lq_o1, sh_o2, lq_o2, sh_o3, lq_o3, sh_o4, lq_o4, sh_o5, lq_o5, sh_o6, lq_o6, rg_o0, rg_o1, rg_o2, rg_o3, rg_o4, rg_o5, ex5, Option.toList_some, Option.toList_none, List.cons_append, List.nil_append, true_and, and_true, nI_1, p_at, p_set, p_isIn, p_max, p_min, p_abs, hs, hM, c1, c2, eq_true c, if_true, if_false, or_true]
theorem c_isPl (hB : SB nw sp s2 ai s so) (hC : CR I s so N NS NH V) : Em L xs 63 [.ref s, .int x] (179, I, Lm, RG nw sp s2 ai) r ↔ r = (some (.int (if x = -1 ∨ inb x NH then 1 else 0)), 179, I, Lm, RG nw sp s2 ai) := by
  have hH := hC.2.1.2.2
  obtain ⟨hs, ho, hq⟩ := id hB
  rw [em_63]
  by_cases c1 : x = -1
  · simp only [x63_0, x63_1, x63_2, x63_5, x63_6, x63_7, x63_10, x63_13, x63_16, x63_19, x63_20, x63_23, x63_24, sh_s, lq_s, sh_s1, lq_s1, sh_s2, lq_s2, sh_s3, lq_s3, sh_s4, lq_s4, sh_s5, lq_s5, sh_s6, lq_s6, sh_s7, lq_s7, sh_s8, lq_s8, sh_s9, lq_s9, sh_s10, lq_s10, sh_s11, lq_s11, sh_s12, lq_s12, sh_s13, lq_s13, sh_s14, lq_s14, sh_s15, lq_s15, sh_s16, lq_s16, sh_s17, lq_s17, sh_s18, lq_s18, sh_s19, lq_s19, sh_s20, lq_s20, sh_s21, lq_s21, sh_s22, lq_s22, sh_s23, lq_s23, sh_s24, lq_s24, sh_s25, lq_s25, rg_s0_0, rg_s0_1, rg_s0_2, rg_s0_3, rg_s1_0, rg_s1_1, rg_s1_2, rg_s1_3, rg_s1_4, rg_s7_0, rg_s9_0, rg_s9_1, rg_s9_2, rg_s9_3, rg_s9_4, rg_s9_5, rg_s16_6, rg_s16_7, rg_s16_0, rg_s16_1, rg_s16_2, rg_s16_3, rg_s16_4, rg_s16_5, sh_o, lq_o, sh_o1, lq_o1, sh_o2, lq_o2, sh_o3, lq_o3, sh_o4, lq_o4, sh_o5, lq_o5, sh_o6, lq_o6, rg_o0, rg_o1, rg_o2, rg_o3, rg_o4, rg_o5, ex5, Option.toList_some, Option.toList_none, List.cons_append, List.nil_append, true_and, and_true, nI_1, p_at, p_set, p_isIn, p_max, p_min, p_abs, hs, c1, if_true, true_or, or_true]
  · by_cases c : inb x NH
    · have e : b2i (0 ≤ x ∧ x < nI NH) = 1 := if_pos ((inb_nat (by omega)).mpr c)
      simp only [x63_0, x63_1, x63_2, x63_5, x63_6, x63_7, x63_10, x63_13, x63_16, x63_19, x63_20, x63_23, x63_24, sh_s, lq_s, sh_s1, lq_s1, sh_s2, lq_s2, sh_s3, lq_s3, sh_s4, lq_s4, sh_s5, lq_s5, sh_s6, lq_s6, sh_s7, lq_s7, sh_s8, lq_s8, sh_s9, lq_s9, sh_s10, lq_s10, sh_s11, lq_s11, sh_s12, lq_s12, sh_s13, lq_s13, sh_s14, lq_s14, sh_s15, lq_s15, sh_s16, lq_s16, sh_s17, lq_s17, sh_s18, lq_s18, sh_s19, lq_s19, sh_s20, lq_s20, sh_s21, lq_s21, sh_s22, lq_s22, sh_s23, lq_s23, sh_s24, lq_s24, sh_s25, lq_s25, rg_s0_0, rg_s0_1, rg_s0_2, rg_s0_3, rg_s1_0, rg_s1_1, rg_s1_2, rg_s1_3, rg_s1_4, rg_s7_0, rg_s9_0, rg_s9_1, rg_s9_2, rg_s9_3, rg_s9_4, rg_s9_5, rg_s16_6, rg_s16_7, rg_s16_0, rg_s16_1, rg_s16_2, rg_s16_3, rg_s16_4, rg_s16_5, sh_o, lq_o, sh_o1, lq_o1, sh_o2, lq_o2, sh_o3, lq_o3, sh_o4, lq_o4, sh_o5, lq_o5, sh_o6, lq_o6, rg_o0, rg_o1, rg_o2, rg_o3, rg_o4, rg_o5, ex5, Option.toList_some, Option.toList_none, List.cons_append, List.nil_append, true_and, and_true, nI_1, p_at, p_set, p_isIn, p_max, p_min, p_abs, hs, hC.1.2.2, c1, eq_true c, if_true, if_false, or_true, e, one_ne]
    · have e : b2i (0 ≤ x ∧ x < nI NH) = 0 := if_neg (fun k => c ((inb_nat (by omega)).mp k))
      simp only [x63_0, x63_1, x63_2, x63_5, x63_6, x63_7, x63_10, x63_13, x63_16, x63_19, x63_20, x63_23, x63_24, sh_s, lq_s, sh_s1, lq_s1, sh_s2, lq_s2, sh_s3, lq_s3, sh_s4, lq_s4, sh_s5, lq_s5, sh_s6, lq_s6, sh_s7, lq_s7, sh_s8, lq_s8, sh_s9, lq_s9, sh_s10, lq_s10, sh_s11, lq_s11, sh_s12, lq_s12, sh_s13, lq_s13, sh_s14, lq_s14, sh_s15, lq_s15, sh_s16, lq_s16, sh_s17, lq_s17, sh_s18, lq_s18, sh_s19, lq_s19, sh_s20, lq_s20, sh_s21, lq_s21, sh_s22, lq_s22, sh_s23, lq_s23, sh_s24, lq_s24, sh_s25, lq_s25, rg_s0_0, rg_s0_1, rg_s0_2, rg_s0_3, rg_s1_0, rg_s1_1, rg_s1_2, rg_s1_3, rg_s1_4, rg_s7_0, rg_s9_0, rg_s9_1, rg_s9_2, rg_s9_3, rg_s9_4, rg_s9_5, rg_s16_6, rg_s16_7, rg_s16_0, rg_s16_1, rg_s16_2, rg_s16_3, rg_s16_4, rg_s16_5, sh_o, lq_o, sh_o1, lq_o1, sh_o2, lq_o2, sh_o3, lq_o3, sh_o4, lq_o4, sh_o5, lq_o5, sh_o6, lq_o6, rg_o0, rg_o1, rg_o2, rg_o3, rg_o4, rg_o5, ex5, Option.toList_some, Option.toList_none, List.cons_append, List.nil_append, true_and, and_true, nI_1, p_at, p_set, p_isIn, p_max, p_min, p_abs, hs, hC.1.2.2, c1, c, if_true, if_false, or_false, e, true_or]
end
