/-! all hours, wishes, partings, who leaves -/
def hinV (V : Vw) (N : Nat) (h : Int32) : Int32 := sg (fun p => if V 1 p = h then V 2 p else 0) N
/-- the places by numbers: alone, then the hats -/
def pl : Nat → Int32
  | 0 => -1
  | k + 1 => nI k
theorem pl_1 (k : Nat) : pl k + 1 = pl (k + 1) := by
  cases k with
  | zero => rfl
  | succ k => exact nI_1 k
theorem pl_ge {k n : Nat} (h : k ≤ n) (hn : n < 2 ^ 30) : (nI n ≤ pl k) = False := by
  cases k with
  | zero =>
    refine eq_false fun c => ?_
    have c2 := Int32.le_iff_toInt_le.mp c
    rw [nI_toInt (by omega)] at c2
    have e : (pl 0).toInt = -1 := rfl
    omega
  | succ k => exact eq_false (nI_ge h (by omega))
theorem pl_hn {k n : Nat} (h : k ≤ n) (hn : n < 2 ^ 30) : pl k < 0 ∨ inb (pl k) n := by
  cases k with
  | zero => left; decide
  | succ k => right; exact inb_nI' h (by omega)
theorem pl_ok {k n : Nat} (h : k ≤ n) (hn : n < 2 ^ 30) : pl k = -1 ∨ inb (pl k) n := by
  cases k with
  | zero => left; rfl
  | succ k => right; exact inb_nI' h (by omega)
/-- the wish and its worth among now and the first k places -/
def wshV (V : Vw) (N p : Nat) : Nat → Int32 × Int32
  | 0 => (V 1 p, nwV V N p)
  | k + 1 => if wV V N p (V 2 p) (pl k) ≤ (wshV V N p k).2 then wshV V N p k else (pl k, wV V N p (V 2 p) (pl k))
def wishV (V : Vw) (N NH p : Nat) : Int32 := (wshV V N p (NH + 1)).1
def goV (N NH : Nat) (V : Vw) : Nat → Vw
  | 0 => V
  | q + 1 => up2 (goV N NH V q) 1 q (wishV (goV N NH V q) N NH q)
def goC (N NH : Nat) (V : Vw) : Nat → Int32
  | 0 => 0
  | q + 1 => if wishV (goV N NH V q) N NH q = goV N NH V q 1 q then goC N NH V q else 1
/-- how much more it would be worth alone -/
def moreV (V : Vw) (N M p : Nat) : Int32 := wV V N p (bh (fun x => wV V N p x (-1)) M).1 (-1) - nwV V N p
def ntV (V : Vw) (N M : Nat) (h : Int32) : Nat → Int32 × Int32
  | 0 => (-1, 0)
  | q + 1 => if V 1 q = h then (if moreV V N M q ≤ (ntV V N M h q).2 then ntV V N M h q else (nI q, moreV V N M q)) else ntV V N M h q
section
variable {N NS NH M : Nat} {V : Vw} {p : Nat} {v h : Int32}
theorem wsV_ok (hW : WV V N NS NH) (hp : p < N) (hn : NH < 2 ^ 30) : ∀ k, k ≤ NH + 1 → (wshV V N p k).1 = -1 ∨ inb (wshV V N p k).1 NH
  | 0, _ => (hW.1 p hp).2.1
  | k + 1, hk => by
    by_cases c : wV V N p (V 2 p) (pl k) ≤ (wshV V N p k).2
    · have e : wshV V N p (k + 1) = wshV V N p k := by simp only [wshV, if_pos c]
      rw [e]; exact wsV_ok hW hp hn k (by omega)
    · have e : wshV V N p (k + 1) = (pl k, wV V N p (V 2 p) (pl k)) := by simp only [wshV, if_neg c]
      rw [e]; exact pl_ok (by omega) hn
theorem wishV_ok (hW : WV V N NS NH) (hp : p < N) (hn : NH < 2 ^ 30) : wishV V N NH p = -1 ∨ inb (wishV V N NH p) NH := wsV_ok hW hp hn _ (Nat.le_refl _)
theorem goV_WV (hW : WV V N NS NH) (hn : NH < 2 ^ 30) : ∀ q, q ≤ N → WV (goV N NH V q) N NS NH
  | 0, _ => hW
  | q + 1, hq => (goV_WV hW hn q (by omega)).hat (wishV_ok (goV_WV hW hn q (by omega)) (by omega) hn)
theorem goC_01 : ∀ q, goC N NH V q = 0 ∨ goC N NH V q = 1
  | 0 => Or.inl rfl
  | q + 1 => by
    unfold goC
    split
    · exact goC_01 q
    · exact Or.inr rfl
end
section
variable {L : Nat} {xs : Nat → Int32} {σ : Mm} {r : Option Value × Mm} {I J J0 : Nat → Nat → Int32} {Lm : Nat → Nat → Int64} {Rm : Nat → Nat → Nat} {n s so N NS NH m M : Nat} {V : Vw} {nw sp s2 ai p : Nat} {x y h b t e w v : Int32}
theorem c_allHours (hB : SB nw sp s2 ai s so) (hC : CR I s so N NS NH V) : Em L xs 74 [.ref s] (179, I, Lm, RG nw sp s2 ai) r ↔ r = (some (.int (sg (V 2) N)), 179, I, Lm, RG nw sp s2 ai) := by
  have hN := hC.2.1.1; have hN2 := wd_le s
  rw [em_74]
  obtain ⟨hs, ho, hq⟩ := id hB
  have key : ∀ j, j ≤ N → (Ev L xs 1 74 4 [some (.ref s), some (.int (sg (V 2) j)), some (.int (nI j))] [] (179, I, Lm, RG nw sp s2 ai) r ↔ r = (some (.int (sg (V 2) N)), 179, I, Lm, RG nw sp s2 ai)) := by
    refine up_ind ?_ ?_
    · rw [x74_4]
      simp only [x74_0, x74_1, x74_2, x74_3, x74_5, x74_6, x74_9, x74_12, x74_15, x74_16, x74_17, x74_20, x74_23, x74_24, x74_27, x74_28, x74_29, x74_32, x74_35, x74_36, sh_s, lq_s, sh_s1, lq_s1, sh_s2, lq_s2, sh_s3, lq_s3, sh_s4, lq_s4, sh_s5, lq_s5, sh_s6, lq_s6, sh_s7, lq_s7, sh_s8, lq_s8, sh_s9, lq_s9, sh_s10, lq_s10, sh_s11, lq_s11, sh_s12, lq_s12, sh_s13, lq_s13, sh_s14, lq_s14, sh_s15, lq_s15, sh_s16, lq_s16, sh_s17, lq_s17, sh_s18, lq_s18, sh_s19, lq_s19, sh_s20, lq_s20, sh_s21, lq_s21, sh_s22, lq_s22, sh_s23, lq_s23, sh_s24, lq_s24, sh_s25, lq_s25, rg_s0_0, rg_s0_1, rg_s0_2, rg_s0_3, rg_s1_0, rg_s1_1, rg_s1_2, rg_s1_3, rg_s1_4, rg_s7_0, rg_s9_0, rg_s9_1, rg_s9_2, rg_s9_3, rg_s9_4, rg_s9_5, rg_s16_6, rg_s16_7, rg_s16_0, rg_s16_1, rg_s16_2, rg_s16_3, rg_s16_4, rg_s16_5, sh_o, lq_o, sh_o1, lq_o1, sh_o2, lq_o2, sh_o3, lq_o3, sh_o4, lq_o4, sh_o5, lq_o5, sh_o6, lq_o6, rg_o0, rg_o1, rg_o2, rg_o3, rg_o4, rg_o5, ex5, Option.toList_some, Option.toList_none, List.cons_append, List.nil_append, true_and, and_true, nI_1, p_at, p_set, p_isIn, p_max, p_min, p_abs, hs, hC.1.1, nI_le (Nat.le_refl N) (by omega), if_true]
    · intro j hj ih
      rw [x74_4]
      simp only [x74_0, x74_1, x74_2, x74_3, x74_5, x74_6, x74_9, x74_12, x74_15, x74_16, x74_17, x74_20, x74_23, x74_24, x74_27, x74_28, x74_29, x74_32, x74_35, x74_36, sh_s, lq_s, sh_s1, lq_s1, sh_s2, lq_s2, sh_s3, lq_s3, sh_s4, lq_s4, sh_s5, lq_s5, sh_s6, lq_s6, sh_s7, lq_s7, sh_s8, lq_s8, sh_s9, lq_s9, sh_s10, lq_s10, sh_s11, lq_s11, sh_s12, lq_s12, sh_s13, lq_s13, sh_s14, lq_s14, sh_s15, lq_s15, sh_s16, lq_s16, sh_s17, lq_s17, sh_s18, lq_s18, sh_s19, lq_s19, sh_s20, lq_s20, sh_s21, lq_s21, sh_s22, lq_s22, sh_s23, lq_s23, sh_s24, lq_s24, sh_s25, lq_s25, rg_s0_0, rg_s0_1, rg_s0_2, rg_s0_3, rg_s1_0, rg_s1_1, rg_s1_2, rg_s1_3, rg_s1_4, rg_s7_0, rg_s9_0, rg_s9_1, rg_s9_2, rg_s9_3, rg_s9_4, rg_s9_5, rg_s16_6, rg_s16_7, rg_s16_0, rg_s16_1, rg_s16_2, rg_s16_3, rg_s16_4, rg_s16_5, sh_o, lq_o, sh_o1, lq_o1, sh_o2, lq_o2, sh_o3, lq_o3, sh_o4, lq_o4, sh_o5, lq_o5, sh_o6, lq_o6, rg_o0, rg_o1, rg_o2, rg_o3, rg_o4, rg_o5, ex5, Option.toList_some, Option.toList_none, List.cons_append, List.nil_append, true_and, and_true, nI_1, p_at, p_set, p_isIn, p_max, p_min, p_abs, hs, hC.1.1, nI_ge hj (by omega), if_false, a_hrs hB hC hj]
      exact ih
  simp only [x74_0, x74_1, x74_2, x74_3, x74_5, x74_6, x74_9, x74_12, x74_15, x74_16, x74_17, x74_20, x74_23, x74_24, x74_27, x74_28, x74_29, x74_32, x74_35, x74_36]
  exact key 0 (Nat.zero_le _)
theorem c_hoursIn (hB : SB nw sp s2 ai s so) (hC : CR I s so N NS NH V) : Em L xs 75 [.ref s, .int h] (179, I, Lm, RG nw sp s2 ai) r ↔ r = (some (.int (hinV V N h)), 179, I, Lm, RG nw sp s2 ai) := by
  have hN := hC.2.1.1; have hN2 := wd_le s
  rw [em_75]
  obtain ⟨hs, ho, hq⟩ := id hB
  have key : ∀ j, j ≤ N → (Ev L xs 1 75 4 [some (.ref s), some (.int h), some (.int (hinV V j h)), some (.int (nI j))] [] (179, I, Lm, RG nw sp s2 ai) r ↔ r = (some (.int (hinV V N h)), 179, I, Lm, RG nw sp s2 ai)) := by
    refine up_ind ?_ ?_
    · rw [x75_4]
      simp only [x75_0, x75_1, x75_2, x75_3, x75_5, x75_6, x75_9, x75_12, x75_15, x75_16, x75_19, x75_22, x75_23, x75_26, x75_27, x75_30, x75_31, x75_32, x75_35, x75_38, x75_39, x75_42, x75_43, x75_44, x75_47, x75_50, x75_51, sh_s, lq_s, sh_s1, lq_s1, sh_s2, lq_s2, sh_s3, lq_s3, sh_s4, lq_s4, sh_s5, lq_s5, sh_s6, lq_s6, sh_s7, lq_s7, sh_s8, lq_s8, sh_s9, lq_s9, sh_s10, lq_s10, sh_s11, lq_s11, sh_s12, lq_s12, sh_s13, lq_s13, sh_s14, lq_s14, sh_s15, lq_s15, sh_s16, lq_s16, sh_s17, lq_s17, sh_s18, lq_s18, sh_s19, lq_s19, sh_s20, lq_s20, sh_s21, lq_s21, sh_s22, lq_s22, sh_s23, lq_s23, sh_s24, lq_s24, sh_s25, lq_s25, rg_s0_0, rg_s0_1, rg_s0_2, rg_s0_3, rg_s1_0, rg_s1_1, rg_s1_2, rg_s1_3, rg_s1_4, rg_s7_0, rg_s9_0, rg_s9_1, rg_s9_2, rg_s9_3, rg_s9_4, rg_s9_5, rg_s16_6, rg_s16_7, rg_s16_0, rg_s16_1, rg_s16_2, rg_s16_3, rg_s16_4, rg_s16_5, sh_o, lq_o, sh_o1, lq_o1, sh_o2, lq_o2, sh_o3, lq_o3, sh_o4, lq_o4, sh_o5, lq_o5, sh_o6, lq_o6, rg_o0, rg_o1, rg_o2, rg_o3, rg_o4, rg_o5, ex5, Option.toList_some, Option.toList_none, List.cons_append, List.nil_append, true_and, and_true, nI_1, p_at, p_set, p_isIn, p_max, p_min, p_abs, hs, hC.1.1, nI_le (Nat.le_refl N) (by omega), if_true]
    · intro j hj ih
      rw [x75_4]
      have e : hinV V (j + 1) h = hinV V j h + (if V 1 j = h then V 2 j else 0) := rfl
      rw [e] at ih
      by_cases c : V 1 j = h
      · simp only [c, if_true] at ih
        simp only [x75_0, x75_1, x75_2, x75_3, x75_5, x75_6, x75_9, x75_12, x75_15, x75_16, x75_19, x75_22, x75_23, x75_26, x75_27, x75_30, x75_31, x75_32, x75_35, x75_38, x75_39, x75_42, x75_43, x75_44, x75_47, x75_50, x75_51, sh_s, lq_s, sh_s1, lq_s1, sh_s2, lq_s2, sh_s3, lq_s3, sh_s4, lq_s4, sh_s5, lq_s5, sh_s6, lq_s6, sh_s7, lq_s7, sh_s8, lq_s8, sh_s9, lq_s9, sh_s10, lq_s10, sh_s11, lq_s11, sh_s12, lq_s12, sh_s13, lq_s13, sh_s14, lq_s14, sh_s15, lq_s15, sh_s16, lq_s16, sh_s17, lq_s17, sh_s18, lq_s18, sh_s19, lq_s19, sh_s20, lq_s20, sh_s21, lq_s21, sh_s22, lq_s22, sh_s23, lq_s23, sh_s24, lq_s24, sh_s25, lq_s25, rg_s0_0, rg_s0_1, rg_s0_2, rg_s0_3, rg_s1_0, rg_s1_1, rg_s1_2, rg_s1_3, rg_s1_4, rg_s7_0, rg_s9_0, rg_s9_1, rg_s9_2, rg_s9_3, rg_s9_4, rg_s9_5, rg_s16_6, rg_s16_7, rg_s16_0, rg_s16_1, rg_s16_2, rg_s16_3, rg_s16_4, rg_s16_5, sh_o, lq_o, sh_o1, lq_o1, sh_o2, lq_o2, sh_o3, lq_o3, sh_o4, lq_o4, sh_o5, lq_o5, sh_o6, lq_o6, rg_o0, rg_o1, rg_o2, rg_o3, rg_o4, rg_o5, ex5, Option.toList_some, Option.toList_none, List.cons_append, List.nil_append, true_and, and_true, nI_1, p_at, p_set, p_isIn, p_max, p_min, p_abs, hs, hC.1.1, nI_ge hj (by omega), if_false, a_hat hB hC hj, a_hrs hB hC hj, c, if_true]
        exact ih
      · simp only [c, if_false, Int32.add_zero] at ih
        simp only [x75_0, x75_1, x75_2, x75_3, x75_5, x75_6, x75_9, x75_12, x75_15, x75_16, x75_19, x75_22, x75_23, x75_26, x75_27, x75_30, x75_31, x75_32, x75_35, x75_38, x75_39, x75_42, x75_43, x75_44, x75_47, x75_50, x75_51, sh_s, lq_s, sh_s1, lq_s1, sh_s2, lq_s2, sh_s3, lq_s3, sh_s4, lq_s4, sh_s5, lq_s5, sh_s6, lq_s6, sh_s7, lq_s7, sh_s8, lq_s8, sh_s9, lq_s9, sh_s10, lq_s10, sh_s11, lq_s11, sh_s12, lq_s12, sh_s13, lq_s13, sh_s14, lq_s14, sh_s15, lq_s15, sh_s16, lq_s16, sh_s17, lq_s17, sh_s18, lq_s18, sh_s19, lq_s19, sh_s20, lq_s20, sh_s21, lq_s21, sh_s22, lq_s22, sh_s23, lq_s23, sh_s24, lq_s24, sh_s25, lq_s25, rg_s0_0, rg_s0_1, rg_s0_2, rg_s0_3, rg_s1_0, rg_s1_1, rg_s1_2, rg_s1_3, rg_s1_4, rg_s7_0, rg_s9_0, rg_s9_1, rg_s9_2, rg_s9_3, rg_s9_4, rg_s9_5, rg_s16_6, rg_s16_7, rg_s16_0, rg_s16_1, rg_s16_2, rg_s16_3, rg_s16_4, rg_s16_5, sh_o, lq_o, sh_o1, lq_o1, sh_o2, lq_o2, sh_o3, lq_o3, sh_o4, lq_o4, sh_o5, lq_o5, sh_o6, lq_o6, rg_o0, rg_o1, rg_o2, rg_o3, rg_o4, rg_o5, ex5, Option.toList_some, Option.toList_none, List.cons_append, List.nil_append, true_and, and_true, nI_1, p_at, p_set, p_isIn, p_max, p_min, p_abs, hs, hC.1.1, nI_ge hj (by omega), if_false, a_hat hB hC hj, c]
        exact ih
  simp only [x75_0, x75_1, x75_2, x75_3, x75_5, x75_6, x75_9, x75_12, x75_15, x75_16, x75_19, x75_22, x75_23, x75_26, x75_27, x75_30, x75_31, x75_32, x75_35, x75_38, x75_39, x75_42, x75_43, x75_44, x75_47, x75_50, x75_51]
  exact key 0 (Nat.zero_le _)
/-- whether each of h works the least or more -/
def lstC (V : Vw) (h : Int32) : Nat → Int32
  | 0 => 1
  | q + 1 => if V 1 q = h ∧ V 2 q < V 10 (ixn h) then 0 else lstC V h q
theorem lstC_all {N : Nat} : (lstC V h N = 1 ∧ ∀ p, p < N → ¬ (V 1 p = h ∧ V 2 p < V 10 (ixn h))) ∨ (lstC V h N = 0 ∧ ∃ p, p < N ∧ (V 1 p = h ∧ V 2 p < V 10 (ixn h))) := by
  induction N with
  | zero => exact Or.inl ⟨rfl, fun p hp => absurd hp (Nat.not_lt_zero p)⟩
  | succ N ih =>
    by_cases c : V 1 N = h ∧ V 2 N < V 10 (ixn h)
    · exact Or.inr ⟨by simp only [lstC, if_pos c], N, by omega, c⟩
    · have e : lstC V h (N + 1) = lstC V h N := by simp only [lstC, if_neg c]
      rw [e]
      rcases ih with ⟨a, b⟩ | ⟨a, p, b, d⟩
      · refine Or.inl ⟨a, fun p hp => ?_⟩
        by_cases q : p = N
        · rw [q]; exact c
        · exact b p (by omega)
      · exact Or.inr ⟨a, p, by omega, d⟩
theorem c_allLeast (hB : SB nw sp s2 ai s so) (hC : CR I s so N NS NH V) (hh : inb h NH) : Em L xs 76 [.ref s, .int h] (179, I, Lm, RG nw sp s2 ai) r ↔ r = (some (.int (lstC V h N)), 179, I, Lm, RG nw sp s2 ai) := by
  have hN := hC.2.1.1; have hN2 := wd_le s
  rw [em_76]
  obtain ⟨hs, ho, hq⟩ := id hB
  have key : ∀ j, j ≤ N → (∀ p, p < j → ¬ (V 1 p = h ∧ V 2 p < V 10 (ixn h))) → (Ev L xs 1 76 2 [some (.ref s), some (.int h), some (.int (nI j))] [] (179, I, Lm, RG nw sp s2 ai) r ↔ r = (some (.int (lstC V h N)), 179, I, Lm, RG nw sp s2 ai)) := by
    refine up_ind ?_ ?_
    · intro hf
      have hv : lstC V h N = 1 := by
        rcases lstC_all (V := V) (h := h) (N := N) with ⟨a, -⟩ | ⟨-, p, a, b⟩
        · exact a
        · exact absurd b (hf p a)
      rw [x76_2]
      simp only [x76_0, x76_1, x76_3, x76_4, x76_7, x76_10, x76_13, x76_14, x76_17, x76_20, x76_21, x76_24, x76_25, x76_28, x76_29, x76_32, x76_35, x76_36, x76_39, x76_40, x76_43, x76_46, x76_47, x76_50, x76_53, x76_54, x76_55, x76_58, x76_61, x76_62, sh_s, lq_s, sh_s1, lq_s1, sh_s2, lq_s2, sh_s3, lq_s3, sh_s4, lq_s4, sh_s5, lq_s5, sh_s6, lq_s6, sh_s7, lq_s7, sh_s8, lq_s8, sh_s9, lq_s9, sh_s10, lq_s10, sh_s11, lq_s11, sh_s12, lq_s12, sh_s13, lq_s13, sh_s14, lq_s14, sh_s15, lq_s15, sh_s16, lq_s16, sh_s17, lq_s17, sh_s18, lq_s18, sh_s19, lq_s19, sh_s20, lq_s20, sh_s21, lq_s21, sh_s22, lq_s22, sh_s23, lq_s23, sh_s24, lq_s24, sh_s25, lq_s25, rg_s0_0, rg_s0_1, rg_s0_2, rg_s0_3, rg_s1_0, rg_s1_1, rg_s1_2, rg_s1_3, rg_s1_4, rg_s7_0, rg_s9_0, rg_s9_1, rg_s9_2, rg_s9_3, rg_s9_4, rg_s9_5, rg_s16_6, rg_s16_7, rg_s16_0, rg_s16_1, rg_s16_2, rg_s16_3, rg_s16_4, rg_s16_5, sh_o, lq_o, sh_o1, lq_o1, sh_o2, lq_o2, sh_o3, lq_o3, sh_o4, lq_o4, sh_o5, lq_o5, sh_o6, lq_o6, rg_o0, rg_o1, rg_o2, rg_o3, rg_o4, rg_o5, ex5, Option.toList_some, Option.toList_none, List.cons_append, List.nil_append, true_and, and_true, nI_1, p_at, p_set, p_isIn, p_max, p_min, p_abs, hs, hC.1.1, nI_le (Nat.le_refl N) (by omega), if_true, hv, or_true]
    · intro j hj ih hf
      have ha := a_lea hB hC hh
      rw [x76_2]
      by_cases c : V 1 j = h
      · by_cases c2 : V 10 (ixn h) ≤ V 2 j
        · simp only [x76_0, x76_1, x76_3, x76_4, x76_7, x76_10, x76_13, x76_14, x76_17, x76_20, x76_21, x76_24, x76_25, x76_28, x76_29, x76_32, x76_35, x76_36, x76_39, x76_40, x76_43, x76_46, x76_47, x76_50, x76_53, x76_54, x76_55, x76_58, x76_61, x76_62, sh_s, lq_s, sh_s1, lq_s1, sh_s2, lq_s2, sh_s3, lq_s3, sh_s4, lq_s4, sh_s5, lq_s5, sh_s6, lq_s6, sh_s7, lq_s7, sh_s8, lq_s8, sh_s9, lq_s9, sh_s10, lq_s10, sh_s11, lq_s11, sh_s12, lq_s12, sh_s13, lq_s13, sh_s14, lq_s14, sh_s15, lq_s15, sh_s16, lq_s16, sh_s17, lq_s17, sh_s18, lq_s18, sh_s19, lq_s19, sh_s20, lq_s20, sh_s21, lq_s21, sh_s22, lq_s22, sh_s23, lq_s23, sh_s24, lq_s24, sh_s25, lq_s25, rg_s0_0, rg_s0_1, rg_s0_2, rg_s0_3, rg_s1_0, rg_s1_1, rg_s1_2, rg_s1_3, rg_s1_4, rg_s7_0, rg_s9_0, rg_s9_1, rg_s9_2, rg_s9_3, rg_s9_4, rg_s9_5, rg_s16_6, rg_s16_7, rg_s16_0, rg_s16_1, rg_s16_2, rg_s16_3, rg_s16_4, rg_s16_5, sh_o, lq_o, sh_o1, lq_o1, sh_o2, lq_o2, sh_o3, lq_o3, sh_o4, lq_o4, sh_o5, lq_o5, sh_o6, lq_o6, rg_o0, rg_o1, rg_o2, rg_o3, rg_o4, rg_o5, ex5, Option.toList_some, Option.toList_none, List.cons_append, List.nil_append, true_and, and_true, nI_1, p_at, p_set, p_isIn, p_max, p_min, p_abs, hs, hC.1.1, nI_ge hj (by omega), if_false, a_hat hB hC hj, a_hrs hB hC hj, c, if_true, ha, c2]
          refine ih fun p hp => ?_
          by_cases q : p = j
          · rw [q]; exact fun k => absurd c2 (Int32.not_le.mpr k.2)
          · exact hf p (by omega)
        · have hv : lstC V h N = 0 := by
            rcases lstC_all (V := V) (h := h) (N := N) with ⟨-, a⟩ | ⟨a, -⟩
            · exact absurd ⟨c, Int32.not_le.mp c2⟩ (a j hj)
            · exact a
          simp only [x76_0, x76_1, x76_3, x76_4, x76_7, x76_10, x76_13, x76_14, x76_17, x76_20, x76_21, x76_24, x76_25, x76_28, x76_29, x76_32, x76_35, x76_36, x76_39, x76_40, x76_43, x76_46, x76_47, x76_50, x76_53, x76_54, x76_55, x76_58, x76_61, x76_62, sh_s, lq_s, sh_s1, lq_s1, sh_s2, lq_s2, sh_s3, lq_s3, sh_s4, lq_s4, sh_s5, lq_s5, sh_s6, lq_s6, sh_s7, lq_s7, sh_s8, lq_s8, sh_s9, lq_s9, sh_s10, lq_s10, sh_s11, lq_s11, sh_s12, lq_s12, sh_s13, lq_s13, sh_s14, lq_s14, sh_s15, lq_s15, sh_s16, lq_s16, sh_s17, lq_s17, sh_s18, lq_s18, sh_s19, lq_s19, sh_s20, lq_s20, sh_s21, lq_s21, sh_s22, lq_s22, sh_s23, lq_s23, sh_s24, lq_s24, sh_s25, lq_s25, rg_s0_0, rg_s0_1, rg_s0_2, rg_s0_3, rg_s1_0, rg_s1_1, rg_s1_2, rg_s1_3, rg_s1_4, rg_s7_0, rg_s9_0, rg_s9_1, rg_s9_2, rg_s9_3, rg_s9_4, rg_s9_5, rg_s16_6, rg_s16_7, rg_s16_0, rg_s16_1, rg_s16_2, rg_s16_3, rg_s16_4, rg_s16_5, sh_o, lq_o, sh_o1, lq_o1, sh_o2, lq_o2, sh_o3, lq_o3, sh_o4, lq_o4, sh_o5, lq_o5, sh_o6, lq_o6, rg_o0, rg_o1, rg_o2, rg_o3, rg_o4, rg_o5, ex5, Option.toList_some, Option.toList_none, List.cons_append, List.nil_append, true_and, and_true, nI_1, p_at, p_set, p_isIn, p_max, p_min, p_abs, hs, hC.1.1, nI_ge hj (by omega), if_false, a_hat hB hC hj, a_hrs hB hC hj, c, if_true, ha, c2, hv, true_or]
      · simp only [x76_0, x76_1, x76_3, x76_4, x76_7, x76_10, x76_13, x76_14, x76_17, x76_20, x76_21, x76_24, x76_25, x76_28, x76_29, x76_32, x76_35, x76_36, x76_39, x76_40, x76_43, x76_46, x76_47, x76_50, x76_53, x76_54, x76_55, x76_58, x76_61, x76_62, sh_s, lq_s, sh_s1, lq_s1, sh_s2, lq_s2, sh_s3, lq_s3, sh_s4, lq_s4, sh_s5, lq_s5, sh_s6, lq_s6, sh_s7, lq_s7, sh_s8, lq_s8, sh_s9, lq_s9, sh_s10, lq_s10, sh_s11, lq_s11, sh_s12, lq_s12, sh_s13, lq_s13, sh_s14, lq_s14, sh_s15, lq_s15, sh_s16, lq_s16, sh_s17, lq_s17, sh_s18, lq_s18, sh_s19, lq_s19, sh_s20, lq_s20, sh_s21, lq_s21, sh_s22, lq_s22, sh_s23, lq_s23, sh_s24, lq_s24, sh_s25, lq_s25, rg_s0_0, rg_s0_1, rg_s0_2, rg_s0_3, rg_s1_0, rg_s1_1, rg_s1_2, rg_s1_3, rg_s1_4, rg_s7_0, rg_s9_0, rg_s9_1, rg_s9_2, rg_s9_3, rg_s9_4, rg_s9_5, rg_s16_6, rg_s16_7, rg_s16_0, rg_s16_1, rg_s16_2, rg_s16_3, rg_s16_4, rg_s16_5, sh_o, lq_o, sh_o1, lq_o1, sh_o2, lq_o2, sh_o3, lq_o3, sh_o4, lq_o4, sh_o5, lq_o5, sh_o6, lq_o6, rg_o0, rg_o1, rg_o2, rg_o3, rg_o4, rg_o5, ex5, Option.toList_some, Option.toList_none, List.cons_append, List.nil_append, true_and, and_true, nI_1, p_at, p_set, p_isIn, p_max, p_min, p_abs, hs, hC.1.1, nI_ge hj (by omega), if_false, a_hat hB hC hj, c]
        refine ih fun p hp => ?_
        by_cases q : p = j
        · rw [q]; exact fun k => c k.1
        · exact hf p (by omega)
  simp only [x76_0, x76_1, x76_3, x76_4, x76_7, x76_10, x76_13, x76_14, x76_17, x76_20, x76_21, x76_24, x76_25, x76_28, x76_29, x76_32, x76_35, x76_36, x76_39, x76_40, x76_43, x76_46, x76_47, x76_50, x76_53, x76_54, x76_55, x76_58, x76_61, x76_62]
  exact key 0 (Nat.zero_le _) (fun p hp => absurd hp (Nat.not_lt_zero p))
theorem c_wish (hB : SB nw sp s2 ai s so) (hC : CR I s so N NS NH V) (hW : WV V N NS NH) (hp : p < N) : ∃ K, (∀ r, Em L xs 83 [.ref s, .int (nI p)] (179, I, Lm, RG nw sp s2 ai) r ↔ r = (some (.int (wishV V N NH p)), 179, K, Lm, RG nw sp s2 ai)) ∧ Fr s I K := by
  have hN := hC.2.1.1; have hN2 := wd_le s; have hH := hC.2.1.2.2
  obtain ⟨hs, ho, hq⟩ := id hB
  have key : ∀ k, k ≤ NH + 1 → ∀ J w, Fr s I J → ∃ K, (∀ r, Ev L xs 4 83 36 [some (.ref s), some (.int (nI p)), some (.int (V 2 p)), some (.int (wshV V N p k).1), some (.int (wshV V N p k).2), some (.int (pl k)), w] [] (179, J, Lm, RG nw sp s2 ai) r ↔ r = (some (.int (wishV V N NH p)), 179, K, Lm, RG nw sp s2 ai)) ∧ Fr s I K := by
    refine up_ind ?_ ?_
    · intro J w hF
      refine ⟨J, fun r => ?_, hF⟩
      have hC2 := hC.fr hB hF
      have h1 : nI NH ≤ pl (NH + 1) := nI_le (Nat.le_refl NH) (by omega)
      rw [x83_36]
      simp only [x83_0, x83_1, x83_4, x83_7, x83_8, x83_11, x83_12, x83_13, x83_16, x83_19, x83_20, x83_23, x83_24, x83_25, x83_26, x83_27, x83_28, x83_31, x83_33, x83_34, x83_38, x83_39, x83_42, x83_45, x83_48, x83_49, x83_50, x83_51, x83_53, x83_56, x83_58, x83_60, x83_62, x83_65, x83_67, x83_68, x83_70, x83_72, x83_75, x83_78, x83_79, sh_s, lq_s, sh_s1, lq_s1, sh_s2, lq_s2, sh_s3, lq_s3, sh_s4, lq_s4, sh_s5, lq_s5, sh_s6, lq_s6, sh_s7, lq_s7, sh_s8, lq_s8, sh_s9, lq_s9, sh_s10, lq_s10, sh_s11, lq_s11, sh_s12, lq_s12, sh_s13, lq_s13, sh_s14, lq_s14, sh_s15, lq_s15, sh_s16, lq_s16, sh_s17, lq_s17, sh_s18, lq_s18, sh_s19, lq_s19, sh_s20, lq_s20, sh_s21, lq_s21, sh_s22, lq_s22, sh_s23, lq_s23, sh_s24, lq_s24, sh_s25, lq_s25, rg_s0_0, rg_s0_1, rg_s0_2, rg_s0_3, rg_s1_0, rg_s1_1, rg_s1_2, rg_s1_3, rg_s1_4, rg_s7_0, rg_s9_0, rg_s9_1, rg_s9_2, rg_s9_3, rg_s9_4, rg_s9_5, rg_s16_6, rg_s16_7, rg_s16_0, rg_s16_1, rg_s16_2, rg_s16_3, rg_s16_4, rg_s16_5, sh_o, lq_o, sh_o1, lq_o1, sh_o2, lq_o2, sh_o3, lq_o3, sh_o4, lq_o4, sh_o5, lq_o5, sh_o6, lq_o6, rg_o0, rg_o1, rg_o2, rg_o3, rg_o4, rg_o5, ex5, Option.toList_some, Option.toList_none, List.cons_append, List.nil_append, true_and, and_true, nI_1, p_at, p_set, p_isIn, p_max, p_min, p_abs, hs, hC2.1.2.2, h1, if_true, wishV]
    · intro k hk ih J w hF
      have hC2 := hC.fr hB hF
      obtain ⟨K, k1, k2⟩ := g_worthIn (L := L) (xs := xs) (Lm := Lm) (x := V 2 p) hB hC2 hW hp (pl_hn (show k ≤ NH by omega) (by omega))
      by_cases c : wV V N p (V 2 p) (pl k) ≤ (wshV V N p k).2
      · have e : wshV V N p (k + 1) = wshV V N p k := by simp only [wshV, if_pos c]
        obtain ⟨K2, j1, j2⟩ := ih K (some (.int (wV V N p (V 2 p) (pl k)))) (hF.tr k2)
        rw [e] at j1
        refine ⟨K2, fun r => ?_, j2⟩
        rw [x83_36]
        simp only [x83_0, x83_1, x83_4, x83_7, x83_8, x83_11, x83_12, x83_13, x83_16, x83_19, x83_20, x83_23, x83_24, x83_25, x83_26, x83_27, x83_28, x83_31, x83_33, x83_34, x83_38, x83_39, x83_42, x83_45, x83_48, x83_49, x83_50, x83_51, x83_53, x83_56, x83_58, x83_60, x83_62, x83_65, x83_67, x83_68, x83_70, x83_72, x83_75, x83_78, x83_79, sh_s, lq_s, sh_s1, lq_s1, sh_s2, lq_s2, sh_s3, lq_s3, sh_s4, lq_s4, sh_s5, lq_s5, sh_s6, lq_s6, sh_s7, lq_s7, sh_s8, lq_s8, sh_s9, lq_s9, sh_s10, lq_s10, sh_s11, lq_s11, sh_s12, lq_s12, sh_s13, lq_s13, sh_s14, lq_s14, sh_s15, lq_s15, sh_s16, lq_s16, sh_s17, lq_s17, sh_s18, lq_s18, sh_s19, lq_s19, sh_s20, lq_s20, sh_s21, lq_s21, sh_s22, lq_s22, sh_s23, lq_s23, sh_s24, lq_s24, sh_s25, lq_s25, rg_s0_0, rg_s0_1, rg_s0_2, rg_s0_3, rg_s1_0, rg_s1_1, rg_s1_2, rg_s1_3, rg_s1_4, rg_s7_0, rg_s9_0, rg_s9_1, rg_s9_2, rg_s9_3, rg_s9_4, rg_s9_5, rg_s16_6, rg_s16_7, rg_s16_0, rg_s16_1, rg_s16_2, rg_s16_3, rg_s16_4, rg_s16_5, sh_o, lq_o, sh_o1, lq_o1, sh_o2, lq_o2, sh_o3, lq_o3, sh_o4, lq_o4, sh_o5, lq_o5, sh_o6, lq_o6, rg_o0, rg_o1, rg_o2, rg_o3, rg_o4, rg_o5, ex5, Option.toList_some, Option.toList_none, List.cons_append, List.nil_append, true_and, and_true, nI_1, p_at, p_set, p_isIn, p_max, p_min, p_abs, hs, hC2.1.2.2, pl_ge (show k ≤ NH by omega) (by omega), if_false, k1, c, if_true, pl_1]
        exact j1 r
      · have e : wshV V N p (k + 1) = (pl k, wV V N p (V 2 p) (pl k)) := by simp only [wshV, if_neg c]
        obtain ⟨K2, j1, j2⟩ := ih K (some (.int (wV V N p (V 2 p) (pl k)))) (hF.tr k2)
        rw [e] at j1
        refine ⟨K2, fun r => ?_, j2⟩
        rw [x83_36]
        simp only [x83_0, x83_1, x83_4, x83_7, x83_8, x83_11, x83_12, x83_13, x83_16, x83_19, x83_20, x83_23, x83_24, x83_25, x83_26, x83_27, x83_28, x83_31, x83_33, x83_34, x83_38, x83_39, x83_42, x83_45, x83_48, x83_49, x83_50, x83_51, x83_53, x83_56, x83_58, x83_60, x83_62, x83_65, x83_67, x83_68, x83_70, x83_72, x83_75, x83_78, x83_79, sh_s, lq_s, sh_s1, lq_s1, sh_s2, lq_s2, sh_s3, lq_s3, sh_s4, lq_s4, sh_s5, lq_s5, sh_s6, lq_s6, sh_s7, lq_s7, sh_s8, lq_s8, sh_s9, lq_s9, sh_s10, lq_s10, sh_s11, lq_s11, sh_s12, lq_s12, sh_s13, lq_s13, sh_s14, lq_s14, sh_s15, lq_s15, sh_s16, lq_s16, sh_s17, lq_s17, sh_s18, lq_s18, sh_s19, lq_s19, sh_s20, lq_s20, sh_s21, lq_s21, sh_s22, lq_s22, sh_s23, lq_s23, sh_s24, lq_s24, sh_s25, lq_s25, rg_s0_0, rg_s0_1, rg_s0_2, rg_s0_3, rg_s1_0, rg_s1_1, rg_s1_2, rg_s1_3, rg_s1_4, rg_s7_0, rg_s9_0, rg_s9_1, rg_s9_2, rg_s9_3, rg_s9_4, rg_s9_5, rg_s16_6, rg_s16_7, rg_s16_0, rg_s16_1, rg_s16_2, rg_s16_3, rg_s16_4, rg_s16_5, sh_o, lq_o, sh_o1, lq_o1, sh_o2, lq_o2, sh_o3, lq_o3, sh_o4, lq_o4, sh_o5, lq_o5, sh_o6, lq_o6, rg_o0, rg_o1, rg_o2, rg_o3, rg_o4, rg_o5, ex5, Option.toList_some, Option.toList_none, List.cons_append, List.nil_append, true_and, and_true, nI_1, p_at, p_set, p_isIn, p_max, p_min, p_abs, hs, hC2.1.2.2, pl_ge (show k ≤ NH by omega) (by omega), if_false, k1, c, pl_1]
        exact j1 r
  obtain ⟨K0, k1, k2⟩ := g_worthIn (L := L) (xs := xs) (Lm := Lm) (x := V 2 p) hB hC hW hp (hW.hn hp)
  obtain ⟨K, j1, j2⟩ := key 0 (Nat.zero_le _) K0 none k2
  refine ⟨K, fun r => ?_, j2⟩
  rw [em_83]
  simp only [x83_0, x83_1, x83_4, x83_7, x83_8, x83_11, x83_12, x83_13, x83_16, x83_19, x83_20, x83_23, x83_24, x83_25, x83_26, x83_27, x83_28, x83_31, x83_33, x83_34, x83_38, x83_39, x83_42, x83_45, x83_48, x83_49, x83_50, x83_51, x83_53, x83_56, x83_58, x83_60, x83_62, x83_65, x83_67, x83_68, x83_70, x83_72, x83_75, x83_78, x83_79, sh_s, lq_s, sh_s1, lq_s1, sh_s2, lq_s2, sh_s3, lq_s3, sh_s4, lq_s4, sh_s5, lq_s5, sh_s6, lq_s6, sh_s7, lq_s7, sh_s8, lq_s8, sh_s9, lq_s9, sh_s10, lq_s10, sh_s11, lq_s11, sh_s12, lq_s12, sh_s13, lq_s13, sh_s14, lq_s14, sh_s15, lq_s15, sh_s16, lq_s16, sh_s17, lq_s17, sh_s18, lq_s18, sh_s19, lq_s19, sh_s20, lq_s20, sh_s21, lq_s21, sh_s22, lq_s22, sh_s23, lq_s23, sh_s24, lq_s24, sh_s25, lq_s25, rg_s0_0, rg_s0_1, rg_s0_2, rg_s0_3, rg_s1_0, rg_s1_1, rg_s1_2, rg_s1_3, rg_s1_4, rg_s7_0, rg_s9_0, rg_s9_1, rg_s9_2, rg_s9_3, rg_s9_4, rg_s9_5, rg_s16_6, rg_s16_7, rg_s16_0, rg_s16_1, rg_s16_2, rg_s16_3, rg_s16_4, rg_s16_5, sh_o, lq_o, sh_o1, lq_o1, sh_o2, lq_o2, sh_o3, lq_o3, sh_o4, lq_o4, sh_o5, lq_o5, sh_o6, lq_o6, rg_o0, rg_o1, rg_o2, rg_o3, rg_o4, rg_o5, ex5, Option.toList_some, Option.toList_none, List.cons_append, List.nil_append, true_and, and_true, nI_1, p_at, p_set, p_isIn, p_max, p_min, p_abs, hs, a_hrs hB hC hp, a_hat hB hC hp, k1]
  exact j1 r
theorem c_goes (hB : SB nw sp s2 ai s so) (hC : CR I s so N NS NH V) (hW : WV V N NS NH) : ∃ J, (∀ r, Em L xs 84 [.ref s] (179, I, Lm, RG nw sp s2 ai) r ↔ r = (some (.int (goC N NH V N)), 179, J, Lm, RG nw sp s2 ai)) ∧ CR J s so N NS NH (goV N NH V N) ∧ Fo s I J := by
  have hN := hC.2.1.1; have hN2 := wd_le s; have hH := hC.2.1.2.2
  obtain ⟨hs, ho, hq⟩ := id hB
  have key : ∀ j, j ≤ N → ∀ J w, CR J s so N NS NH (goV N NH V j) → Fo s I J → ∃ J', (∀ r, Ev L xs 5 84 4 [some (.ref s), some (.int (goC N NH V j)), some (.int (nI j)), w] [] (179, J, Lm, RG nw sp s2 ai) r ↔ r = (some (.int (goC N NH V N)), 179, J', Lm, RG nw sp s2 ai)) ∧ CR J' s so N NS NH (goV N NH V N) ∧ Fo s I J' := by
    refine up_ind ?_ ?_
    · intro J w hC1 hF
      refine ⟨J, fun r => ?_, hC1, hF⟩
      rw [x84_4]
      have hz := goC_01 (N := N) (NH := NH) (V := V) N
      simp only [x84_0, x84_1, x84_2, x84_3, x84_5, x84_6, x84_9, x84_12, x84_15, x84_16, x84_17, x84_20, x84_21, x84_22, x84_23, x84_26, x84_29, x84_30, x84_33, x84_36, x84_37, x84_40, x84_43, x84_44, x84_45, x84_48, x84_49, x84_50, x84_53, x84_56, x84_57, sh_s, lq_s, sh_s1, lq_s1, sh_s2, lq_s2, sh_s3, lq_s3, sh_s4, lq_s4, sh_s5, lq_s5, sh_s6, lq_s6, sh_s7, lq_s7, sh_s8, lq_s8, sh_s9, lq_s9, sh_s10, lq_s10, sh_s11, lq_s11, sh_s12, lq_s12, sh_s13, lq_s13, sh_s14, lq_s14, sh_s15, lq_s15, sh_s16, lq_s16, sh_s17, lq_s17, sh_s18, lq_s18, sh_s19, lq_s19, sh_s20, lq_s20, sh_s21, lq_s21, sh_s22, lq_s22, sh_s23, lq_s23, sh_s24, lq_s24, sh_s25, lq_s25, rg_s0_0, rg_s0_1, rg_s0_2, rg_s0_3, rg_s1_0, rg_s1_1, rg_s1_2, rg_s1_3, rg_s1_4, rg_s7_0, rg_s9_0, rg_s9_1, rg_s9_2, rg_s9_3, rg_s9_4, rg_s9_5, rg_s16_6, rg_s16_7, rg_s16_0, rg_s16_1, rg_s16_2, rg_s16_3, rg_s16_4, rg_s16_5, sh_o, lq_o, sh_o1, lq_o1, sh_o2, lq_o2, sh_o3, lq_o3, sh_o4, lq_o4, sh_o5, lq_o5, sh_o6, lq_o6, rg_o0, rg_o1, rg_o2, rg_o3, rg_o4, rg_o5, ex5, Option.toList_some, Option.toList_none, List.cons_append, List.nil_append, true_and, and_true, nI_1, p_at, p_set, p_isIn, p_max, p_min, p_abs, hs, hC1.1.1, nI_le (Nat.le_refl N) (by omega), if_true, hz]
    · intro j hj ih J w hC1 hF
      have hW1 := goV_WV hW (show NH < 2 ^ 30 by omega) j (by omega)
      obtain ⟨K, hK, hKF⟩ := c_wish (L := L) (xs := xs) (Lm := Lm) hB hC1 hW1 hj
      have hC2 := hC1.fr hB hKF
      have e1 : goC N NH V (j + 1) = if wishV (goV N NH V j) N NH j = goV N NH V j 1 j then goC N NH V j else 1 := rfl
      by_cases c : wishV (goV N NH V j) N NH j = goV N NH V j 1 j
      · have hC3 : CR K s so N NS NH (goV N NH V (j + 1)) := by
          show CR K s so N NS NH (up2 (goV N NH V j) 1 j _)
          rw [c, up2_same]; exact hC2
        obtain ⟨J', h1, h2, h3⟩ := ih K (some (.int (goV N NH V j 1 j))) hC3 (hF.tr hKF.o)
        rw [e1, if_pos c] at h1
        refine ⟨J', fun r => ?_, h2, h3⟩
        rw [x84_4]
        simp only [x84_0, x84_1, x84_2, x84_3, x84_5, x84_6, x84_9, x84_12, x84_15, x84_16, x84_17, x84_20, x84_21, x84_22, x84_23, x84_26, x84_29, x84_30, x84_33, x84_36, x84_37, x84_40, x84_43, x84_44, x84_45, x84_48, x84_49, x84_50, x84_53, x84_56, x84_57, sh_s, lq_s, sh_s1, lq_s1, sh_s2, lq_s2, sh_s3, lq_s3, sh_s4, lq_s4, sh_s5, lq_s5, sh_s6, lq_s6, sh_s7, lq_s7, sh_s8, lq_s8, sh_s9, lq_s9, sh_s10, lq_s10, sh_s11, lq_s11, sh_s12, lq_s12, sh_s13, lq_s13, sh_s14, lq_s14, sh_s15, lq_s15, sh_s16, lq_s16, sh_s17, lq_s17, sh_s18, lq_s18, sh_s19, lq_s19, sh_s20, lq_s20, sh_s21, lq_s21, sh_s22, lq_s22, sh_s23, lq_s23, sh_s24, lq_s24, sh_s25, lq_s25, rg_s0_0, rg_s0_1, rg_s0_2, rg_s0_3, rg_s1_0, rg_s1_1, rg_s1_2, rg_s1_3, rg_s1_4, rg_s7_0, rg_s9_0, rg_s9_1, rg_s9_2, rg_s9_3, rg_s9_4, rg_s9_5, rg_s16_6, rg_s16_7, rg_s16_0, rg_s16_1, rg_s16_2, rg_s16_3, rg_s16_4, rg_s16_5, sh_o, lq_o, sh_o1, lq_o1, sh_o2, lq_o2, sh_o3, lq_o3, sh_o4, lq_o4, sh_o5, lq_o5, sh_o6, lq_o6, rg_o0, rg_o1, rg_o2, rg_o3, rg_o4, rg_o5, ex5, Option.toList_some, Option.toList_none, List.cons_append, List.nil_append, true_and, and_true, nI_1, p_at, p_set, p_isIn, p_max, p_min, p_abs, hs, hC1.1.1, nI_ge hj (by omega), if_false, hK, a_hat hB hC2 hj, c, if_true]
        exact h1 r
      · have hC3 : CR (setv K (s + 21) (nI j) (wishV (goV N NH V j) N NH j)) s so N NS NH (goV N NH V (j + 1)) := hC2.hat hB hj
        obtain ⟨J', h1, h2, h3⟩ := ih _ (some (.int (wishV (goV N NH V j) N NH j))) hC3 (hF.tr hKF.o).s21
        rw [e1, if_neg c] at h1
        refine ⟨J', fun r => ?_, h2, h3⟩
        rw [x84_4]
        simp only [x84_0, x84_1, x84_2, x84_3, x84_5, x84_6, x84_9, x84_12, x84_15, x84_16, x84_17, x84_20, x84_21, x84_22, x84_23, x84_26, x84_29, x84_30, x84_33, x84_36, x84_37, x84_40, x84_43, x84_44, x84_45, x84_48, x84_49, x84_50, x84_53, x84_56, x84_57, sh_s, lq_s, sh_s1, lq_s1, sh_s2, lq_s2, sh_s3, lq_s3, sh_s4, lq_s4, sh_s5, lq_s5, sh_s6, lq_s6, sh_s7, lq_s7, sh_s8, lq_s8, sh_s9, lq_s9, sh_s10, lq_s10, sh_s11, lq_s11, sh_s12, lq_s12, sh_s13, lq_s13, sh_s14, lq_s14, sh_s15, lq_s15, sh_s16, lq_s16, sh_s17, lq_s17, sh_s18, lq_s18, sh_s19, lq_s19, sh_s20, lq_s20, sh_s21, lq_s21, sh_s22, lq_s22, sh_s23, lq_s23, sh_s24, lq_s24, sh_s25, lq_s25, rg_s0_0, rg_s0_1, rg_s0_2, rg_s0_3, rg_s1_0, rg_s1_1, rg_s1_2, rg_s1_3, rg_s1_4, rg_s7_0, rg_s9_0, rg_s9_1, rg_s9_2, rg_s9_3, rg_s9_4, rg_s9_5, rg_s16_6, rg_s16_7, rg_s16_0, rg_s16_1, rg_s16_2, rg_s16_3, rg_s16_4, rg_s16_5, sh_o, lq_o, sh_o1, lq_o1, sh_o2, lq_o2, sh_o3, lq_o3, sh_o4, lq_o4, sh_o5, lq_o5, sh_o6, lq_o6, rg_o0, rg_o1, rg_o2, rg_o3, rg_o4, rg_o5, ex5, Option.toList_some, Option.toList_none, List.cons_append, List.nil_append, true_and, and_true, nI_1, p_at, p_set, p_isIn, p_max, p_min, p_abs, hs, hC1.1.1, nI_ge hj (by omega), if_false, hK, a_hat hB hC2 hj, c]
        exact h1 r
  obtain ⟨J', h1, h2, h3⟩ := key 0 (Nat.zero_le _) I none hC Fo.rf
  refine ⟨J', fun r => ?_, h2, h3⟩
  rw [em_84]
  simp only [x84_0, x84_1, x84_2, x84_3, x84_5, x84_6, x84_9, x84_12, x84_15, x84_16, x84_17, x84_20, x84_21, x84_22, x84_23, x84_26, x84_29, x84_30, x84_33, x84_36, x84_37, x84_40, x84_43, x84_44, x84_45, x84_48, x84_49, x84_50, x84_53, x84_56, x84_57]
  exact h1 r
theorem c_nextToLeave (hB : SB nw sp s2 ai s so) (hC : CR I s so N NS NH V) (hW : WV V N NS NH) (hM : I s 6 = nI M) (hM2 : M ≤ 60) : ∃ J, (∀ r, Em L xs 85 [.ref s, .int h] (179, I, Lm, RG nw sp s2 ai) r ↔ r = (some (.int (ntV V N M h N).1), 179, J, Lm, RG nw sp s2 ai)) ∧ Fr s I J := by
  have hN := hC.2.1.1; have hN2 := wd_le s
  obtain ⟨hs, ho, hq⟩ := id hB
  have key : ∀ j, j ≤ N → ∀ J w, Fr s I J → ∃ J', (∀ r, Ev L xs 5 85 7 [some (.ref s), some (.int h), some (.int (ntV V N M h j).1), some (.int (ntV V N M h j).2), some (.int (nI j)), w] [] (179, J, Lm, RG nw sp s2 ai) r ↔ r = (some (.int (ntV V N M h N).1), 179, J', Lm, RG nw sp s2 ai)) ∧ Fr s I J' := by
    refine up_ind ?_ ?_
    · intro J w hF
      have hC1 := hC.fr hB hF
      refine ⟨J, fun r => ?_, hF⟩
      rw [x85_7]
      simp only [x85_0, x85_1, x85_2, x85_3, x85_4, x85_5, x85_9, x85_10, x85_13, x85_16, x85_19, x85_20, x85_23, x85_26, x85_28, x85_31, x85_32, x85_35, x85_36, x85_38, x85_39, x85_41, x85_42, x85_45, x85_46, x85_49, x85_50, x85_52, x85_55, x85_56, x85_58, x85_60, x85_61, x85_64, x85_66, x85_67, x85_69, x85_70, x85_73, x85_76, x85_77, sh_s, lq_s, sh_s1, lq_s1, sh_s2, lq_s2, sh_s3, lq_s3, sh_s4, lq_s4, sh_s5, lq_s5, sh_s6, lq_s6, sh_s7, lq_s7, sh_s8, lq_s8, sh_s9, lq_s9, sh_s10, lq_s10, sh_s11, lq_s11, sh_s12, lq_s12, sh_s13, lq_s13, sh_s14, lq_s14, sh_s15, lq_s15, sh_s16, lq_s16, sh_s17, lq_s17, sh_s18, lq_s18, sh_s19, lq_s19, sh_s20, lq_s20, sh_s21, lq_s21, sh_s22, lq_s22, sh_s23, lq_s23, sh_s24, lq_s24, sh_s25, lq_s25, rg_s0_0, rg_s0_1, rg_s0_2, rg_s0_3, rg_s1_0, rg_s1_1, rg_s1_2, rg_s1_3, rg_s1_4, rg_s7_0, rg_s9_0, rg_s9_1, rg_s9_2, rg_s9_3, rg_s9_4, rg_s9_5, rg_s16_6, rg_s16_7, rg_s16_0, rg_s16_1, rg_s16_2, rg_s16_3, rg_s16_4, rg_s16_5, sh_o, lq_o, sh_o1, lq_o1, sh_o2, lq_o2, sh_o3, lq_o3, sh_o4, lq_o4, sh_o5, lq_o5, sh_o6, lq_o6, rg_o0, rg_o1, rg_o2, rg_o3, rg_o4, rg_o5, ex5, Option.toList_some, Option.toList_none, List.cons_append, List.nil_append, true_and, and_true, nI_1, p_at, p_set, p_isIn, p_max, p_min, p_abs, hs, hC1.1.1, nI_le (Nat.le_refl N) (by omega), if_true]
    · intro j hj ih J w hF
      have hC1 := hC.fr hB hF
      have e1 : ntV V N M h (j + 1) = if V 1 j = h then (if moreV V N M j ≤ (ntV V N M h j).2 then ntV V N M h j else (nI j, moreV V N M j)) else ntV V N M h j := rfl
      by_cases c : V 1 j = h
      · rw [if_pos c] at e1
        have hM1 : J s 6 = nI M := by rw [hF s (by omega) (by omega)]; exact hM
        have hneg : (-1 : Int32) < 0 ∨ inb (-1) NH := Or.inl (by decide)
        obtain ⟨K1, a1, a2⟩ := g_best (L := L) (xs := xs) (Lm := Lm) hB hC1 hW hj hneg hM1 hM2
        have hC2 := hC1.fr hB a2
        obtain ⟨K2, b1, b2⟩ := g_worthIn (L := L) (xs := xs) (Lm := Lm) (x := (bh (fun x => wV V N j x (-1)) M).1) hB hC2 hW hj hneg
        have hC3 := hC2.fr hB b2
        obtain ⟨K3, d1, d2⟩ := g_worthNow (L := L) (xs := xs) (Lm := Lm) hB hC3 hW hj
        have hm : wV V N j (bh (fun x => wV V N j x (-1)) M).1 (-1) - nwV V N j = moreV V N M j := rfl
        by_cases c2 : moreV V N M j ≤ (ntV V N M h j).2
        · rw [if_pos c2] at e1
          obtain ⟨J', h1, h2⟩ := ih K3 (some (.int (moreV V N M j))) (((hF.tr a2).tr b2).tr d2)
          rw [e1] at h1
          refine ⟨J', fun r => ?_, h2⟩
          rw [x85_7]
          simp only [x85_0, x85_1, x85_2, x85_3, x85_4, x85_5, x85_9, x85_10, x85_13, x85_16, x85_19, x85_20, x85_23, x85_26, x85_28, x85_31, x85_32, x85_35, x85_36, x85_38, x85_39, x85_41, x85_42, x85_45, x85_46, x85_49, x85_50, x85_52, x85_55, x85_56, x85_58, x85_60, x85_61, x85_64, x85_66, x85_67, x85_69, x85_70, x85_73, x85_76, x85_77, sh_s, lq_s, sh_s1, lq_s1, sh_s2, lq_s2, sh_s3, lq_s3, sh_s4, lq_s4, sh_s5, lq_s5, sh_s6, lq_s6, sh_s7, lq_s7, sh_s8, lq_s8, sh_s9, lq_s9, sh_s10, lq_s10, sh_s11, lq_s11, sh_s12, lq_s12, sh_s13, lq_s13, sh_s14, lq_s14, sh_s15, lq_s15, sh_s16, lq_s16, sh_s17, lq_s17, sh_s18, lq_s18, sh_s19, lq_s19, sh_s20, lq_s20, sh_s21, lq_s21, sh_s22, lq_s22, sh_s23, lq_s23, sh_s24, lq_s24, sh_s25, lq_s25, rg_s0_0, rg_s0_1, rg_s0_2, rg_s0_3, rg_s1_0, rg_s1_1, rg_s1_2, rg_s1_3, rg_s1_4, rg_s7_0, rg_s9_0, rg_s9_1, rg_s9_2, rg_s9_3, rg_s9_4, rg_s9_5, rg_s16_6, rg_s16_7, rg_s16_0, rg_s16_1, rg_s16_2, rg_s16_3, rg_s16_4, rg_s16_5, sh_o, lq_o, sh_o1, lq_o1, sh_o2, lq_o2, sh_o3, lq_o3, sh_o4, lq_o4, sh_o5, lq_o5, sh_o6, lq_o6, rg_o0, rg_o1, rg_o2, rg_o3, rg_o4, rg_o5, ex5, Option.toList_some, Option.toList_none, List.cons_append, List.nil_append, true_and, and_true, nI_1, p_at, p_set, p_isIn, p_max, p_min, p_abs, hs, hC1.1.1, nI_ge hj (by omega), if_false, a_hat hB hC1 hj, c, if_true, a1, b1, d1, hm, c2]
          exact h1 r
        · rw [if_neg c2] at e1
          obtain ⟨J', h1, h2⟩ := ih K3 (some (.int (moreV V N M j))) (((hF.tr a2).tr b2).tr d2)
          rw [e1] at h1
          refine ⟨J', fun r => ?_, h2⟩
          rw [x85_7]
          simp only [x85_0, x85_1, x85_2, x85_3, x85_4, x85_5, x85_9, x85_10, x85_13, x85_16, x85_19, x85_20, x85_23, x85_26, x85_28, x85_31, x85_32, x85_35, x85_36, x85_38, x85_39, x85_41, x85_42, x85_45, x85_46, x85_49, x85_50, x85_52, x85_55, x85_56, x85_58, x85_60, x85_61, x85_64, x85_66, x85_67, x85_69, x85_70, x85_73, x85_76, x85_77, sh_s, lq_s, sh_s1, lq_s1, sh_s2, lq_s2, sh_s3, lq_s3, sh_s4, lq_s4, sh_s5, lq_s5, sh_s6, lq_s6, sh_s7, lq_s7, sh_s8, lq_s8, sh_s9, lq_s9, sh_s10, lq_s10, sh_s11, lq_s11, sh_s12, lq_s12, sh_s13, lq_s13, sh_s14, lq_s14, sh_s15, lq_s15, sh_s16, lq_s16, sh_s17, lq_s17, sh_s18, lq_s18, sh_s19, lq_s19, sh_s20, lq_s20, sh_s21, lq_s21, sh_s22, lq_s22, sh_s23, lq_s23, sh_s24, lq_s24, sh_s25, lq_s25, rg_s0_0, rg_s0_1, rg_s0_2, rg_s0_3, rg_s1_0, rg_s1_1, rg_s1_2, rg_s1_3, rg_s1_4, rg_s7_0, rg_s9_0, rg_s9_1, rg_s9_2, rg_s9_3, rg_s9_4, rg_s9_5, rg_s16_6, rg_s16_7, rg_s16_0, rg_s16_1, rg_s16_2, rg_s16_3, rg_s16_4, rg_s16_5, sh_o, lq_o, sh_o1, lq_o1, sh_o2, lq_o2, sh_o3, lq_o3, sh_o4, lq_o4, sh_o5, lq_o5, sh_o6, lq_o6, rg_o0, rg_o1, rg_o2, rg_o3, rg_o4, rg_o5, ex5, Option.toList_some, Option.toList_none, List.cons_append, List.nil_append, true_and, and_true, nI_1, p_at, p_set, p_isIn, p_max, p_min, p_abs, hs, hC1.1.1, nI_ge hj (by omega), if_false, a_hat hB hC1 hj, c, if_true, a1, b1, d1, hm, c2]
          exact h1 r
      · rw [if_neg c] at e1
        obtain ⟨J', h1, h2⟩ := ih J w hF
        rw [e1] at h1
        refine ⟨J', fun r => ?_, h2⟩
        rw [x85_7]
        simp only [x85_0, x85_1, x85_2, x85_3, x85_4, x85_5, x85_9, x85_10, x85_13, x85_16, x85_19, x85_20, x85_23, x85_26, x85_28, x85_31, x85_32, x85_35, x85_36, x85_38, x85_39, x85_41, x85_42, x85_45, x85_46, x85_49, x85_50, x85_52, x85_55, x85_56, x85_58, x85_60, x85_61, x85_64, x85_66, x85_67, x85_69, x85_70, x85_73, x85_76, x85_77, sh_s, lq_s, sh_s1, lq_s1, sh_s2, lq_s2, sh_s3, lq_s3, sh_s4, lq_s4, sh_s5, lq_s5, sh_s6, lq_s6, sh_s7, lq_s7, sh_s8, lq_s8, sh_s9, lq_s9, sh_s10, lq_s10, sh_s11, lq_s11, sh_s12, lq_s12, sh_s13, lq_s13, sh_s14, lq_s14, sh_s15, lq_s15, sh_s16, lq_s16, sh_s17, lq_s17, sh_s18, lq_s18, sh_s19, lq_s19, sh_s20, lq_s20, sh_s21, lq_s21, sh_s22, lq_s22, sh_s23, lq_s23, sh_s24, lq_s24, sh_s25, lq_s25, rg_s0_0, rg_s0_1, rg_s0_2, rg_s0_3, rg_s1_0, rg_s1_1, rg_s1_2, rg_s1_3, rg_s1_4, rg_s7_0, rg_s9_0, rg_s9_1, rg_s9_2, rg_s9_3, rg_s9_4, rg_s9_5, rg_s16_6, rg_s16_7, rg_s16_0, rg_s16_1, rg_s16_2, rg_s16_3, rg_s16_4, rg_s16_5, sh_o, lq_o, sh_o1, lq_o1, sh_o2, lq_o2, sh_o3, lq_o3, sh_o4, lq_o4, sh_o5, lq_o5, sh_o6, lq_o6, rg_o0, rg_o1, rg_o2, rg_o3, rg_o4, rg_o5, ex5, Option.toList_some, Option.toList_none, List.cons_append, List.nil_append, true_and, and_true, nI_1, p_at, p_set, p_isIn, p_max, p_min, p_abs, hs, hC1.1.1, nI_ge hj (by omega), if_false, a_hat hB hC1 hj, c]
        exact h1 r
  obtain ⟨J', h1, h2⟩ := key 0 (Nat.zero_le _) I none Fr.rf
  refine ⟨J', fun r => ?_, h2⟩
  rw [em_85]
  simp only [x85_0, x85_1, x85_2, x85_3, x85_4, x85_5, x85_9, x85_10, x85_13, x85_16, x85_19, x85_20, x85_23, x85_26, x85_28, x85_31, x85_32, x85_35, x85_36, x85_38, x85_39, x85_41, x85_42, x85_45, x85_46, x85_49, x85_50, x85_52, x85_55, x85_56, x85_58, x85_60, x85_61, x85_64, x85_66, x85_67, x85_69, x85_70, x85_73, x85_76, x85_77]
  exact h1 r
end
