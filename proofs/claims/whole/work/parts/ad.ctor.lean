/-! constructors -/
theorem up2_ap {α : Type} {f : Nat → Nat → α} {p k q j : Nat} {v : α} : up2 f p k v q j = if q = p ∧ j = k then v else f q j := rfl
theorem zr2_ap {α : Type} {f : Nat → Nat → α} {p q j : Nat} {v : α} : zr2 f p v q j = if q = p then v else f q j := rfl
theorem rfv_ap {k : Nat} : rfv k = if k = 0 then .null else .ref (k - 1) := rfl
/-- where word w begins -/
def stW : Nat → Nat
  | 0 => 0
  | w + 1 => stW w + (wdN w).length + 1
theorem stx_ok : ∀ w, w < 33 → (∀ i, i < (wdN w).length → STX.getD (stW w + i) 0 = (wdN w).getD i 0) ∧ STX.getD (stW w + (wdN w).length) 0 = 32 ∧ stW w + (wdN w).length < 170 := by decide +kernel
def twR (J : Nat → Nat → Int32) (w : Nat) : Nat → Nat → Int32 := fun p k => if p = 107 ∧ k < w then nI (wnm (wdN k)) else J p k
section
variable {L : Nat} {xs : Nat → Int32} {σ : Mm} {r : Option Value × Mm} {I J : Nat → Nat → Int32} {Lm : Nat → Nat → Int64} {Rm : Nat → Nat → Nat} {w : Nat}
theorem tw_0 : twR J 0 = J := funext fun p => funext fun k => if_neg (fun z => Nat.not_lt_zero k z.2)
theorem tw_step : up2 (twR J w) 107 w (nI (wnm (wdN w))) = twR J (w + 1) := funext fun p => funext fun k => by
  unfold up2 twR
  by_cases e : p = 107 ∧ k = w
  · rw [if_pos e, if_pos ⟨e.1, by omega⟩, e.2]
  · rw [if_neg e]
    by_cases e2 : p = 107 ∧ k < w
    · rw [if_pos e2, if_pos ⟨e2.1, by omega⟩]
    · rw [if_neg e2, if_neg (fun z => by omega)]
theorem k_own (hw : w < 33) (r : Option Value × Mm) : Em L xs 88 [.int (nI (stW w)), .int (nI (stW w + (wdN w).length))] σ r ↔ r = (some (.int (nI (wnm (wdN w)))), σ) := by
  obtain ⟨s1, s2, s3⟩ := stx_ok w hw
  obtain ⟨l1, l6, lc⟩ := wd_ok w hw
  obtain ⟨d, hd⟩ : ∃ d : Nat → Nat, d = fun i => if i < (wdN w).length then (wdN w).getD i 0 - 96 else 0 := ⟨_, rfl⟩
  have e6 : nI (stW w) + 6 = nI (stW w + 6) := nI_add _ 6
  have key : ∀ j, j ≤ 6 → ∀ l4, Ev L xs 0 88 4 [some (.int (nI (stW w))), some (.int (nI (stW w + (wdN w).length))), some (.int (nI (nmD d j))), some (.int (nI (stW w + j))), l4] [] σ r ↔ r = (some (.int (nI (nmD d 6))), σ) := by
    refine up_ind ?_ ?_
    · intro l4
      have c1 : (nI (stW w + 6) ≤ nI (stW w + 6)) = True := eq_true (nI_le (Nat.le_refl _) (by omega))
      rw [x88_4]
      simp only [x88_0, x88_1, x88_2, x88_3, x88_5, x88_6, x88_8, x88_9, x88_12, x88_13, x88_14, x88_17, x88_18, x88_20, x88_23, x88_26, x88_28, x88_29, x88_32, x88_34, x88_35, x88_36, x88_37, x88_40, x88_41, x88_43, x88_44, x88_46, x88_47, x88_49, x88_50, x88_51, x88_54, x88_57, x88_58, e6, c1, if_true]
    · intro j hj ih l4
      have c1 : (nI (stW w + 6) ≤ nI (stW w + j)) = False := eq_false (nI_ge (by omega) (by omega))
      have e0 : nI (nmD d j) * 27 = nI (nmD d j * 27) := pk_mul _ 27
      by_cases h : j < (wdN w).length
      · have c2 : (nI (stW w + (wdN w).length) ≤ nI (stW w + j)) = False := eq_false (nI_ge (by omega) (by omega))
        have c3 : (Int32.ofNat STX.length ≤ nI (stW w + j)) = False := by rw [STX_len]; exact eq_false (nI_ge (b := 170) (by omega) (by decide))
        have i1 : inb (nI (stW w + j)) STX.length = True := by rw [STX_len]; exact inb_i (by omega) (by decide)
        have i2 : ixn (nI (stW w + j)) = stW w + j := ixn_nI (by omega)
        have i3 : sch (stW w + j) = nI ((wdN w).getD j 0) := congrArg nI (s1 j h)
        obtain ⟨b1, b2⟩ := lc j h
        have e1 : nI ((wdN w).getD j 0) - 97 = nI ((wdN w).getD j 0 - 97) := pk_sub (b := 97) b1
        have e2 : nmD d j * 27 + ((wdN w).getD j 0 - 97 + 1) = nmD d (j + 1) := by
          show _ = 27 * nmD d j + d j
          have : d j = (wdN w).getD j 0 - 96 := by rw [hd]; exact if_pos h
          omega
        have k := ih (some (.int (nI ((wdN w).getD j 0 - 97 + 1))))
        rw [← e2] at k
        rw [x88_4]
        simp only [x88_0, x88_1, x88_2, x88_3, x88_5, x88_6, x88_8, x88_9, x88_12, x88_13, x88_14, x88_17, x88_18, x88_20, x88_23, x88_26, x88_28, x88_29, x88_32, x88_34, x88_35, x88_36, x88_37, x88_40, x88_41, x88_43, x88_44, x88_46, x88_47, x88_49, x88_50, x88_51, x88_54, x88_57, x88_58, e6, c1, c2, c3, i1, i2, i3, e1, e0, nI_1, nI_add, if_false, true_and]
        exact k
      · have c2 : (nI (stW w + (wdN w).length) ≤ nI (stW w + j)) = True := eq_true (nI_le (by omega) (by omega))
        have e2 : nmD d j * 27 = nmD d (j + 1) := by
          show _ = 27 * nmD d j + d j
          have : d j = 0 := by rw [hd]; exact if_neg h
          omega
        have k := ih (some (.int 0))
        rw [← e2] at k
        have e3 : nI (nmD d j * 27) + 0 = nI (nmD d j * 27) := nI_add _ 0
        have e4 : nI (stW w + j) + 1 = nI (stW w + j + 1) := nI_add _ 1
        rw [x88_4]
        simp only [x88_0, x88_1, x88_2, x88_3, x88_5, x88_6, x88_8, x88_9, x88_12, x88_13, x88_14, x88_17, x88_18, x88_20, x88_23, x88_26, x88_28, x88_29, x88_32, x88_34, x88_35, x88_36, x88_37, x88_40, x88_41, x88_43, x88_44, x88_46, x88_47, x88_49, x88_50, x88_51, x88_54, x88_57, x88_58, e6, c1, c2, e0, e3, e4, if_false, if_true]
        exact k
  rw [em_88]
  simp only [x88_0, x88_1, x88_2, x88_3, x88_5, x88_6, x88_8, x88_9, x88_12, x88_13, x88_14, x88_17, x88_18, x88_20, x88_23, x88_26, x88_28, x88_29, x88_32, x88_34, x88_35, x88_36, x88_37, x88_40, x88_41, x88_43, x88_44, x88_46, x88_47, x88_49, x88_50, x88_51, x88_54, x88_57, x88_58]
  rw [wnm_D, ← hd]
  exact key 0 (by decide) none
theorem k_words (hR : rfv (Rm 106 0) = .ref 107) : ∀ w, w ≤ 33 → (Ev L xs 1 87 54 [some (.ref 106), some (.int (nI w)), some (.int (nI (stW w))), some (.int (nI (stW w)))] [] (112, twR J w, Lm, Rm) r ↔ r = (none, 112, twR J 33, Lm, Rm)) := by
  refine up_ind ?_ ?_
  · have c1 : (Int32.ofNat STX.length ≤ nI (stW 33)) = True := by rw [STX_len]; exact eq_true (by decide +kernel)
    rw [x87_54]
    simp only [x87_0, x87_1, x87_4, x87_5, x87_7, x87_9, x87_12, x87_13, x87_16, x87_18, x87_21, x87_22, x87_25, x87_27, x87_30, x87_31, x87_34, x87_36, x87_39, x87_40, x87_43, x87_45, x87_48, x87_49, x87_50, x87_51, x87_52, x87_53, x87_55, x87_57, x87_60, x87_63, x87_65, x87_66, x87_69, x87_71, x87_74, x87_75, x87_78, x87_79, x87_80, x87_81, x87_84, x87_87, x87_90, x87_91, x87_92, x87_93, x87_94, x87_97, x87_100, c1, if_true]
  · intro w hw ih
    obtain ⟨s1, s2, s3⟩ := stx_ok w hw
    obtain ⟨l1, l6, lc⟩ := wd_ok w hw
    have key : ∀ j, j ≤ (wdN w).length → (Ev L xs 1 87 54 [some (.ref 106), some (.int (nI w)), some (.int (nI (stW w))), some (.int (nI (stW w + j)))] [] (112, twR J w, Lm, Rm) r ↔ r = (none, 112, twR J 33, Lm, Rm)) := by
      refine up_ind ?_ ?_
      · have c1 : (Int32.ofNat STX.length ≤ nI (stW w + (wdN w).length)) = False := by rw [STX_len]; exact eq_false (nI_ge (b := 170) (by omega) (by decide))
        have i1 : inb (nI (stW w + (wdN w).length)) STX.length = True := by rw [STX_len]; exact inb_i (by omega) (by decide)
        have i2 : ixn (nI (stW w + (wdN w).length)) = stW w + (wdN w).length := ixn_nI (by omega)
        have i3 : sch (stW w + (wdN w).length) = 32 := congrArg nI s2
        have c2 : ((32 : Int32) = 32) = True := eq_true rfl
        have k := fun r => k_own (L := L) (xs := xs) (σ := (112, twR J w, Lm, Rm)) hw r
        have t : setv (twR J w) 107 (nI w) (nI (wnm (wdN w))) = up2 (twR J w) 107 w (nI (wnm (wdN w))) := setv_lt (show w < 33 from hw)
        have p := fun r => p_set (L := L) (xs := xs) (n := 112) (I := twR J w) (Lm := Lm) (Rm := Rm) (r := r) (a := 107) (k := nI w) (v := nI (wnm (wdN w))) (by decide) rfl
        rw [t, tw_step] at p
        have ih2 : Ev L xs 1 87 54 [some (.ref 106), some (.int (nI (w + 1))), some (.int (nI (stW w + (wdN w).length + 1))), some (.int (nI (stW w + (wdN w).length + 1)))] [] (112, twR J (w + 1), Lm, Rm) r ↔ r = (none, 112, twR J 33, Lm, Rm) := ih
        rw [x87_54]
        simp only [x87_0, x87_1, x87_4, x87_5, x87_7, x87_9, x87_12, x87_13, x87_16, x87_18, x87_21, x87_22, x87_25, x87_27, x87_30, x87_31, x87_34, x87_36, x87_39, x87_40, x87_43, x87_45, x87_48, x87_49, x87_50, x87_51, x87_52, x87_53, x87_55, x87_57, x87_60, x87_63, x87_65, x87_66, x87_69, x87_71, x87_74, x87_75, x87_78, x87_79, x87_80, x87_81, x87_84, x87_87, x87_90, x87_91, x87_92, x87_93, x87_94, x87_97, x87_100, c1, i1, i2, i3, c2, if_true, if_false, hR, k, p, sh_106, show (106 < 112) = True from eq_true (by decide), ex5, Option.toList_some, Option.toList_none, List.cons_append, List.nil_append, true_and, and_true, nI_1]
        exact ih2
      · intro j hj ih2
        have c1 : (Int32.ofNat STX.length ≤ nI (stW w + j)) = False := by rw [STX_len]; exact eq_false (nI_ge (b := 170) (by omega) (by decide))
        have i1 : inb (nI (stW w + j)) STX.length = True := by rw [STX_len]; exact inb_i (by omega) (by decide)
        have i2 : ixn (nI (stW w + j)) = stW w + j := ixn_nI (by omega)
        have i3 : sch (stW w + j) = nI ((wdN w).getD j 0) := congrArg nI (s1 j hj)
        obtain ⟨b1, b2⟩ := lc j hj
        have c2 : (nI ((wdN w).getD j 0) = 32) = False := eq_false (fun z => by
          have := (nI_eq (a := (wdN w).getD j 0) (b := 32) (by omega) (by decide)).mp z
          omega)
        rw [x87_54]
        simp only [x87_0, x87_1, x87_4, x87_5, x87_7, x87_9, x87_12, x87_13, x87_16, x87_18, x87_21, x87_22, x87_25, x87_27, x87_30, x87_31, x87_34, x87_36, x87_39, x87_40, x87_43, x87_45, x87_48, x87_49, x87_50, x87_51, x87_52, x87_53, x87_55, x87_57, x87_60, x87_63, x87_65, x87_66, x87_69, x87_71, x87_74, x87_75, x87_78, x87_79, x87_80, x87_81, x87_84, x87_87, x87_90, x87_91, x87_92, x87_93, x87_94, x87_97, x87_100, c1, i1, i2, i3, c2, if_false, true_and, nI_1]
        exact ih2
    exact key 0 (Nat.zero_le _)
end
section
variable {L : Nat} {xs : Nat → Int32} {r : Option Value × Mm} {I : Nat → Nat → Int32} {Lm : Nat → Nat → Int64} {Rm : Nat → Nat → Nat}
theorem k_weeks : Em L xs 98 [.ref 3] (4, I, Lm, Rm) r ↔ r = (none, 11, (up2 (zr2 (zr2 (zr2 (zr2 (zr2 (zr2 (zr2 I 4 0) 5 0) 6 0) 7 0) 8 0) 9 0) 10 0) 3 9 1), (zr2 (zr2 (zr2 (zr2 (zr2 (zr2 (zr2 Lm 4 0) 5 0) 6 0) 7 0) 8 0) 9 0) 10 0), (up2 (zr2 (up2 (zr2 (up2 (zr2 (up2 (zr2 (up2 (zr2 (up2 (zr2 (up2 (zr2 Rm 4 0) 3 0 (4 + 1)) 5 0) 3 1 (5 + 1)) 6 0) 3 2 (6 + 1)) 7 0) 3 3 (7 + 1)) 8 0) 3 4 (8 + 1)) 9 0) 3 5 (9 + 1)) 10 0) 3 6 (10 + 1))) := by
  rw [em_98]
  simp (decide := true) only [x98_0, x98_1, x98_4, x98_5, x98_7, x98_9, x98_12, x98_13, x98_15, x98_17, x98_20, x98_21, x98_23, x98_25, x98_28, x98_29, x98_31, x98_33, x98_36, x98_37, x98_39, x98_41, x98_44, x98_45, x98_47, x98_49, x98_52, x98_53, x98_55, x98_57, x98_60, x98_61, x98_62, x98_65, true_and, and_true, Nat.reduceAdd, Nat.reduceSub, ex5, Option.toList_some, Option.toList_none, List.cons_append, List.nil_append, if_true, if_false]
theorem k_hats11 : Em L xs 5 [.ref 12] (13, I, Lm, Rm) r ↔ r = (none, 18, (zr2 (zr2 (zr2 (zr2 (zr2 I 13 0) 14 0) 15 0) 16 0) 17 0), (zr2 (zr2 (zr2 (zr2 (zr2 Lm 13 0) 14 0) 15 0) 16 0) 17 0), (up2 (zr2 (up2 (zr2 (up2 (zr2 (up2 (zr2 (up2 (zr2 Rm 13 0) 12 0 (13 + 1)) 14 0) 12 1 (14 + 1)) 15 0) 12 2 (15 + 1)) 16 0) 12 3 (16 + 1)) 17 0) 12 4 (17 + 1))) := by
  rw [em_5]
  simp (decide := true) only [x5_0, x5_1, x5_4, x5_5, x5_6, x5_8, x5_11, x5_12, x5_13, x5_15, x5_18, x5_19, x5_20, x5_22, x5_25, x5_26, x5_27, x5_29, x5_32, x5_33, x5_34, x5_36, x5_39, true_and, and_true, Nat.reduceAdd, Nat.reduceSub, ex5, Option.toList_some, Option.toList_none, List.cons_append, List.nil_append, if_true, if_false]
theorem k_company11 : Em L xs 0 [.ref 18] (19, I, Lm, Rm) r ↔ r = (none, 20, (zr2 I 19 0), (zr2 Lm 19 0), (up2 (zr2 Rm 19 0) 18 0 (19 + 1))) := by
  rw [em_0]
  simp (decide := true) only [x0_0, x0_1, x0_4, x0_5, x0_7, x0_9, x0_12, true_and, and_true, Nat.reduceAdd, Nat.reduceSub, ex5, Option.toList_some, Option.toList_none, List.cons_append, List.nil_append, if_true, if_false]
theorem k_sorts11 : Em L xs 86 [.ref 20] (21, I, Lm, Rm) r ↔ r = (none, 27, (zr2 (zr2 (zr2 (zr2 (zr2 (zr2 I 21 0) 22 0) 23 0) 24 0) 25 0) 26 0), (zr2 (zr2 (zr2 (zr2 (zr2 (zr2 Lm 21 0) 22 0) 23 0) 24 0) 25 0) 26 0), (up2 (zr2 (up2 (zr2 (up2 (zr2 (up2 (zr2 (up2 (zr2 (up2 (zr2 Rm 21 0) 20 0 (21 + 1)) 22 0) 20 1 (22 + 1)) 23 0) 20 2 (23 + 1)) 24 0) 20 3 (24 + 1)) 25 0) 20 4 (25 + 1)) 26 0) 20 5 (26 + 1))) := by
  rw [em_86]
  simp (decide := true) only [x86_0, x86_1, x86_4, x86_5, x86_7, x86_9, x86_12, x86_13, x86_15, x86_17, x86_20, x86_21, x86_23, x86_25, x86_28, x86_29, x86_31, x86_33, x86_36, x86_37, x86_39, x86_41, x86_44, x86_45, x86_47, x86_49, x86_52, true_and, and_true, Nat.reduceAdd, Nat.reduceSub, ex5, Option.toList_some, Option.toList_none, List.cons_append, List.nil_append, if_true, if_false]
theorem k_people11 : Em L xs 7 [.ref 27, .int 20] (28, I, Lm, Rm) r ↔ r = (none, 36, (zr2 (zr2 (zr2 (zr2 (zr2 (zr2 (zr2 (zr2 I 28 0) 29 0) 30 0) 31 0) 32 0) 33 0) 34 0) 35 0), (zr2 (zr2 (zr2 (zr2 (zr2 (zr2 (zr2 (zr2 Lm 28 0) 29 0) 30 0) 31 0) 32 0) 33 0) 34 0) 35 0), (up2 (zr2 (up2 (zr2 (up2 (zr2 (up2 (zr2 (up2 (zr2 (up2 (zr2 (up2 (zr2 (up2 (zr2 Rm 28 0) 27 6 (28 + 1)) 29 0) 27 7 (29 + 1)) 30 0) 27 0 (30 + 1)) 31 0) 27 1 (31 + 1)) 32 0) 27 2 (32 + 1)) 33 0) 27 3 (33 + 1)) 34 0) 27 4 (34 + 1)) 35 0) 27 5 (35 + 1))) := by
  rw [em_7]
  simp (decide := true) only [x7_0, x7_1, x7_4, x7_5, x7_7, x7_9, x7_12, x7_13, x7_15, x7_17, x7_20, x7_21, x7_22, x7_25, x7_26, x7_27, x7_28, x7_30, x7_33, x7_34, x7_35, x7_37, x7_40, x7_41, x7_42, x7_44, x7_47, x7_48, x7_49, x7_51, x7_54, x7_55, x7_56, x7_58, x7_61, x7_62, x7_63, x7_65, x7_68, true_and, and_true, Nat.reduceAdd, Nat.reduceSub, ex5, Option.toList_some, Option.toList_none, List.cons_append, List.nil_append, if_true, if_false, p_max, show ((0 : Int32) < 20) = True from eq_true (by decide)]
theorem k_scene11 : Em L xs 58 [.ref 11, .int 20] (12, I, Lm, Rm) r ↔ r = (none, 37, (zr2 (zr2 (zr2 (zr2 (zr2 (zr2 (zr2 (zr2 (zr2 (zr2 (up2 (up2 (zr2 (zr2 (zr2 (zr2 (zr2 (zr2 (zr2 (zr2 (zr2 (zr2 (zr2 (zr2 (zr2 (zr2 (zr2 I 12 0) 13 0) 14 0) 15 0) 16 0) 17 0) 18 0) 19 0) 20 0) 21 0) 22 0) 23 0) 24 0) 25 0) 26 0) 11 6 40) 11 4 20) 27 0) 28 0) 29 0) 30 0) 31 0) 32 0) 33 0) 34 0) 35 0) 36 0), (zr2 (zr2 (zr2 (zr2 (zr2 (zr2 (zr2 (zr2 (zr2 (zr2 (zr2 (zr2 (zr2 (zr2 (zr2 (zr2 (zr2 (zr2 (zr2 (zr2 (zr2 (zr2 (zr2 (zr2 (zr2 Lm 12 0) 13 0) 14 0) 15 0) 16 0) 17 0) 18 0) 19 0) 20 0) 21 0) 22 0) 23 0) 24 0) 25 0) 26 0) 27 0) 28 0) 29 0) 30 0) 31 0) 32 0) 33 0) 34 0) 35 0) 36 0), (up2 (zr2 (up2 (up2 (zr2 (up2 (zr2 (up2 (zr2 (up2 (zr2 (up2 (zr2 (up2 (zr2 (up2 (zr2 (up2 (zr2 (zr2 (up2 (up2 (zr2 (up2 (zr2 (up2 (zr2 (up2 (zr2 (up2 (zr2 (up2 (zr2 (zr2 (up2 (up2 (zr2 (zr2 (up2 (up2 (zr2 (up2 (zr2 (up2 (zr2 (up2 (zr2 (up2 (zr2 (zr2 Rm 12 0) 13 0) 12 0 (13 + 1)) 14 0) 12 1 (14 + 1)) 15 0) 12 2 (15 + 1)) 16 0) 12 3 (16 + 1)) 17 0) 12 4 (17 + 1)) 11 0 (12 + 1)) 18 0) 19 0) 18 0 (19 + 1)) 11 2 (18 + 1)) 20 0) 21 0) 20 0 (21 + 1)) 22 0) 20 1 (22 + 1)) 23 0) 20 2 (23 + 1)) 24 0) 20 3 (24 + 1)) 25 0) 20 4 (25 + 1)) 26 0) 20 5 (26 + 1)) 11 5 (20 + 1)) 27 0) 28 0) 27 6 (28 + 1)) 29 0) 27 7 (29 + 1)) 30 0) 27 0 (30 + 1)) 31 0) 27 1 (31 + 1)) 32 0) 27 2 (32 + 1)) 33 0) 27 3 (33 + 1)) 34 0) 27 4 (34 + 1)) 35 0) 27 5 (35 + 1)) 11 1 (27 + 1)) 36 0) 11 3 (36 + 1))) := by
  rw [em_58]
  simp (decide := true) only [x58_0, x58_1, x58_4, x58_5, x58_8, x58_9, x58_12, x58_15, x58_16, x58_19, x58_20, x58_23, x58_26, x58_27, x58_30, x58_31, x58_34, x58_37, x58_38, x58_40, x58_43, x58_44, x58_45, x58_46, x58_49, x58_52, x58_53, x58_56, x58_57, x58_58, x58_61, x58_64, x58_67, x58_68, x58_70, x58_71, x58_74, x58_75, x58_77, x58_80, true_and, and_true, Nat.reduceAdd, Nat.reduceSub, ex5, Option.toList_some, Option.toList_none, List.cons_append, List.nil_append, if_true, if_false, k_hats11, k_company11, k_sorts11, k_people11, p_max, up2_ap, zr2_ap, show ((0 : Int32) < 20) = True from eq_true (by decide)]
theorem k_hats38 : Em L xs 5 [.ref 39] (40, I, Lm, Rm) r ↔ r = (none, 45, (zr2 (zr2 (zr2 (zr2 (zr2 I 40 0) 41 0) 42 0) 43 0) 44 0), (zr2 (zr2 (zr2 (zr2 (zr2 Lm 40 0) 41 0) 42 0) 43 0) 44 0), (up2 (zr2 (up2 (zr2 (up2 (zr2 (up2 (zr2 (up2 (zr2 Rm 40 0) 39 0 (40 + 1)) 41 0) 39 1 (41 + 1)) 42 0) 39 2 (42 + 1)) 43 0) 39 3 (43 + 1)) 44 0) 39 4 (44 + 1))) := by
  rw [em_5]
  simp (decide := true) only [x5_0, x5_1, x5_4, x5_5, x5_6, x5_8, x5_11, x5_12, x5_13, x5_15, x5_18, x5_19, x5_20, x5_22, x5_25, x5_26, x5_27, x5_29, x5_32, x5_33, x5_34, x5_36, x5_39, true_and, and_true, Nat.reduceAdd, Nat.reduceSub, ex5, Option.toList_some, Option.toList_none, List.cons_append, List.nil_append, if_true, if_false]
theorem k_company38 : Em L xs 0 [.ref 45] (46, I, Lm, Rm) r ↔ r = (none, 47, (zr2 I 46 0), (zr2 Lm 46 0), (up2 (zr2 Rm 46 0) 45 0 (46 + 1))) := by
  rw [em_0]
  simp (decide := true) only [x0_0, x0_1, x0_4, x0_5, x0_7, x0_9, x0_12, true_and, and_true, Nat.reduceAdd, Nat.reduceSub, ex5, Option.toList_some, Option.toList_none, List.cons_append, List.nil_append, if_true, if_false]
theorem k_sorts38 : Em L xs 86 [.ref 47] (48, I, Lm, Rm) r ↔ r = (none, 54, (zr2 (zr2 (zr2 (zr2 (zr2 (zr2 I 48 0) 49 0) 50 0) 51 0) 52 0) 53 0), (zr2 (zr2 (zr2 (zr2 (zr2 (zr2 Lm 48 0) 49 0) 50 0) 51 0) 52 0) 53 0), (up2 (zr2 (up2 (zr2 (up2 (zr2 (up2 (zr2 (up2 (zr2 (up2 (zr2 Rm 48 0) 47 0 (48 + 1)) 49 0) 47 1 (49 + 1)) 50 0) 47 2 (50 + 1)) 51 0) 47 3 (51 + 1)) 52 0) 47 4 (52 + 1)) 53 0) 47 5 (53 + 1))) := by
  rw [em_86]
  simp (decide := true) only [x86_0, x86_1, x86_4, x86_5, x86_7, x86_9, x86_12, x86_13, x86_15, x86_17, x86_20, x86_21, x86_23, x86_25, x86_28, x86_29, x86_31, x86_33, x86_36, x86_37, x86_39, x86_41, x86_44, x86_45, x86_47, x86_49, x86_52, true_and, and_true, Nat.reduceAdd, Nat.reduceSub, ex5, Option.toList_some, Option.toList_none, List.cons_append, List.nil_append, if_true, if_false]
theorem k_people38 : Em L xs 7 [.ref 54, .int 12] (55, I, Lm, Rm) r ↔ r = (none, 63, (zr2 (zr2 (zr2 (zr2 (zr2 (zr2 (zr2 (zr2 I 55 0) 56 0) 57 0) 58 0) 59 0) 60 0) 61 0) 62 0), (zr2 (zr2 (zr2 (zr2 (zr2 (zr2 (zr2 (zr2 Lm 55 0) 56 0) 57 0) 58 0) 59 0) 60 0) 61 0) 62 0), (up2 (zr2 (up2 (zr2 (up2 (zr2 (up2 (zr2 (up2 (zr2 (up2 (zr2 (up2 (zr2 (up2 (zr2 Rm 55 0) 54 6 (55 + 1)) 56 0) 54 7 (56 + 1)) 57 0) 54 0 (57 + 1)) 58 0) 54 1 (58 + 1)) 59 0) 54 2 (59 + 1)) 60 0) 54 3 (60 + 1)) 61 0) 54 4 (61 + 1)) 62 0) 54 5 (62 + 1))) := by
  rw [em_7]
  simp (decide := true) only [x7_0, x7_1, x7_4, x7_5, x7_7, x7_9, x7_12, x7_13, x7_15, x7_17, x7_20, x7_21, x7_22, x7_25, x7_26, x7_27, x7_28, x7_30, x7_33, x7_34, x7_35, x7_37, x7_40, x7_41, x7_42, x7_44, x7_47, x7_48, x7_49, x7_51, x7_54, x7_55, x7_56, x7_58, x7_61, x7_62, x7_63, x7_65, x7_68, true_and, and_true, Nat.reduceAdd, Nat.reduceSub, ex5, Option.toList_some, Option.toList_none, List.cons_append, List.nil_append, if_true, if_false, p_max, show ((0 : Int32) < 12) = True from eq_true (by decide)]
theorem k_scene38 : Em L xs 58 [.ref 38, .int 12] (39, I, Lm, Rm) r ↔ r = (none, 64, (zr2 (zr2 (zr2 (zr2 (zr2 (zr2 (zr2 (zr2 (zr2 (zr2 (up2 (up2 (zr2 (zr2 (zr2 (zr2 (zr2 (zr2 (zr2 (zr2 (zr2 (zr2 (zr2 (zr2 (zr2 (zr2 (zr2 I 39 0) 40 0) 41 0) 42 0) 43 0) 44 0) 45 0) 46 0) 47 0) 48 0) 49 0) 50 0) 51 0) 52 0) 53 0) 38 6 40) 38 4 12) 54 0) 55 0) 56 0) 57 0) 58 0) 59 0) 60 0) 61 0) 62 0) 63 0), (zr2 (zr2 (zr2 (zr2 (zr2 (zr2 (zr2 (zr2 (zr2 (zr2 (zr2 (zr2 (zr2 (zr2 (zr2 (zr2 (zr2 (zr2 (zr2 (zr2 (zr2 (zr2 (zr2 (zr2 (zr2 Lm 39 0) 40 0) 41 0) 42 0) 43 0) 44 0) 45 0) 46 0) 47 0) 48 0) 49 0) 50 0) 51 0) 52 0) 53 0) 54 0) 55 0) 56 0) 57 0) 58 0) 59 0) 60 0) 61 0) 62 0) 63 0), (up2 (zr2 (up2 (up2 (zr2 (up2 (zr2 (up2 (zr2 (up2 (zr2 (up2 (zr2 (up2 (zr2 (up2 (zr2 (up2 (zr2 (zr2 (up2 (up2 (zr2 (up2 (zr2 (up2 (zr2 (up2 (zr2 (up2 (zr2 (up2 (zr2 (zr2 (up2 (up2 (zr2 (zr2 (up2 (up2 (zr2 (up2 (zr2 (up2 (zr2 (up2 (zr2 (up2 (zr2 (zr2 Rm 39 0) 40 0) 39 0 (40 + 1)) 41 0) 39 1 (41 + 1)) 42 0) 39 2 (42 + 1)) 43 0) 39 3 (43 + 1)) 44 0) 39 4 (44 + 1)) 38 0 (39 + 1)) 45 0) 46 0) 45 0 (46 + 1)) 38 2 (45 + 1)) 47 0) 48 0) 47 0 (48 + 1)) 49 0) 47 1 (49 + 1)) 50 0) 47 2 (50 + 1)) 51 0) 47 3 (51 + 1)) 52 0) 47 4 (52 + 1)) 53 0) 47 5 (53 + 1)) 38 5 (47 + 1)) 54 0) 55 0) 54 6 (55 + 1)) 56 0) 54 7 (56 + 1)) 57 0) 54 0 (57 + 1)) 58 0) 54 1 (58 + 1)) 59 0) 54 2 (59 + 1)) 60 0) 54 3 (60 + 1)) 61 0) 54 4 (61 + 1)) 62 0) 54 5 (62 + 1)) 38 1 (54 + 1)) 63 0) 38 3 (63 + 1))) := by
  rw [em_58]
  simp (decide := true) only [x58_0, x58_1, x58_4, x58_5, x58_8, x58_9, x58_12, x58_15, x58_16, x58_19, x58_20, x58_23, x58_26, x58_27, x58_30, x58_31, x58_34, x58_37, x58_38, x58_40, x58_43, x58_44, x58_45, x58_46, x58_49, x58_52, x58_53, x58_56, x58_57, x58_58, x58_61, x58_64, x58_67, x58_68, x58_70, x58_71, x58_74, x58_75, x58_77, x58_80, true_and, and_true, Nat.reduceAdd, Nat.reduceSub, ex5, Option.toList_some, Option.toList_none, List.cons_append, List.nil_append, if_true, if_false, k_hats38, k_company38, k_sorts38, k_people38, p_max, up2_ap, zr2_ap, show ((0 : Int32) < 12) = True from eq_true (by decide)]
theorem k_hats72 : Em L xs 5 [.ref 73] (74, I, Lm, Rm) r ↔ r = (none, 79, (zr2 (zr2 (zr2 (zr2 (zr2 I 74 0) 75 0) 76 0) 77 0) 78 0), (zr2 (zr2 (zr2 (zr2 (zr2 Lm 74 0) 75 0) 76 0) 77 0) 78 0), (up2 (zr2 (up2 (zr2 (up2 (zr2 (up2 (zr2 (up2 (zr2 Rm 74 0) 73 0 (74 + 1)) 75 0) 73 1 (75 + 1)) 76 0) 73 2 (76 + 1)) 77 0) 73 3 (77 + 1)) 78 0) 73 4 (78 + 1))) := by
  rw [em_5]
  simp (decide := true) only [x5_0, x5_1, x5_4, x5_5, x5_6, x5_8, x5_11, x5_12, x5_13, x5_15, x5_18, x5_19, x5_20, x5_22, x5_25, x5_26, x5_27, x5_29, x5_32, x5_33, x5_34, x5_36, x5_39, true_and, and_true, Nat.reduceAdd, Nat.reduceSub, ex5, Option.toList_some, Option.toList_none, List.cons_append, List.nil_append, if_true, if_false]
theorem k_company72 : Em L xs 0 [.ref 79] (80, I, Lm, Rm) r ↔ r = (none, 81, (zr2 I 80 0), (zr2 Lm 80 0), (up2 (zr2 Rm 80 0) 79 0 (80 + 1))) := by
  rw [em_0]
  simp (decide := true) only [x0_0, x0_1, x0_4, x0_5, x0_7, x0_9, x0_12, true_and, and_true, Nat.reduceAdd, Nat.reduceSub, ex5, Option.toList_some, Option.toList_none, List.cons_append, List.nil_append, if_true, if_false]
theorem k_sorts72 : Em L xs 86 [.ref 81] (82, I, Lm, Rm) r ↔ r = (none, 88, (zr2 (zr2 (zr2 (zr2 (zr2 (zr2 I 82 0) 83 0) 84 0) 85 0) 86 0) 87 0), (zr2 (zr2 (zr2 (zr2 (zr2 (zr2 Lm 82 0) 83 0) 84 0) 85 0) 86 0) 87 0), (up2 (zr2 (up2 (zr2 (up2 (zr2 (up2 (zr2 (up2 (zr2 (up2 (zr2 Rm 82 0) 81 0 (82 + 1)) 83 0) 81 1 (83 + 1)) 84 0) 81 2 (84 + 1)) 85 0) 81 3 (85 + 1)) 86 0) 81 4 (86 + 1)) 87 0) 81 5 (87 + 1))) := by
  rw [em_86]
  simp (decide := true) only [x86_0, x86_1, x86_4, x86_5, x86_7, x86_9, x86_12, x86_13, x86_15, x86_17, x86_20, x86_21, x86_23, x86_25, x86_28, x86_29, x86_31, x86_33, x86_36, x86_37, x86_39, x86_41, x86_44, x86_45, x86_47, x86_49, x86_52, true_and, and_true, Nat.reduceAdd, Nat.reduceSub, ex5, Option.toList_some, Option.toList_none, List.cons_append, List.nil_append, if_true, if_false]
theorem k_people72 : Em L xs 7 [.ref 88, .int 12] (89, I, Lm, Rm) r ↔ r = (none, 97, (zr2 (zr2 (zr2 (zr2 (zr2 (zr2 (zr2 (zr2 I 89 0) 90 0) 91 0) 92 0) 93 0) 94 0) 95 0) 96 0), (zr2 (zr2 (zr2 (zr2 (zr2 (zr2 (zr2 (zr2 Lm 89 0) 90 0) 91 0) 92 0) 93 0) 94 0) 95 0) 96 0), (up2 (zr2 (up2 (zr2 (up2 (zr2 (up2 (zr2 (up2 (zr2 (up2 (zr2 (up2 (zr2 (up2 (zr2 Rm 89 0) 88 6 (89 + 1)) 90 0) 88 7 (90 + 1)) 91 0) 88 0 (91 + 1)) 92 0) 88 1 (92 + 1)) 93 0) 88 2 (93 + 1)) 94 0) 88 3 (94 + 1)) 95 0) 88 4 (95 + 1)) 96 0) 88 5 (96 + 1))) := by
  rw [em_7]
  simp (decide := true) only [x7_0, x7_1, x7_4, x7_5, x7_7, x7_9, x7_12, x7_13, x7_15, x7_17, x7_20, x7_21, x7_22, x7_25, x7_26, x7_27, x7_28, x7_30, x7_33, x7_34, x7_35, x7_37, x7_40, x7_41, x7_42, x7_44, x7_47, x7_48, x7_49, x7_51, x7_54, x7_55, x7_56, x7_58, x7_61, x7_62, x7_63, x7_65, x7_68, true_and, and_true, Nat.reduceAdd, Nat.reduceSub, ex5, Option.toList_some, Option.toList_none, List.cons_append, List.nil_append, if_true, if_false, p_max, show ((0 : Int32) < 12) = True from eq_true (by decide)]
theorem k_scene72 : Em L xs 58 [.ref 72, .int 12] (73, I, Lm, Rm) r ↔ r = (none, 98, (zr2 (zr2 (zr2 (zr2 (zr2 (zr2 (zr2 (zr2 (zr2 (zr2 (up2 (up2 (zr2 (zr2 (zr2 (zr2 (zr2 (zr2 (zr2 (zr2 (zr2 (zr2 (zr2 (zr2 (zr2 (zr2 (zr2 I 73 0) 74 0) 75 0) 76 0) 77 0) 78 0) 79 0) 80 0) 81 0) 82 0) 83 0) 84 0) 85 0) 86 0) 87 0) 72 6 40) 72 4 12) 88 0) 89 0) 90 0) 91 0) 92 0) 93 0) 94 0) 95 0) 96 0) 97 0), (zr2 (zr2 (zr2 (zr2 (zr2 (zr2 (zr2 (zr2 (zr2 (zr2 (zr2 (zr2 (zr2 (zr2 (zr2 (zr2 (zr2 (zr2 (zr2 (zr2 (zr2 (zr2 (zr2 (zr2 (zr2 Lm 73 0) 74 0) 75 0) 76 0) 77 0) 78 0) 79 0) 80 0) 81 0) 82 0) 83 0) 84 0) 85 0) 86 0) 87 0) 88 0) 89 0) 90 0) 91 0) 92 0) 93 0) 94 0) 95 0) 96 0) 97 0), (up2 (zr2 (up2 (up2 (zr2 (up2 (zr2 (up2 (zr2 (up2 (zr2 (up2 (zr2 (up2 (zr2 (up2 (zr2 (up2 (zr2 (zr2 (up2 (up2 (zr2 (up2 (zr2 (up2 (zr2 (up2 (zr2 (up2 (zr2 (up2 (zr2 (zr2 (up2 (up2 (zr2 (zr2 (up2 (up2 (zr2 (up2 (zr2 (up2 (zr2 (up2 (zr2 (up2 (zr2 (zr2 Rm 73 0) 74 0) 73 0 (74 + 1)) 75 0) 73 1 (75 + 1)) 76 0) 73 2 (76 + 1)) 77 0) 73 3 (77 + 1)) 78 0) 73 4 (78 + 1)) 72 0 (73 + 1)) 79 0) 80 0) 79 0 (80 + 1)) 72 2 (79 + 1)) 81 0) 82 0) 81 0 (82 + 1)) 83 0) 81 1 (83 + 1)) 84 0) 81 2 (84 + 1)) 85 0) 81 3 (85 + 1)) 86 0) 81 4 (86 + 1)) 87 0) 81 5 (87 + 1)) 72 5 (81 + 1)) 88 0) 89 0) 88 6 (89 + 1)) 90 0) 88 7 (90 + 1)) 91 0) 88 0 (91 + 1)) 92 0) 88 1 (92 + 1)) 93 0) 88 2 (93 + 1)) 94 0) 88 3 (94 + 1)) 95 0) 88 4 (95 + 1)) 96 0) 88 5 (96 + 1)) 72 1 (88 + 1)) 97 0) 72 3 (97 + 1))) := by
  rw [em_58]
  simp (decide := true) only [x58_0, x58_1, x58_4, x58_5, x58_8, x58_9, x58_12, x58_15, x58_16, x58_19, x58_20, x58_23, x58_26, x58_27, x58_30, x58_31, x58_34, x58_37, x58_38, x58_40, x58_43, x58_44, x58_45, x58_46, x58_49, x58_52, x58_53, x58_56, x58_57, x58_58, x58_61, x58_64, x58_67, x58_68, x58_70, x58_71, x58_74, x58_75, x58_77, x58_80, true_and, and_true, Nat.reduceAdd, Nat.reduceSub, ex5, Option.toList_some, Option.toList_none, List.cons_append, List.nil_append, if_true, if_false, k_hats72, k_company72, k_sorts72, k_people72, p_max, up2_ap, zr2_ap, show ((0 : Int32) < 12) = True from eq_true (by decide)]
theorem k_rules64 : Em L xs 50 [.ref 64] (65, I, Lm, Rm) r ↔ r = (none, 71, (zr2 (zr2 (zr2 (zr2 (zr2 (zr2 I 65 0) 66 0) 67 0) 68 0) 69 0) 70 0), (zr2 (zr2 (zr2 (zr2 (zr2 (zr2 Lm 65 0) 66 0) 67 0) 68 0) 69 0) 70 0), (up2 (zr2 (up2 (zr2 (up2 (zr2 (up2 (zr2 (up2 (zr2 (up2 (zr2 Rm 65 0) 64 0 (65 + 1)) 66 0) 64 1 (66 + 1)) 67 0) 64 2 (67 + 1)) 68 0) 64 3 (68 + 1)) 69 0) 64 4 (69 + 1)) 70 0) 64 5 (70 + 1))) := by
  rw [em_50]
  simp (decide := true) only [x50_0, x50_1, x50_4, x50_5, x50_7, x50_9, x50_12, x50_13, x50_15, x50_17, x50_20, x50_21, x50_23, x50_25, x50_28, x50_29, x50_31, x50_33, x50_36, x50_37, x50_40, x50_42, x50_45, x50_46, x50_48, x50_50, x50_53, true_and, and_true, Nat.reduceAdd, Nat.reduceSub, ex5, Option.toList_some, Option.toList_none, List.cons_append, List.nil_append, if_true, if_false]
theorem k_rules98 : Em L xs 50 [.ref 98] (99, I, Lm, Rm) r ↔ r = (none, 105, (zr2 (zr2 (zr2 (zr2 (zr2 (zr2 I 99 0) 100 0) 101 0) 102 0) 103 0) 104 0), (zr2 (zr2 (zr2 (zr2 (zr2 (zr2 Lm 99 0) 100 0) 101 0) 102 0) 103 0) 104 0), (up2 (zr2 (up2 (zr2 (up2 (zr2 (up2 (zr2 (up2 (zr2 (up2 (zr2 Rm 99 0) 98 0 (99 + 1)) 100 0) 98 1 (100 + 1)) 101 0) 98 2 (101 + 1)) 102 0) 98 3 (102 + 1)) 103 0) 98 4 (103 + 1)) 104 0) 98 5 (104 + 1))) := by
  rw [em_50]
  simp (decide := true) only [x50_0, x50_1, x50_4, x50_5, x50_7, x50_9, x50_12, x50_13, x50_15, x50_17, x50_20, x50_21, x50_23, x50_25, x50_28, x50_29, x50_31, x50_33, x50_36, x50_37, x50_40, x50_42, x50_45, x50_46, x50_48, x50_50, x50_53, true_and, and_true, Nat.reduceAdd, Nat.reduceSub, ex5, Option.toList_some, Option.toList_none, List.cons_append, List.nil_append, if_true, if_false]
theorem k_town37 : Em L xs 97 [.ref 37] (38, I, Lm, Rm) r ↔ r = (none, 71, (zr2 (zr2 (zr2 (zr2 (zr2 (zr2 (zr2 (zr2 (zr2 (zr2 (zr2 (zr2 (zr2 (zr2 (zr2 (zr2 (zr2 (up2 (up2 (zr2 (zr2 (zr2 (zr2 (zr2 (zr2 (zr2 (zr2 (zr2 (zr2 (zr2 (zr2 (zr2 (zr2 (zr2 (zr2 I 38 0) 39 0) 40 0) 41 0) 42 0) 43 0) 44 0) 45 0) 46 0) 47 0) 48 0) 49 0) 50 0) 51 0) 52 0) 53 0) 38 6 40) 38 4 12) 54 0) 55 0) 56 0) 57 0) 58 0) 59 0) 60 0) 61 0) 62 0) 63 0) 64 0) 65 0) 66 0) 67 0) 68 0) 69 0) 70 0), (zr2 (zr2 (zr2 (zr2 (zr2 (zr2 (zr2 (zr2 (zr2 (zr2 (zr2 (zr2 (zr2 (zr2 (zr2 (zr2 (zr2 (zr2 (zr2 (zr2 (zr2 (zr2 (zr2 (zr2 (zr2 (zr2 (zr2 (zr2 (zr2 (zr2 (zr2 (zr2 (zr2 Lm 38 0) 39 0) 40 0) 41 0) 42 0) 43 0) 44 0) 45 0) 46 0) 47 0) 48 0) 49 0) 50 0) 51 0) 52 0) 53 0) 54 0) 55 0) 56 0) 57 0) 58 0) 59 0) 60 0) 61 0) 62 0) 63 0) 64 0) 65 0) 66 0) 67 0) 68 0) 69 0) 70 0), (up2 (up2 (zr2 (up2 (zr2 (up2 (zr2 (up2 (zr2 (up2 (zr2 (up2 (zr2 (zr2 (up2 (up2 (zr2 (up2 (up2 (zr2 (up2 (zr2 (up2 (zr2 (up2 (zr2 (up2 (zr2 (up2 (zr2 (up2 (zr2 (up2 (zr2 (zr2 (up2 (up2 (zr2 (up2 (zr2 (up2 (zr2 (up2 (zr2 (up2 (zr2 (up2 (zr2 (zr2 (up2 (up2 (zr2 (zr2 (up2 (up2 (zr2 (up2 (zr2 (up2 (zr2 (up2 (zr2 (up2 (zr2 (zr2 (zr2 Rm 38 0) 39 0) 40 0) 39 0 (40 + 1)) 41 0) 39 1 (41 + 1)) 42 0) 39 2 (42 + 1)) 43 0) 39 3 (43 + 1)) 44 0) 39 4 (44 + 1)) 38 0 (39 + 1)) 45 0) 46 0) 45 0 (46 + 1)) 38 2 (45 + 1)) 47 0) 48 0) 47 0 (48 + 1)) 49 0) 47 1 (49 + 1)) 50 0) 47 2 (50 + 1)) 51 0) 47 3 (51 + 1)) 52 0) 47 4 (52 + 1)) 53 0) 47 5 (53 + 1)) 38 5 (47 + 1)) 54 0) 55 0) 54 6 (55 + 1)) 56 0) 54 7 (56 + 1)) 57 0) 54 0 (57 + 1)) 58 0) 54 1 (58 + 1)) 59 0) 54 2 (59 + 1)) 60 0) 54 3 (60 + 1)) 61 0) 54 4 (61 + 1)) 62 0) 54 5 (62 + 1)) 38 1 (54 + 1)) 63 0) 38 3 (63 + 1)) 37 0 (38 + 1)) 64 0) 65 0) 64 0 (65 + 1)) 66 0) 64 1 (66 + 1)) 67 0) 64 2 (67 + 1)) 68 0) 64 3 (68 + 1)) 69 0) 64 4 (69 + 1)) 70 0) 64 5 (70 + 1)) 37 1 (64 + 1))) := by
  rw [em_97]
  simp (decide := true) only [x97_0, x97_1, x97_4, x97_5, x97_8, x97_9, x97_11, x97_14, x97_17, x97_18, x97_21, x97_22, x97_25, x97_28, true_and, and_true, Nat.reduceAdd, Nat.reduceSub, ex5, Option.toList_some, Option.toList_none, List.cons_append, List.nil_append, if_true, if_false, k_scene38, k_rules64]
theorem k_town71 : Em L xs 97 [.ref 71] (72, I, Lm, Rm) r ↔ r = (none, 105, (zr2 (zr2 (zr2 (zr2 (zr2 (zr2 (zr2 (zr2 (zr2 (zr2 (zr2 (zr2 (zr2 (zr2 (zr2 (zr2 (zr2 (up2 (up2 (zr2 (zr2 (zr2 (zr2 (zr2 (zr2 (zr2 (zr2 (zr2 (zr2 (zr2 (zr2 (zr2 (zr2 (zr2 (zr2 I 72 0) 73 0) 74 0) 75 0) 76 0) 77 0) 78 0) 79 0) 80 0) 81 0) 82 0) 83 0) 84 0) 85 0) 86 0) 87 0) 72 6 40) 72 4 12) 88 0) 89 0) 90 0) 91 0) 92 0) 93 0) 94 0) 95 0) 96 0) 97 0) 98 0) 99 0) 100 0) 101 0) 102 0) 103 0) 104 0), (zr2 (zr2 (zr2 (zr2 (zr2 (zr2 (zr2 (zr2 (zr2 (zr2 (zr2 (zr2 (zr2 (zr2 (zr2 (zr2 (zr2 (zr2 (zr2 (zr2 (zr2 (zr2 (zr2 (zr2 (zr2 (zr2 (zr2 (zr2 (zr2 (zr2 (zr2 (zr2 (zr2 Lm 72 0) 73 0) 74 0) 75 0) 76 0) 77 0) 78 0) 79 0) 80 0) 81 0) 82 0) 83 0) 84 0) 85 0) 86 0) 87 0) 88 0) 89 0) 90 0) 91 0) 92 0) 93 0) 94 0) 95 0) 96 0) 97 0) 98 0) 99 0) 100 0) 101 0) 102 0) 103 0) 104 0), (up2 (up2 (zr2 (up2 (zr2 (up2 (zr2 (up2 (zr2 (up2 (zr2 (up2 (zr2 (zr2 (up2 (up2 (zr2 (up2 (up2 (zr2 (up2 (zr2 (up2 (zr2 (up2 (zr2 (up2 (zr2 (up2 (zr2 (up2 (zr2 (up2 (zr2 (zr2 (up2 (up2 (zr2 (up2 (zr2 (up2 (zr2 (up2 (zr2 (up2 (zr2 (up2 (zr2 (zr2 (up2 (up2 (zr2 (zr2 (up2 (up2 (zr2 (up2 (zr2 (up2 (zr2 (up2 (zr2 (up2 (zr2 (zr2 (zr2 Rm 72 0) 73 0) 74 0) 73 0 (74 + 1)) 75 0) 73 1 (75 + 1)) 76 0) 73 2 (76 + 1)) 77 0) 73 3 (77 + 1)) 78 0) 73 4 (78 + 1)) 72 0 (73 + 1)) 79 0) 80 0) 79 0 (80 + 1)) 72 2 (79 + 1)) 81 0) 82 0) 81 0 (82 + 1)) 83 0) 81 1 (83 + 1)) 84 0) 81 2 (84 + 1)) 85 0) 81 3 (85 + 1)) 86 0) 81 4 (86 + 1)) 87 0) 81 5 (87 + 1)) 72 5 (81 + 1)) 88 0) 89 0) 88 6 (89 + 1)) 90 0) 88 7 (90 + 1)) 91 0) 88 0 (91 + 1)) 92 0) 88 1 (92 + 1)) 93 0) 88 2 (93 + 1)) 94 0) 88 3 (94 + 1)) 95 0) 88 4 (95 + 1)) 96 0) 88 5 (96 + 1)) 72 1 (88 + 1)) 97 0) 72 3 (97 + 1)) 71 0 (72 + 1)) 98 0) 99 0) 98 0 (99 + 1)) 100 0) 98 1 (100 + 1)) 101 0) 98 2 (101 + 1)) 102 0) 98 3 (102 + 1)) 103 0) 98 4 (103 + 1)) 104 0) 98 5 (104 + 1)) 71 1 (98 + 1))) := by
  rw [em_97]
  simp (decide := true) only [x97_0, x97_1, x97_4, x97_5, x97_8, x97_9, x97_11, x97_14, x97_17, x97_18, x97_21, x97_22, x97_25, x97_28, true_and, and_true, Nat.reduceAdd, Nat.reduceSub, ex5, Option.toList_some, Option.toList_none, List.cons_append, List.nil_append, if_true, if_false, k_scene72, k_rules98]
end
