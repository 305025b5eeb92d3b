theorem Fr_rf {s : Nat} {I : Nat → Nat → Int32} : Fr s I I = True := eq_true Fr.rf
theorem Fr_u7 {s k : Nat} {I J : Nat → Nat → Int32} {v : Int32} (h : Fr s I J) : Fr s I (up2 J (s + 7) k v) = True := eq_true (fun p a b => (up2_ne a).trans (h p a b))
theorem Fr_s8 {s : Nat} {I J : Nat → Nat → Int32} {k v : Int32} (h : Fr s I J) : Fr s I (setv J (s + 8) k v) = True := eq_true (fun p a b => (setv_ne b).trans (h p a b))
theorem up2_eq {α : Type} {f : Nat → Nat → α} {p k : Nat} {v : α} : up2 f p k v p k = v := by simp [up2]
theorem up2_k {α : Type} {f : Nat → Nat → α} {p k j : Nat} {v : α} (h : j ≠ k) : up2 f p k v p j = f p j := by simp [up2, h]
theorem up2_p {α : Type} {f : Nat → Nat → α} {p k q j : Nat} {v : α} (h : q ≠ p) : up2 f p k v q j = f q j := by simp [up2, h]
theorem setv_p {I : Nat → Nat → Int32} {a q j : Nat} {k v : Int32} (h : q ≠ a) : setv I a k v q j = I q j := by rw [setv_ne h]
theorem ne78 (s : Nat) : s + 7 ≠ s + 8 := by omega
theorem ne87 (s : Nat) : s + 8 ≠ s + 7 := by omega
section
variable {L : Nat} {xs : Nat → Int32} {σ : Mm} {r : Option Value × Mm} {I J : Nat → Nat → Int32} {Lm : Nat → Nat → Int64} {Rm : Nat → Nat → Nat} {n s so N NS NH : Nat} {V : Vw} {nw sp s2 ai p : Nat} {x y h : Int32}
theorem f_earned (hB : SB nw sp s2 ai s so) (hC : CR I s so N NS NH V) (hW : WV V N NS NH) (hp : p < N) (hF : Fr s I J) : Em L xs 64 [.ref s, .int (nI p)] (179, J, Lm, RG nw sp s2 ai) r ↔ r = (some (.int (earnV V p)), 179, J, Lm, RG nw sp s2 ai) := c_earned hB (hC.fr hB hF) hW hp
theorem f_needOf (hB : SB nw sp s2 ai s so) (hC : CR I s so N NS NH V) (hW : WV V N NS NH) (hp : p < N) (hF : Fr s I J) : Em L xs 65 [.ref s, .int (nI p)] (179, J, Lm, RG nw sp s2 ai) r ↔ r = (some (.int (vS V p 8)), 179, J, Lm, RG nw sp s2 ai) := c_needOf hB (hC.fr hB hF) hW hp
theorem f_slip (hB : SB nw sp s2 ai s so) (hC : CR I s so N NS NH V) (hW : WV V N NS NH) (hp : p < N) (hF : Fr s I J) : Em L xs 66 [.ref s, .int (nI p)] (179, J, Lm, RG nw sp s2 ai) r ↔ r = (some (.int (slipV V p)), 179, J, Lm, RG nw sp s2 ai) := c_slip hB (hC.fr hB hF) hW hp
theorem f_sumIn (hB : SB nw sp s2 ai s so) (hC : CR I s so N NS NH V) (hW : WV V N NS NH) (hF : Fr s I J) : Em L xs 67 [.ref s, .int h] (179, J, Lm, RG nw sp s2 ai) r ↔ r = (some (.int (sumV V N h)), 179, J, Lm, RG nw sp s2 ai) := c_sumIn hB (hC.fr hB hF) hW
theorem sg_cong {f g : Nat → Int32} : ∀ {n : Nat}, (∀ i, i < n → f i = g i) → sg f n = sg g n
  | 0, _ => rfl
  | n + 1, h => by show sg f n + f n = sg g n + g n; rw [sg_cong (fun i hi => h i (by omega)), h n (by omega)]
/-- the slips of those in h, laid into the row -/
def spJ (s : Nat) (V : Vw) (h : Int32) (I : Nat → Nat → Int32) : Nat → Nat → Nat → Int32
  | 0 => I
  | n + 1 => if V 1 n = h then setv (spJ s V h I n) (s + 8) (nI (cnN V h n)) (slipV V n) else spJ s V h I n
theorem spJ_fr (s : Nat) (V : Vw) (h : Int32) (I : Nat → Nat → Int32) : ∀ n, Fr s I (spJ s V h I n)
  | 0 => Fr.rf
  | n + 1 => by
    have ih := spJ_fr s V h I n
    unfold spJ
    split
    · exact of_eq_true (Fr_s8 ih)
    · exact ih
theorem spJ_sg (hs : Sc s) (f : Int32 → Int32) : ∀ n, n ≤ 20 → sg (fun i => f (spJ s V h I n (s + 8) i)) (cnN V h n) = sg (fun p => if V 1 p = h then f (slipV V p) else 0) n
  | 0, _ => rfl
  | n + 1, hn => by
    have ih := spJ_sg hs f n (by omega)
    have hle := cnN_le V h n
    have e1 : spJ s V h I (n + 1) = if V 1 n = h then setv (spJ s V h I n) (s + 8) (nI (cnN V h n)) (slipV V n) else spJ s V h I n := rfl
    have e2 : cnN V h (n + 1) = if V 1 n = h then cnN V h n + 1 else cnN V h n := rfl
    show _ = sg (fun p => if V 1 p = h then f (slipV V p) else 0) n + (if V 1 n = h then f (slipV V n) else 0)
    rw [e1, e2, ← ih]
    by_cases c : V 1 n = h
    · simp only [c, if_true]
      have hin : inb (nI (cnN V h n)) (shp (s + 8)).2 := by rw [sh_s8 hs]; exact inb_nI (by show cnN V h n < 20; omega) (by decide)
      have e3 : ∀ i, setv (spJ s V h I n) (s + 8) (nI (cnN V h n)) (slipV V n) (s + 8) i = if i = cnN V h n then slipV V n else spJ s V h I n (s + 8) i := fun i => by
        unfold setv; rw [if_pos hin, ixn_nI (by omega)]; simp [up2]
      show sg _ (cnN V h n) + f _ = _
      rw [e3, if_pos rfl]
      congr 1
      exact sg_cong fun i hi => by rw [e3, if_neg (by omega)]
    · simp only [c, if_false]; exact (Int32.add_zero _).symm
theorem c_spreadIn (hB : SB nw sp s2 ai s so) (hC : CR I s so N NS NH V) (hW : WV V N NS NH) : Em L xs 70 [.ref s, .int h] (179, I, Lm, RG nw sp s2 ai) r ↔ r = (some (.int (spreadV V N h)), 179, spJ s V h I N, Lm, RG nw sp s2 ai) := by
  have hN := hC.2.1.1; have hN2 := wd_le s; have hle := cnN_le V h N
  rw [em_70]
  obtain ⟨hs, ho, hq⟩ := id hB
  have key : ∀ j, j ≤ N → (Ev L xs 4 70 4 [some (.ref s), some (.int h), some (.int (nI (cnN V h j))), some (.int (nI j))] [] (179, spJ s V h I j, Lm, RG nw sp s2 ai) r ↔ r = (some (.int (spreadV V N h)), 179, spJ s V h I N, Lm, RG nw sp s2 ai)) := by
    refine up_ind ?_ ?_
    · rw [x70_4]
      have hC2 := hC.fr hB (spJ_fr s V h I N)
      have hsp := spJ_sg (h := h) (V := V) (I := I) hs (fun z => absI (nI (cnN V h N) * z - sumV V N h)) N (by omega)
      simp only [x70_0, x70_1, x70_2, x70_3, x70_5, x70_6, x70_9, x70_12, x70_15, x70_16, x70_19, x70_22, x70_23, x70_26, x70_27, x70_30, x70_31, x70_34, x70_37, x70_38, x70_39, x70_40, x70_43, x70_46, x70_49, x70_52, x70_55, x70_56, x70_59, x70_62, x70_63, x70_64, x70_65, x70_68, x70_71, sh_s, lq_s, sh_s1, lq_s1, sh_s2, lq_s2, sh_s3, lq_s3, sh_s4, lq_s4, sh_s5, lq_s5, sh_s6, lq_s6, sh_s7, lq_s7, sh_s8, lq_s8, sh_s9, lq_s9, sh_s10, lq_s10, sh_s11, lq_s11, sh_s12, lq_s12, sh_s13, lq_s13, sh_s14, lq_s14, sh_s15, lq_s15, sh_s16, lq_s16, sh_s17, lq_s17, sh_s18, lq_s18, sh_s19, lq_s19, sh_s20, lq_s20, sh_s21, lq_s21, sh_s22, lq_s22, sh_s23, lq_s23, sh_s24, lq_s24, sh_s25, lq_s25, rg_s0_0, rg_s0_1, rg_s0_2, rg_s0_3, rg_s1_0, rg_s1_1, rg_s1_2, rg_s1_3, rg_s1_4, rg_s7_0, rg_s9_0, rg_s9_1, rg_s9_2, rg_s9_3, rg_s9_4, rg_s9_5, rg_s16_6, rg_s16_7, rg_s16_0, rg_s16_1, rg_s16_2, rg_s16_3, rg_s16_4, rg_s16_5, sh_o, lq_o, sh_o1, lq_o1, sh_o2, lq_o2, sh_o3, lq_o3, sh_o4, lq_o4, sh_o5, lq_o5, sh_o6, lq_o6, rg_o0, rg_o1, rg_o2, rg_o3, rg_o4, rg_o5, ex5, Option.toList_some, Option.toList_none, List.cons_append, List.nil_append, true_and, and_true, nI_1, p_at, p_set, p_isIn, p_max, p_min, p_abs, hs, hC2.1.1, nI_le (Nat.le_refl N) (by omega), if_true, f_sumIn hB hC hW, spJ_fr, p_spreadOf (m := cnN V h N) (a := s + 8) (of_eq_true (lq_s8 hs)) (by rw [sh_s8 hs]) (by omega) (by rw [sh_s8 hs]; show cnN V h N ≤ 20; omega), hsp, spreadV, dstV]
    · intro j hj ih
      rw [x70_4]
      have hC2 := hC.fr hB (spJ_fr s V h I j)
      simp only [x70_0, x70_1, x70_2, x70_3, x70_5, x70_6, x70_9, x70_12, x70_15, x70_16, x70_19, x70_22, x70_23, x70_26, x70_27, x70_30, x70_31, x70_34, x70_37, x70_38, x70_39, x70_40, x70_43, x70_46, x70_49, x70_52, x70_55, x70_56, x70_59, x70_62, x70_63, x70_64, x70_65, x70_68, x70_71, sh_s, lq_s, sh_s1, lq_s1, sh_s2, lq_s2, sh_s3, lq_s3, sh_s4, lq_s4, sh_s5, lq_s5, sh_s6, lq_s6, sh_s7, lq_s7, sh_s8, lq_s8, sh_s9, lq_s9, sh_s10, lq_s10, sh_s11, lq_s11, sh_s12, lq_s12, sh_s13, lq_s13, sh_s14, lq_s14, sh_s15, lq_s15, sh_s16, lq_s16, sh_s17, lq_s17, sh_s18, lq_s18, sh_s19, lq_s19, sh_s20, lq_s20, sh_s21, lq_s21, sh_s22, lq_s22, sh_s23, lq_s23, sh_s24, lq_s24, sh_s25, lq_s25, rg_s0_0, rg_s0_1, rg_s0_2, rg_s0_3, rg_s1_0, rg_s1_1, rg_s1_2, rg_s1_3, rg_s1_4, rg_s7_0, rg_s9_0, rg_s9_1, rg_s9_2, rg_s9_3, rg_s9_4, rg_s9_5, rg_s16_6, rg_s16_7, rg_s16_0, rg_s16_1, rg_s16_2, rg_s16_3, rg_s16_4, rg_s16_5, sh_o, lq_o, sh_o1, lq_o1, sh_o2, lq_o2, sh_o3, lq_o3, sh_o4, lq_o4, sh_o5, lq_o5, sh_o6, lq_o6, rg_o0, rg_o1, rg_o2, rg_o3, rg_o4, rg_o5, ex5, Option.toList_some, Option.toList_none, List.cons_append, List.nil_append, true_and, and_true, nI_1, p_at, p_set, p_isIn, p_max, p_min, p_abs, hs, hC2.1.1, nI_ge hj (by omega), if_false, a_hat hB hC2 hj, f_slip hB hC hW hj, spJ_fr]
      have e : spJ s V h I (j + 1) = if V 1 j = h then setv (spJ s V h I j) (s + 8) (nI (cnN V h j)) (slipV V j) else spJ s V h I j := rfl
      have e2 : cnN V h (j + 1) = if V 1 j = h then cnN V h j + 1 else cnN V h j := rfl
      rw [e, e2] at ih
      by_cases c : V 1 j = h
      · simp only [c, if_true] at ih ⊢; exact ih
      · simp only [c, if_false] at ih ⊢; exact ih
  simp only [x70_0, x70_1, x70_2, x70_3, x70_5, x70_6, x70_9, x70_12, x70_15, x70_16, x70_19, x70_22, x70_23, x70_26, x70_27, x70_30, x70_31, x70_34, x70_37, x70_38, x70_39, x70_40, x70_43, x70_46, x70_49, x70_52, x70_55, x70_56, x70_59, x70_62, x70_63, x70_64, x70_65, x70_68, x70_71]
  exact key 0 (Nat.zero_le _)
end
