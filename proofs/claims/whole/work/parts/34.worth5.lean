section
variable {L : Nat} {xs : Nat → Int32} {σ : Mm} {r : Option Value × Mm} {I J : Nat → Nat → Int32} {Lm : Nat → Nat → Int64} {Rm : Nat → Nat → Nat} {n s so N NS NH m : Nat} {V : Vw} {nw sp s2 ai p : Nat} {x y h b t e w v : Int32}
/-- the worth of now -/
def nwV (V : Vw) (N p : Nat) : Int32 := wV V N p (V 2 p) (V 1 p)
theorem f_worthIn (hB : SB nw sp s2 ai s so) (hC : CR I s so N NS NH V) (hW : WV V N NS NH) (hp : p < N) (hh : h < 0 ∨ inb h NH) (hF : Fr s I J) : Em L xs 71 [.ref s, .int (nI p), .int x, .int h] (179, J, Lm, RG nw sp s2 ai) r ↔ r = (some (.int (wV V N p x h)), 179, wiJ s V N p x h J, Lm, RG nw sp s2 ai) := by
  have hN := hC.2.1.1; have hN2 := wd_le s
  rw [c_worthIn hB (hC.fr hB hF) hW hp hh, wiV_eq hB.1 (by omega) hp]
theorem f_worthNow (hB : SB nw sp s2 ai s so) (hC : CR I s so N NS NH V) (hW : WV V N NS NH) (hp : p < N) (hF : Fr s I J) : Em L xs 72 [.ref s, .int (nI p)] (179, J, Lm, RG nw sp s2 ai) r ↔ r = (some (.int (nwV V N p)), 179, wiJ s V N p (V 2 p) (V 1 p) J, Lm, RG nw sp s2 ai) := by
  have hN := hC.2.1.1; have hN2 := wd_le s
  rw [c_worthNow hB (hC.fr hB hF) hW hp, wiV_eq hB.1 (by omega) hp, nwV]
def awJ (s : Nat) (V : Vw) (N : Nat) (I : Nat → Nat → Int32) : Nat → Nat → Nat → Int32
  | 0 => I
  | q + 1 => wiJ s V N q (V 2 q) (V 1 q) (awJ s V N I q)
theorem awJ_fr : ∀ q, Fr s I (awJ s V N I q)
  | 0 => Fr.rf
  | q + 1 => (awJ_fr q).tr wiJ_fr
theorem c_allWorths (hB : SB nw sp s2 ai s so) (hC : CR I s so N NS NH V) (hW : WV V N NS NH) : Em L xs 73 [.ref s] (179, I, Lm, RG nw sp s2 ai) r ↔ r = (some (.int (sg (nwV V N) N)), 179, awJ s V N I N, Lm, RG nw sp s2 ai) := by
  have hN := hC.2.1.1; have hN2 := wd_le s
  rw [em_73]
  obtain ⟨hs, ho, hq⟩ := id hB
  have key : ∀ j, j ≤ N → (Ev L xs 5 73 4 [some (.ref s), some (.int (sg (nwV V N) j)), some (.int (nI j))] [] (179, awJ s V N I j, Lm, RG nw sp s2 ai) r ↔ r = (some (.int (sg (nwV V N) N)), 179, awJ s V N I N, Lm, RG nw sp s2 ai)) := by
    refine up_ind ?_ ?_
    · rw [x73_4]
      have hC2 := hC.fr hB (awJ_fr (s := s) (V := V) (N := N) (I := I) N)
      simp only [x73_0, x73_1, x73_2, x73_3, x73_5, x73_6, x73_9, x73_12, x73_15, x73_16, x73_17, x73_18, x73_21, x73_22, x73_23, x73_26, x73_29, x73_30, sh_s, lq_s, sh_s1, lq_s1, sh_s2, lq_s2, sh_s3, lq_s3, sh_s4, lq_s4, sh_s5, lq_s5, sh_s6, lq_s6, sh_s7, lq_s7, sh_s8, lq_s8, sh_s9, lq_s9, sh_s10, lq_s10, sh_s11, lq_s11, sh_s12, lq_s12, sh_s13, lq_s13, sh_s14, lq_s14, sh_s15, lq_s15, sh_s16, lq_s16, sh_s17, lq_s17, sh_s18, lq_s18, sh_s19, lq_s19, sh_s20, lq_s20, sh_s21, lq_s21, sh_s22, lq_s22, sh_s23, lq_s23, sh_s24, lq_s24, sh_s25, lq_s25, rg_s0_0, rg_s0_1, rg_s0_2, rg_s0_3, rg_s1_0, rg_s1_1, rg_s1_2, rg_s1_3, rg_s1_4, rg_s7_0, rg_s9_0, rg_s9_1, rg_s9_2, rg_s9_3, rg_s9_4, rg_s9_5, rg_s16_6, rg_s16_7, rg_s16_0, rg_s16_1, rg_s16_2, rg_s16_3, rg_s16_4, rg_s16_5, sh_o, lq_o, sh_o1, lq_o1, sh_o2, lq_o2, sh_o3, lq_o3, sh_o4, lq_o4, sh_o5, lq_o5, sh_o6, lq_o6, rg_o0, rg_o1, rg_o2, rg_o3, rg_o4, rg_o5, ex5, Option.toList_some, Option.toList_none, List.cons_append, List.nil_append, true_and, and_true, nI_1, p_at, p_set, p_isIn, p_max, p_min, p_abs, hs, hC2.1.1, nI_le (Nat.le_refl N) (by omega), if_true]
    · intro j hj ih
      rw [x73_4]
      have hF := awJ_fr (s := s) (V := V) (N := N) (I := I) j
      have hC2 := hC.fr hB hF
      simp only [x73_0, x73_1, x73_2, x73_3, x73_5, x73_6, x73_9, x73_12, x73_15, x73_16, x73_17, x73_18, x73_21, x73_22, x73_23, x73_26, x73_29, x73_30, sh_s, lq_s, sh_s1, lq_s1, sh_s2, lq_s2, sh_s3, lq_s3, sh_s4, lq_s4, sh_s5, lq_s5, sh_s6, lq_s6, sh_s7, lq_s7, sh_s8, lq_s8, sh_s9, lq_s9, sh_s10, lq_s10, sh_s11, lq_s11, sh_s12, lq_s12, sh_s13, lq_s13, sh_s14, lq_s14, sh_s15, lq_s15, sh_s16, lq_s16, sh_s17, lq_s17, sh_s18, lq_s18, sh_s19, lq_s19, sh_s20, lq_s20, sh_s21, lq_s21, sh_s22, lq_s22, sh_s23, lq_s23, sh_s24, lq_s24, sh_s25, lq_s25, rg_s0_0, rg_s0_1, rg_s0_2, rg_s0_3, rg_s1_0, rg_s1_1, rg_s1_2, rg_s1_3, rg_s1_4, rg_s7_0, rg_s9_0, rg_s9_1, rg_s9_2, rg_s9_3, rg_s9_4, rg_s9_5, rg_s16_6, rg_s16_7, rg_s16_0, rg_s16_1, rg_s16_2, rg_s16_3, rg_s16_4, rg_s16_5, sh_o, lq_o, sh_o1, lq_o1, sh_o2, lq_o2, sh_o3, lq_o3, sh_o4, lq_o4, sh_o5, lq_o5, sh_o6, lq_o6, rg_o0, rg_o1, rg_o2, rg_o3, rg_o4, rg_o5, ex5, Option.toList_some, Option.toList_none, List.cons_append, List.nil_append, true_and, and_true, nI_1, p_at, p_set, p_isIn, p_max, p_min, p_abs, hs, hC2.1.1, nI_ge hj (by omega), if_false, f_worthNow hB hC hW hj hF]
      exact ih
  simp only [x73_0, x73_1, x73_2, x73_3, x73_5, x73_6, x73_9, x73_12, x73_15, x73_16, x73_17, x73_18, x73_21, x73_22, x73_23, x73_26, x73_29, x73_30]
  exact key 0 (Nat.zero_le _)
end
