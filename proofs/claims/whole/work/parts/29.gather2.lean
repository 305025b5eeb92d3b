section
variable {L : Nat} {xs : Nat → Int32} {σ : Mm} {r : Option Value × Mm} {I J : Nat → Nat → Int32} {Lm : Nat → Nat → Int64} {Rm : Nat → Nat → Nat} {n s so N NS NH : Nat} {V : Vw} {nw sp s2 ai p : Nat} {x y h : Int32}
theorem nI_same {a b : Nat} (ha : a < 2 ^ 31) (hb : b < 2 ^ 31) : (nI a = nI b) = (a = b) := by
  apply propext
  constructor
  · intro e
    have e2 := congrArg Int32.toInt e
    rw [nI_toInt ha, nI_toInt hb] at e2
    omega
  · intro e; rw [e]
/-- who counts among the others -/
abbrev oC (V : Vw) (p : Nat) (h : Int32) (q : Nat) : Prop := q ≠ p ∧ V 1 q = h
def oN (V : Vw) (p : Nat) (h : Int32) : Nat → Nat
  | 0 => 0
  | q + 1 => if oC V p h q then oN V p h q + 1 else oN V p h q
def oS (V : Vw) (p : Nat) (h : Int32) : Nat → Int32
  | 0 => 0
  | q + 1 => if oC V p h q then oS V p h q + slipW (earnV V q) (V 9 (ixn h)) else oS V p h q
def oE (V : Vw) (p : Nat) (h : Int32) : Nat → Int32
  | 0 => vS V p 8
  | q + 1 => if oC V p h q then oE V p h q + vS V q 8 else oE V p h q
def oT (V : Vw) (p : Nat) (h : Int32) : Nat → Int32
  | 0 => 0
  | q + 1 => if oC V p h q then (if oT V p h q < V 2 q then V 2 q else oT V p h q) else oT V p h q
def oM (V : Vw) (p : Nat) (h : Int32) : Nat → Int32
  | 0 => 0
  | q + 1 => if oC V p h q then (if oM V p h q = 0 then (if V 3 p = nI q then 1 else 0) else 1) else oM V p h q
/-- the company's numbers after own and the start -/
def gI0 (s : Nat) (V : Vw) (p : Nat) (h : Int32) (I : Nat → Nat → Int32) : Nat → Nat → Int32 :=
  up2 (up2 (up2 (up2 (up2 (up2 (ownJ s V (V 0 p) I) (s + 7) 1 (if 0 ≤ h then 0 else 1)) (s + 7) 3 0) (s + 7) 4 0) (s + 7) 5 (vS V p 8)) (s + 7) 6 0) (s + 7) 2 0
def gJ (s : Nat) (V : Vw) (p : Nat) (h : Int32) (I : Nat → Nat → Int32) : Nat → Nat → Nat → Int32
  | 0 => hatJ s V h (gI0 s V p h I)
  | q + 1 => if oC V p h q then up2 (up2 (up2 (up2 (up2 (setv (gJ s V p h I q) (s + 8) (nI (oN V p h q)) (slipW (earnV V q) (V 9 (ixn h)))) (s + 7) 3 (nI (oN V p h (q + 1)))) (s + 7) 4 (oS V p h (q + 1))) (s + 7) 5 (oE V p h (q + 1))) (s + 7) 6 (oT V p h (q + 1))) (s + 7) 2 (oM V p h (q + 1)) else gJ s V p h I q
theorem ownJ_fr (hF : Fr s I J) : Fr s I (ownJ s V x J) := by
  have h := of_eq_true (Fr_u7 (k := 11) (v := V 4 (ixn x)) hF)
  have h := of_eq_true (Fr_u7 (k := 12) (v := V 5 (ixn x)) h)
  have h := of_eq_true (Fr_u7 (k := 13) (v := V 6 (ixn x)) h)
  have h := of_eq_true (Fr_u7 (k := 14) (v := V 7 (ixn x)) h)
  exact of_eq_true (Fr_u7 (k := 15) (v := V 8 (ixn x)) h)
theorem hatJ_fr (hF : Fr s I J) : Fr s I (hatJ s V x J) := by
  have h := of_eq_true (Fr_u7 (k := 7) (v := V 9 (ixn x)) hF)
  have h := of_eq_true (Fr_u7 (k := 8) (v := V 10 (ixn x)) h)
  have h := of_eq_true (Fr_u7 (k := 9) (v := V 11 (ixn x)) h)
  exact of_eq_true (Fr_u7 (k := 10) (v := V 12 (ixn x)) h)
theorem gI0_fr : Fr s I (gI0 s V p h I) := by
  unfold gI0
  exact of_eq_true (Fr_u7 (of_eq_true (Fr_u7 (of_eq_true (Fr_u7 (of_eq_true (Fr_u7 (of_eq_true (Fr_u7 (of_eq_true (Fr_u7 (ownJ_fr Fr.rf))))))))))))
theorem gJ_fr : ∀ q, Fr s I (gJ s V p h I q)
  | 0 => hatJ_fr gI0_fr
  | q + 1 => by
    have ih : Fr s I (gJ s V p h I q) := gJ_fr q
    unfold gJ
    split
    · exact of_eq_true (Fr_u7 (of_eq_true (Fr_u7 (of_eq_true (Fr_u7 (of_eq_true (Fr_u7 (of_eq_true (Fr_u7 (of_eq_true (Fr_s8 ih)))))))))))
    · exact ih
/-- the company's fields while it counts -/
theorem gJ_f : ∀ q, gJ s V p h I q (s + 7) 3 = nI (oN V p h q) ∧ gJ s V p h I q (s + 7) 4 = oS V p h q ∧ gJ s V p h I q (s + 7) 5 = oE V p h q ∧ gJ s V p h I q (s + 7) 6 = oT V p h q ∧ gJ s V p h I q (s + 7) 2 = oM V p h q ∧ gJ s V p h I q (s + 7) 7 = V 9 (ixn h)
  | 0 => by
    refine ⟨?_, ?_, ?_, ?_, ?_, ?_⟩ <;> simp [gJ, hatJ, gI0, ownJ, up2, oN, oS, oE, oT, oM, nI_0]
  | q + 1 => by
    obtain ⟨a, b, c, d, e, f⟩ := gJ_f q
    by_cases k : oC V p h q
    · refine ⟨?_, ?_, ?_, ?_, ?_, ?_⟩ <;> simp only [gJ, if_pos k] <;> simp [up2, setv_p (ne78 s), f]
    · refine ⟨?_, ?_, ?_, ?_, ?_, ?_⟩ <;> simp only [gJ, oN, oS, oE, oT, oM, if_neg k, a, b, c, d, e, f]
theorem u_3_4 {f : Nat → Nat → Int32} {q : Nat} {v : Int32} : up2 f q 3 v q 4 = f q 4 := up2_k (by decide)
theorem u_3_5 {f : Nat → Nat → Int32} {q : Nat} {v : Int32} : up2 f q 3 v q 5 = f q 5 := up2_k (by decide)
theorem u_4_5 {f : Nat → Nat → Int32} {q : Nat} {v : Int32} : up2 f q 4 v q 5 = f q 5 := up2_k (by decide)
theorem u_3_6 {f : Nat → Nat → Int32} {q : Nat} {v : Int32} : up2 f q 3 v q 6 = f q 6 := up2_k (by decide)
theorem u_4_6 {f : Nat → Nat → Int32} {q : Nat} {v : Int32} : up2 f q 4 v q 6 = f q 6 := up2_k (by decide)
theorem u_5_6 {f : Nat → Nat → Int32} {q : Nat} {v : Int32} : up2 f q 5 v q 6 = f q 6 := up2_k (by decide)
theorem u_3_2 {f : Nat → Nat → Int32} {q : Nat} {v : Int32} : up2 f q 3 v q 2 = f q 2 := up2_k (by decide)
theorem u_4_2 {f : Nat → Nat → Int32} {q : Nat} {v : Int32} : up2 f q 4 v q 2 = f q 2 := up2_k (by decide)
theorem u_5_2 {f : Nat → Nat → Int32} {q : Nat} {v : Int32} : up2 f q 5 v q 2 = f q 2 := up2_k (by decide)
theorem u_6_2 {f : Nat → Nat → Int32} {q : Nat} {v : Int32} : up2 f q 6 v q 2 = f q 2 := up2_k (by decide)
theorem u_3_15 {f : Nat → Nat → Int32} {q : Nat} {v : Int32} : up2 f q 3 v q 15 = f q 15 := up2_k (by decide)
theorem u_4_15 {f : Nat → Nat → Int32} {q : Nat} {v : Int32} : up2 f q 4 v q 15 = f q 15 := up2_k (by decide)
theorem u_1_15 {f : Nat → Nat → Int32} {q : Nat} {v : Int32} : up2 f q 1 v q 15 = f q 15 := up2_k (by decide)
theorem u_2_1 {f : Nat → Nat → Int32} {q : Nat} {v : Int32} : up2 f q 2 v q 1 = f q 1 := up2_k (by decide)
theorem u_6_1 {f : Nat → Nat → Int32} {q : Nat} {v : Int32} : up2 f q 6 v q 1 = f q 1 := up2_k (by decide)
theorem u_5_1 {f : Nat → Nat → Int32} {q : Nat} {v : Int32} : up2 f q 5 v q 1 = f q 1 := up2_k (by decide)
theorem u_4_1 {f : Nat → Nat → Int32} {q : Nat} {v : Int32} : up2 f q 4 v q 1 = f q 1 := up2_k (by decide)
theorem u_3_1 {f : Nat → Nat → Int32} {q : Nat} {v : Int32} : up2 f q 3 v q 1 = f q 1 := up2_k (by decide)
theorem one_ne : ((1 : Int32) = 0) = False := eq_false (by decide)
theorem own15 : ownJ s V x J (s + 7) 15 = V 8 (ixn x) := up2_eq
theorem f_hrs (hB : SB nw sp s2 ai s so) (hC : CR I s so N NS NH V) (hp : p < N) (hF : Fr s I J) : atv J (s + 22) (nI p) = V 2 p := a_hrs hB (hC.fr hB hF) hp
theorem f_mat (hB : SB nw sp s2 ai s so) (hC : CR I s so N NS NH V) (hp : p < N) (hF : Fr s I J) : atv J (s + 24) (nI p) = V 3 p := a_mat hB (hC.fr hB hF) hp
theorem f_hat (hB : SB nw sp s2 ai s so) (hC : CR I s so N NS NH V) (hp : p < N) (hF : Fr s I J) : atv J (s + 21) (nI p) = V 1 p := a_hat hB (hC.fr hB hF) hp
theorem f_srt (hB : SB nw sp s2 ai s so) (hC : CR I s so N NS NH V) (hp : p < N) (hF : Fr s I J) : atv J (s + 20) (nI p) = V 0 p := a_srt hB (hC.fr hB hF) hp
/-- own company, nobody gathered (h below 0) or the others in h, but p -/
theorem c_gather (hB : SB nw sp s2 ai s so) (hC : CR I s so N NS NH V) (hW : WV V N NS NH) (hp : p < N) (hh : h < 0 ∨ inb h NH) : Em L xs 1 [.ref (s + 7), .ref s, .int (nI p), .int h] (179, I, Lm, RG nw sp s2 ai) r ↔ r = (none, 179, if h < 0 then gI0 s V p h I else gJ s V p h I N, Lm, RG nw sp s2 ai) := by
  have hN := hC.2.1.1; have hN2 := wd_le s
  have hx := (hW.1 p hp).1
  rw [em_1]
  obtain ⟨hs, ho, hq⟩ := id hB
  have key : inb h NH → ∀ j, j ≤ N → ∀ w, (Ev L xs 2 1 86 [some (.ref (s + 7)), some (.ref s), some (.int (nI p)), some (.int h), some (.ref (s + 16)), some (.int (nI j)), w] [] (179, gJ s V p h I j, Lm, RG nw sp s2 ai) r ↔ r = (none, 179, gJ s V p h I N, Lm, RG nw sp s2 ai)) := by
    intro hn
    refine up_ind ?_ ?_
    · intro w
      rw [x1_86]
      have hC2 := hC.fr hB (gJ_fr (s := s) (V := V) (p := p) (h := h) (I := I) N)
      simp only [x1_0, x1_1, x1_2, x1_5, x1_6, x1_9, x1_12, x1_13, x1_16, x1_19, x1_20, x1_21, x1_24, x1_25, x1_28, x1_29, x1_32, x1_33, x1_34, x1_37, x1_38, x1_39, x1_42, x1_43, x1_44, x1_47, x1_50, x1_51, x1_52, x1_55, x1_56, x1_57, x1_60, x1_61, x1_64, x1_67, x1_68, x1_69, x1_70, x1_73, x1_74, x1_77, x1_78, x1_81, x1_83, x1_84, x1_88, x1_90, x1_93, x1_96, x1_98, x1_99, x1_102, x1_104, x1_107, x1_109, x1_112, x1_113, x1_116, x1_117, x1_119, x1_122, x1_123, x1_126, x1_129, x1_131, x1_132, x1_135, x1_136, x1_139, x1_141, x1_144, x1_145, x1_146, x1_149, x1_150, x1_151, x1_154, x1_155, x1_156, x1_159, x1_161, x1_162, x1_165, x1_166, x1_167, x1_170, x1_171, x1_173, x1_176, x1_177, x1_180, x1_181, x1_182, x1_185, x1_187, x1_190, x1_192, x1_195, x1_198, x1_201, x1_202, x1_203, x1_206, x1_209, x1_211, x1_214, x1_215, x1_218, x1_220, x1_223, x1_224, x1_227, x1_228, x1_231, x1_234, x1_237, sh_s, lq_s, sh_s1, lq_s1, sh_s2, lq_s2, sh_s3, lq_s3, sh_s4, lq_s4, sh_s5, lq_s5, sh_s6, lq_s6, sh_s7, lq_s7, sh_s8, lq_s8, sh_s9, lq_s9, sh_s10, lq_s10, sh_s11, lq_s11, sh_s12, lq_s12, sh_s13, lq_s13, sh_s14, lq_s14, sh_s15, lq_s15, sh_s16, lq_s16, sh_s17, lq_s17, sh_s18, lq_s18, sh_s19, lq_s19, sh_s20, lq_s20, sh_s21, lq_s21, sh_s22, lq_s22, sh_s23, lq_s23, sh_s24, lq_s24, sh_s25, lq_s25, rg_s0_0, rg_s0_1, rg_s0_2, rg_s0_3, rg_s1_0, rg_s1_1, rg_s1_2, rg_s1_3, rg_s1_4, rg_s7_0, rg_s9_0, rg_s9_1, rg_s9_2, rg_s9_3, rg_s9_4, rg_s9_5, rg_s16_6, rg_s16_7, rg_s16_0, rg_s16_1, rg_s16_2, rg_s16_3, rg_s16_4, rg_s16_5, sh_o, lq_o, sh_o1, lq_o1, sh_o2, lq_o2, sh_o3, lq_o3, sh_o4, lq_o4, sh_o5, lq_o5, sh_o6, lq_o6, rg_o0, rg_o1, rg_o2, rg_o3, rg_o4, rg_o5, ex5, Option.toList_some, Option.toList_none, List.cons_append, List.nil_append, true_and, and_true, nI_1, p_at, p_set, p_isIn, p_max, p_min, p_abs, hs, hC2.1.1, nI_le (Nat.le_refl N) (by omega), if_true]
    · intro j hj ih w
      rw [x1_86]
      have hF := gJ_fr (s := s) (V := V) (p := p) (h := h) (I := I) j
      have hC2 := hC.fr hB hF
      obtain ⟨a, b, c, d, e, f⟩ := gJ_f (s := s) (V := V) (p := p) (h := h) (I := I) j
      have hsm := nI_same (a := j) (b := p) (by omega) (by omega)
      have e1 : gJ s V p h I (j + 1) = if oC V p h j then up2 (up2 (up2 (up2 (up2 (setv (gJ s V p h I j) (s + 8) (nI (oN V p h j)) (slipW (earnV V j) (V 9 (ixn h)))) (s + 7) 3 (nI (oN V p h (j + 1)))) (s + 7) 4 (oS V p h (j + 1))) (s + 7) 5 (oE V p h (j + 1))) (s + 7) 6 (oT V p h (j + 1))) (s + 7) 2 (oM V p h (j + 1)) else gJ s V p h I j := rfl
      rw [e1] at ih
      by_cases c1 : j = p
      · rw [if_neg (fun k => k.1 c1)] at ih
        have hsm2 : (nI j = nI p) = True := by rw [hsm]; exact eq_true c1
        simp only [x1_0, x1_1, x1_2, x1_5, x1_6, x1_9, x1_12, x1_13, x1_16, x1_19, x1_20, x1_21, x1_24, x1_25, x1_28, x1_29, x1_32, x1_33, x1_34, x1_37, x1_38, x1_39, x1_42, x1_43, x1_44, x1_47, x1_50, x1_51, x1_52, x1_55, x1_56, x1_57, x1_60, x1_61, x1_64, x1_67, x1_68, x1_69, x1_70, x1_73, x1_74, x1_77, x1_78, x1_81, x1_83, x1_84, x1_88, x1_90, x1_93, x1_96, x1_98, x1_99, x1_102, x1_104, x1_107, x1_109, x1_112, x1_113, x1_116, x1_117, x1_119, x1_122, x1_123, x1_126, x1_129, x1_131, x1_132, x1_135, x1_136, x1_139, x1_141, x1_144, x1_145, x1_146, x1_149, x1_150, x1_151, x1_154, x1_155, x1_156, x1_159, x1_161, x1_162, x1_165, x1_166, x1_167, x1_170, x1_171, x1_173, x1_176, x1_177, x1_180, x1_181, x1_182, x1_185, x1_187, x1_190, x1_192, x1_195, x1_198, x1_201, x1_202, x1_203, x1_206, x1_209, x1_211, x1_214, x1_215, x1_218, x1_220, x1_223, x1_224, x1_227, x1_228, x1_231, x1_234, x1_237, sh_s, lq_s, sh_s1, lq_s1, sh_s2, lq_s2, sh_s3, lq_s3, sh_s4, lq_s4, sh_s5, lq_s5, sh_s6, lq_s6, sh_s7, lq_s7, sh_s8, lq_s8, sh_s9, lq_s9, sh_s10, lq_s10, sh_s11, lq_s11, sh_s12, lq_s12, sh_s13, lq_s13, sh_s14, lq_s14, sh_s15, lq_s15, sh_s16, lq_s16, sh_s17, lq_s17, sh_s18, lq_s18, sh_s19, lq_s19, sh_s20, lq_s20, sh_s21, lq_s21, sh_s22, lq_s22, sh_s23, lq_s23, sh_s24, lq_s24, sh_s25, lq_s25, rg_s0_0, rg_s0_1, rg_s0_2, rg_s0_3, rg_s1_0, rg_s1_1, rg_s1_2, rg_s1_3, rg_s1_4, rg_s7_0, rg_s9_0, rg_s9_1, rg_s9_2, rg_s9_3, rg_s9_4, rg_s9_5, rg_s16_6, rg_s16_7, rg_s16_0, rg_s16_1, rg_s16_2, rg_s16_3, rg_s16_4, rg_s16_5, sh_o, lq_o, sh_o1, lq_o1, sh_o2, lq_o2, sh_o3, lq_o3, sh_o4, lq_o4, sh_o5, lq_o5, sh_o6, lq_o6, rg_o0, rg_o1, rg_o2, rg_o3, rg_o4, rg_o5, ex5, Option.toList_some, Option.toList_none, List.cons_append, List.nil_append, true_and, and_true, nI_1, p_at, p_set, p_isIn, p_max, p_min, p_abs, hs, hC2.1.1, nI_ge hj (by omega), if_false, hsm2, if_true]
        exact ih w
      by_cases c2 : V 1 j = h
      · have hk : oC V p h j := ⟨c1, c2⟩
        rw [if_pos hk] at ih
        simp only [oN, oS, oE, oT, oM, if_pos hk] at ih
        by_cases c3 : oM V p h j = 0
        · by_cases c4 : V 3 p = nI j
          · simp only [c3, c4, if_true] at ih
            simp (maxDischargeDepth := 30) only [x1_0, x1_1, x1_2, x1_5, x1_6, x1_9, x1_12, x1_13, x1_16, x1_19, x1_20, x1_21, x1_24, x1_25, x1_28, x1_29, x1_32, x1_33, x1_34, x1_37, x1_38, x1_39, x1_42, x1_43, x1_44, x1_47, x1_50, x1_51, x1_52, x1_55, x1_56, x1_57, x1_60, x1_61, x1_64, x1_67, x1_68, x1_69, x1_70, x1_73, x1_74, x1_77, x1_78, x1_81, x1_83, x1_84, x1_88, x1_90, x1_93, x1_96, x1_98, x1_99, x1_102, x1_104, x1_107, x1_109, x1_112, x1_113, x1_116, x1_117, x1_119, x1_122, x1_123, x1_126, x1_129, x1_131, x1_132, x1_135, x1_136, x1_139, x1_141, x1_144, x1_145, x1_146, x1_149, x1_150, x1_151, x1_154, x1_155, x1_156, x1_159, x1_161, x1_162, x1_165, x1_166, x1_167, x1_170, x1_171, x1_173, x1_176, x1_177, x1_180, x1_181, x1_182, x1_185, x1_187, x1_190, x1_192, x1_195, x1_198, x1_201, x1_202, x1_203, x1_206, x1_209, x1_211, x1_214, x1_215, x1_218, x1_220, x1_223, x1_224, x1_227, x1_228, x1_231, x1_234, x1_237, sh_s, lq_s, sh_s1, lq_s1, sh_s2, lq_s2, sh_s3, lq_s3, sh_s4, lq_s4, sh_s5, lq_s5, sh_s6, lq_s6, sh_s7, lq_s7, sh_s8, lq_s8, sh_s9, lq_s9, sh_s10, lq_s10, sh_s11, lq_s11, sh_s12, lq_s12, sh_s13, lq_s13, sh_s14, lq_s14, sh_s15, lq_s15, sh_s16, lq_s16, sh_s17, lq_s17, sh_s18, lq_s18, sh_s19, lq_s19, sh_s20, lq_s20, sh_s21, lq_s21, sh_s22, lq_s22, sh_s23, lq_s23, sh_s24, lq_s24, sh_s25, lq_s25, rg_s0_0, rg_s0_1, rg_s0_2, rg_s0_3, rg_s1_0, rg_s1_1, rg_s1_2, rg_s1_3, rg_s1_4, rg_s7_0, rg_s9_0, rg_s9_1, rg_s9_2, rg_s9_3, rg_s9_4, rg_s9_5, rg_s16_6, rg_s16_7, rg_s16_0, rg_s16_1, rg_s16_2, rg_s16_3, rg_s16_4, rg_s16_5, sh_o, lq_o, sh_o1, lq_o1, sh_o2, lq_o2, sh_o3, lq_o3, sh_o4, lq_o4, sh_o5, lq_o5, sh_o6, lq_o6, rg_o0, rg_o1, rg_o2, rg_o3, rg_o4, rg_o5, ex5, Option.toList_some, Option.toList_none, List.cons_append, List.nil_append, true_and, and_true, nI_1, p_at, p_set, p_isIn, p_max, p_min, p_abs, hs, hC2.1.1, nI_ge hj (by omega), if_false, hsm, a_hat hB hC2 hj, c1, c2, if_true, f_earned hB hC hW hj, hF, p_slipOf, a, b, c, d, e, f, setv_p (ne78 s), up2_eq, or_true, true_or, true_and, u_3_4, u_3_5, u_4_5, u_3_6, u_4_6, u_5_6, u_3_2, u_4_2, u_5_2, u_6_2, u_3_15, u_4_15, u_1_15, u_2_1, u_6_1, u_5_1, u_4_1, u_3_1, f_needOf hB hC hW hj, Fr_u7, Fr_s8, f_hrs hB hC hj, f_mat hB hC hp, c3, c4]
            exact ih _
          · simp only [c3, c4, if_true, if_false] at ih
            simp (maxDischargeDepth := 30) only [x1_0, x1_1, x1_2, x1_5, x1_6, x1_9, x1_12, x1_13, x1_16, x1_19, x1_20, x1_21, x1_24, x1_25, x1_28, x1_29, x1_32, x1_33, x1_34, x1_37, x1_38, x1_39, x1_42, x1_43, x1_44, x1_47, x1_50, x1_51, x1_52, x1_55, x1_56, x1_57, x1_60, x1_61, x1_64, x1_67, x1_68, x1_69, x1_70, x1_73, x1_74, x1_77, x1_78, x1_81, x1_83, x1_84, x1_88, x1_90, x1_93, x1_96, x1_98, x1_99, x1_102, x1_104, x1_107, x1_109, x1_112, x1_113, x1_116, x1_117, x1_119, x1_122, x1_123, x1_126, x1_129, x1_131, x1_132, x1_135, x1_136, x1_139, x1_141, x1_144, x1_145, x1_146, x1_149, x1_150, x1_151, x1_154, x1_155, x1_156, x1_159, x1_161, x1_162, x1_165, x1_166, x1_167, x1_170, x1_171, x1_173, x1_176, x1_177, x1_180, x1_181, x1_182, x1_185, x1_187, x1_190, x1_192, x1_195, x1_198, x1_201, x1_202, x1_203, x1_206, x1_209, x1_211, x1_214, x1_215, x1_218, x1_220, x1_223, x1_224, x1_227, x1_228, x1_231, x1_234, x1_237, sh_s, lq_s, sh_s1, lq_s1, sh_s2, lq_s2, sh_s3, lq_s3, sh_s4, lq_s4, sh_s5, lq_s5, sh_s6, lq_s6, sh_s7, lq_s7, sh_s8, lq_s8, sh_s9, lq_s9, sh_s10, lq_s10, sh_s11, lq_s11, sh_s12, lq_s12, sh_s13, lq_s13, sh_s14, lq_s14, sh_s15, lq_s15, sh_s16, lq_s16, sh_s17, lq_s17, sh_s18, lq_s18, sh_s19, lq_s19, sh_s20, lq_s20, sh_s21, lq_s21, sh_s22, lq_s22, sh_s23, lq_s23, sh_s24, lq_s24, sh_s25, lq_s25, rg_s0_0, rg_s0_1, rg_s0_2, rg_s0_3, rg_s1_0, rg_s1_1, rg_s1_2, rg_s1_3, rg_s1_4, rg_s7_0, rg_s9_0, rg_s9_1, rg_s9_2, rg_s9_3, rg_s9_4, rg_s9_5, rg_s16_6, rg_s16_7, rg_s16_0, rg_s16_1, rg_s16_2, rg_s16_3, rg_s16_4, rg_s16_5, sh_o, lq_o, sh_o1, lq_o1, sh_o2, lq_o2, sh_o3, lq_o3, sh_o4, lq_o4, sh_o5, lq_o5, sh_o6, lq_o6, rg_o0, rg_o1, rg_o2, rg_o3, rg_o4, rg_o5, ex5, Option.toList_some, Option.toList_none, List.cons_append, List.nil_append, true_and, and_true, nI_1, p_at, p_set, p_isIn, p_max, p_min, p_abs, hs, hC2.1.1, nI_ge hj (by omega), if_false, hsm, a_hat hB hC2 hj, c1, c2, if_true, f_earned hB hC hW hj, hF, p_slipOf, a, b, c, d, e, f, setv_p (ne78 s), up2_eq, or_true, true_or, true_and, u_3_4, u_3_5, u_4_5, u_3_6, u_4_6, u_5_6, u_3_2, u_4_2, u_5_2, u_6_2, u_3_15, u_4_15, u_1_15, u_2_1, u_6_1, u_5_1, u_4_1, u_3_1, f_needOf hB hC hW hj, Fr_u7, Fr_s8, f_hrs hB hC hj, f_mat hB hC hp, c3, c4]
            exact ih _
        · simp only [c3, if_false] at ih
          simp (maxDischargeDepth := 30) only [x1_0, x1_1, x1_2, x1_5, x1_6, x1_9, x1_12, x1_13, x1_16, x1_19, x1_20, x1_21, x1_24, x1_25, x1_28, x1_29, x1_32, x1_33, x1_34, x1_37, x1_38, x1_39, x1_42, x1_43, x1_44, x1_47, x1_50, x1_51, x1_52, x1_55, x1_56, x1_57, x1_60, x1_61, x1_64, x1_67, x1_68, x1_69, x1_70, x1_73, x1_74, x1_77, x1_78, x1_81, x1_83, x1_84, x1_88, x1_90, x1_93, x1_96, x1_98, x1_99, x1_102, x1_104, x1_107, x1_109, x1_112, x1_113, x1_116, x1_117, x1_119, x1_122, x1_123, x1_126, x1_129, x1_131, x1_132, x1_135, x1_136, x1_139, x1_141, x1_144, x1_145, x1_146, x1_149, x1_150, x1_151, x1_154, x1_155, x1_156, x1_159, x1_161, x1_162, x1_165, x1_166, x1_167, x1_170, x1_171, x1_173, x1_176, x1_177, x1_180, x1_181, x1_182, x1_185, x1_187, x1_190, x1_192, x1_195, x1_198, x1_201, x1_202, x1_203, x1_206, x1_209, x1_211, x1_214, x1_215, x1_218, x1_220, x1_223, x1_224, x1_227, x1_228, x1_231, x1_234, x1_237, sh_s, lq_s, sh_s1, lq_s1, sh_s2, lq_s2, sh_s3, lq_s3, sh_s4, lq_s4, sh_s5, lq_s5, sh_s6, lq_s6, sh_s7, lq_s7, sh_s8, lq_s8, sh_s9, lq_s9, sh_s10, lq_s10, sh_s11, lq_s11, sh_s12, lq_s12, sh_s13, lq_s13, sh_s14, lq_s14, sh_s15, lq_s15, sh_s16, lq_s16, sh_s17, lq_s17, sh_s18, lq_s18, sh_s19, lq_s19, sh_s20, lq_s20, sh_s21, lq_s21, sh_s22, lq_s22, sh_s23, lq_s23, sh_s24, lq_s24, sh_s25, lq_s25, rg_s0_0, rg_s0_1, rg_s0_2, rg_s0_3, rg_s1_0, rg_s1_1, rg_s1_2, rg_s1_3, rg_s1_4, rg_s7_0, rg_s9_0, rg_s9_1, rg_s9_2, rg_s9_3, rg_s9_4, rg_s9_5, rg_s16_6, rg_s16_7, rg_s16_0, rg_s16_1, rg_s16_2, rg_s16_3, rg_s16_4, rg_s16_5, sh_o, lq_o, sh_o1, lq_o1, sh_o2, lq_o2, sh_o3, lq_o3, sh_o4, lq_o4, sh_o5, lq_o5, sh_o6, lq_o6, rg_o0, rg_o1, rg_o2, rg_o3, rg_o4, rg_o5, ex5, Option.toList_some, Option.toList_none, List.cons_append, List.nil_append, true_and, and_true, nI_1, p_at, p_set, p_isIn, p_max, p_min, p_abs, hs, hC2.1.1, nI_ge hj (by omega), if_false, hsm, a_hat hB hC2 hj, c1, c2, if_true, f_earned hB hC hW hj, hF, p_slipOf, a, b, c, d, e, f, setv_p (ne78 s), up2_eq, or_true, true_or, true_and, u_3_4, u_3_5, u_4_5, u_3_6, u_4_6, u_5_6, u_3_2, u_4_2, u_5_2, u_6_2, u_3_15, u_4_15, u_1_15, u_2_1, u_6_1, u_5_1, u_4_1, u_3_1, f_needOf hB hC hW hj, Fr_u7, Fr_s8, f_hrs hB hC hj, f_mat hB hC hp, c3]
          exact ih _
      · rw [if_neg (fun k => c2 k.2)] at ih
        simp only [x1_0, x1_1, x1_2, x1_5, x1_6, x1_9, x1_12, x1_13, x1_16, x1_19, x1_20, x1_21, x1_24, x1_25, x1_28, x1_29, x1_32, x1_33, x1_34, x1_37, x1_38, x1_39, x1_42, x1_43, x1_44, x1_47, x1_50, x1_51, x1_52, x1_55, x1_56, x1_57, x1_60, x1_61, x1_64, x1_67, x1_68, x1_69, x1_70, x1_73, x1_74, x1_77, x1_78, x1_81, x1_83, x1_84, x1_88, x1_90, x1_93, x1_96, x1_98, x1_99, x1_102, x1_104, x1_107, x1_109, x1_112, x1_113, x1_116, x1_117, x1_119, x1_122, x1_123, x1_126, x1_129, x1_131, x1_132, x1_135, x1_136, x1_139, x1_141, x1_144, x1_145, x1_146, x1_149, x1_150, x1_151, x1_154, x1_155, x1_156, x1_159, x1_161, x1_162, x1_165, x1_166, x1_167, x1_170, x1_171, x1_173, x1_176, x1_177, x1_180, x1_181, x1_182, x1_185, x1_187, x1_190, x1_192, x1_195, x1_198, x1_201, x1_202, x1_203, x1_206, x1_209, x1_211, x1_214, x1_215, x1_218, x1_220, x1_223, x1_224, x1_227, x1_228, x1_231, x1_234, x1_237, sh_s, lq_s, sh_s1, lq_s1, sh_s2, lq_s2, sh_s3, lq_s3, sh_s4, lq_s4, sh_s5, lq_s5, sh_s6, lq_s6, sh_s7, lq_s7, sh_s8, lq_s8, sh_s9, lq_s9, sh_s10, lq_s10, sh_s11, lq_s11, sh_s12, lq_s12, sh_s13, lq_s13, sh_s14, lq_s14, sh_s15, lq_s15, sh_s16, lq_s16, sh_s17, lq_s17, sh_s18, lq_s18, sh_s19, lq_s19, sh_s20, lq_s20, sh_s21, lq_s21, sh_s22, lq_s22, sh_s23, lq_s23, sh_s24, lq_s24, sh_s25, lq_s25, rg_s0_0, rg_s0_1, rg_s0_2, rg_s0_3, rg_s1_0, rg_s1_1, rg_s1_2, rg_s1_3, rg_s1_4, rg_s7_0, rg_s9_0, rg_s9_1, rg_s9_2, rg_s9_3, rg_s9_4, rg_s9_5, rg_s16_6, rg_s16_7, rg_s16_0, rg_s16_1, rg_s16_2, rg_s16_3, rg_s16_4, rg_s16_5, sh_o, lq_o, sh_o1, lq_o1, sh_o2, lq_o2, sh_o3, lq_o3, sh_o4, lq_o4, sh_o5, lq_o5, sh_o6, lq_o6, rg_o0, rg_o1, rg_o2, rg_o3, rg_o4, rg_o5, ex5, Option.toList_some, Option.toList_none, List.cons_append, List.nil_append, true_and, and_true, nI_1, p_at, p_set, p_isIn, p_max, p_min, p_abs, hs, hC2.1.1, nI_ge hj (by omega), if_false, hsm, c1, a_hat hB hC2 hj, c2]
        exact ih w
  by_cases c0 : h < 0
  · have c5 : ¬ (0 ≤ h) := by
      intro k
      have k1 := Int32.le_iff_toInt_le.mp k
      have k2 := i_neg.mp c0
      have k3 : (0 : Int32).toInt = 0 := rfl
      omega
    simp (maxDischargeDepth := 30) only [x1_0, x1_1, x1_2, x1_5, x1_6, x1_9, x1_12, x1_13, x1_16, x1_19, x1_20, x1_21, x1_24, x1_25, x1_28, x1_29, x1_32, x1_33, x1_34, x1_37, x1_38, x1_39, x1_42, x1_43, x1_44, x1_47, x1_50, x1_51, x1_52, x1_55, x1_56, x1_57, x1_60, x1_61, x1_64, x1_67, x1_68, x1_69, x1_70, x1_73, x1_74, x1_77, x1_78, x1_81, x1_83, x1_84, x1_88, x1_90, x1_93, x1_96, x1_98, x1_99, x1_102, x1_104, x1_107, x1_109, x1_112, x1_113, x1_116, x1_117, x1_119, x1_122, x1_123, x1_126, x1_129, x1_131, x1_132, x1_135, x1_136, x1_139, x1_141, x1_144, x1_145, x1_146, x1_149, x1_150, x1_151, x1_154, x1_155, x1_156, x1_159, x1_161, x1_162, x1_165, x1_166, x1_167, x1_170, x1_171, x1_173, x1_176, x1_177, x1_180, x1_181, x1_182, x1_185, x1_187, x1_190, x1_192, x1_195, x1_198, x1_201, x1_202, x1_203, x1_206, x1_209, x1_211, x1_214, x1_215, x1_218, x1_220, x1_223, x1_224, x1_227, x1_228, x1_231, x1_234, x1_237, sh_s, lq_s, sh_s1, lq_s1, sh_s2, lq_s2, sh_s3, lq_s3, sh_s4, lq_s4, sh_s5, lq_s5, sh_s6, lq_s6, sh_s7, lq_s7, sh_s8, lq_s8, sh_s9, lq_s9, sh_s10, lq_s10, sh_s11, lq_s11, sh_s12, lq_s12, sh_s13, lq_s13, sh_s14, lq_s14, sh_s15, lq_s15, sh_s16, lq_s16, sh_s17, lq_s17, sh_s18, lq_s18, sh_s19, lq_s19, sh_s20, lq_s20, sh_s21, lq_s21, sh_s22, lq_s22, sh_s23, lq_s23, sh_s24, lq_s24, sh_s25, lq_s25, rg_s0_0, rg_s0_1, rg_s0_2, rg_s0_3, rg_s1_0, rg_s1_1, rg_s1_2, rg_s1_3, rg_s1_4, rg_s7_0, rg_s9_0, rg_s9_1, rg_s9_2, rg_s9_3, rg_s9_4, rg_s9_5, rg_s16_6, rg_s16_7, rg_s16_0, rg_s16_1, rg_s16_2, rg_s16_3, rg_s16_4, rg_s16_5, sh_o, lq_o, sh_o1, lq_o1, sh_o2, lq_o2, sh_o3, lq_o3, sh_o4, lq_o4, sh_o5, lq_o5, sh_o6, lq_o6, rg_o0, rg_o1, rg_o2, rg_o3, rg_o4, rg_o5, ex5, Option.toList_some, Option.toList_none, List.cons_append, List.nil_append, true_and, and_true, nI_1, p_at, p_set, p_isIn, p_max, p_min, p_abs, hs, ho, hq, a_srt hB hC hp, c_gatherOwn hB hC hx Fr.rf, own15, up2_eq, or_true, true_or, true_and, u_3_4, u_3_5, u_4_5, u_3_6, u_4_6, u_5_6, u_3_2, u_4_2, u_5_2, u_6_2, u_3_15, u_4_15, u_1_15, u_2_1, u_6_1, u_5_1, u_4_1, u_3_1, c5, c0, if_true, if_false, one_ne, gI0, vS]
  · have hn : inb h NH := hh.resolve_left c0
    have c5 : 0 ≤ h := by
      have k2 := hn.1
      have k3 : (0 : Int32).toInt = 0 := rfl
      exact Int32.le_iff_toInt_le.mpr (by omega)
    have hk := key hn 0 (Nat.zero_le _) none
    simp (maxDischargeDepth := 30) only [x1_0, x1_1, x1_2, x1_5, x1_6, x1_9, x1_12, x1_13, x1_16, x1_19, x1_20, x1_21, x1_24, x1_25, x1_28, x1_29, x1_32, x1_33, x1_34, x1_37, x1_38, x1_39, x1_42, x1_43, x1_44, x1_47, x1_50, x1_51, x1_52, x1_55, x1_56, x1_57, x1_60, x1_61, x1_64, x1_67, x1_68, x1_69, x1_70, x1_73, x1_74, x1_77, x1_78, x1_81, x1_83, x1_84, x1_88, x1_90, x1_93, x1_96, x1_98, x1_99, x1_102, x1_104, x1_107, x1_109, x1_112, x1_113, x1_116, x1_117, x1_119, x1_122, x1_123, x1_126, x1_129, x1_131, x1_132, x1_135, x1_136, x1_139, x1_141, x1_144, x1_145, x1_146, x1_149, x1_150, x1_151, x1_154, x1_155, x1_156, x1_159, x1_161, x1_162, x1_165, x1_166, x1_167, x1_170, x1_171, x1_173, x1_176, x1_177, x1_180, x1_181, x1_182, x1_185, x1_187, x1_190, x1_192, x1_195, x1_198, x1_201, x1_202, x1_203, x1_206, x1_209, x1_211, x1_214, x1_215, x1_218, x1_220, x1_223, x1_224, x1_227, x1_228, x1_231, x1_234, x1_237, sh_s, lq_s, sh_s1, lq_s1, sh_s2, lq_s2, sh_s3, lq_s3, sh_s4, lq_s4, sh_s5, lq_s5, sh_s6, lq_s6, sh_s7, lq_s7, sh_s8, lq_s8, sh_s9, lq_s9, sh_s10, lq_s10, sh_s11, lq_s11, sh_s12, lq_s12, sh_s13, lq_s13, sh_s14, lq_s14, sh_s15, lq_s15, sh_s16, lq_s16, sh_s17, lq_s17, sh_s18, lq_s18, sh_s19, lq_s19, sh_s20, lq_s20, sh_s21, lq_s21, sh_s22, lq_s22, sh_s23, lq_s23, sh_s24, lq_s24, sh_s25, lq_s25, rg_s0_0, rg_s0_1, rg_s0_2, rg_s0_3, rg_s1_0, rg_s1_1, rg_s1_2, rg_s1_3, rg_s1_4, rg_s7_0, rg_s9_0, rg_s9_1, rg_s9_2, rg_s9_3, rg_s9_4, rg_s9_5, rg_s16_6, rg_s16_7, rg_s16_0, rg_s16_1, rg_s16_2, rg_s16_3, rg_s16_4, rg_s16_5, sh_o, lq_o, sh_o1, lq_o1, sh_o2, lq_o2, sh_o3, lq_o3, sh_o4, lq_o4, sh_o5, lq_o5, sh_o6, lq_o6, rg_o0, rg_o1, rg_o2, rg_o3, rg_o4, rg_o5, ex5, Option.toList_some, Option.toList_none, List.cons_append, List.nil_append, true_and, and_true, nI_1, p_at, p_set, p_isIn, p_max, p_min, p_abs, hs, ho, hq, a_srt hB hC hp, c_gatherOwn hB hC hx Fr.rf, own15, up2_eq, or_true, true_or, true_and, u_3_4, u_3_5, u_4_5, u_3_6, u_4_6, u_5_6, u_3_2, u_4_2, u_5_2, u_6_2, u_3_15, u_4_15, u_1_15, u_2_1, u_6_1, u_5_1, u_4_1, u_3_1, c5, c0, if_true, if_false, c_gatherHat hB hC hn, Fr_u7, ownJ_fr Fr.rf]
    simp only [gJ, gI0, if_pos c5, vS, nI_0] at hk
    exact hk
end
