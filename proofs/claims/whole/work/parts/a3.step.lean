/-! a statement is read: the step; the class's step -/
abbrev Rt : Type := Pz × Vw × (Nat × Nat × Nat × Nat × Nat × Nat) × ((Nat → Int32) × (Nat → Nat) × (Nat → Nat) × (Nat → Nat)) × Nat
/-- no room for one more -/
abbrev fulZ (w NS NH N C : Nat) : Prop := (w = 1 ∧ NS = 6) ∨ (w = 7 ∧ NH = 4) ∨ (w = 15 ∧ N = 12) ∨ (w = 18 ∧ C = 12)
abbrev staZ (w : Nat) : Prop := w = 0 ∨ w = 1 ∨ w = 7 ∨ w = 15 ∨ w = 16 ∨ w = 17 ∨ w = 18
/-- behind it: the sign, and the count -/
def seZ (T : Nat → Nat) (n c : Nat) (t : Rt) : Rt := (qP (asz T n c 315) t.1, t.2.1, t.2.2.1, t.2.2.2.1, t.2.2.2.2 + 1)
def stZ (T : Nat → Nat) (n c : Nat) : Rt → Rt
  | (p, V, (NS, NH, N, M, P, C), (rs, sf, se, te), j) => if fulZ (wq T n c p.1.2.2) NS NH N C ∨ j = 100 then (((5, frW T n p.1.2.2, 0), p.2), V, (NS, NH, N, M, P, C), (rs, sf, se, te), j)
    else if wq T n c p.1.2.2 = 0 then seZ T n c (qP (nbz T n c 0 60) (nxP p), V, (NS, NH, N, nbW T n (p.1.2.2 + 1), P, C), (rs, sf, se, te), j)
    else if wq T n c p.1.2.2 = 1 then seZ T n c (qP (soQ5 T n c V NS NH N) (nxP p), soV T n c V NS NH N (0, 0, p.1.2.2 + 1), (NS + 1, NH, N, M, P, C), (rs, sf, se, te), j)
    else if wq T n c p.1.2.2 = 7 then seZ T n c (qP (haQ4 T n c V NS NH N) (nxP p), haV T n c V NS NH N (0, 0, p.1.2.2 + 1), (NS, NH + 1, N, M, P, C), (rs, sf, se, te), j)
    else if wq T n c p.1.2.2 = 15 then seZ T n c (qP (peQ2 T n c V NS NH N) (nxP p), peV T n c V NS NH N (0, 0, p.1.2.2 + 1), (NS, NH, N + 1, M, P, C), (rs, sf, se, te), j)
    else if wq T n c p.1.2.2 = 16 then seZ T n c (qP (inQ1 T n c V NH N) (nxP p), inV T n c V NH N (0, 0, p.1.2.2 + 1), (NS, NH, N, M, P, C), (rs, sf, se, te), j)
    else if wq T n c p.1.2.2 = 17 then seZ T n c (qP (paQ1 T n c V N) (nxP p), paV T n c V N P (0, 0, p.1.2.2 + 1), (NS, NH, N, M, P + 1, C), (rs, sf, se, te), j)
    else if wq T n c p.1.2.2 = 18 then seZ T n c (wk3P T n c V NS (nxP p), V, (NS, NH, N, M, P, C + 1), (upG rs C (nI (ixF (V 15) (nxI T n (p.1.2.2 + 1)) NS 0)), upG sf C p.2.length, upG se C (wk1P T n c V NS (nxP p)).2.length, upG te C (wk3P T n c V NS (nxP p)).2.length), j)
    else (((1, frW T n p.1.2.2, 0), p.2), V, (NS, NH, N, M, P, C), (rs, sf, se, te), j)
def CI (J : Nat → Nat → Int32) (T : Nat → Nat) (n c s u : Nat) (p : Pz) (V : Vw) (NS NH N M P C : Nat) (rs : Nat → Int32) (sf se te : Nat → Nat) (j : Nat) : Prop := CS J T n c p.1 ∧ TKs J T n c ∧ (∃ l, J u 7 = nI l ∧ l ≤ 1600) ∧ (p.1.1 = 0 → RdC J s V NS NH N M P ∧ CDX J T n c u p ∧ RdU J u C rs sf se te ∧ J 105 7 = nI j)
def CIt (J : Nat → Nat → Int32) (T : Nat → Nat) (n c s u : Nat) (t : Rt) : Prop := CI J T n c s u t.1 t.2.1 t.2.2.1.1 t.2.2.1.2.1 t.2.2.1.2.2.1 t.2.2.1.2.2.2.1 t.2.2.1.2.2.2.2.1 t.2.2.1.2.2.2.2.2 t.2.2.2.1.1 t.2.2.2.1.2.1 t.2.2.2.1.2.2.1 t.2.2.2.1.2.2.2 t.2.2.2.2
/-- what the class's reading may change -/
def ECl (ai p k : Nat) : Prop := (p = 105 ∧ (k = 6 ∨ k = 7 ∨ k = 8 ∨ k = 9)) ∨ (ai < p ∧ p ≤ ai + 33)
theorem lk_none4 {x : Nat} (h1 : x ≠ 1) (h2 : x ≠ 7) (h3 : x ≠ 15) (h4 : x ≠ 18) : Op.lookupswitch.offset #[(1, 43), (7, 61), (15, 78), (18, 96)].toList 114 (x : Int) = 114 := by
  show (if (1 : Int) = (x : Int) then 43 else if (7 : Int) = (x : Int) then 61 else if (15 : Int) = (x : Int) then 78 else if (18 : Int) = (x : Int) then 96 else 114) = (114 : Int)
  rw [if_neg (by omega), if_neg (by omega), if_neg (by omega), if_neg (by omega)]
section
variable {L : Nat} {xs : Nat → Int32} {σ : Mm} {r : Option Value × Mm} {I J K : Nat → Nat → Int32} {Lm : Nat → Nat → Int64} {Rm : Nat → Nat → Nat} {n s so t N NS NH M P nw S U : Nat} {V W : Vw} {sp s2 ai : Nat} {x y z h v : Int32} {k c w lo hi kd pl g m C j u : Nat} {T : Nat → Nat} {q q2 : Rz} {p p2 : Pz} {E E2 : Nat → Nat → Prop} {cs : List Nat} {rs : Nat → Int32} {sf se te : Nat → Nat}

theorem eCl0 : ∀ p k, E0 p k → ECl ai p k := fun p k h => Or.inl ⟨h.1, by have := h.2; omega⟩
theorem eClB (hs1 : s = ai + 1) (hB : EB s E) : ∀ p k, E p k → ECl ai p k := fun p k h => (hB p k h).elim (fun z => eCl0 p k z) (fun z => Or.inr (by omega))
theorem c_full (ha : ai = 37 ∨ ai = 71) (hs1 : s = ai + 1) (hua : u = ai + 27) (hR : RdC I s V NS NH N M P) (hU : RdU I u C rs sf se te) (hN : NS ≤ 6 ∧ NH ≤ 4 ∧ N ≤ 12) (hC : C ≤ 12) (hw : w < 512) (r : Option Value × Mm) : Em L xs 32 [.ref 105, .int (nI w)] (179, I, Lm, RG nw sp s2 ai) r ↔ r = (some (.int (if fulZ w NS NH N C then 1 else 0)), 179, I, Lm, RG nw sp s2 ai) := by
  obtain ⟨hs, ho, s36, s73, hwd⟩ := rd_sc ha hs1
  obtain ⟨g1, g2, g3, g4, g5'⟩ := rd_rg (nw := nw) (sp := sp) (s2 := s2) hs1
  have g5 : rfv (RG nw sp s2 ai 105 5) = .ref u := g5'.trans (congrArg Value.ref (show s + 26 = u by omega))
  have hu : u = 64 ∨ u = 98 := by omega
  obtain ⟨y1, y2, y3, -⟩ := ru_sh hu
  obtain ⟨h1, h2, h3, -, -⟩ := hR.1
  have h6 := hU.1
  by_cases e1 : w = 1
  · subst e1
    have key : Em L xs 32 [.ref 105, .int 1] (179, I, Lm, RG nw sp s2 ai) r ↔ r = (some (.int (if fulZ 1 NS NH N C then 1 else 0)), 179, I, Lm, RG nw sp s2 ai) := by
      rw [em_32]
      by_cases e : NS = 6
      · have c1 : (nI NS < 6) = False := nI_lF (b := 6) (by omega) (by decide) (by omega)
        rw [if_pos (show fulZ 1 NS NH N C from by unfold fulZ; omega)]
        simp only [x32_0, x32_1k1, x32_1k7, x32_1k15, x32_1k18, x32_44, x32_45, x32_48, x32_51, x32_53, x32_56, x32_57, x32_60, x32_61, x32_62, x32_63, x32_66, x32_69, x32_70, x32_73, x32_74, x32_77, x32_78, x32_79, x32_80, x32_83, x32_86, x32_88, x32_91, x32_92, x32_95, x32_96, x32_97, x32_98, x32_101, x32_104, x32_106, x32_109, x32_110, x32_113, x32_114, x32_115, x32_116, sh_105, lq_105, sh_s, lq_s, sh_s1, lq_s1, sh_s2, lq_s2, sh_s3, lq_s3, sh_s4, lq_s4, sh_s5, lq_s5, sh_s6, lq_s6, sh_s7, lq_s7, sh_s8, lq_s8, sh_s9, lq_s9, sh_s10, lq_s10, sh_s11, lq_s11, sh_s12, lq_s12, sh_s13, lq_s13, sh_s14, lq_s14, sh_s15, lq_s15, sh_s16, lq_s16, sh_s17, lq_s17, sh_s18, lq_s18, sh_s19, lq_s19, sh_s20, lq_s20, sh_s21, lq_s21, sh_s22, lq_s22, sh_s23, lq_s23, sh_s24, lq_s24, sh_s25, lq_s25, rg_s0_0, rg_s0_1, rg_s0_2, rg_s0_3, rg_s1_0, rg_s1_1, rg_s1_2, rg_s1_3, rg_s1_4, rg_s7_0, rg_s9_0, rg_s9_1, rg_s9_2, rg_s9_3, rg_s9_4, rg_s9_5, rg_s16_6, rg_s16_7, rg_s16_0, rg_s16_1, rg_s16_2, rg_s16_3, rg_s16_4, rg_s16_5, sh_o, lq_o, sh_o1, lq_o1, sh_o2, lq_o2, sh_o3, lq_o3, sh_o4, lq_o4, sh_o5, lq_o5, sh_o6, lq_o6, rg_o0, rg_o1, rg_o2, rg_o3, rg_o4, rg_o5, ex5, Option.toList_some, Option.toList_none, List.cons_append, List.nil_append, true_and, and_true, nI_1, p_at, p_set, p_isIn, p_max, p_min, p_abs, true_or, or_true, hs, ho, y1, y2, g1, g2, g3, g4, g5, h2, c1, if_false]
      · have c1 : (nI NS < 6) = True := nI_lT (b := 6) (by omega) (by decide) (by omega)
        rw [if_neg (show ¬ fulZ 1 NS NH N C from by unfold fulZ; omega)]
        simp only [x32_0, x32_1k1, x32_1k7, x32_1k15, x32_1k18, x32_44, x32_45, x32_48, x32_51, x32_53, x32_56, x32_57, x32_60, x32_61, x32_62, x32_63, x32_66, x32_69, x32_70, x32_73, x32_74, x32_77, x32_78, x32_79, x32_80, x32_83, x32_86, x32_88, x32_91, x32_92, x32_95, x32_96, x32_97, x32_98, x32_101, x32_104, x32_106, x32_109, x32_110, x32_113, x32_114, x32_115, x32_116, sh_105, lq_105, sh_s, lq_s, sh_s1, lq_s1, sh_s2, lq_s2, sh_s3, lq_s3, sh_s4, lq_s4, sh_s5, lq_s5, sh_s6, lq_s6, sh_s7, lq_s7, sh_s8, lq_s8, sh_s9, lq_s9, sh_s10, lq_s10, sh_s11, lq_s11, sh_s12, lq_s12, sh_s13, lq_s13, sh_s14, lq_s14, sh_s15, lq_s15, sh_s16, lq_s16, sh_s17, lq_s17, sh_s18, lq_s18, sh_s19, lq_s19, sh_s20, lq_s20, sh_s21, lq_s21, sh_s22, lq_s22, sh_s23, lq_s23, sh_s24, lq_s24, sh_s25, lq_s25, rg_s0_0, rg_s0_1, rg_s0_2, rg_s0_3, rg_s1_0, rg_s1_1, rg_s1_2, rg_s1_3, rg_s1_4, rg_s7_0, rg_s9_0, rg_s9_1, rg_s9_2, rg_s9_3, rg_s9_4, rg_s9_5, rg_s16_6, rg_s16_7, rg_s16_0, rg_s16_1, rg_s16_2, rg_s16_3, rg_s16_4, rg_s16_5, sh_o, lq_o, sh_o1, lq_o1, sh_o2, lq_o2, sh_o3, lq_o3, sh_o4, lq_o4, sh_o5, lq_o5, sh_o6, lq_o6, rg_o0, rg_o1, rg_o2, rg_o3, rg_o4, rg_o5, ex5, Option.toList_some, Option.toList_none, List.cons_append, List.nil_append, true_and, and_true, nI_1, p_at, p_set, p_isIn, p_max, p_min, p_abs, true_or, or_true, hs, ho, y1, y2, g1, g2, g3, g4, g5, h2, c1, if_true]
    exact key
  by_cases e7 : w = 7
  · subst e7
    have key : Em L xs 32 [.ref 105, .int 7] (179, I, Lm, RG nw sp s2 ai) r ↔ r = (some (.int (if fulZ 7 NS NH N C then 1 else 0)), 179, I, Lm, RG nw sp s2 ai) := by
      rw [em_32]
      by_cases e : NH = 4
      · have c1 : (nI NH < 4) = False := nI_lF (b := 4) (by omega) (by decide) (by omega)
        rw [if_pos (show fulZ 7 NS NH N C from by unfold fulZ; omega)]
        simp only [x32_0, x32_1k1, x32_1k7, x32_1k15, x32_1k18, x32_44, x32_45, x32_48, x32_51, x32_53, x32_56, x32_57, x32_60, x32_61, x32_62, x32_63, x32_66, x32_69, x32_70, x32_73, x32_74, x32_77, x32_78, x32_79, x32_80, x32_83, x32_86, x32_88, x32_91, x32_92, x32_95, x32_96, x32_97, x32_98, x32_101, x32_104, x32_106, x32_109, x32_110, x32_113, x32_114, x32_115, x32_116, sh_105, lq_105, sh_s, lq_s, sh_s1, lq_s1, sh_s2, lq_s2, sh_s3, lq_s3, sh_s4, lq_s4, sh_s5, lq_s5, sh_s6, lq_s6, sh_s7, lq_s7, sh_s8, lq_s8, sh_s9, lq_s9, sh_s10, lq_s10, sh_s11, lq_s11, sh_s12, lq_s12, sh_s13, lq_s13, sh_s14, lq_s14, sh_s15, lq_s15, sh_s16, lq_s16, sh_s17, lq_s17, sh_s18, lq_s18, sh_s19, lq_s19, sh_s20, lq_s20, sh_s21, lq_s21, sh_s22, lq_s22, sh_s23, lq_s23, sh_s24, lq_s24, sh_s25, lq_s25, rg_s0_0, rg_s0_1, rg_s0_2, rg_s0_3, rg_s1_0, rg_s1_1, rg_s1_2, rg_s1_3, rg_s1_4, rg_s7_0, rg_s9_0, rg_s9_1, rg_s9_2, rg_s9_3, rg_s9_4, rg_s9_5, rg_s16_6, rg_s16_7, rg_s16_0, rg_s16_1, rg_s16_2, rg_s16_3, rg_s16_4, rg_s16_5, sh_o, lq_o, sh_o1, lq_o1, sh_o2, lq_o2, sh_o3, lq_o3, sh_o4, lq_o4, sh_o5, lq_o5, sh_o6, lq_o6, rg_o0, rg_o1, rg_o2, rg_o3, rg_o4, rg_o5, ex5, Option.toList_some, Option.toList_none, List.cons_append, List.nil_append, true_and, and_true, nI_1, p_at, p_set, p_isIn, p_max, p_min, p_abs, true_or, or_true, hs, ho, y1, y2, g1, g2, g3, g4, g5, h3, c1, if_false]
      · have c1 : (nI NH < 4) = True := nI_lT (b := 4) (by omega) (by decide) (by omega)
        rw [if_neg (show ¬ fulZ 7 NS NH N C from by unfold fulZ; omega)]
        simp only [x32_0, x32_1k1, x32_1k7, x32_1k15, x32_1k18, x32_44, x32_45, x32_48, x32_51, x32_53, x32_56, x32_57, x32_60, x32_61, x32_62, x32_63, x32_66, x32_69, x32_70, x32_73, x32_74, x32_77, x32_78, x32_79, x32_80, x32_83, x32_86, x32_88, x32_91, x32_92, x32_95, x32_96, x32_97, x32_98, x32_101, x32_104, x32_106, x32_109, x32_110, x32_113, x32_114, x32_115, x32_116, sh_105, lq_105, sh_s, lq_s, sh_s1, lq_s1, sh_s2, lq_s2, sh_s3, lq_s3, sh_s4, lq_s4, sh_s5, lq_s5, sh_s6, lq_s6, sh_s7, lq_s7, sh_s8, lq_s8, sh_s9, lq_s9, sh_s10, lq_s10, sh_s11, lq_s11, sh_s12, lq_s12, sh_s13, lq_s13, sh_s14, lq_s14, sh_s15, lq_s15, sh_s16, lq_s16, sh_s17, lq_s17, sh_s18, lq_s18, sh_s19, lq_s19, sh_s20, lq_s20, sh_s21, lq_s21, sh_s22, lq_s22, sh_s23, lq_s23, sh_s24, lq_s24, sh_s25, lq_s25, rg_s0_0, rg_s0_1, rg_s0_2, rg_s0_3, rg_s1_0, rg_s1_1, rg_s1_2, rg_s1_3, rg_s1_4, rg_s7_0, rg_s9_0, rg_s9_1, rg_s9_2, rg_s9_3, rg_s9_4, rg_s9_5, rg_s16_6, rg_s16_7, rg_s16_0, rg_s16_1, rg_s16_2, rg_s16_3, rg_s16_4, rg_s16_5, sh_o, lq_o, sh_o1, lq_o1, sh_o2, lq_o2, sh_o3, lq_o3, sh_o4, lq_o4, sh_o5, lq_o5, sh_o6, lq_o6, rg_o0, rg_o1, rg_o2, rg_o3, rg_o4, rg_o5, ex5, Option.toList_some, Option.toList_none, List.cons_append, List.nil_append, true_and, and_true, nI_1, p_at, p_set, p_isIn, p_max, p_min, p_abs, true_or, or_true, hs, ho, y1, y2, g1, g2, g3, g4, g5, h3, c1, if_true]
    exact key
  by_cases e15 : w = 15
  · subst e15
    have key : Em L xs 32 [.ref 105, .int 15] (179, I, Lm, RG nw sp s2 ai) r ↔ r = (some (.int (if fulZ 15 NS NH N C then 1 else 0)), 179, I, Lm, RG nw sp s2 ai) := by
      rw [em_32]
      by_cases e : N = 12
      · have c1 : (nI N < 12) = False := nI_lF (b := 12) (by omega) (by decide) (by omega)
        rw [if_pos (show fulZ 15 NS NH N C from by unfold fulZ; omega)]
        simp only [x32_0, x32_1k1, x32_1k7, x32_1k15, x32_1k18, x32_44, x32_45, x32_48, x32_51, x32_53, x32_56, x32_57, x32_60, x32_61, x32_62, x32_63, x32_66, x32_69, x32_70, x32_73, x32_74, x32_77, x32_78, x32_79, x32_80, x32_83, x32_86, x32_88, x32_91, x32_92, x32_95, x32_96, x32_97, x32_98, x32_101, x32_104, x32_106, x32_109, x32_110, x32_113, x32_114, x32_115, x32_116, sh_105, lq_105, sh_s, lq_s, sh_s1, lq_s1, sh_s2, lq_s2, sh_s3, lq_s3, sh_s4, lq_s4, sh_s5, lq_s5, sh_s6, lq_s6, sh_s7, lq_s7, sh_s8, lq_s8, sh_s9, lq_s9, sh_s10, lq_s10, sh_s11, lq_s11, sh_s12, lq_s12, sh_s13, lq_s13, sh_s14, lq_s14, sh_s15, lq_s15, sh_s16, lq_s16, sh_s17, lq_s17, sh_s18, lq_s18, sh_s19, lq_s19, sh_s20, lq_s20, sh_s21, lq_s21, sh_s22, lq_s22, sh_s23, lq_s23, sh_s24, lq_s24, sh_s25, lq_s25, rg_s0_0, rg_s0_1, rg_s0_2, rg_s0_3, rg_s1_0, rg_s1_1, rg_s1_2, rg_s1_3, rg_s1_4, rg_s7_0, rg_s9_0, rg_s9_1, rg_s9_2, rg_s9_3, rg_s9_4, rg_s9_5, rg_s16_6, rg_s16_7, rg_s16_0, rg_s16_1, rg_s16_2, rg_s16_3, rg_s16_4, rg_s16_5, sh_o, lq_o, sh_o1, lq_o1, sh_o2, lq_o2, sh_o3, lq_o3, sh_o4, lq_o4, sh_o5, lq_o5, sh_o6, lq_o6, rg_o0, rg_o1, rg_o2, rg_o3, rg_o4, rg_o5, ex5, Option.toList_some, Option.toList_none, List.cons_append, List.nil_append, true_and, and_true, nI_1, p_at, p_set, p_isIn, p_max, p_min, p_abs, true_or, or_true, hs, ho, y1, y2, g1, g2, g3, g4, g5, h1, c1, if_false]
      · have c1 : (nI N < 12) = True := nI_lT (b := 12) (by omega) (by decide) (by omega)
        rw [if_neg (show ¬ fulZ 15 NS NH N C from by unfold fulZ; omega)]
        simp only [x32_0, x32_1k1, x32_1k7, x32_1k15, x32_1k18, x32_44, x32_45, x32_48, x32_51, x32_53, x32_56, x32_57, x32_60, x32_61, x32_62, x32_63, x32_66, x32_69, x32_70, x32_73, x32_74, x32_77, x32_78, x32_79, x32_80, x32_83, x32_86, x32_88, x32_91, x32_92, x32_95, x32_96, x32_97, x32_98, x32_101, x32_104, x32_106, x32_109, x32_110, x32_113, x32_114, x32_115, x32_116, sh_105, lq_105, sh_s, lq_s, sh_s1, lq_s1, sh_s2, lq_s2, sh_s3, lq_s3, sh_s4, lq_s4, sh_s5, lq_s5, sh_s6, lq_s6, sh_s7, lq_s7, sh_s8, lq_s8, sh_s9, lq_s9, sh_s10, lq_s10, sh_s11, lq_s11, sh_s12, lq_s12, sh_s13, lq_s13, sh_s14, lq_s14, sh_s15, lq_s15, sh_s16, lq_s16, sh_s17, lq_s17, sh_s18, lq_s18, sh_s19, lq_s19, sh_s20, lq_s20, sh_s21, lq_s21, sh_s22, lq_s22, sh_s23, lq_s23, sh_s24, lq_s24, sh_s25, lq_s25, rg_s0_0, rg_s0_1, rg_s0_2, rg_s0_3, rg_s1_0, rg_s1_1, rg_s1_2, rg_s1_3, rg_s1_4, rg_s7_0, rg_s9_0, rg_s9_1, rg_s9_2, rg_s9_3, rg_s9_4, rg_s9_5, rg_s16_6, rg_s16_7, rg_s16_0, rg_s16_1, rg_s16_2, rg_s16_3, rg_s16_4, rg_s16_5, sh_o, lq_o, sh_o1, lq_o1, sh_o2, lq_o2, sh_o3, lq_o3, sh_o4, lq_o4, sh_o5, lq_o5, sh_o6, lq_o6, rg_o0, rg_o1, rg_o2, rg_o3, rg_o4, rg_o5, ex5, Option.toList_some, Option.toList_none, List.cons_append, List.nil_append, true_and, and_true, nI_1, p_at, p_set, p_isIn, p_max, p_min, p_abs, true_or, or_true, hs, ho, y1, y2, g1, g2, g3, g4, g5, h1, c1, if_true]
    exact key
  by_cases e18 : w = 18
  · subst e18
    have key : Em L xs 32 [.ref 105, .int 18] (179, I, Lm, RG nw sp s2 ai) r ↔ r = (some (.int (if fulZ 18 NS NH N C then 1 else 0)), 179, I, Lm, RG nw sp s2 ai) := by
      rw [em_32]
      by_cases e : C = 12
      · have c1 : (nI C < 12) = False := nI_lF (b := 12) (by omega) (by decide) (by omega)
        rw [if_pos (show fulZ 18 NS NH N C from by unfold fulZ; omega)]
        simp only [x32_0, x32_1k1, x32_1k7, x32_1k15, x32_1k18, x32_44, x32_45, x32_48, x32_51, x32_53, x32_56, x32_57, x32_60, x32_61, x32_62, x32_63, x32_66, x32_69, x32_70, x32_73, x32_74, x32_77, x32_78, x32_79, x32_80, x32_83, x32_86, x32_88, x32_91, x32_92, x32_95, x32_96, x32_97, x32_98, x32_101, x32_104, x32_106, x32_109, x32_110, x32_113, x32_114, x32_115, x32_116, sh_105, lq_105, sh_s, lq_s, sh_s1, lq_s1, sh_s2, lq_s2, sh_s3, lq_s3, sh_s4, lq_s4, sh_s5, lq_s5, sh_s6, lq_s6, sh_s7, lq_s7, sh_s8, lq_s8, sh_s9, lq_s9, sh_s10, lq_s10, sh_s11, lq_s11, sh_s12, lq_s12, sh_s13, lq_s13, sh_s14, lq_s14, sh_s15, lq_s15, sh_s16, lq_s16, sh_s17, lq_s17, sh_s18, lq_s18, sh_s19, lq_s19, sh_s20, lq_s20, sh_s21, lq_s21, sh_s22, lq_s22, sh_s23, lq_s23, sh_s24, lq_s24, sh_s25, lq_s25, rg_s0_0, rg_s0_1, rg_s0_2, rg_s0_3, rg_s1_0, rg_s1_1, rg_s1_2, rg_s1_3, rg_s1_4, rg_s7_0, rg_s9_0, rg_s9_1, rg_s9_2, rg_s9_3, rg_s9_4, rg_s9_5, rg_s16_6, rg_s16_7, rg_s16_0, rg_s16_1, rg_s16_2, rg_s16_3, rg_s16_4, rg_s16_5, sh_o, lq_o, sh_o1, lq_o1, sh_o2, lq_o2, sh_o3, lq_o3, sh_o4, lq_o4, sh_o5, lq_o5, sh_o6, lq_o6, rg_o0, rg_o1, rg_o2, rg_o3, rg_o4, rg_o5, ex5, Option.toList_some, Option.toList_none, List.cons_append, List.nil_append, true_and, and_true, nI_1, p_at, p_set, p_isIn, p_max, p_min, p_abs, true_or, or_true, hs, ho, y1, y2, g1, g2, g3, g4, g5, h6, c1, if_false]
      · have c1 : (nI C < 12) = True := nI_lT (b := 12) (by omega) (by decide) (by omega)
        rw [if_neg (show ¬ fulZ 18 NS NH N C from by unfold fulZ; omega)]
        simp only [x32_0, x32_1k1, x32_1k7, x32_1k15, x32_1k18, x32_44, x32_45, x32_48, x32_51, x32_53, x32_56, x32_57, x32_60, x32_61, x32_62, x32_63, x32_66, x32_69, x32_70, x32_73, x32_74, x32_77, x32_78, x32_79, x32_80, x32_83, x32_86, x32_88, x32_91, x32_92, x32_95, x32_96, x32_97, x32_98, x32_101, x32_104, x32_106, x32_109, x32_110, x32_113, x32_114, x32_115, x32_116, sh_105, lq_105, sh_s, lq_s, sh_s1, lq_s1, sh_s2, lq_s2, sh_s3, lq_s3, sh_s4, lq_s4, sh_s5, lq_s5, sh_s6, lq_s6, sh_s7, lq_s7, sh_s8, lq_s8, sh_s9, lq_s9, sh_s10, lq_s10, sh_s11, lq_s11, sh_s12, lq_s12, sh_s13, lq_s13, sh_s14, lq_s14, sh_s15, lq_s15, sh_s16, lq_s16, sh_s17, lq_s17, sh_s18, lq_s18, sh_s19, lq_s19, sh_s20, lq_s20, sh_s21, lq_s21, sh_s22, lq_s22, sh_s23, lq_s23, sh_s24, lq_s24, sh_s25, lq_s25, rg_s0_0, rg_s0_1, rg_s0_2, rg_s0_3, rg_s1_0, rg_s1_1, rg_s1_2, rg_s1_3, rg_s1_4, rg_s7_0, rg_s9_0, rg_s9_1, rg_s9_2, rg_s9_3, rg_s9_4, rg_s9_5, rg_s16_6, rg_s16_7, rg_s16_0, rg_s16_1, rg_s16_2, rg_s16_3, rg_s16_4, rg_s16_5, sh_o, lq_o, sh_o1, lq_o1, sh_o2, lq_o2, sh_o3, lq_o3, sh_o4, lq_o4, sh_o5, lq_o5, sh_o6, lq_o6, rg_o0, rg_o1, rg_o2, rg_o3, rg_o4, rg_o5, ex5, Option.toList_some, Option.toList_none, List.cons_append, List.nil_append, true_and, and_true, nI_1, p_at, p_set, p_isIn, p_max, p_min, p_abs, true_or, or_true, hs, ho, y1, y2, g1, g2, g3, g4, g5, h6, c1, if_true]
    exact key
  have hd : Op.lookupswitch.offset #[(1, 43), (7, 61), (15, 78), (18, 96)].toList 114 (nI w).toInt = 114 := by
    rw [nI_toInt (by omega)]
    exact lk_none4 (by omega) (by omega) (by omega) (by omega)
  rw [em_32, if_neg (show ¬ fulZ w NS NH N C from by unfold fulZ; omega)]
  simp only [x32_0, x32_1k1, x32_1k7, x32_1k15, x32_1k18, x32_44, x32_45, x32_48, x32_51, x32_53, x32_56, x32_57, x32_60, x32_61, x32_62, x32_63, x32_66, x32_69, x32_70, x32_73, x32_74, x32_77, x32_78, x32_79, x32_80, x32_83, x32_86, x32_88, x32_91, x32_92, x32_95, x32_96, x32_97, x32_98, x32_101, x32_104, x32_106, x32_109, x32_110, x32_113, x32_114, x32_115, x32_116, sh_105, lq_105, sh_s, lq_s, sh_s1, lq_s1, sh_s2, lq_s2, sh_s3, lq_s3, sh_s4, lq_s4, sh_s5, lq_s5, sh_s6, lq_s6, sh_s7, lq_s7, sh_s8, lq_s8, sh_s9, lq_s9, sh_s10, lq_s10, sh_s11, lq_s11, sh_s12, lq_s12, sh_s13, lq_s13, sh_s14, lq_s14, sh_s15, lq_s15, sh_s16, lq_s16, sh_s17, lq_s17, sh_s18, lq_s18, sh_s19, lq_s19, sh_s20, lq_s20, sh_s21, lq_s21, sh_s22, lq_s22, sh_s23, lq_s23, sh_s24, lq_s24, sh_s25, lq_s25, rg_s0_0, rg_s0_1, rg_s0_2, rg_s0_3, rg_s1_0, rg_s1_1, rg_s1_2, rg_s1_3, rg_s1_4, rg_s7_0, rg_s9_0, rg_s9_1, rg_s9_2, rg_s9_3, rg_s9_4, rg_s9_5, rg_s16_6, rg_s16_7, rg_s16_0, rg_s16_1, rg_s16_2, rg_s16_3, rg_s16_4, rg_s16_5, sh_o, lq_o, sh_o1, lq_o1, sh_o2, lq_o2, sh_o3, lq_o3, sh_o4, lq_o4, sh_o5, lq_o5, sh_o6, lq_o6, rg_o0, rg_o1, rg_o2, rg_o3, rg_o4, rg_o5, ex5, Option.toList_some, Option.toList_none, List.cons_append, List.nil_append, true_and, and_true, nI_1, p_at, p_set, p_isIn, p_max, p_min, p_abs, true_or, or_true, fun ρ l0 l1 st σ r => x32_1d (L := L) (xs := xs) (ρ := ρ) (l0 := l0) (l1 := l1) (st := st) (σ := σ) (r := r) hd]
theorem c_starts (hw : w < 512) (r : Option Value × Mm) : Em L xs 33 [.int (nI w)] σ r ↔ r = (some (.int (if staZ w then 1 else 0)), σ) := by
  have f : ∀ k : Nat, k < 512 → (nI w = nI k) = (w = k) := fun k hk => propext (nI_eq (by omega) (by omega))
  have f0 : (nI w = 0) = (w = 0) := f 0 (by decide)
  have f1 : (nI w = 1) = (w = 1) := f 1 (by decide)
  have f7 : (nI w = 7) = (w = 7) := f 7 (by decide)
  have f15 : (nI w = 15) = (w = 15) := f 15 (by decide)
  have f16 : (nI w = 16) = (w = 16) := f 16 (by decide)
  have f17 : (nI w = 17) = (w = 17) := f 17 (by decide)
  have f18 : (nI w = 18) = (w = 18) := f 18 (by decide)
  rw [em_33]
  by_cases e0 : w = 0
  · rw [if_pos (show staZ w from by unfold staZ; omega)]
    simp only [x33_0, x33_1, x33_4, x33_5, x33_6, x33_9, x33_10, x33_12, x33_15, x33_16, x33_18, x33_21, x33_22, x33_24, x33_27, x33_28, x33_30, x33_33, x33_34, x33_36, x33_39, x33_40, x33_43, x33_44, true_or, or_true, true_and, f0, eq_true e0, if_true, if_false]
  by_cases e1 : w = 1
  · rw [if_pos (show staZ w from by unfold staZ; omega)]
    simp only [x33_0, x33_1, x33_4, x33_5, x33_6, x33_9, x33_10, x33_12, x33_15, x33_16, x33_18, x33_21, x33_22, x33_24, x33_27, x33_28, x33_30, x33_33, x33_34, x33_36, x33_39, x33_40, x33_43, x33_44, true_or, or_true, true_and, f0, f1, e0, eq_true e1, if_true, if_false]
  by_cases e7 : w = 7
  · rw [if_pos (show staZ w from by unfold staZ; omega)]
    simp only [x33_0, x33_1, x33_4, x33_5, x33_6, x33_9, x33_10, x33_12, x33_15, x33_16, x33_18, x33_21, x33_22, x33_24, x33_27, x33_28, x33_30, x33_33, x33_34, x33_36, x33_39, x33_40, x33_43, x33_44, true_or, or_true, true_and, f0, f1, f7, e0, e1, eq_true e7, if_true, if_false]
  by_cases e15 : w = 15
  · rw [if_pos (show staZ w from by unfold staZ; omega)]
    simp only [x33_0, x33_1, x33_4, x33_5, x33_6, x33_9, x33_10, x33_12, x33_15, x33_16, x33_18, x33_21, x33_22, x33_24, x33_27, x33_28, x33_30, x33_33, x33_34, x33_36, x33_39, x33_40, x33_43, x33_44, true_or, or_true, true_and, f0, f1, f7, f15, e0, e1, e7, eq_true e15, if_true, if_false]
  by_cases e16 : w = 16
  · rw [if_pos (show staZ w from by unfold staZ; omega)]
    simp only [x33_0, x33_1, x33_4, x33_5, x33_6, x33_9, x33_10, x33_12, x33_15, x33_16, x33_18, x33_21, x33_22, x33_24, x33_27, x33_28, x33_30, x33_33, x33_34, x33_36, x33_39, x33_40, x33_43, x33_44, true_or, or_true, true_and, f0, f1, f7, f15, f16, e0, e1, e7, e15, eq_true e16, if_true, if_false]
  by_cases e17 : w = 17
  · rw [if_pos (show staZ w from by unfold staZ; omega)]
    simp only [x33_0, x33_1, x33_4, x33_5, x33_6, x33_9, x33_10, x33_12, x33_15, x33_16, x33_18, x33_21, x33_22, x33_24, x33_27, x33_28, x33_30, x33_33, x33_34, x33_36, x33_39, x33_40, x33_43, x33_44, true_or, or_true, true_and, f0, f1, f7, f15, f16, f17, e0, e1, e7, e15, e16, eq_true e17, if_true, if_false]
  by_cases e18 : w = 18
  · rw [if_pos (show staZ w from by unfold staZ; omega)]
    simp only [x33_0, x33_1, x33_4, x33_5, x33_6, x33_9, x33_10, x33_12, x33_15, x33_16, x33_18, x33_21, x33_22, x33_24, x33_27, x33_28, x33_30, x33_33, x33_34, x33_36, x33_39, x33_40, x33_43, x33_44, true_or, or_true, true_and, f0, f1, f7, f15, f16, f17, f18, e0, e1, e7, e15, e16, e17, eq_true e18, if_true, if_false]
  rw [if_neg (show ¬ staZ w from by unfold staZ; omega)]
  simp only [x33_0, x33_1, x33_4, x33_5, x33_6, x33_9, x33_10, x33_12, x33_15, x33_16, x33_18, x33_21, x33_22, x33_24, x33_27, x33_28, x33_30, x33_33, x33_34, x33_36, x33_39, x33_40, x33_43, x33_44, true_or, or_true, true_and, f0, f1, f7, f15, f16, f17, f18, e0, e1, e7, e15, e16, e17, e18, if_false]
/-- codes stay where the scene alone changes -/
theorem cxFX (h : CDX I T n c u p) (hq : CS J T n c q) (h7 : J u 7 = I u 7) (h5 : J (u + 5) = I (u + 5)) (hb : q.1 = 0 → p.1.1 = 0 ∧ p.1.2.2 ≤ q.2.2) : CDX J T n c u (q, p.2) := by
  obtain ⟨-, ⟨l, l1, l2⟩, h3⟩ := h
  refine ⟨hq, ⟨l, h7.trans l1, l2⟩, fun z => ?_⟩
  obtain ⟨b1, b2⟩ := hb z
  obtain ⟨c1, c2, c3⟩ := h3 b1
  exact ⟨h7.trans c1, Nat.le_trans c2 b2, fun i hi => by rw [h5]; exact c3 i hi⟩
theorem RdU.fx (h : RdU I u C rs sf se te) (h6 : J u 6 = I u 6) (hr : ∀ a, 1 ≤ a → a ≤ 4 → J (u + a) = I (u + a)) : RdU J u C rs sf se te := ⟨h6.trans h.1, fun k hk => by rw [hr 1 (by decide) (by decide), hr 2 (by decide) (by decide), hr 3 (by decide) (by decide), hr 4 (by decide) (by decide)]; exact h.2 k hk⟩
/-- the end of a statement -/
theorem c_semi (ha : ai = 37 ∨ ai = 71) (hs1 : s = ai + 1) (hua : u = ai + 27) (hX : TX T n c) (h : CI I T n c s u p V NS NH N M P C rs sf se te j) : ∃ J, (∀ r l1, Ev L xs 78 31 204 [some (.ref 105), l1] [] (179, I, Lm, RG nw sp s2 ai) r ↔ r = (none, 179, J, Lm, RG nw sp s2 ai)) ∧ CIt J T n c s u (seZ T n c (p, V, (NS, NH, N, M, P, C), (rs, sf, se, te), j)) ∧ FX I J (ECl ai) := by
  obtain ⟨hs, ho, s36, s73, hwd⟩ := rd_sc ha hs1
  obtain ⟨h1, h2, h3, h4⟩ := h
  obtain ⟨J, a1, a2, a3⟩ := c_need (w := 315) (Lm := Lm) (L := L) (xs := xs) (nw := nw) (sp := sp) (s2 := s2) (ai := ai) (by decide) (by decide) hX h2 h1
  have a1 : ∀ r, Em L xs 23 [.ref 105, .int 315] (179, I, Lm, RG nw sp s2 ai) r ↔ r = (none, 179, J, Lm, RG nw sp s2 ai) := fun r => a1 r
  have F1 : FX I (up2 J 105 7 (J 105 7 + 1)) (ECl ai) := fxTr (fxCF a3 eCl0) (fxUp (Or.inl ⟨rfl, by omega⟩))
  have e : ∀ q, q ≠ 105 → up2 J 105 7 (J 105 7 + 1) q = I q := fun q hq => funext fun k => by rw [up2_p hq, a3.1 q hq]
  have S1 : CS (up2 J 105 7 (J 105 7 + 1)) T n c (asz T n c 315 p.1) := by
    obtain ⟨b1, b2, b3, b4⟩ := a2
    exact ⟨by rw [up2_k (by decide)]; exact b1, b2, fun z => by rw [up2_k (by decide)]; exact b3 z, by rw [up2_k (by decide)]; exact b4⟩
  refine ⟨up2 J 105 7 (J 105 7 + 1), fun r l1 => ?_, ⟨S1, ?_, ?_, fun z => ?_⟩, F1⟩
  · rw [x31_204]
    simp only [x31_0, x31_1, x31_4, x31_5, x31_6, x31_9, x31_11, x31_14, x31_15, x31_16, x31_19, x31_22, x31_23, x31_24, x31_25, x31_28, x31_31, x31_32, x31_35, x31_38, x31_39, x31_40, x31_41, x31_44, x31_45, x31_48, x31_51, x31_52, x31_53, x31_54, x31_57, x31_58, x31_59, x31_62, x31_63k0, x31_63k1, x31_63k2, x31_63k3, x31_63k4, x31_63k5, x31_63k6, x31_63k7, x31_63k8, x31_63k9, x31_63k10, x31_63k11, x31_63k12, x31_63k13, x31_63k14, x31_63k15, x31_63k16, x31_63k17, x31_149, x31_152, x31_153, x31_154, x31_156, x31_159, x31_162, x31_166, x31_169, x31_173, x31_176, x31_180, x31_183, x31_187, x31_190, x31_194, x31_197, x31_201, x31_205, x31_208, x31_211, x31_212, x31_213, x31_216, x31_217, x31_218, x31_221, sh_105, lq_105, ex5, Option.toList_some, Option.toList_none, List.cons_append, List.nil_append, true_and, and_true, nI_1, p_at, p_set, p_isIn, p_max, p_min, p_abs, a1]
  · obtain ⟨t1, t2, t3⟩ := h2
    refine ⟨fun i hi => ?_, by rw [e 108 (by decide)]; exact t2, by rw [e 109 (by decide)]; exact t3⟩
    rw [e 108 (by decide), e 109 (by decide), e 110 (by decide), e 111 (by decide)]
    exact t1 i hi
  · rw [e u (by omega)]; exact h3
  · obtain ⟨z1, z2⟩ := asz_g (T := T) (n := n) (c := c) (w := 315) (q := p.1) z
    have z3 : p.1.2.2 ≤ (asz T n c 315 p.1).2.2 := by rw [z2]; exact Nat.le_succ _
    have z1 : p.1.1 = 0 := z1
    obtain ⟨y1, y2, y3, y4⟩ := h4 z1
    refine ⟨RdC.fx y1 (E := fun p _ => p = 105) (fun p k z => by rw [e p z]) ⟨by omega, by omega, by omega, by omega, by omega⟩ (fun k _ => ⟨by omega, by omega, by omega, by omega, by omega⟩) (fun k _ a _ _ => by omega) (fun k _ a _ _ => by omega) (fun k _ => ⟨by omega, by omega⟩), ?_, RdU.fx y3 (by rw [e u (by omega)]) (fun a _ _ => e _ (by omega)), ?_⟩
    · exact cxFX y2 S1 (by rw [e u (by omega)]) (e _ (by omega)) (fun _ => ⟨z1, z3⟩)
    · show up2 J 105 7 (J 105 7 + 1) 105 7 = nI (j + 1)
      rw [up2_eq, a3.2 7 (by decide) (by decide) (by decide), y4, nI_1]
end
