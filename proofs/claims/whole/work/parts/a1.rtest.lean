/-! the reference: tests -/
section
variable {T : Nat → Nat} {n c : Nat}
theorem opN_le : ∀ {ws cs : List Nat}, opnT (drN cs ws).2 ≤ opnT ws
  | [], _ => Nat.le_refl _
  | w :: ws, cs => by
    by_cases e : w = 16
    · rw [show drN cs (w :: ws) = drN (cs ++ [w]) ws from if_pos e, ot_hi (Or.inr e)]
      have := opN_le (ws := ws) (cs := cs ++ [w])
      omega
    · rw [show drN cs (w :: ws) = (cs, w :: ws) from if_neg e]
      exact Nat.le_refl _
theorem opS_le : ∀ {ws cs : List Nat}, opnT (drS cs ws).2 ≤ opnT ws
  | [], _ => Nat.le_refl _
  | w :: ws, cs => by
    have hh : opnT ws ≤ opnT (w :: ws) := Nat.le_add_right _ _
    by_cases e : w = 25
    · rw [show drS cs (w :: ws) = (cs, ws) from if_pos e]
      exact hh
    · rw [show drS cs (w :: ws) = drS (cs ++ [w]) ws from if_neg e]
      have := opS_le (ws := ws) (cs := cs ++ [w])
      omega
theorem opT_le : ∀ {f : Nat} {p : Pz} {ws : List Nat}, opnT (clT T n c f p ws).2 ≤ opnT ws
  | 0, _, _ => Nat.le_refl _
  | f + 1, p, ws => by
    rw [clT_s]
    by_cases e : p.1.1 = 0 ∧ wq T n c p.1.2.2 = 349 ∧ hasS ws = true
    · rw [if_pos e]
      have h1 := opT_le (f := f) (p := ((0, 0, p.1.2.2 + 1), (drN (drS p.2 ws).1 (drS p.2 ws).2).1)) (ws := (drN (drS p.2 ws).1 (drS p.2 ws).2).2)
      have h2 := opN_le (cs := (drS p.2 ws).1) (ws := (drS p.2 ws).2)
      have h3 := opS_le (cs := p.2) (ws := ws)
      omega
    · rw [if_neg e]
      exact Nat.le_refl _
end
section
variable {L : Nat} {xs : Nat → Int32} {σ : Mm} {r : Option Value × Mm} {I J K : Nat → Nat → Int32} {Lm : Nat → Nat → Int64} {Rm : Nat → Nat → Nat} {n s so t N NS NH M P nw S U : Nat} {V W : Vw} {sp s2 ai p : Nat} {x y z h v : Int32} {k c w lo hi kd pl bs o ch g m : Nat} {T : Nat → Nat} {q : Rz} {p : Pz} {E E2 : Nat → Nat → Prop} {G : Nat → Nat → Int32} {cs W ws O : List Nat}

theorem r_dropAllT : ∀ (ws : List Nat) (I : Nat → Nat → Int32) (cs : List Nat), I 112 5 = 0 → YS I cs ws → ∃ G, (∀ r l1 l2, Ev L xs 7 209 110 [some (.ref 112), l1, l2] [] (179, I, Lm, RG nw sp s2 ai) r ↔ r = (none, 179, G, Lm, RG nw sp s2 ai)) ∧ YS G (cs ++ ws) [] ∧ FX I G EY := by
  intro ws
  induction ws with
  | nil =>
    intro I cs g5 h
    have b1 : I 112 58 = 0 := h.2.1.1
    have c1 : ((0 : Int32) ≤ 0) = True := eq_true (by decide)
    refine ⟨I, fun r l1 l2 => ?_, by rw [List.append_nil]; exact h, fxRf⟩
    rw [x209_110]
    simp only [x209_0, x209_1, x209_3, x209_6, x209_7, x209_10, x209_13, x209_14, x209_17, x209_18, x209_19, x209_21, x209_24, x209_25, x209_27, x209_28, x209_31, x209_34, x209_35, x209_36, x209_39, x209_40, x209_41, x209_44, x209_47, x209_48, x209_49, x209_52, x209_55, x209_58, x209_59, x209_61, x209_62, x209_65, x209_68, x209_69, x209_70, x209_73, x209_76, x209_80, x209_84, x209_87, x209_88, x209_91, x209_94, x209_95, x209_98, x209_101, x209_102, x209_105, x209_106, x209_107, x209_111, x209_114, x209_117, x209_118, x209_121, x209_124, x209_125, x209_128, x209_131, sh_112, sh_113, sh_114, sh_115, sh_116, sh_117, sh_118, sh_119, sh_120, sh_121, sh_122, sh_123, sh_124, sh_125, sh_126, sh_127, sh_128, sh_129, sh_130, sh_131, sh_132, sh_133, sh_134, sh_135, sh_136, sh_137, sh_138, sh_139, sh_140, sh_141, sh_142, sh_143, sh_144, sh_145, sh_146, sh_147, sh_148, sh_149, sh_150, sh_151, sh_152, sh_153, sh_154, sh_155, sh_156, sh_157, sh_158, sh_159, sh_160, sh_161, sh_162, sh_163, sh_164, sh_165, sh_166, sh_167, sh_168, sh_169, sh_170, sh_171, sh_172, sh_173, sh_174, sh_175, sh_176, sh_177, sh_178, lq_112, lq_113, lq_114, lq_115, lq_116, lq_117, lq_118, lq_119, lq_120, lq_121, lq_122, lq_123, lq_124, lq_125, lq_126, lq_127, lq_128, lq_129, lq_130, lq_131, lq_132, lq_133, lq_134, lq_135, lq_136, lq_137, lq_138, lq_139, lq_140, lq_141, lq_142, lq_143, lq_144, lq_145, lq_146, lq_147, lq_148, lq_149, lq_150, lq_151, lq_152, lq_153, lq_154, lq_155, lq_156, lq_157, lq_158, lq_159, lq_160, lq_161, lq_162, lq_163, lq_164, lq_165, lq_166, lq_167, lq_168, lq_169, lq_170, lq_171, lq_172, lq_173, lq_174, lq_175, lq_176, lq_177, lq_178, rg_112_0, rg_112_9, rg_112_10, rg_112_11, rg_112_12, rg_112_13, rg_112_14, rg_112_15, rg_112_16, rg_112_17, rg_112_18, rg_112_19, rg_112_20, rg_112_21, rg_112_22, rg_112_23, rg_112_24, rg_112_25, rg_112_26, rg_112_27, rg_112_28, rg_112_29, rg_112_30, rg_112_31, rg_112_32, rg_112_33, rg_112_34, rg_112_35, rg_112_36, rg_112_37, rg_112_38, rg_112_39, rg_112_40, rg_112_41, rg_112_43, rg_112_44, rg_112_45, rg_112_46, rg_112_47, rg_112_48, rg_112_49, rg_112_51, rg_112_55, rg_112_57, rg_112_60, rg_112_61, rg_112_62, rg_112_63, rg_112_64, rg_112_66, rg_112_67, rg_112_68, rg_112_69, rg_112_70, rg_112_71, rg_112_72, rg_112_73, rg_112_74, rg_112_80, rg_112_83, rg_112_84, rg_112_85, rg_112_86, rg_112_90, rg_112_91, rg_112_92, ex5, Option.toList_some, Option.toList_none, List.cons_append, List.nil_append, true_and, and_true, nI_1, p_at, p_set, p_isIn, p_max, p_min, p_abs, g5, b1, c1, if_true]
  | cons a ws ih =>
    intro I cs g5 h
    have l1 : (a :: ws).length = ws.length + 1 := rfl
    have b1 := h.2.1.1
    have hl := h.2.2
    rw [l1] at b1 hl
    have c1 : (nI (ws.length + 1) ≤ 0) = False := eq_false (nI_ge (b := ws.length + 1) (a := 0) (by omega) (by omega))
    obtain ⟨G1, d1, d2, d3⟩ := r_drops (Lm := Lm) (L := L) (xs := xs) (nw := nw) (sp := sp) (s2 := s2) (ai := ai) h
    obtain ⟨G2, f1, f2, f3⟩ := ih G1 (cs ++ [a]) ((d3 112 5 (fun z => by unfold EY at z; omega)).trans g5) d2
    refine ⟨G2, fun r l1 l2 => ?_, by rw [List.append_assoc] at f2; exact f2, fxTr d3 f3⟩
    rw [x209_110]
    simp only [x209_0, x209_1, x209_3, x209_6, x209_7, x209_10, x209_13, x209_14, x209_17, x209_18, x209_19, x209_21, x209_24, x209_25, x209_27, x209_28, x209_31, x209_34, x209_35, x209_36, x209_39, x209_40, x209_41, x209_44, x209_47, x209_48, x209_49, x209_52, x209_55, x209_58, x209_59, x209_61, x209_62, x209_65, x209_68, x209_69, x209_70, x209_73, x209_76, x209_80, x209_84, x209_87, x209_88, x209_91, x209_94, x209_95, x209_98, x209_101, x209_102, x209_105, x209_106, x209_107, x209_111, x209_114, x209_117, x209_118, x209_121, x209_124, x209_125, x209_128, x209_131, sh_112, sh_113, sh_114, sh_115, sh_116, sh_117, sh_118, sh_119, sh_120, sh_121, sh_122, sh_123, sh_124, sh_125, sh_126, sh_127, sh_128, sh_129, sh_130, sh_131, sh_132, sh_133, sh_134, sh_135, sh_136, sh_137, sh_138, sh_139, sh_140, sh_141, sh_142, sh_143, sh_144, sh_145, sh_146, sh_147, sh_148, sh_149, sh_150, sh_151, sh_152, sh_153, sh_154, sh_155, sh_156, sh_157, sh_158, sh_159, sh_160, sh_161, sh_162, sh_163, sh_164, sh_165, sh_166, sh_167, sh_168, sh_169, sh_170, sh_171, sh_172, sh_173, sh_174, sh_175, sh_176, sh_177, sh_178, lq_112, lq_113, lq_114, lq_115, lq_116, lq_117, lq_118, lq_119, lq_120, lq_121, lq_122, lq_123, lq_124, lq_125, lq_126, lq_127, lq_128, lq_129, lq_130, lq_131, lq_132, lq_133, lq_134, lq_135, lq_136, lq_137, lq_138, lq_139, lq_140, lq_141, lq_142, lq_143, lq_144, lq_145, lq_146, lq_147, lq_148, lq_149, lq_150, lq_151, lq_152, lq_153, lq_154, lq_155, lq_156, lq_157, lq_158, lq_159, lq_160, lq_161, lq_162, lq_163, lq_164, lq_165, lq_166, lq_167, lq_168, lq_169, lq_170, lq_171, lq_172, lq_173, lq_174, lq_175, lq_176, lq_177, lq_178, rg_112_0, rg_112_9, rg_112_10, rg_112_11, rg_112_12, rg_112_13, rg_112_14, rg_112_15, rg_112_16, rg_112_17, rg_112_18, rg_112_19, rg_112_20, rg_112_21, rg_112_22, rg_112_23, rg_112_24, rg_112_25, rg_112_26, rg_112_27, rg_112_28, rg_112_29, rg_112_30, rg_112_31, rg_112_32, rg_112_33, rg_112_34, rg_112_35, rg_112_36, rg_112_37, rg_112_38, rg_112_39, rg_112_40, rg_112_41, rg_112_43, rg_112_44, rg_112_45, rg_112_46, rg_112_47, rg_112_48, rg_112_49, rg_112_51, rg_112_55, rg_112_57, rg_112_60, rg_112_61, rg_112_62, rg_112_63, rg_112_64, rg_112_66, rg_112_67, rg_112_68, rg_112_69, rg_112_70, rg_112_71, rg_112_72, rg_112_73, rg_112_74, rg_112_80, rg_112_83, rg_112_84, rg_112_85, rg_112_86, rg_112_90, rg_112_91, rg_112_92, ex5, Option.toList_some, Option.toList_none, List.cons_append, List.nil_append, true_and, and_true, nI_1, p_at, p_set, p_isIn, p_max, p_min, p_abs, g5, b1, c1, if_true, if_false, d1]
    exact f1 r l1 l2
theorem r_testLoop (hX : TX T n c) : ∀ (f : Nat) (p z : Pz) (ws : List Nat) (I : Nat → Nat → Int32), YtF T n c 6 f false p ws z → OKT ws → opnT ws ≤ 6 → TB I T → KT I → RS I T n c p.1 → YS I p.2 ws → p.2.length + ws.length + 2 ≤ p.1.2.2 → I 112 59 = nI (opnT ws) → ∃ G, (∀ r l2, Ev L xs 7 209 2 [some (.ref 112), some (.int 1), l2] [] (179, I, Lm, RG nw sp s2 ai) r ↔ r = (none, 179, G, Lm, RG nw sp s2 ai)) ∧ RS G T n c z.1 ∧ (z.1.1 = 0 → YS G z.2 []) ∧ (∃ l, G 112 56 = nI l ∧ l ≤ 1600) ∧ FX I G EQ := by
  intro f
  induction f using Nat.strongRecOn with
  | ind f ih =>
    intro p z ws I h ok h6 hTB hKT hR hY hl ho
    cases f with
    | zero => exact False.elim h
    | succ f =>
      have h : p.1.1 = 0 ∧ YtF T n c 6 f true (onT T n c (6 - opnT ws) p ws).1 (onT T n c (6 - opnT ws) p ws).2 z := h
      obtain ⟨hp, h1⟩ := h
      cases f with
      | zero => exact False.elim h1
      | succ f =>
        obtain ⟨G1, a1, a2, a3, a4, a5, a6⟩ := r_oneT (Lm := Lm) (L := L) (xs := xs) (nw := nw) (sp := sp) (s2 := s2) (ai := ai) (6 - opnT ws) I p ws (by omega) ok hTB hKT hX hR hp hY hl ho
        obtain ⟨p1, hp1⟩ : ∃ y, (onT T n c (6 - opnT ws) p ws).1 = y := ⟨_, rfl⟩
        obtain ⟨w1, hw1⟩ : ∃ y, (onT T n c (6 - opnT ws) p ws).2 = y := ⟨_, rfl⟩
        rw [hp1] at a1 a2 a3
        rw [hp1, hw1] at a4 h1
        have tb1 := a6.tbE eQB hTB
        have kt1 := a6.ktE eQB hKT
        have h1 : (¬ p1.1.1 = 0 ∧ z.1 = p1.1) ∨ (p1.1.1 = 0 ∧ ((∃ ws2, (goT T n c p1 w1).2 = some ws2 ∧ YtF T n c 6 f false (goT T n c p1 w1).1 ws2 z) ∨ ((goT T n c p1 w1).2 = none ∧ z.1 = (goT T n c p1 w1).1.1 ∧ (z.1.1 = 0 → z.2 = (goT T n c p1 w1).1.2)))) := h1
        rcases h1 with ⟨hb1, hz⟩ | ⟨hg1, h2⟩
        · exact ⟨G1, fun r l2 => a2 hb1 r l2, by rw [hz]; exact a3, fun y => (hb1 (by rw [← hz]; exact y)).elim, a5, a6⟩
        · obtain ⟨v, a1⟩ := a1 hg1
          obtain ⟨y1, y2, y3, y4, y5⟩ := a4 hg1
          have g51 := (rs_good a3 hg1).1
          obtain ⟨G2, b1, b2, b3, b4⟩ := r_dropsNots (Lm := Lm) (L := L) (xs := xs) (nw := nw) (sp := sp) (s2 := s2) (ai := ai) g51 y1 y3
          obtain ⟨ok2, ht2⟩ := okN (cs := p1.2) y4
          have l1 := lenN (ws := w1) (cs := p1.2)
          have R2 := rsD b3 a3
          have g52 := (rs_good R2 hg1).1
          have F2 : FX I G2 EQ := fxTr a6 (fxSub b3 eDQ)
          have go : goT T n c p1 w1 = opT T n c (clT T n c w1.length (p1.1, (drN p1.2 w1).1) (drN p1.2 w1).2).1 (clT T n c w1.length (p1.1, (drN p1.2 w1).1) (drN p1.2 w1).2).2 := rfl
          rw [go] at h2
          have hop := opT_le (T := T) (n := n) (c := c) (f := w1.length) (p := (p1.1, (drN p1.2 w1).1)) (ws := (drN p1.2 w1).2)
          have hop2 := opN_le (cs := p1.2) (ws := w1)
          rcases r_goesT (Lm := Lm) (L := L) (xs := xs) (nw := nw) (sp := sp) (s2 := s2) (ai := ai) (p := (p1.1, (drN p1.2 w1).1)) (ws := (drN p1.2 w1).2) (f := w1.length) (drN_len (cs := p1.2)) ok2 ht2 (F2.tbE eQB hTB) (F2.ktE eQB hKT) hX R2 hg1 b2 (by show (drN p1.2 w1).1.length + (drN p1.2 w1).2.length + 2 ≤ p1.1.2.2; omega) b4 with ⟨G3, q2, cs, ws2, d1, d2, d3, d4, d5, d6⟩ | ⟨G3, q2, cs2, ws2, d1, d2, d3, d4, d5, d6, d7, d8, d9, d10⟩
          · rcases h2 with ⟨ws3, e1, -⟩ | ⟨-, e2, e3⟩
            · rw [d2] at e1
              have e1 : none = some ws3 := e1
              cases e1
            · rw [d2] at e2 e3
              have e2 : z.1 = q2 := e2
              have e3 : z.1.1 = 0 → z.2 = cs ++ ws2 := e3
              by_cases hq : q2.1 = 0
              · have q7 := (rs_good d3 hq).1
                obtain ⟨G4, f1, f2, f3⟩ := r_dropAllT (Lm := Lm) (L := L) (xs := xs) (nw := nw) (sp := sp) (s2 := s2) (ai := ai) ws2 G3 cs q7 d4
                have lb : (cs ++ ws2).length = cs.length + ws2.length := List.length_append
                refine ⟨G4, fun r l2 => ?_, by rw [e2]; exact rsY f3 d3, fun y => by rw [e3 y]; exact f2, ⟨(cs ++ ws2).length, f2.1.1, by omega⟩, fxTr (fxTr F2 d6) (fxSub f3 eYQ)⟩
                rw [a1, x209_83]
                simp only [x209_0, x209_1, x209_3, x209_6, x209_7, x209_10, x209_13, x209_14, x209_17, x209_18, x209_19, x209_21, x209_24, x209_25, x209_27, x209_28, x209_31, x209_34, x209_35, x209_36, x209_39, x209_40, x209_41, x209_44, x209_47, x209_48, x209_49, x209_52, x209_55, x209_58, x209_59, x209_61, x209_62, x209_65, x209_68, x209_69, x209_70, x209_73, x209_76, x209_80, x209_84, x209_87, x209_88, x209_91, x209_94, x209_95, x209_98, x209_101, x209_102, x209_105, x209_106, x209_107, x209_111, x209_114, x209_117, x209_118, x209_121, x209_124, x209_125, x209_128, x209_131, sh_112, sh_113, sh_114, sh_115, sh_116, sh_117, sh_118, sh_119, sh_120, sh_121, sh_122, sh_123, sh_124, sh_125, sh_126, sh_127, sh_128, sh_129, sh_130, sh_131, sh_132, sh_133, sh_134, sh_135, sh_136, sh_137, sh_138, sh_139, sh_140, sh_141, sh_142, sh_143, sh_144, sh_145, sh_146, sh_147, sh_148, sh_149, sh_150, sh_151, sh_152, sh_153, sh_154, sh_155, sh_156, sh_157, sh_158, sh_159, sh_160, sh_161, sh_162, sh_163, sh_164, sh_165, sh_166, sh_167, sh_168, sh_169, sh_170, sh_171, sh_172, sh_173, sh_174, sh_175, sh_176, sh_177, sh_178, lq_112, lq_113, lq_114, lq_115, lq_116, lq_117, lq_118, lq_119, lq_120, lq_121, lq_122, lq_123, lq_124, lq_125, lq_126, lq_127, lq_128, lq_129, lq_130, lq_131, lq_132, lq_133, lq_134, lq_135, lq_136, lq_137, lq_138, lq_139, lq_140, lq_141, lq_142, lq_143, lq_144, lq_145, lq_146, lq_147, lq_148, lq_149, lq_150, lq_151, lq_152, lq_153, lq_154, lq_155, lq_156, lq_157, lq_158, lq_159, lq_160, lq_161, lq_162, lq_163, lq_164, lq_165, lq_166, lq_167, lq_168, lq_169, lq_170, lq_171, lq_172, lq_173, lq_174, lq_175, lq_176, lq_177, lq_178, rg_112_0, rg_112_9, rg_112_10, rg_112_11, rg_112_12, rg_112_13, rg_112_14, rg_112_15, rg_112_16, rg_112_17, rg_112_18, rg_112_19, rg_112_20, rg_112_21, rg_112_22, rg_112_23, rg_112_24, rg_112_25, rg_112_26, rg_112_27, rg_112_28, rg_112_29, rg_112_30, rg_112_31, rg_112_32, rg_112_33, rg_112_34, rg_112_35, rg_112_36, rg_112_37, rg_112_38, rg_112_39, rg_112_40, rg_112_41, rg_112_43, rg_112_44, rg_112_45, rg_112_46, rg_112_47, rg_112_48, rg_112_49, rg_112_51, rg_112_55, rg_112_57, rg_112_60, rg_112_61, rg_112_62, rg_112_63, rg_112_64, rg_112_66, rg_112_67, rg_112_68, rg_112_69, rg_112_70, rg_112_71, rg_112_72, rg_112_73, rg_112_74, rg_112_80, rg_112_83, rg_112_84, rg_112_85, rg_112_86, rg_112_90, rg_112_91, rg_112_92, ex5, Option.toList_some, Option.toList_none, List.cons_append, List.nil_append, true_and, and_true, nI_1, p_at, p_set, p_isIn, p_max, p_min, p_abs, b1, g52, if_true, d1]
                rw [x209_2]
                simp only [x209_0, x209_1, x209_3, x209_6, x209_7, x209_10, x209_13, x209_14, x209_17, x209_18, x209_19, x209_21, x209_24, x209_25, x209_27, x209_28, x209_31, x209_34, x209_35, x209_36, x209_39, x209_40, x209_41, x209_44, x209_47, x209_48, x209_49, x209_52, x209_55, x209_58, x209_59, x209_61, x209_62, x209_65, x209_68, x209_69, x209_70, x209_73, x209_76, x209_80, x209_84, x209_87, x209_88, x209_91, x209_94, x209_95, x209_98, x209_101, x209_102, x209_105, x209_106, x209_107, x209_111, x209_114, x209_117, x209_118, x209_121, x209_124, x209_125, x209_128, x209_131, sh_112, sh_113, sh_114, sh_115, sh_116, sh_117, sh_118, sh_119, sh_120, sh_121, sh_122, sh_123, sh_124, sh_125, sh_126, sh_127, sh_128, sh_129, sh_130, sh_131, sh_132, sh_133, sh_134, sh_135, sh_136, sh_137, sh_138, sh_139, sh_140, sh_141, sh_142, sh_143, sh_144, sh_145, sh_146, sh_147, sh_148, sh_149, sh_150, sh_151, sh_152, sh_153, sh_154, sh_155, sh_156, sh_157, sh_158, sh_159, sh_160, sh_161, sh_162, sh_163, sh_164, sh_165, sh_166, sh_167, sh_168, sh_169, sh_170, sh_171, sh_172, sh_173, sh_174, sh_175, sh_176, sh_177, sh_178, lq_112, lq_113, lq_114, lq_115, lq_116, lq_117, lq_118, lq_119, lq_120, lq_121, lq_122, lq_123, lq_124, lq_125, lq_126, lq_127, lq_128, lq_129, lq_130, lq_131, lq_132, lq_133, lq_134, lq_135, lq_136, lq_137, lq_138, lq_139, lq_140, lq_141, lq_142, lq_143, lq_144, lq_145, lq_146, lq_147, lq_148, lq_149, lq_150, lq_151, lq_152, lq_153, lq_154, lq_155, lq_156, lq_157, lq_158, lq_159, lq_160, lq_161, lq_162, lq_163, lq_164, lq_165, lq_166, lq_167, lq_168, lq_169, lq_170, lq_171, lq_172, lq_173, lq_174, lq_175, lq_176, lq_177, lq_178, rg_112_0, rg_112_9, rg_112_10, rg_112_11, rg_112_12, rg_112_13, rg_112_14, rg_112_15, rg_112_16, rg_112_17, rg_112_18, rg_112_19, rg_112_20, rg_112_21, rg_112_22, rg_112_23, rg_112_24, rg_112_25, rg_112_26, rg_112_27, rg_112_28, rg_112_29, rg_112_30, rg_112_31, rg_112_32, rg_112_33, rg_112_34, rg_112_35, rg_112_36, rg_112_37, rg_112_38, rg_112_39, rg_112_40, rg_112_41, rg_112_43, rg_112_44, rg_112_45, rg_112_46, rg_112_47, rg_112_48, rg_112_49, rg_112_51, rg_112_55, rg_112_57, rg_112_60, rg_112_61, rg_112_62, rg_112_63, rg_112_64, rg_112_66, rg_112_67, rg_112_68, rg_112_69, rg_112_70, rg_112_71, rg_112_72, rg_112_73, rg_112_74, rg_112_80, rg_112_83, rg_112_84, rg_112_85, rg_112_86, rg_112_90, rg_112_91, rg_112_92, ex5, Option.toList_some, Option.toList_none, List.cons_append, List.nil_append, true_and, and_true, nI_1, p_at, p_set, p_isIn, p_max, p_min, p_abs, if_true]
                rw [f1]
              · have q8 := rs_bad5 d3 hq
                refine ⟨G3, fun r l2 => ?_, by rw [e2]; exact d3, fun y => (hq (by rw [← e2]; exact y)).elim, ⟨cs.length, d4.1.1, by omega⟩, fxTr F2 d6⟩
                rw [a1, x209_83]
                simp only [x209_0, x209_1, x209_3, x209_6, x209_7, x209_10, x209_13, x209_14, x209_17, x209_18, x209_19, x209_21, x209_24, x209_25, x209_27, x209_28, x209_31, x209_34, x209_35, x209_36, x209_39, x209_40, x209_41, x209_44, x209_47, x209_48, x209_49, x209_52, x209_55, x209_58, x209_59, x209_61, x209_62, x209_65, x209_68, x209_69, x209_70, x209_73, x209_76, x209_80, x209_84, x209_87, x209_88, x209_91, x209_94, x209_95, x209_98, x209_101, x209_102, x209_105, x209_106, x209_107, x209_111, x209_114, x209_117, x209_118, x209_121, x209_124, x209_125, x209_128, x209_131, sh_112, sh_113, sh_114, sh_115, sh_116, sh_117, sh_118, sh_119, sh_120, sh_121, sh_122, sh_123, sh_124, sh_125, sh_126, sh_127, sh_128, sh_129, sh_130, sh_131, sh_132, sh_133, sh_134, sh_135, sh_136, sh_137, sh_138, sh_139, sh_140, sh_141, sh_142, sh_143, sh_144, sh_145, sh_146, sh_147, sh_148, sh_149, sh_150, sh_151, sh_152, sh_153, sh_154, sh_155, sh_156, sh_157, sh_158, sh_159, sh_160, sh_161, sh_162, sh_163, sh_164, sh_165, sh_166, sh_167, sh_168, sh_169, sh_170, sh_171, sh_172, sh_173, sh_174, sh_175, sh_176, sh_177, sh_178, lq_112, lq_113, lq_114, lq_115, lq_116, lq_117, lq_118, lq_119, lq_120, lq_121, lq_122, lq_123, lq_124, lq_125, lq_126, lq_127, lq_128, lq_129, lq_130, lq_131, lq_132, lq_133, lq_134, lq_135, lq_136, lq_137, lq_138, lq_139, lq_140, lq_141, lq_142, lq_143, lq_144, lq_145, lq_146, lq_147, lq_148, lq_149, lq_150, lq_151, lq_152, lq_153, lq_154, lq_155, lq_156, lq_157, lq_158, lq_159, lq_160, lq_161, lq_162, lq_163, lq_164, lq_165, lq_166, lq_167, lq_168, lq_169, lq_170, lq_171, lq_172, lq_173, lq_174, lq_175, lq_176, lq_177, lq_178, rg_112_0, rg_112_9, rg_112_10, rg_112_11, rg_112_12, rg_112_13, rg_112_14, rg_112_15, rg_112_16, rg_112_17, rg_112_18, rg_112_19, rg_112_20, rg_112_21, rg_112_22, rg_112_23, rg_112_24, rg_112_25, rg_112_26, rg_112_27, rg_112_28, rg_112_29, rg_112_30, rg_112_31, rg_112_32, rg_112_33, rg_112_34, rg_112_35, rg_112_36, rg_112_37, rg_112_38, rg_112_39, rg_112_40, rg_112_41, rg_112_43, rg_112_44, rg_112_45, rg_112_46, rg_112_47, rg_112_48, rg_112_49, rg_112_51, rg_112_55, rg_112_57, rg_112_60, rg_112_61, rg_112_62, rg_112_63, rg_112_64, rg_112_66, rg_112_67, rg_112_68, rg_112_69, rg_112_70, rg_112_71, rg_112_72, rg_112_73, rg_112_74, rg_112_80, rg_112_83, rg_112_84, rg_112_85, rg_112_86, rg_112_90, rg_112_91, rg_112_92, ex5, Option.toList_some, Option.toList_none, List.cons_append, List.nil_append, true_and, and_true, nI_1, p_at, p_set, p_isIn, p_max, p_min, p_abs, b1, g52, if_true, d1]
                exact op_badT (Lm := Lm) (L := L) (xs := xs) (nw := nw) (sp := sp) (s2 := s2) (ai := ai) q8 _ _ r
          · rcases h2 with ⟨ws3, e1, e2⟩ | ⟨e1, -, -⟩
            · rw [d2] at e1 e2
              have e1 : some ws2 = some ws3 := e1
              cases e1
              obtain ⟨G4, k1, k2, k3, k4, k5⟩ := ih f (by omega) (q2, cs2) z ws2 G3 e2 d9 (by omega) (d7.tbE eQB (F2.tbE eQB hTB)) (d7.ktE eQB (F2.ktE eQB hKT)) d4 d5 d6 d8
              refine ⟨G4, fun r l2 => ?_, k2, k3, k4, fxTr (fxTr F2 d7) k5⟩
              rw [a1, x209_83]
              simp only [x209_0, x209_1, x209_3, x209_6, x209_7, x209_10, x209_13, x209_14, x209_17, x209_18, x209_19, x209_21, x209_24, x209_25, x209_27, x209_28, x209_31, x209_34, x209_35, x209_36, x209_39, x209_40, x209_41, x209_44, x209_47, x209_48, x209_49, x209_52, x209_55, x209_58, x209_59, x209_61, x209_62, x209_65, x209_68, x209_69, x209_70, x209_73, x209_76, x209_80, x209_84, x209_87, x209_88, x209_91, x209_94, x209_95, x209_98, x209_101, x209_102, x209_105, x209_106, x209_107, x209_111, x209_114, x209_117, x209_118, x209_121, x209_124, x209_125, x209_128, x209_131, sh_112, sh_113, sh_114, sh_115, sh_116, sh_117, sh_118, sh_119, sh_120, sh_121, sh_122, sh_123, sh_124, sh_125, sh_126, sh_127, sh_128, sh_129, sh_130, sh_131, sh_132, sh_133, sh_134, sh_135, sh_136, sh_137, sh_138, sh_139, sh_140, sh_141, sh_142, sh_143, sh_144, sh_145, sh_146, sh_147, sh_148, sh_149, sh_150, sh_151, sh_152, sh_153, sh_154, sh_155, sh_156, sh_157, sh_158, sh_159, sh_160, sh_161, sh_162, sh_163, sh_164, sh_165, sh_166, sh_167, sh_168, sh_169, sh_170, sh_171, sh_172, sh_173, sh_174, sh_175, sh_176, sh_177, sh_178, lq_112, lq_113, lq_114, lq_115, lq_116, lq_117, lq_118, lq_119, lq_120, lq_121, lq_122, lq_123, lq_124, lq_125, lq_126, lq_127, lq_128, lq_129, lq_130, lq_131, lq_132, lq_133, lq_134, lq_135, lq_136, lq_137, lq_138, lq_139, lq_140, lq_141, lq_142, lq_143, lq_144, lq_145, lq_146, lq_147, lq_148, lq_149, lq_150, lq_151, lq_152, lq_153, lq_154, lq_155, lq_156, lq_157, lq_158, lq_159, lq_160, lq_161, lq_162, lq_163, lq_164, lq_165, lq_166, lq_167, lq_168, lq_169, lq_170, lq_171, lq_172, lq_173, lq_174, lq_175, lq_176, lq_177, lq_178, rg_112_0, rg_112_9, rg_112_10, rg_112_11, rg_112_12, rg_112_13, rg_112_14, rg_112_15, rg_112_16, rg_112_17, rg_112_18, rg_112_19, rg_112_20, rg_112_21, rg_112_22, rg_112_23, rg_112_24, rg_112_25, rg_112_26, rg_112_27, rg_112_28, rg_112_29, rg_112_30, rg_112_31, rg_112_32, rg_112_33, rg_112_34, rg_112_35, rg_112_36, rg_112_37, rg_112_38, rg_112_39, rg_112_40, rg_112_41, rg_112_43, rg_112_44, rg_112_45, rg_112_46, rg_112_47, rg_112_48, rg_112_49, rg_112_51, rg_112_55, rg_112_57, rg_112_60, rg_112_61, rg_112_62, rg_112_63, rg_112_64, rg_112_66, rg_112_67, rg_112_68, rg_112_69, rg_112_70, rg_112_71, rg_112_72, rg_112_73, rg_112_74, rg_112_80, rg_112_83, rg_112_84, rg_112_85, rg_112_86, rg_112_90, rg_112_91, rg_112_92, ex5, Option.toList_some, Option.toList_none, List.cons_append, List.nil_append, true_and, and_true, nI_1, p_at, p_set, p_isIn, p_max, p_min, p_abs, b1, g52, if_true, d1, one_ne, if_false]
              exact k1 r _
            · rw [d2] at e1
              have e1 : some ws2 = none := e1
              cases e1
theorem r_test (hTB : TB I T) (hKT : KT I) (hX : TX T n c) (hR : RS I T n c p.1) (hp : p.1.1 = 0) (hY : YS I p.2 []) (hl : p.2.length + 2 ≤ p.1.2.2) (ho : I 112 59 = 0) : ∃ G, (∀ r, Em L xs 209 [.ref 112] (179, I, Lm, RG nw sp s2 ai) r ↔ r = (none, 179, G, Lm, RG nw sp s2 ai)) ∧ RS G T n c (pTest T n c 6 p).1 ∧ ((pTest T n c 6 p).1.1 = 0 → YS G (pTest T n c 6 p).2 []) ∧ (∃ l, G 112 56 = nI l ∧ l ≤ 1600) ∧ FX I G EQ := by
  obtain ⟨f, h⟩ := yt_test (T := T) (n := n) (c := c) (g := 6) (p := p) (Nat.le_trans hX.2.1 hX.1) hp
  obtain ⟨G, a1, a2⟩ := r_testLoop (Lm := Lm) (L := L) (xs := xs) (nw := nw) (sp := sp) (s2 := s2) (ai := ai) hX f p _ [] I h True.intro (Nat.zero_le _) hTB hKT hR hY hl ho
  refine ⟨G, fun r => ?_, a2⟩
  rw [em_209]
  simp only [x209_0, x209_1, x209_3, x209_6, x209_7, x209_10, x209_13, x209_14, x209_17, x209_18, x209_19, x209_21, x209_24, x209_25, x209_27, x209_28, x209_31, x209_34, x209_35, x209_36, x209_39, x209_40, x209_41, x209_44, x209_47, x209_48, x209_49, x209_52, x209_55, x209_58, x209_59, x209_61, x209_62, x209_65, x209_68, x209_69, x209_70, x209_73, x209_76, x209_80, x209_84, x209_87, x209_88, x209_91, x209_94, x209_95, x209_98, x209_101, x209_102, x209_105, x209_106, x209_107, x209_111, x209_114, x209_117, x209_118, x209_121, x209_124, x209_125, x209_128, x209_131, sh_112, sh_113, sh_114, sh_115, sh_116, sh_117, sh_118, sh_119, sh_120, sh_121, sh_122, sh_123, sh_124, sh_125, sh_126, sh_127, sh_128, sh_129, sh_130, sh_131, sh_132, sh_133, sh_134, sh_135, sh_136, sh_137, sh_138, sh_139, sh_140, sh_141, sh_142, sh_143, sh_144, sh_145, sh_146, sh_147, sh_148, sh_149, sh_150, sh_151, sh_152, sh_153, sh_154, sh_155, sh_156, sh_157, sh_158, sh_159, sh_160, sh_161, sh_162, sh_163, sh_164, sh_165, sh_166, sh_167, sh_168, sh_169, sh_170, sh_171, sh_172, sh_173, sh_174, sh_175, sh_176, sh_177, sh_178, lq_112, lq_113, lq_114, lq_115, lq_116, lq_117, lq_118, lq_119, lq_120, lq_121, lq_122, lq_123, lq_124, lq_125, lq_126, lq_127, lq_128, lq_129, lq_130, lq_131, lq_132, lq_133, lq_134, lq_135, lq_136, lq_137, lq_138, lq_139, lq_140, lq_141, lq_142, lq_143, lq_144, lq_145, lq_146, lq_147, lq_148, lq_149, lq_150, lq_151, lq_152, lq_153, lq_154, lq_155, lq_156, lq_157, lq_158, lq_159, lq_160, lq_161, lq_162, lq_163, lq_164, lq_165, lq_166, lq_167, lq_168, lq_169, lq_170, lq_171, lq_172, lq_173, lq_174, lq_175, lq_176, lq_177, lq_178, rg_112_0, rg_112_9, rg_112_10, rg_112_11, rg_112_12, rg_112_13, rg_112_14, rg_112_15, rg_112_16, rg_112_17, rg_112_18, rg_112_19, rg_112_20, rg_112_21, rg_112_22, rg_112_23, rg_112_24, rg_112_25, rg_112_26, rg_112_27, rg_112_28, rg_112_29, rg_112_30, rg_112_31, rg_112_32, rg_112_33, rg_112_34, rg_112_35, rg_112_36, rg_112_37, rg_112_38, rg_112_39, rg_112_40, rg_112_41, rg_112_43, rg_112_44, rg_112_45, rg_112_46, rg_112_47, rg_112_48, rg_112_49, rg_112_51, rg_112_55, rg_112_57, rg_112_60, rg_112_61, rg_112_62, rg_112_63, rg_112_64, rg_112_66, rg_112_67, rg_112_68, rg_112_69, rg_112_70, rg_112_71, rg_112_72, rg_112_73, rg_112_74, rg_112_80, rg_112_83, rg_112_84, rg_112_85, rg_112_86, rg_112_90, rg_112_91, rg_112_92, ex5, Option.toList_some, Option.toList_none, List.cons_append, List.nil_append, true_and, and_true, nI_1, p_at, p_set, p_isIn, p_max, p_min, p_abs]
  exact a1 r _
end
