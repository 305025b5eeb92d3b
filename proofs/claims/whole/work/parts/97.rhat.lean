/-! the reference reads: hats, persons, who is in, pairs -/
section
variable {L : Nat} {xs : Nat → Int32} {σ : Mm} {r : Option Value × Mm} {I J K : Nat → Nat → Int32} {Lm : Nat → Nat → Int64} {Rm : Nat → Nat → Nat} {n s so t N NS NH m M P nw S U : Nat} {V W : Vw} {sp s2 ai p : Nat} {x y z h v : Int32} {k c w lo hi kd pl : Nat} {T : Nat → Nat} {q : Rz} {f : Nat → Int32} {E E2 : Nat → Nat → Prop} {Lk : Nat → Nat → Int64} {G : Nat → Nat → Int32} {NS2 NH2 N2 : Nat} {V2 : Vw}
theorem r_sortF (hR : RdM I Lm V NS NH N M P) (hc : NS = 6) (h : RS I T n c q) (hb : q.1 = 0) : ∃ G, (∀ r, Em L xs 187 [.ref 112, .int (nI pl)] (179, I, Lm, RG nw sp s2 ai) r ↔ r = (none, 179, G, Lm, RG nw sp s2 ai)) ∧ RS G T n c (5, pl, 0) ∧ RFr I G := by
  have j0 : inb (0 : Int32) 6 = True := eq_true (by decide)
  have k0 : ixn (0 : Int32) = 0 := rfl
  have c0 : I 148 0 = 6 := ((hR.1 0 (by decide)).1).trans (by show nI NS = _; rw [hc]; rfl)
  obtain ⟨G, a1, a2, a3⟩ := r_noroom (has := 6) (pl := pl) (Lm := Lm) (L := L) (xs := xs) (nw := nw) (sp := sp) (s2 := s2) (ai := ai) (by decide) h hb
  have a1 : ∀ r, Em L xs 186 [.ref 112, .int 6, .int 6, .int (nI pl)] (179, I, Lm, RG nw sp s2 ai) r ↔ r = (some (.int 1), 179, G, Lm, RG nw sp s2 ai) := fun r => a1 r
  refine ⟨G, fun r => ?_, a2, a3⟩
  rw [em_187]
  simp only [x187_0, x187_1, x187_2, x187_5, x187_6, x187_7, x187_9, x187_10, x187_13, x187_16, x187_17, x187_18, x187_19, x187_20, x187_23, x187_24, x187_25, x187_26, x187_27, x187_30, x187_33, x187_34, x187_37, x187_38, x187_39, x187_40, x187_42, x187_45, x187_46, x187_47, x187_48, x187_51, x187_54, x187_55, x187_58, x187_59, x187_60, x187_61, x187_62, x187_63, x187_65, x187_68, x187_69, x187_70, x187_71, x187_74, x187_77, x187_78, x187_81, x187_82, x187_83, x187_84, x187_85, x187_86, x187_88, x187_91, x187_92, x187_93, x187_94, x187_97, x187_100, x187_101, x187_104, x187_105, x187_106, x187_107, x187_108, x187_109, x187_112, x187_115, x187_116, x187_117, x187_118, x187_121, x187_124, x187_125, x187_128, x187_129, x187_130, x187_131, x187_132, x187_133, x187_135, x187_138, x187_139, sh_112, sh_113, sh_114, sh_115, sh_116, sh_117, sh_118, sh_119, sh_120, sh_121, sh_122, sh_123, sh_124, sh_125, sh_126, sh_127, sh_128, sh_129, sh_130, sh_131, sh_132, sh_133, sh_134, sh_135, sh_136, sh_137, sh_138, sh_139, sh_140, sh_141, sh_142, sh_143, sh_144, sh_145, sh_146, sh_147, sh_148, sh_149, sh_150, sh_151, sh_152, sh_153, sh_154, sh_155, sh_156, sh_157, sh_158, sh_159, sh_160, sh_161, sh_162, sh_163, sh_164, sh_165, sh_166, sh_167, sh_168, sh_169, sh_170, sh_171, sh_172, sh_173, sh_174, sh_175, sh_176, sh_177, sh_178, lq_112, lq_113, lq_114, lq_115, lq_116, lq_117, lq_118, lq_119, lq_120, lq_121, lq_122, lq_123, lq_124, lq_125, lq_126, lq_127, lq_128, lq_129, lq_130, lq_131, lq_132, lq_133, lq_134, lq_135, lq_136, lq_137, lq_138, lq_139, lq_140, lq_141, lq_142, lq_143, lq_144, lq_145, lq_146, lq_147, lq_148, lq_149, lq_150, lq_151, lq_152, lq_153, lq_154, lq_155, lq_156, lq_157, lq_158, lq_159, lq_160, lq_161, lq_162, lq_163, lq_164, lq_165, lq_166, lq_167, lq_168, lq_169, lq_170, lq_171, lq_172, lq_173, lq_174, lq_175, lq_176, lq_177, lq_178, rg_112_0, rg_112_9, rg_112_10, rg_112_11, rg_112_12, rg_112_13, rg_112_14, rg_112_15, rg_112_16, rg_112_17, rg_112_18, rg_112_19, rg_112_20, rg_112_21, rg_112_22, rg_112_23, rg_112_24, rg_112_25, rg_112_26, rg_112_27, rg_112_28, rg_112_29, rg_112_30, rg_112_31, rg_112_32, rg_112_33, rg_112_34, rg_112_35, rg_112_36, rg_112_37, rg_112_38, rg_112_39, rg_112_40, rg_112_41, rg_112_43, rg_112_44, rg_112_45, rg_112_46, rg_112_47, rg_112_48, rg_112_49, rg_112_51, rg_112_55, rg_112_57, rg_112_60, rg_112_61, rg_112_62, rg_112_63, rg_112_64, rg_112_66, rg_112_67, rg_112_68, rg_112_69, rg_112_70, rg_112_71, rg_112_72, rg_112_73, rg_112_74, rg_112_80, rg_112_83, rg_112_84, rg_112_85, rg_112_86, rg_112_90, rg_112_91, rg_112_92, ex5, Option.toList_some, Option.toList_none, List.cons_append, List.nil_append, true_and, and_true, nI_1, p_at, p_set, p_isIn, p_max, p_min, p_abs, j0, k0, c0, a1, one_ne, if_false]
theorem r_hatF (hR : RdM I Lm V NS NH N M P) (hc : NH = 4) (h : RS I T n c q) (hb : q.1 = 0) : ∃ G, (∀ r, Em L xs 188 [.ref 112, .int (nI pl)] (179, I, Lm, RG nw sp s2 ai) r ↔ r = (none, 179, G, Lm, RG nw sp s2 ai)) ∧ RS G T n c (5, pl, 0) ∧ RFr I G := by
  have j0 : inb (1 : Int32) 6 = True := eq_true (by decide)
  have k0 : ixn (1 : Int32) = 1 := rfl
  have c0 : I 148 1 = 4 := ((hR.1 1 (by decide)).1).trans (by show nI NH = _; rw [hc]; rfl)
  obtain ⟨G, a1, a2, a3⟩ := r_noroom (has := 4) (pl := pl) (Lm := Lm) (L := L) (xs := xs) (nw := nw) (sp := sp) (s2 := s2) (ai := ai) (by decide) h hb
  have a1 : ∀ r, Em L xs 186 [.ref 112, .int 4, .int 4, .int (nI pl)] (179, I, Lm, RG nw sp s2 ai) r ↔ r = (some (.int 1), 179, G, Lm, RG nw sp s2 ai) := fun r => a1 r
  refine ⟨G, fun r => ?_, a2, a3⟩
  rw [em_188]
  simp only [x188_0, x188_1, x188_2, x188_5, x188_6, x188_7, x188_8, x188_9, x188_12, x188_15, x188_16, x188_17, x188_18, x188_19, x188_22, x188_23, x188_24, x188_25, x188_26, x188_29, x188_32, x188_33, x188_36, x188_37, x188_38, x188_39, x188_41, x188_44, x188_45, x188_46, x188_47, x188_50, x188_53, x188_54, x188_57, x188_58, x188_59, x188_60, x188_61, x188_62, x188_64, x188_67, x188_68, x188_69, x188_70, x188_73, x188_76, x188_77, x188_80, x188_81, x188_82, x188_83, x188_84, x188_85, x188_87, x188_90, x188_91, x188_92, x188_93, x188_96, x188_99, x188_102, x188_103, x188_106, x188_107, x188_108, x188_111, x188_114, x188_117, x188_118, x188_121, x188_122, x188_123, x188_126, x188_129, x188_132, x188_133, x188_136, x188_137, x188_138, x188_139, x188_140, x188_143, x188_144, x188_145, x188_148, x188_151, x188_152, x188_155, x188_156, x188_157, x188_158, x188_159, x188_160, sh_112, sh_113, sh_114, sh_115, sh_116, sh_117, sh_118, sh_119, sh_120, sh_121, sh_122, sh_123, sh_124, sh_125, sh_126, sh_127, sh_128, sh_129, sh_130, sh_131, sh_132, sh_133, sh_134, sh_135, sh_136, sh_137, sh_138, sh_139, sh_140, sh_141, sh_142, sh_143, sh_144, sh_145, sh_146, sh_147, sh_148, sh_149, sh_150, sh_151, sh_152, sh_153, sh_154, sh_155, sh_156, sh_157, sh_158, sh_159, sh_160, sh_161, sh_162, sh_163, sh_164, sh_165, sh_166, sh_167, sh_168, sh_169, sh_170, sh_171, sh_172, sh_173, sh_174, sh_175, sh_176, sh_177, sh_178, lq_112, lq_113, lq_114, lq_115, lq_116, lq_117, lq_118, lq_119, lq_120, lq_121, lq_122, lq_123, lq_124, lq_125, lq_126, lq_127, lq_128, lq_129, lq_130, lq_131, lq_132, lq_133, lq_134, lq_135, lq_136, lq_137, lq_138, lq_139, lq_140, lq_141, lq_142, lq_143, lq_144, lq_145, lq_146, lq_147, lq_148, lq_149, lq_150, lq_151, lq_152, lq_153, lq_154, lq_155, lq_156, lq_157, lq_158, lq_159, lq_160, lq_161, lq_162, lq_163, lq_164, lq_165, lq_166, lq_167, lq_168, lq_169, lq_170, lq_171, lq_172, lq_173, lq_174, lq_175, lq_176, lq_177, lq_178, rg_112_0, rg_112_9, rg_112_10, rg_112_11, rg_112_12, rg_112_13, rg_112_14, rg_112_15, rg_112_16, rg_112_17, rg_112_18, rg_112_19, rg_112_20, rg_112_21, rg_112_22, rg_112_23, rg_112_24, rg_112_25, rg_112_26, rg_112_27, rg_112_28, rg_112_29, rg_112_30, rg_112_31, rg_112_32, rg_112_33, rg_112_34, rg_112_35, rg_112_36, rg_112_37, rg_112_38, rg_112_39, rg_112_40, rg_112_41, rg_112_43, rg_112_44, rg_112_45, rg_112_46, rg_112_47, rg_112_48, rg_112_49, rg_112_51, rg_112_55, rg_112_57, rg_112_60, rg_112_61, rg_112_62, rg_112_63, rg_112_64, rg_112_66, rg_112_67, rg_112_68, rg_112_69, rg_112_70, rg_112_71, rg_112_72, rg_112_73, rg_112_74, rg_112_80, rg_112_83, rg_112_84, rg_112_85, rg_112_86, rg_112_90, rg_112_91, rg_112_92, ex5, Option.toList_some, Option.toList_none, List.cons_append, List.nil_append, true_and, and_true, nI_1, p_at, p_set, p_isIn, p_max, p_min, p_abs, j0, k0, c0, a1, one_ne, if_false]
theorem r_personF (hR : RdM I Lm V NS NH N M P) (hc : N = 12) (h : RS I T n c q) (hb : q.1 = 0) : ∃ G, (∀ r, Em L xs 189 [.ref 112, .int (nI pl)] (179, I, Lm, RG nw sp s2 ai) r ↔ r = (none, 179, G, Lm, RG nw sp s2 ai)) ∧ RS G T n c (5, pl, 0) ∧ RFr I G := by
  have j0 : inb (2 : Int32) 6 = True := eq_true (by decide)
  have k0 : ixn (2 : Int32) = 2 := rfl
  have c0 : I 148 2 = 12 := ((hR.1 2 (by decide)).1).trans (by show nI N = _; rw [hc]; rfl)
  obtain ⟨G, a1, a2, a3⟩ := r_noroom (has := 12) (pl := pl) (Lm := Lm) (L := L) (xs := xs) (nw := nw) (sp := sp) (s2 := s2) (ai := ai) (by decide) h hb
  have a1 : ∀ r, Em L xs 186 [.ref 112, .int 12, .int 12, .int (nI pl)] (179, I, Lm, RG nw sp s2 ai) r ↔ r = (some (.int 1), 179, G, Lm, RG nw sp s2 ai) := fun r => a1 r
  refine ⟨G, fun r => ?_, a2, a3⟩
  rw [em_189]
  simp only [x189_0, x189_1, x189_2, x189_5, x189_6, x189_7, x189_9, x189_10, x189_13, x189_16, x189_17, x189_18, x189_19, x189_22, x189_23, x189_24, x189_25, x189_28, x189_31, x189_32, x189_35, x189_36, x189_37, x189_38, x189_41, x189_42, x189_43, x189_46, x189_47, x189_48, x189_49, x189_50, x189_53, x189_54, x189_55, x189_56, sh_112, sh_113, sh_114, sh_115, sh_116, sh_117, sh_118, sh_119, sh_120, sh_121, sh_122, sh_123, sh_124, sh_125, sh_126, sh_127, sh_128, sh_129, sh_130, sh_131, sh_132, sh_133, sh_134, sh_135, sh_136, sh_137, sh_138, sh_139, sh_140, sh_141, sh_142, sh_143, sh_144, sh_145, sh_146, sh_147, sh_148, sh_149, sh_150, sh_151, sh_152, sh_153, sh_154, sh_155, sh_156, sh_157, sh_158, sh_159, sh_160, sh_161, sh_162, sh_163, sh_164, sh_165, sh_166, sh_167, sh_168, sh_169, sh_170, sh_171, sh_172, sh_173, sh_174, sh_175, sh_176, sh_177, sh_178, lq_112, lq_113, lq_114, lq_115, lq_116, lq_117, lq_118, lq_119, lq_120, lq_121, lq_122, lq_123, lq_124, lq_125, lq_126, lq_127, lq_128, lq_129, lq_130, lq_131, lq_132, lq_133, lq_134, lq_135, lq_136, lq_137, lq_138, lq_139, lq_140, lq_141, lq_142, lq_143, lq_144, lq_145, lq_146, lq_147, lq_148, lq_149, lq_150, lq_151, lq_152, lq_153, lq_154, lq_155, lq_156, lq_157, lq_158, lq_159, lq_160, lq_161, lq_162, lq_163, lq_164, lq_165, lq_166, lq_167, lq_168, lq_169, lq_170, lq_171, lq_172, lq_173, lq_174, lq_175, lq_176, lq_177, lq_178, rg_112_0, rg_112_9, rg_112_10, rg_112_11, rg_112_12, rg_112_13, rg_112_14, rg_112_15, rg_112_16, rg_112_17, rg_112_18, rg_112_19, rg_112_20, rg_112_21, rg_112_22, rg_112_23, rg_112_24, rg_112_25, rg_112_26, rg_112_27, rg_112_28, rg_112_29, rg_112_30, rg_112_31, rg_112_32, rg_112_33, rg_112_34, rg_112_35, rg_112_36, rg_112_37, rg_112_38, rg_112_39, rg_112_40, rg_112_41, rg_112_43, rg_112_44, rg_112_45, rg_112_46, rg_112_47, rg_112_48, rg_112_49, rg_112_51, rg_112_55, rg_112_57, rg_112_60, rg_112_61, rg_112_62, rg_112_63, rg_112_64, rg_112_66, rg_112_67, rg_112_68, rg_112_69, rg_112_70, rg_112_71, rg_112_72, rg_112_73, rg_112_74, rg_112_80, rg_112_83, rg_112_84, rg_112_85, rg_112_86, rg_112_90, rg_112_91, rg_112_92, ex5, Option.toList_some, Option.toList_none, List.cons_append, List.nil_append, true_and, and_true, nI_1, p_at, p_set, p_isIn, p_max, p_min, p_abs, j0, k0, c0, a1, one_ne, if_false]
/-- the kind of a hat -/
theorem r_kind (hTB : TB I T) (hKT : KT I) (hX : TX T n c) (h : RS I T n c q) : ∃ v G, (∀ r l1 l2 l3, Ev L xs 5 188 91 [some (.ref 112), l1, l2, l3] [] (179, I, Lm, RG nw sp s2 ai) r ↔ Ev L xs 5 188 151 [some (.ref 112), l1, l2, some (.int v)] [] (179, G, Lm, RG nw sp s2 ai) r) ∧ RS G T n c (kdQ T n c q) ∧ RFr I G ∧ ((kdQ T n c q).1 = 0 → v = kdX T n c q) := by
  have z3 : ((0 : Int32) = 3) = False := eq_false (by decide)
  have y3 : ((1 : Int32) = 3) = False := eq_false (by decide)
  have w3 : ((2 : Int32) = 3) = False := eq_false (by decide)
  have hit : ∀ {w}, q.1 = 0 → wq T n c q.2.2 = w → 11 ≤ w → w ≤ 14 → kdQ T n c q = (0, 0, q.2.2 + 1) := fun hb hw h1 h2 => by unfold kdQ; rw [if_pos hb, if_pos (by omega)]
  have hv : ∀ {w}, wq T n c q.2.2 = w → kdX T n c q = nI (w - 11) := fun hw => by unfold kdX; rw [hw]
  obtain ⟨G1, a1, b1, c1, -⟩ := r_takes (w := 11) (Lm := Lm) (L := L) (xs := xs) (nw := nw) (sp := sp) (s2 := s2) (ai := ai) (by decide) hTB hKT hX h
  have a1 : ∀ r, Em L xs 175 [.ref 112, .ref 125] (179, I, Lm, RG nw sp s2 ai) r ↔ r = (some (.int (if q.1 = 0 ∧ wq T n c q.2.2 = 11 then 1 else 0)), 179, G1, Lm, RG nw sp s2 ai) := fun r => a1 r
  by_cases d1 : q.1 = 0 ∧ wq T n c q.2.2 = 11
  · rw [if_pos d1] at a1
    rw [show tkz T n c 11 q = (0, 0, q.2.2 + 1) from if_pos d1] at b1
    refine ⟨0, G1, fun r l1 l2 l3 => ?_, by rw [hit d1.1 d1.2 (by decide) (by decide)]; exact b1, c1, fun _ => (hv d1.2).symm⟩
    rw [x188_91]
    simp only [x188_0, x188_1, x188_2, x188_5, x188_6, x188_7, x188_8, x188_9, x188_12, x188_15, x188_16, x188_17, x188_18, x188_19, x188_22, x188_23, x188_24, x188_25, x188_26, x188_29, x188_32, x188_33, x188_36, x188_37, x188_38, x188_39, x188_41, x188_44, x188_45, x188_46, x188_47, x188_50, x188_53, x188_54, x188_57, x188_58, x188_59, x188_60, x188_61, x188_62, x188_64, x188_67, x188_68, x188_69, x188_70, x188_73, x188_76, x188_77, x188_80, x188_81, x188_82, x188_83, x188_84, x188_85, x188_87, x188_90, x188_92, x188_93, x188_96, x188_99, x188_102, x188_103, x188_106, x188_107, x188_108, x188_111, x188_114, x188_117, x188_118, x188_121, x188_122, x188_123, x188_126, x188_129, x188_132, x188_133, x188_136, x188_137, x188_138, x188_139, x188_140, x188_143, x188_144, x188_145, x188_148, x188_152, x188_155, x188_156, x188_157, x188_158, x188_159, x188_160, sh_112, sh_113, sh_114, sh_115, sh_116, sh_117, sh_118, sh_119, sh_120, sh_121, sh_122, sh_123, sh_124, sh_125, sh_126, sh_127, sh_128, sh_129, sh_130, sh_131, sh_132, sh_133, sh_134, sh_135, sh_136, sh_137, sh_138, sh_139, sh_140, sh_141, sh_142, sh_143, sh_144, sh_145, sh_146, sh_147, sh_148, sh_149, sh_150, sh_151, sh_152, sh_153, sh_154, sh_155, sh_156, sh_157, sh_158, sh_159, sh_160, sh_161, sh_162, sh_163, sh_164, sh_165, sh_166, sh_167, sh_168, sh_169, sh_170, sh_171, sh_172, sh_173, sh_174, sh_175, sh_176, sh_177, sh_178, lq_112, lq_113, lq_114, lq_115, lq_116, lq_117, lq_118, lq_119, lq_120, lq_121, lq_122, lq_123, lq_124, lq_125, lq_126, lq_127, lq_128, lq_129, lq_130, lq_131, lq_132, lq_133, lq_134, lq_135, lq_136, lq_137, lq_138, lq_139, lq_140, lq_141, lq_142, lq_143, lq_144, lq_145, lq_146, lq_147, lq_148, lq_149, lq_150, lq_151, lq_152, lq_153, lq_154, lq_155, lq_156, lq_157, lq_158, lq_159, lq_160, lq_161, lq_162, lq_163, lq_164, lq_165, lq_166, lq_167, lq_168, lq_169, lq_170, lq_171, lq_172, lq_173, lq_174, lq_175, lq_176, lq_177, lq_178, rg_112_0, rg_112_9, rg_112_10, rg_112_11, rg_112_12, rg_112_13, rg_112_14, rg_112_15, rg_112_16, rg_112_17, rg_112_18, rg_112_19, rg_112_20, rg_112_21, rg_112_22, rg_112_23, rg_112_24, rg_112_25, rg_112_26, rg_112_27, rg_112_28, rg_112_29, rg_112_30, rg_112_31, rg_112_32, rg_112_33, rg_112_34, rg_112_35, rg_112_36, rg_112_37, rg_112_38, rg_112_39, rg_112_40, rg_112_41, rg_112_43, rg_112_44, rg_112_45, rg_112_46, rg_112_47, rg_112_48, rg_112_49, rg_112_51, rg_112_55, rg_112_57, rg_112_60, rg_112_61, rg_112_62, rg_112_63, rg_112_64, rg_112_66, rg_112_67, rg_112_68, rg_112_69, rg_112_70, rg_112_71, rg_112_72, rg_112_73, rg_112_74, rg_112_80, rg_112_83, rg_112_84, rg_112_85, rg_112_86, rg_112_90, rg_112_91, rg_112_92, ex5, Option.toList_some, Option.toList_none, List.cons_append, List.nil_append, true_and, and_true, nI_1, p_at, p_set, p_isIn, p_max, p_min, p_abs, a1, one_ne, if_false, z3]
  rw [if_neg d1] at a1
  rw [show tkz T n c 11 q = q from if_neg d1] at b1
  obtain ⟨G2, a2, b2, c2, -⟩ := r_takes (w := 12) (Lm := Lm) (L := L) (xs := xs) (nw := nw) (sp := sp) (s2 := s2) (ai := ai) (by decide) (c1.tb hTB) (c1.kt hKT) hX b1
  have a2 : ∀ r, Em L xs 175 [.ref 112, .ref 126] (179, G1, Lm, RG nw sp s2 ai) r ↔ r = (some (.int (if q.1 = 0 ∧ wq T n c q.2.2 = 12 then 1 else 0)), 179, G2, Lm, RG nw sp s2 ai) := fun r => a2 r
  have c2 := rfTr c1 c2
  by_cases d2 : q.1 = 0 ∧ wq T n c q.2.2 = 12
  · rw [if_pos d2] at a2
    rw [show tkz T n c 12 q = (0, 0, q.2.2 + 1) from if_pos d2] at b2
    refine ⟨1, G2, fun r l1 l2 l3 => ?_, by rw [hit d2.1 d2.2 (by decide) (by decide)]; exact b2, c2, fun _ => (hv d2.2).symm⟩
    rw [x188_91]
    simp only [x188_0, x188_1, x188_2, x188_5, x188_6, x188_7, x188_8, x188_9, x188_12, x188_15, x188_16, x188_17, x188_18, x188_19, x188_22, x188_23, x188_24, x188_25, x188_26, x188_29, x188_32, x188_33, x188_36, x188_37, x188_38, x188_39, x188_41, x188_44, x188_45, x188_46, x188_47, x188_50, x188_53, x188_54, x188_57, x188_58, x188_59, x188_60, x188_61, x188_62, x188_64, x188_67, x188_68, x188_69, x188_70, x188_73, x188_76, x188_77, x188_80, x188_81, x188_82, x188_83, x188_84, x188_85, x188_87, x188_90, x188_92, x188_93, x188_96, x188_99, x188_102, x188_103, x188_106, x188_107, x188_108, x188_111, x188_114, x188_117, x188_118, x188_121, x188_122, x188_123, x188_126, x188_129, x188_132, x188_133, x188_136, x188_137, x188_138, x188_139, x188_140, x188_143, x188_144, x188_145, x188_148, x188_152, x188_155, x188_156, x188_157, x188_158, x188_159, x188_160, sh_112, sh_113, sh_114, sh_115, sh_116, sh_117, sh_118, sh_119, sh_120, sh_121, sh_122, sh_123, sh_124, sh_125, sh_126, sh_127, sh_128, sh_129, sh_130, sh_131, sh_132, sh_133, sh_134, sh_135, sh_136, sh_137, sh_138, sh_139, sh_140, sh_141, sh_142, sh_143, sh_144, sh_145, sh_146, sh_147, sh_148, sh_149, sh_150, sh_151, sh_152, sh_153, sh_154, sh_155, sh_156, sh_157, sh_158, sh_159, sh_160, sh_161, sh_162, sh_163, sh_164, sh_165, sh_166, sh_167, sh_168, sh_169, sh_170, sh_171, sh_172, sh_173, sh_174, sh_175, sh_176, sh_177, sh_178, lq_112, lq_113, lq_114, lq_115, lq_116, lq_117, lq_118, lq_119, lq_120, lq_121, lq_122, lq_123, lq_124, lq_125, lq_126, lq_127, lq_128, lq_129, lq_130, lq_131, lq_132, lq_133, lq_134, lq_135, lq_136, lq_137, lq_138, lq_139, lq_140, lq_141, lq_142, lq_143, lq_144, lq_145, lq_146, lq_147, lq_148, lq_149, lq_150, lq_151, lq_152, lq_153, lq_154, lq_155, lq_156, lq_157, lq_158, lq_159, lq_160, lq_161, lq_162, lq_163, lq_164, lq_165, lq_166, lq_167, lq_168, lq_169, lq_170, lq_171, lq_172, lq_173, lq_174, lq_175, lq_176, lq_177, lq_178, rg_112_0, rg_112_9, rg_112_10, rg_112_11, rg_112_12, rg_112_13, rg_112_14, rg_112_15, rg_112_16, rg_112_17, rg_112_18, rg_112_19, rg_112_20, rg_112_21, rg_112_22, rg_112_23, rg_112_24, rg_112_25, rg_112_26, rg_112_27, rg_112_28, rg_112_29, rg_112_30, rg_112_31, rg_112_32, rg_112_33, rg_112_34, rg_112_35, rg_112_36, rg_112_37, rg_112_38, rg_112_39, rg_112_40, rg_112_41, rg_112_43, rg_112_44, rg_112_45, rg_112_46, rg_112_47, rg_112_48, rg_112_49, rg_112_51, rg_112_55, rg_112_57, rg_112_60, rg_112_61, rg_112_62, rg_112_63, rg_112_64, rg_112_66, rg_112_67, rg_112_68, rg_112_69, rg_112_70, rg_112_71, rg_112_72, rg_112_73, rg_112_74, rg_112_80, rg_112_83, rg_112_84, rg_112_85, rg_112_86, rg_112_90, rg_112_91, rg_112_92, ex5, Option.toList_some, Option.toList_none, List.cons_append, List.nil_append, true_and, and_true, nI_1, p_at, p_set, p_isIn, p_max, p_min, p_abs, a1, if_true, a2, one_ne, if_false, y3]
  rw [if_neg d2] at a2
  rw [show tkz T n c 12 q = q from if_neg d2] at b2
  obtain ⟨G3, a3, b3, c3, -⟩ := r_takes (w := 13) (Lm := Lm) (L := L) (xs := xs) (nw := nw) (sp := sp) (s2 := s2) (ai := ai) (by decide) (c2.tb hTB) (c2.kt hKT) hX b2
  have a3 : ∀ r, Em L xs 175 [.ref 112, .ref 127] (179, G2, Lm, RG nw sp s2 ai) r ↔ r = (some (.int (if q.1 = 0 ∧ wq T n c q.2.2 = 13 then 1 else 0)), 179, G3, Lm, RG nw sp s2 ai) := fun r => a3 r
  have c3 := rfTr c2 c3
  by_cases d3 : q.1 = 0 ∧ wq T n c q.2.2 = 13
  · rw [if_pos d3] at a3
    rw [show tkz T n c 13 q = (0, 0, q.2.2 + 1) from if_pos d3] at b3
    refine ⟨2, G3, fun r l1 l2 l3 => ?_, by rw [hit d3.1 d3.2 (by decide) (by decide)]; exact b3, c3, fun _ => (hv d3.2).symm⟩
    rw [x188_91]
    simp only [x188_0, x188_1, x188_2, x188_5, x188_6, x188_7, x188_8, x188_9, x188_12, x188_15, x188_16, x188_17, x188_18, x188_19, x188_22, x188_23, x188_24, x188_25, x188_26, x188_29, x188_32, x188_33, x188_36, x188_37, x188_38, x188_39, x188_41, x188_44, x188_45, x188_46, x188_47, x188_50, x188_53, x188_54, x188_57, x188_58, x188_59, x188_60, x188_61, x188_62, x188_64, x188_67, x188_68, x188_69, x188_70, x188_73, x188_76, x188_77, x188_80, x188_81, x188_82, x188_83, x188_84, x188_85, x188_87, x188_90, x188_92, x188_93, x188_96, x188_99, x188_102, x188_103, x188_106, x188_107, x188_108, x188_111, x188_114, x188_117, x188_118, x188_121, x188_122, x188_123, x188_126, x188_129, x188_132, x188_133, x188_136, x188_137, x188_138, x188_139, x188_140, x188_143, x188_144, x188_145, x188_148, x188_152, x188_155, x188_156, x188_157, x188_158, x188_159, x188_160, sh_112, sh_113, sh_114, sh_115, sh_116, sh_117, sh_118, sh_119, sh_120, sh_121, sh_122, sh_123, sh_124, sh_125, sh_126, sh_127, sh_128, sh_129, sh_130, sh_131, sh_132, sh_133, sh_134, sh_135, sh_136, sh_137, sh_138, sh_139, sh_140, sh_141, sh_142, sh_143, sh_144, sh_145, sh_146, sh_147, sh_148, sh_149, sh_150, sh_151, sh_152, sh_153, sh_154, sh_155, sh_156, sh_157, sh_158, sh_159, sh_160, sh_161, sh_162, sh_163, sh_164, sh_165, sh_166, sh_167, sh_168, sh_169, sh_170, sh_171, sh_172, sh_173, sh_174, sh_175, sh_176, sh_177, sh_178, lq_112, lq_113, lq_114, lq_115, lq_116, lq_117, lq_118, lq_119, lq_120, lq_121, lq_122, lq_123, lq_124, lq_125, lq_126, lq_127, lq_128, lq_129, lq_130, lq_131, lq_132, lq_133, lq_134, lq_135, lq_136, lq_137, lq_138, lq_139, lq_140, lq_141, lq_142, lq_143, lq_144, lq_145, lq_146, lq_147, lq_148, lq_149, lq_150, lq_151, lq_152, lq_153, lq_154, lq_155, lq_156, lq_157, lq_158, lq_159, lq_160, lq_161, lq_162, lq_163, lq_164, lq_165, lq_166, lq_167, lq_168, lq_169, lq_170, lq_171, lq_172, lq_173, lq_174, lq_175, lq_176, lq_177, lq_178, rg_112_0, rg_112_9, rg_112_10, rg_112_11, rg_112_12, rg_112_13, rg_112_14, rg_112_15, rg_112_16, rg_112_17, rg_112_18, rg_112_19, rg_112_20, rg_112_21, rg_112_22, rg_112_23, rg_112_24, rg_112_25, rg_112_26, rg_112_27, rg_112_28, rg_112_29, rg_112_30, rg_112_31, rg_112_32, rg_112_33, rg_112_34, rg_112_35, rg_112_36, rg_112_37, rg_112_38, rg_112_39, rg_112_40, rg_112_41, rg_112_43, rg_112_44, rg_112_45, rg_112_46, rg_112_47, rg_112_48, rg_112_49, rg_112_51, rg_112_55, rg_112_57, rg_112_60, rg_112_61, rg_112_62, rg_112_63, rg_112_64, rg_112_66, rg_112_67, rg_112_68, rg_112_69, rg_112_70, rg_112_71, rg_112_72, rg_112_73, rg_112_74, rg_112_80, rg_112_83, rg_112_84, rg_112_85, rg_112_86, rg_112_90, rg_112_91, rg_112_92, ex5, Option.toList_some, Option.toList_none, List.cons_append, List.nil_append, true_and, and_true, nI_1, p_at, p_set, p_isIn, p_max, p_min, p_abs, a1, if_true, a2, a3, one_ne, if_false, w3]
  rw [if_neg d3] at a3
  rw [show tkz T n c 13 q = q from if_neg d3] at b3
  obtain ⟨G4, a4, b4, c4⟩ := r_asks (w := 14) (Lm := Lm) (L := L) (xs := xs) (nw := nw) (sp := sp) (s2 := s2) (ai := ai) (by decide) (c3.tb hTB) (c3.kt hKT) hX b3
  have a4 : ∀ r, Em L xs 176 [.ref 112, .ref 128] (179, G3, Lm, RG nw sp s2 ai) r ↔ r = (none, 179, G4, Lm, RG nw sp s2 ai) := fun r => a4 r
  have ez : asz T n c 14 q = kdQ T n c q := by
    unfold asz kdQ
    by_cases hb : q.1 = 0
    · rw [if_pos hb, if_pos hb]
      by_cases hw : wq T n c q.2.2 = 14
      · rw [if_pos hw, if_pos (by omega)]
      · rw [if_neg hw, if_neg (fun z => by
          have e1 : wq T n c q.2.2 ≠ 11 := fun e => d1 ⟨hb, e⟩
          have e2 : wq T n c q.2.2 ≠ 12 := fun e => d2 ⟨hb, e⟩
          have e3 : wq T n c q.2.2 ≠ 13 := fun e => d3 ⟨hb, e⟩
          omega)]
    · rw [if_neg hb, if_neg hb]
  rw [ez] at b4
  refine ⟨3, G4, fun r l1 l2 l3 => ?_, b4, rfTr c3 c4, fun hg => ?_⟩
  · rw [x188_91]
    simp only [x188_0, x188_1, x188_2, x188_5, x188_6, x188_7, x188_8, x188_9, x188_12, x188_15, x188_16, x188_17, x188_18, x188_19, x188_22, x188_23, x188_24, x188_25, x188_26, x188_29, x188_32, x188_33, x188_36, x188_37, x188_38, x188_39, x188_41, x188_44, x188_45, x188_46, x188_47, x188_50, x188_53, x188_54, x188_57, x188_58, x188_59, x188_60, x188_61, x188_62, x188_64, x188_67, x188_68, x188_69, x188_70, x188_73, x188_76, x188_77, x188_80, x188_81, x188_82, x188_83, x188_84, x188_85, x188_87, x188_90, x188_92, x188_93, x188_96, x188_99, x188_102, x188_103, x188_106, x188_107, x188_108, x188_111, x188_114, x188_117, x188_118, x188_121, x188_122, x188_123, x188_126, x188_129, x188_132, x188_133, x188_136, x188_137, x188_138, x188_139, x188_140, x188_143, x188_144, x188_145, x188_148, x188_152, x188_155, x188_156, x188_157, x188_158, x188_159, x188_160, sh_112, sh_113, sh_114, sh_115, sh_116, sh_117, sh_118, sh_119, sh_120, sh_121, sh_122, sh_123, sh_124, sh_125, sh_126, sh_127, sh_128, sh_129, sh_130, sh_131, sh_132, sh_133, sh_134, sh_135, sh_136, sh_137, sh_138, sh_139, sh_140, sh_141, sh_142, sh_143, sh_144, sh_145, sh_146, sh_147, sh_148, sh_149, sh_150, sh_151, sh_152, sh_153, sh_154, sh_155, sh_156, sh_157, sh_158, sh_159, sh_160, sh_161, sh_162, sh_163, sh_164, sh_165, sh_166, sh_167, sh_168, sh_169, sh_170, sh_171, sh_172, sh_173, sh_174, sh_175, sh_176, sh_177, sh_178, lq_112, lq_113, lq_114, lq_115, lq_116, lq_117, lq_118, lq_119, lq_120, lq_121, lq_122, lq_123, lq_124, lq_125, lq_126, lq_127, lq_128, lq_129, lq_130, lq_131, lq_132, lq_133, lq_134, lq_135, lq_136, lq_137, lq_138, lq_139, lq_140, lq_141, lq_142, lq_143, lq_144, lq_145, lq_146, lq_147, lq_148, lq_149, lq_150, lq_151, lq_152, lq_153, lq_154, lq_155, lq_156, lq_157, lq_158, lq_159, lq_160, lq_161, lq_162, lq_163, lq_164, lq_165, lq_166, lq_167, lq_168, lq_169, lq_170, lq_171, lq_172, lq_173, lq_174, lq_175, lq_176, lq_177, lq_178, rg_112_0, rg_112_9, rg_112_10, rg_112_11, rg_112_12, rg_112_13, rg_112_14, rg_112_15, rg_112_16, rg_112_17, rg_112_18, rg_112_19, rg_112_20, rg_112_21, rg_112_22, rg_112_23, rg_112_24, rg_112_25, rg_112_26, rg_112_27, rg_112_28, rg_112_29, rg_112_30, rg_112_31, rg_112_32, rg_112_33, rg_112_34, rg_112_35, rg_112_36, rg_112_37, rg_112_38, rg_112_39, rg_112_40, rg_112_41, rg_112_43, rg_112_44, rg_112_45, rg_112_46, rg_112_47, rg_112_48, rg_112_49, rg_112_51, rg_112_55, rg_112_57, rg_112_60, rg_112_61, rg_112_62, rg_112_63, rg_112_64, rg_112_66, rg_112_67, rg_112_68, rg_112_69, rg_112_70, rg_112_71, rg_112_72, rg_112_73, rg_112_74, rg_112_80, rg_112_83, rg_112_84, rg_112_85, rg_112_86, rg_112_90, rg_112_91, rg_112_92, ex5, Option.toList_some, Option.toList_none, List.cons_append, List.nil_append, true_and, and_true, nI_1, p_at, p_set, p_isIn, p_max, p_min, p_abs, a1, if_true, a2, a3, a4]
  · rw [← ez] at hg
    exact (hv (asz_0 hg).2.1).symm
/-- what a hat changes -/
def RHa (NH p k : Nat) : Prop := R0 p k ∨ (p = 148 ∧ k < 3) ∨ (p = 150 ∧ 4 * NH ≤ k ∧ k < 4 * NH + 4)
theorem rHaB : RB (RHa NH) := fun p k h => by
  rcases h with h | h | h
  · exact Or.inl h
  · exact Or.inr (by omega)
  · exact Or.inr (by omega)
theorem r_hatT (hN : NS ≤ 6 ∧ NH < 4 ∧ N ≤ 12) (hR : RdM I Lm V NS NH N M P) (hTB : TB I T) (hKT : KT I) (hX : TX T n c) (h : RS I T n c q) (hb : q.1 = 0) : ∃ G Lk, (∀ r, Em L xs 188 [.ref 112, .int (nI pl)] (179, I, Lm, RG nw sp s2 ai) r ↔ r = (none, 179, G, Lk, RG nw sp s2 ai)) ∧ RS G T n c (haQ4 T n c V NS NH N q) ∧ FX I G (RHa NH) ∧ (∀ p k, p ≠ 147 ∨ 36 ≤ k → Lk p k = Lm p k) ∧ ((haQ4 T n c V NS NH N q).1 = 0 → RdM G Lk (haV T n c V NS NH N q) NS (NH + 1) N M P) := by
  have hEB : RB (RHa NH) := rHaB
  have e0 : ∀ p k, R0 p k → RHa NH p k := fun p k z => Or.inl z
  have hN' : NS ≤ 6 ∧ NH ≤ 4 ∧ N ≤ 12 := ⟨hN.1, by omega, hN.2.2⟩
  have j0 : inb (1 : Int32) 6 = True := eq_true (by decide)
  have k0 : ixn (1 : Int32) = 1 := rfl
  have c0 : I 148 1 = nI NH := (hR.1 1 (by decide)).1
  have room := fun r => r_room (has := NH) (room := 4) (pl := pl) (Lm := Lm) (L := L) (xs := xs) (nw := nw) (sp := sp) (s2 := s2) (ai := ai) hN.2.1 (by decide) h hb r
  have room : ∀ r, Em L xs 186 [.ref 112, .int (nI NH), .int 4, .int (nI pl)] (179, I, Lm, RG nw sp s2 ai) r ↔ r = (some (.int 0), 179, I, Lm, RG nw sp s2 ai) := fun r => room r
  obtain ⟨G0, Lk, p0, q0, ⟨f01, f02, f03⟩, u0, u0b⟩ := r_newName (kd := 1) (Lm := Lm) (L := L) (xs := xs) (nw := nw) (sp := sp) (s2 := s2) (ai := ai) (by decide) hN' (show NH < 12 by omega) hR.1 hTB hKT hX h
  have p0 : ∀ r, Em L xs 184 [.ref 112, .int 1] (179, I, Lm, RG nw sp s2 ai) r ↔ r = (some (.int (nI NH)), 179, G0, Lk, RG nw sp s2 ai) := fun r => p0 r
  have q0 : RS G0 T n c (haQ0 T n c V NS NH N q) := q0
  obtain ⟨f48, fL⟩ := nw_fr (kd := 1) (m := NH) (by decide) (by omega) u0 u0b f03
  have F0 : FX I G0 (RHa NH) := fun p k hn => by
    by_cases e : p = 112
    · subst e
      exact f02 k (fun z => hn (Or.inl ⟨rfl, by omega⟩)) (fun z => hn (Or.inl ⟨rfl, by omega⟩)) (fun z => hn (Or.inl ⟨rfl, by omega⟩)) (fun z => hn (Or.inl ⟨rfl, by omega⟩)) (fun z => hn (Or.inl ⟨rfl, by omega⟩))
    · by_cases e2 : p = 148
      · subst e2
        exact f48 k (Nat.le_of_not_lt (fun z => hn (Or.inr (Or.inl ⟨rfl, z⟩))))
      · rw [f01 p e e2]
  have e5 : (4 : Int32) * nI NH = nI (4 * NH) := pk_mul 4 NH
  obtain ⟨v1, A1, B1, a1, p1, q1, f1, u1⟩ := r_numAfter (w := 8) (lo := 0) (hi := 100) (Lm := Lk) (L := L) (xs := xs) (nw := nw) (sp := sp) (s2 := s2) (ai := ai) (by decide) (by decide) (by decide) (F0.tbR hEB hTB) (F0.ktR hEB hKT) hX (q0)
  have q1 : RS B1 T n c (haQ1 T n c V NS NH N q) := q1
  have u1 : (haQ1 T n c V NS NH N q).1 = 0 → v1 = nbX T n c 8 (haQ0 T n c V NS NH N q) := u1
  have a1 : ∀ r, Em L xs 176 [.ref 112, .ref 122] (179, G0, Lk, RG nw sp s2 ai) r ↔ r = (none, 179, A1, Lk, RG nw sp s2 ai) := fun r => a1 r
  have p1 : ∀ r, Em L xs 179 [.ref 112, .int 0, .int 100] (179, A1, Lk, RG nw sp s2 ai) r ↔ r = (some (.int v1), 179, B1, Lk, RG nw sp s2 ai) := fun r => p1 r
  have F1 : FX I B1 (RHa NH) := fxTr F0 (fxR f1 e0)
  have F1u : FX I (up2 B1 150 (4 * NH) v1) (RHa NH) := fxTr F1 (fxUp (Or.inr (Or.inr ⟨rfl, by omega, by omega⟩)))
  have i1 : inb (nI (4 * NH)) 32 = True := inb_i (by omega) (by decide)
  have x1 : ixn (nI (4 * NH)) = 4 * NH := ixn_nI (by omega)
  obtain ⟨v2, A2, B2, a2, p2, q2, f2, u2⟩ := r_numAfter (w := 9) (lo := 0) (hi := 60) (Lm := Lk) (L := L) (xs := xs) (nw := nw) (sp := sp) (s2 := s2) (ai := ai) (by decide) (by decide) (by decide) (F1u.tbR hEB hTB) (F1u.ktR hEB hKT) hX (rsUp (p := 150) (k := 4 * NH) (v := v1) q1 (Or.inl (by decide)))
  have q2 : RS B2 T n c (haQ2 T n c V NS NH N q) := q2
  have u2 : (haQ2 T n c V NS NH N q).1 = 0 → v2 = nbX T n c 9 (haQ1 T n c V NS NH N q) := u2
  have a2 : ∀ r, Em L xs 176 [.ref 112, .ref 123] (179, up2 B1 150 (4 * NH) v1, Lk, RG nw sp s2 ai) r ↔ r = (none, 179, A2, Lk, RG nw sp s2 ai) := fun r => a2 r
  have p2 : ∀ r, Em L xs 179 [.ref 112, .int 0, .int 60] (179, A2, Lk, RG nw sp s2 ai) r ↔ r = (some (.int v2), 179, B2, Lk, RG nw sp s2 ai) := fun r => p2 r
  have F2 : FX I B2 (RHa NH) := fxTr F1u (fxR f2 e0)
  have F2u : FX I (up2 B2 150 (4 * NH + 1) v2) (RHa NH) := fxTr F2 (fxUp (Or.inr (Or.inr ⟨rfl, by omega, by omega⟩)))
  have i2 : inb (nI (4 * NH + 1)) 32 = True := inb_i (by omega) (by decide)
  have x2 : ixn (nI (4 * NH + 1)) = 4 * NH + 1 := ixn_nI (by omega)
  have m2 : nI (4 * NH) + 1 = nI (4 * NH + 1) := nI_add (a := 4 * NH) (b := 1)
  obtain ⟨v3, A3, B3, a3, p3, q3, f3, u3⟩ := r_numAfter (w := 10) (lo := 0) (hi := 100) (Lm := Lk) (L := L) (xs := xs) (nw := nw) (sp := sp) (s2 := s2) (ai := ai) (by decide) (by decide) (by decide) (F2u.tbR hEB hTB) (F2u.ktR hEB hKT) hX (rsUp (p := 150) (k := 4 * NH + 1) (v := v2) q2 (Or.inl (by decide)))
  have q3 : RS B3 T n c (haQ3 T n c V NS NH N q) := q3
  have u3 : (haQ3 T n c V NS NH N q).1 = 0 → v3 = nbX T n c 10 (haQ2 T n c V NS NH N q) := u3
  have a3 : ∀ r, Em L xs 176 [.ref 112, .ref 124] (179, up2 B2 150 (4 * NH + 1) v2, Lk, RG nw sp s2 ai) r ↔ r = (none, 179, A3, Lk, RG nw sp s2 ai) := fun r => a3 r
  have p3 : ∀ r, Em L xs 179 [.ref 112, .int 0, .int 100] (179, A3, Lk, RG nw sp s2 ai) r ↔ r = (some (.int v3), 179, B3, Lk, RG nw sp s2 ai) := fun r => p3 r
  have F3 : FX I B3 (RHa NH) := fxTr F2u (fxR f3 e0)
  have F3u : FX I (up2 B3 150 (4 * NH + 2) v3) (RHa NH) := fxTr F3 (fxUp (Or.inr (Or.inr ⟨rfl, by omega, by omega⟩)))
  have i3 : inb (nI (4 * NH + 2)) 32 = True := inb_i (by omega) (by decide)
  have x3 : ixn (nI (4 * NH + 2)) = 4 * NH + 2 := ixn_nI (by omega)
  have m3 : nI (4 * NH) + 2 = nI (4 * NH + 2) := nI_add (a := 4 * NH) (b := 2)
  have q3u := rsUp (p := 150) (k := 4 * NH + 2) (v := v3) q3 (Or.inl (by decide))
  obtain ⟨v4, B4, p4, q4, f4, u4⟩ := r_kind (Lm := Lk) (L := L) (xs := xs) (nw := nw) (sp := sp) (s2 := s2) (ai := ai) (F3u.tbR hEB hTB) (F3u.ktR hEB hKT) hX q3u
  have q4 : RS B4 T n c (haQ4 T n c V NS NH N q) := q4
  have F4 : FX I B4 (RHa NH) := fxTr F3u (fxR f4 e0)
  have F4u : FX I (up2 B4 150 (4 * NH + 3) v4) (RHa NH) := fxTr F4 (fxUp (Or.inr (Or.inr ⟨rfl, by omega, by omega⟩)))
  have i4 : inb (nI (4 * NH + 3)) 32 = True := inb_i (by omega) (by decide)
  have x4 : ixn (nI (4 * NH + 3)) = 4 * NH + 3 := ixn_nI (by omega)
  have m4 : nI (4 * NH) + 3 = nI (4 * NH + 3) := nI_add (a := 4 * NH) (b := 3)
  refine ⟨up2 B4 150 (4 * NH + 3) v4, Lk, fun r => ?_, rsUp q4 (Or.inl (by decide)), F4u, fL, fun hg => ?_⟩
  · rw [em_188]
    simp only [x188_0, x188_1, x188_2, x188_5, x188_6, x188_7, x188_8, x188_9, x188_12, x188_15, x188_16, x188_17, x188_18, x188_19, x188_22, x188_23, x188_24, x188_25, x188_26, x188_29, x188_32, x188_33, x188_36, x188_37, x188_38, x188_39, x188_41, x188_44, x188_45, x188_46, x188_47, x188_50, x188_53, x188_54, x188_57, x188_58, x188_59, x188_60, x188_61, x188_62, x188_64, x188_67, x188_68, x188_69, x188_70, x188_73, x188_76, x188_77, x188_80, x188_81, x188_82, x188_83, x188_84, x188_85, x188_87, x188_90, x188_92, x188_93, x188_96, x188_99, x188_102, x188_103, x188_106, x188_107, x188_108, x188_111, x188_114, x188_117, x188_118, x188_121, x188_122, x188_123, x188_126, x188_129, x188_132, x188_133, x188_136, x188_137, x188_138, x188_139, x188_140, x188_143, x188_144, x188_145, x188_148, x188_152, x188_155, x188_156, x188_157, x188_158, x188_159, x188_160, sh_112, sh_113, sh_114, sh_115, sh_116, sh_117, sh_118, sh_119, sh_120, sh_121, sh_122, sh_123, sh_124, sh_125, sh_126, sh_127, sh_128, sh_129, sh_130, sh_131, sh_132, sh_133, sh_134, sh_135, sh_136, sh_137, sh_138, sh_139, sh_140, sh_141, sh_142, sh_143, sh_144, sh_145, sh_146, sh_147, sh_148, sh_149, sh_150, sh_151, sh_152, sh_153, sh_154, sh_155, sh_156, sh_157, sh_158, sh_159, sh_160, sh_161, sh_162, sh_163, sh_164, sh_165, sh_166, sh_167, sh_168, sh_169, sh_170, sh_171, sh_172, sh_173, sh_174, sh_175, sh_176, sh_177, sh_178, lq_112, lq_113, lq_114, lq_115, lq_116, lq_117, lq_118, lq_119, lq_120, lq_121, lq_122, lq_123, lq_124, lq_125, lq_126, lq_127, lq_128, lq_129, lq_130, lq_131, lq_132, lq_133, lq_134, lq_135, lq_136, lq_137, lq_138, lq_139, lq_140, lq_141, lq_142, lq_143, lq_144, lq_145, lq_146, lq_147, lq_148, lq_149, lq_150, lq_151, lq_152, lq_153, lq_154, lq_155, lq_156, lq_157, lq_158, lq_159, lq_160, lq_161, lq_162, lq_163, lq_164, lq_165, lq_166, lq_167, lq_168, lq_169, lq_170, lq_171, lq_172, lq_173, lq_174, lq_175, lq_176, lq_177, lq_178, rg_112_0, rg_112_9, rg_112_10, rg_112_11, rg_112_12, rg_112_13, rg_112_14, rg_112_15, rg_112_16, rg_112_17, rg_112_18, rg_112_19, rg_112_20, rg_112_21, rg_112_22, rg_112_23, rg_112_24, rg_112_25, rg_112_26, rg_112_27, rg_112_28, rg_112_29, rg_112_30, rg_112_31, rg_112_32, rg_112_33, rg_112_34, rg_112_35, rg_112_36, rg_112_37, rg_112_38, rg_112_39, rg_112_40, rg_112_41, rg_112_43, rg_112_44, rg_112_45, rg_112_46, rg_112_47, rg_112_48, rg_112_49, rg_112_51, rg_112_55, rg_112_57, rg_112_60, rg_112_61, rg_112_62, rg_112_63, rg_112_64, rg_112_66, rg_112_67, rg_112_68, rg_112_69, rg_112_70, rg_112_71, rg_112_72, rg_112_73, rg_112_74, rg_112_80, rg_112_83, rg_112_84, rg_112_85, rg_112_86, rg_112_90, rg_112_91, rg_112_92, ex5, Option.toList_some, Option.toList_none, List.cons_append, List.nil_append, true_and, and_true, nI_1, p_at, p_set, p_isIn, p_max, p_min, p_abs, j0, k0, c0, room, if_true, p0, e5, a1, p1, i1, x1, a2, p2, m2, i2, x2, a3, p3, m3, i3, x3]
    refine (p4 r _ _ _).trans ?_
    rw [x188_151]
    simp only [x188_0, x188_1, x188_2, x188_5, x188_6, x188_7, x188_8, x188_9, x188_12, x188_15, x188_16, x188_17, x188_18, x188_19, x188_22, x188_23, x188_24, x188_25, x188_26, x188_29, x188_32, x188_33, x188_36, x188_37, x188_38, x188_39, x188_41, x188_44, x188_45, x188_46, x188_47, x188_50, x188_53, x188_54, x188_57, x188_58, x188_59, x188_60, x188_61, x188_62, x188_64, x188_67, x188_68, x188_69, x188_70, x188_73, x188_76, x188_77, x188_80, x188_81, x188_82, x188_83, x188_84, x188_85, x188_87, x188_90, x188_92, x188_93, x188_96, x188_99, x188_102, x188_103, x188_106, x188_107, x188_108, x188_111, x188_114, x188_117, x188_118, x188_121, x188_122, x188_123, x188_126, x188_129, x188_132, x188_133, x188_136, x188_137, x188_138, x188_139, x188_140, x188_143, x188_144, x188_145, x188_148, x188_152, x188_155, x188_156, x188_157, x188_158, x188_159, x188_160, sh_112, sh_113, sh_114, sh_115, sh_116, sh_117, sh_118, sh_119, sh_120, sh_121, sh_122, sh_123, sh_124, sh_125, sh_126, sh_127, sh_128, sh_129, sh_130, sh_131, sh_132, sh_133, sh_134, sh_135, sh_136, sh_137, sh_138, sh_139, sh_140, sh_141, sh_142, sh_143, sh_144, sh_145, sh_146, sh_147, sh_148, sh_149, sh_150, sh_151, sh_152, sh_153, sh_154, sh_155, sh_156, sh_157, sh_158, sh_159, sh_160, sh_161, sh_162, sh_163, sh_164, sh_165, sh_166, sh_167, sh_168, sh_169, sh_170, sh_171, sh_172, sh_173, sh_174, sh_175, sh_176, sh_177, sh_178, lq_112, lq_113, lq_114, lq_115, lq_116, lq_117, lq_118, lq_119, lq_120, lq_121, lq_122, lq_123, lq_124, lq_125, lq_126, lq_127, lq_128, lq_129, lq_130, lq_131, lq_132, lq_133, lq_134, lq_135, lq_136, lq_137, lq_138, lq_139, lq_140, lq_141, lq_142, lq_143, lq_144, lq_145, lq_146, lq_147, lq_148, lq_149, lq_150, lq_151, lq_152, lq_153, lq_154, lq_155, lq_156, lq_157, lq_158, lq_159, lq_160, lq_161, lq_162, lq_163, lq_164, lq_165, lq_166, lq_167, lq_168, lq_169, lq_170, lq_171, lq_172, lq_173, lq_174, lq_175, lq_176, lq_177, lq_178, rg_112_0, rg_112_9, rg_112_10, rg_112_11, rg_112_12, rg_112_13, rg_112_14, rg_112_15, rg_112_16, rg_112_17, rg_112_18, rg_112_19, rg_112_20, rg_112_21, rg_112_22, rg_112_23, rg_112_24, rg_112_25, rg_112_26, rg_112_27, rg_112_28, rg_112_29, rg_112_30, rg_112_31, rg_112_32, rg_112_33, rg_112_34, rg_112_35, rg_112_36, rg_112_37, rg_112_38, rg_112_39, rg_112_40, rg_112_41, rg_112_43, rg_112_44, rg_112_45, rg_112_46, rg_112_47, rg_112_48, rg_112_49, rg_112_51, rg_112_55, rg_112_57, rg_112_60, rg_112_61, rg_112_62, rg_112_63, rg_112_64, rg_112_66, rg_112_67, rg_112_68, rg_112_69, rg_112_70, rg_112_71, rg_112_72, rg_112_73, rg_112_74, rg_112_80, rg_112_83, rg_112_84, rg_112_85, rg_112_86, rg_112_90, rg_112_91, rg_112_92, ex5, Option.toList_some, Option.toList_none, List.cons_append, List.nil_append, true_and, and_true, nI_1, p_at, p_set, p_isIn, p_max, p_min, p_abs, m4, i4, x4]
  · have h4 : (haQ3 T n c V NS NH N q).1 = 0 := by
      have hg : (kdQ T n c (haQ3 T n c V NS NH N q)).1 = 0 := hg
      unfold kdQ at hg
      by_cases z : (haQ3 T n c V NS NH N q).1 = 0
      · exact z
      · rw [if_neg z] at hg; exact hg
    have h3 : (haQ2 T n c V NS NH N q).1 = 0 := nbA_0 h4
    have h2 : (haQ1 T n c V NS NH N q).1 = 0 := nbA_0 h3
    have h1 : (haQ0 T n c V NS NH N q).1 = 0 := nbA_0 h2
    obtain ⟨n8, n7, nn⟩ := u0 h1
    have w1 := u1 h2; have w2 := u2 h3; have w3 := u3 h4; have w4 : v4 = kdX T n c (haQ3 T n c V NS NH N q) := u4 hg
    obtain ⟨-, ⟨d1, d2⟩, d3, d4, d5, d6⟩ := id hR
    have b8 : ∀ j, up2 B4 150 (4 * NH + 3) v4 148 j = G0 148 j := fun j => by rw [up2_p (by decide), f4.1 148 (by decide), up2_p (by decide), f3.1 148 (by decide), up2_p (by decide), f2.1 148 (by decide), up2_p (by decide), f1.1 148 (by decide)]
    have rr : ∀ p, p = 149 ∨ p = 151 ∨ p = 152 ∨ p = 153 ∨ p = 154 → ∀ k, up2 B4 150 (4 * NH + 3) v4 p k = I p k := fun p hp k => F4u p k (fun z => by unfold RHa R0 at z; omega)
    have sv : ∀ f k, f ≠ 16 → f ≠ 9 → f ≠ 10 → f ≠ 11 → f ≠ 12 → haV T n c V NS NH N q f k = V f k := fun f k a1 a2 a3 a4 a5 => by unfold haV; rw [up2_p a5, up2_p a4, up2_p a3, up2_p a2, up2_p a1]
    have ov : ∀ f k, k ≠ NH → haV T n c V NS NH N q f k = V f k := fun f k hk => by unfold haV up2; rw [if_neg (fun z => hk z.2), if_neg (fun z => hk z.2), if_neg (fun z => hk z.2), if_neg (fun z => hk z.2), if_neg (fun z => hk z.2)]
    refine ⟨nmNew (kd := 1) (by decide) hN' (show NH < 12 by omega) hR.1 (fun j => by rw [b8]; exact n8 j) n7 nn (fun e he => ?_) (fun e k he => ?_), ⟨(F4u 112 54 (fun z => by unfold RHa R0 at z; omega)).trans d1, (F4u 112 50 (fun z => by unfold RHa R0 at z; omega)).trans d2⟩, fun k hk => ?_, fun k hk w hw => ?_, fun k hk w hw => ?_, fun k hk => ?_⟩
    · match e, he with
      | 0, _ => exact (if_neg (by decide)).symm
      | 1, _ => exact (if_pos rfl).symm
      | 2, _ => exact (if_neg (by decide)).symm
    · by_cases z : e = 1 ∧ k = cnK NS NH N 1
      · rw [if_pos z, z.1]
        have z2 : k = NH := z.2
        rw [z2]
        show haV T n c V NS NH N q 16 NH = _
        unfold haV
        rw [up2_p (by decide), up2_p (by decide), up2_p (by decide), up2_p (by decide), up2_eq]
      · rw [if_neg z]
        by_cases y : k = NH
        · have y1 : e ≠ 1 := fun y2 => z ⟨y2, y⟩
          exact sv _ _ (by omega) (by omega) (by omega) (by omega) (by omega)
        · exact ov _ _ y
    · rw [rr 151 (by omega), rr 152 (by omega), rr 153 (by omega), sv 0 k (by decide) (by decide) (by decide) (by decide) (by decide), sv 1 k (by decide) (by decide) (by decide) (by decide) (by decide), sv 3 k (by decide) (by decide) (by decide) (by decide) (by decide)]
      exact d3 k hk
    · rw [rr 149 (by omega), sv _ k (by omega) (by omega) (by omega) (by omega) (by omega)]
      exact d4 k hk w hw
    · by_cases e : k = NH
      · subst e
        have y1 : up2 B4 150 (4 * k + 3) v4 150 (4 * k) = v1 := by rw [up2_k (by omega), f4.1 150 (by decide), up2_k (by omega), f3.1 150 (by decide), up2_k (by omega), f2.1 150 (by decide), up2_eq]
        have y2 : up2 B4 150 (4 * k + 3) v4 150 (4 * k + 1) = v2 := by rw [up2_k (by omega), f4.1 150 (by decide), up2_k (by omega), f3.1 150 (by decide), up2_eq]
        have y3 : up2 B4 150 (4 * k + 3) v4 150 (4 * k + 2) = v3 := by rw [up2_k (by omega), f4.1 150 (by decide), up2_eq]
        have y4 : up2 B4 150 (4 * k + 3) v4 150 (4 * k + 3) = v4 := by rw [up2_eq]
        have z1 : haV T n c V NS k N q 9 k = v1 := by rw [w1]; unfold haV; rw [up2_p (by decide), up2_p (by decide), up2_p (by decide), up2_eq]
        have z2 : haV T n c V NS k N q 10 k = v2 := by rw [w2]; unfold haV; rw [up2_p (by decide), up2_p (by decide), up2_eq]
        have z3 : haV T n c V NS k N q 11 k = v3 := by rw [w3]; unfold haV; rw [up2_p (by decide), up2_eq]
        have z4 : haV T n c V NS k N q 12 k = v4 := by rw [w4]; unfold haV; rw [up2_eq]
        match w, hw with
        | 0, _ => exact y1.trans z1.symm
        | 1, _ => exact y2.trans z2.symm
        | 2, _ => exact y3.trans z3.symm
        | 3, _ => exact y4.trans z4.symm
      · rw [ov _ k e, F4u 150 (4 * k + w) (fun z => by unfold RHa R0 at z; omega)]
        exact d5 k (by omega) w hw
    · rw [rr 154 (by omega), sv 13 k (by decide) (by decide) (by decide) (by decide) (by decide)]
      exact d6 k hk
/-- what a person changes -/
def RPe (N p k : Nat) : Prop := R0 p k ∨ (p = 148 ∧ k < 3) ∨ ((p = 151 ∨ p = 152 ∨ p = 153) ∧ k = N)
theorem rPeB : RB (RPe N) := fun p k h => by
  rcases h with h | h | h
  · exact Or.inl h
  · exact Or.inr (by omega)
  · exact Or.inr (by omega)
theorem nmFx (hNm : NmM I Lm V NS NH N) (h8 : ∀ j, G 148 j = I 148 j) : NmM G Lm V NS NH N := fun e he => ⟨(h8 e).trans (hNm e he).1, (hNm e he).2⟩
theorem r_personT (hN : NS ≤ 6 ∧ NH ≤ 4 ∧ N < 12) (hR : RdM I Lm V NS NH N M P) (hTB : TB I T) (hKT : KT I) (hX : TX T n c) (h : RS I T n c q) (hb : q.1 = 0) : ∃ G Lk, (∀ r, Em L xs 189 [.ref 112, .int (nI pl)] (179, I, Lm, RG nw sp s2 ai) r ↔ r = (none, 179, G, Lk, RG nw sp s2 ai)) ∧ RS G T n c (peQ2 T n c V NS NH N q) ∧ FX I G (RPe N) ∧ (∀ p k, p ≠ 147 ∨ 36 ≤ k → Lk p k = Lm p k) ∧ ((peQ2 T n c V NS NH N q).1 = 0 → RdM G Lk (peV T n c V NS NH N q) NS NH (N + 1) M P) := by
  have hEB : RB (RPe N) := rPeB
  have e0 : ∀ p k, R0 p k → RPe N p k := fun p k z => Or.inl z
  have hN' : NS ≤ 6 ∧ NH ≤ 4 ∧ N ≤ 12 := ⟨hN.1, hN.2.1, by omega⟩
  have j0 : inb (2 : Int32) 6 = True := eq_true (by decide)
  have k0 : ixn (2 : Int32) = 2 := rfl
  have c0 : I 148 2 = nI N := (hR.1 2 (by decide)).1
  have room := fun r => r_room (has := N) (room := 12) (pl := pl) (Lm := Lm) (L := L) (xs := xs) (nw := nw) (sp := sp) (s2 := s2) (ai := ai) hN.2.2 (by decide) h hb r
  have room : ∀ r, Em L xs 186 [.ref 112, .int (nI N), .int 12, .int (nI pl)] (179, I, Lm, RG nw sp s2 ai) r ↔ r = (some (.int 0), 179, I, Lm, RG nw sp s2 ai) := fun r => room r
  obtain ⟨G0, Lk, p0, q0, ⟨f01, f02, f03⟩, u0, u0b⟩ := r_newName (kd := 2) (Lm := Lm) (L := L) (xs := xs) (nw := nw) (sp := sp) (s2 := s2) (ai := ai) (by decide) hN' (show N < 12 by omega) hR.1 hTB hKT hX h
  have p0 : ∀ r, Em L xs 184 [.ref 112, .int 2] (179, I, Lm, RG nw sp s2 ai) r ↔ r = (some (.int (nI N)), 179, G0, Lk, RG nw sp s2 ai) := fun r => p0 r
  have q0 : RS G0 T n c (peQ0 T n c V NS NH N q) := q0
  obtain ⟨f48, fL⟩ := nw_fr (kd := 2) (m := N) (by decide) (by omega) u0 u0b f03
  have F0 : FX I G0 (RPe N) := fun p k hn => by
    by_cases e : p = 112
    · subst e
      exact f02 k (fun z => hn (Or.inl ⟨rfl, by omega⟩)) (fun z => hn (Or.inl ⟨rfl, by omega⟩)) (fun z => hn (Or.inl ⟨rfl, by omega⟩)) (fun z => hn (Or.inl ⟨rfl, by omega⟩)) (fun z => hn (Or.inl ⟨rfl, by omega⟩))
    · by_cases e2 : p = 148
      · subst e2
        exact f48 k (Nat.le_of_not_lt (fun z => hn (Or.inr (Or.inl ⟨rfl, z⟩))))
      · rw [f01 p e e2]
  obtain ⟨G1, a1, q1, f1⟩ := r_asks (w := 1) (Lm := Lk) (L := L) (xs := xs) (nw := nw) (sp := sp) (s2 := s2) (ai := ai) (by decide) (F0.tbR hEB hTB) (F0.ktR hEB hKT) hX q0
  have q1 : RS G1 T n c (peQ1 T n c V NS NH N q) := q1
  have a1 : ∀ r, Em L xs 176 [.ref 112, .ref 115] (179, G0, Lk, RG nw sp s2 ai) r ↔ r = (none, 179, G1, Lk, RG nw sp s2 ai) := fun r => a1 r
  have F1 : FX I G1 (RPe N) := fxTr F0 (fxR f1 e0)
  have i1 : inb (nI N) 12 = True := inb_i hN.2.2 (by decide)
  have x1 : ixn (nI N) = N := ixn_nI (by omega)
  have sv : ∀ f k, f ≠ 17 → f ≠ 0 → f ≠ 1 → f ≠ 3 → peV T n c V NS NH N q f k = V f k := fun f k a1 a2 a3 a4 => by unfold peV; rw [up2_p a4, up2_p a3, up2_p a2, up2_p a1]
  have ov : ∀ f k, k ≠ N → peV T n c V NS NH N q f k = V f k := fun f k hk => by unfold peV up2; rw [if_neg (fun z => hk z.2), if_neg (fun z => hk z.2), if_neg (fun z => hk z.2), if_neg (fun z => hk z.2)]
  have nmGG : (peQ0 T n c V NS NH N q).1 = 0 → NmM G1 Lk (peV T n c V NS NH N q) NS NH (N + 1) := fun h0 => by
      obtain ⟨n8, n7, nn⟩ := u0 h0
      refine nmNew (kd := 2) (by decide) hN' (show N < 12 by omega) hR.1 (fun j => by rw [f1.1 148 (by decide)]; exact n8 j) n7 nn (fun e he => ?_) (fun e k he => ?_)
      · match e, he with
        | 0, _ => exact (if_neg (by decide)).symm
        | 1, _ => exact (if_neg (by decide)).symm
        | 2, _ => exact (if_pos rfl).symm
      · by_cases z : e = 2 ∧ k = cnK NS NH N 2
        · rw [if_pos z, z.1]
          have z2 : k = N := z.2
          rw [z2]
          show peV T n c V NS NH N q 17 N = _
          unfold peV
          rw [up2_p (by decide), up2_p (by decide), up2_p (by decide), up2_eq]
        · rw [if_neg z]
          by_cases y : k = N
          · have y1 : e ≠ 2 := fun y2 => z ⟨y2, y⟩
            exact sv _ _ (by omega) (by omega) (by omega) (by omega)
          · exact ov _ _ y
  by_cases hq1 : (peQ1 T n c V NS NH N q).1 = 0
  · have h0 : (peQ0 T n c V NS NH N q).1 = 0 := (asz_0 hq1).1
    obtain ⟨-, ⟨d1, d2⟩, d3, d4, d5, d6⟩ := id hR
    have nmG := nmGG h0
    obtain ⟨v, G2, p2, q2, f2, u2, -⟩ := r_oneOf (kd := 0) (NS := NS) (NH := NH) (N := N + 1) (V := peV T n c V NS NH N q) (Lm := Lk) (L := L) (xs := xs) (nw := nw) (sp := sp) (s2 := s2) (ai := ai) (by decide) ⟨hN.1, hN.2.1, by omega⟩ nmG (F1.tbR hEB hTB) (F1.ktR hEB hKT) hX q1
    have hE15 : peV T n c V NS NH N q (15 + 0) = V 15 := funext fun k => sv 15 k (by decide) (by decide) (by decide) (by decide)
    rw [hE15] at q2 u2
    have q2 : RS G2 T n c (peQ2 T n c V NS NH N q) := q2
    have u2 : (peQ2 T n c V NS NH N q).1 = 0 → v = nI (ixF (V 15) (nxI T n (peQ1 T n c V NS NH N q).2.2) NS 0) := fun z => (u2 z hq1).1
    have p2 : ∀ r, Em L xs 185 [.ref 112, .int 0] (179, G1, Lk, RG nw sp s2 ai) r ↔ r = (some (.int v), 179, G2, Lk, RG nw sp s2 ai) := fun r => p2 r
    have F2 : FX I G2 (RPe N) := fxTr F1 (fxR f2 e0)
    have cu : ∀ {A : Nat → Nat → Int32} {x : Int32} p, p = 151 ∨ p = 152 ∨ p = 153 → FX A (up2 A p N x) (RPe N) := fun p hp => fxUp (Or.inr (Or.inr ⟨hp, rfl⟩))
    have F5 : FX I (up2 (up2 (up2 G2 151 N v) 152 N (-1)) 153 N (-1)) (RPe N) := fxTr (fxTr (fxTr F2 (cu 151 (by decide))) (cu 152 (by decide))) (cu 153 (by decide))
    refine ⟨up2 (up2 (up2 G2 151 N v) 152 N (-1)) 153 N (-1), Lk, fun r => ?_, rsUp (rsUp (rsUp q2 (Or.inl (by decide))) (Or.inl (by decide))) (Or.inl (by decide)), F5, fL, fun hg => ?_⟩
    · rw [em_189]
      simp only [x189_0, x189_1, x189_2, x189_5, x189_6, x189_7, x189_9, x189_10, x189_13, x189_16, x189_17, x189_18, x189_19, x189_22, x189_23, x189_24, x189_25, x189_28, x189_31, x189_32, x189_35, x189_36, x189_37, x189_38, x189_41, x189_42, x189_43, x189_46, x189_47, x189_48, x189_49, x189_50, x189_53, x189_54, x189_55, x189_56, sh_112, sh_113, sh_114, sh_115, sh_116, sh_117, sh_118, sh_119, sh_120, sh_121, sh_122, sh_123, sh_124, sh_125, sh_126, sh_127, sh_128, sh_129, sh_130, sh_131, sh_132, sh_133, sh_134, sh_135, sh_136, sh_137, sh_138, sh_139, sh_140, sh_141, sh_142, sh_143, sh_144, sh_145, sh_146, sh_147, sh_148, sh_149, sh_150, sh_151, sh_152, sh_153, sh_154, sh_155, sh_156, sh_157, sh_158, sh_159, sh_160, sh_161, sh_162, sh_163, sh_164, sh_165, sh_166, sh_167, sh_168, sh_169, sh_170, sh_171, sh_172, sh_173, sh_174, sh_175, sh_176, sh_177, sh_178, lq_112, lq_113, lq_114, lq_115, lq_116, lq_117, lq_118, lq_119, lq_120, lq_121, lq_122, lq_123, lq_124, lq_125, lq_126, lq_127, lq_128, lq_129, lq_130, lq_131, lq_132, lq_133, lq_134, lq_135, lq_136, lq_137, lq_138, lq_139, lq_140, lq_141, lq_142, lq_143, lq_144, lq_145, lq_146, lq_147, lq_148, lq_149, lq_150, lq_151, lq_152, lq_153, lq_154, lq_155, lq_156, lq_157, lq_158, lq_159, lq_160, lq_161, lq_162, lq_163, lq_164, lq_165, lq_166, lq_167, lq_168, lq_169, lq_170, lq_171, lq_172, lq_173, lq_174, lq_175, lq_176, lq_177, lq_178, rg_112_0, rg_112_9, rg_112_10, rg_112_11, rg_112_12, rg_112_13, rg_112_14, rg_112_15, rg_112_16, rg_112_17, rg_112_18, rg_112_19, rg_112_20, rg_112_21, rg_112_22, rg_112_23, rg_112_24, rg_112_25, rg_112_26, rg_112_27, rg_112_28, rg_112_29, rg_112_30, rg_112_31, rg_112_32, rg_112_33, rg_112_34, rg_112_35, rg_112_36, rg_112_37, rg_112_38, rg_112_39, rg_112_40, rg_112_41, rg_112_43, rg_112_44, rg_112_45, rg_112_46, rg_112_47, rg_112_48, rg_112_49, rg_112_51, rg_112_55, rg_112_57, rg_112_60, rg_112_61, rg_112_62, rg_112_63, rg_112_64, rg_112_66, rg_112_67, rg_112_68, rg_112_69, rg_112_70, rg_112_71, rg_112_72, rg_112_73, rg_112_74, rg_112_80, rg_112_83, rg_112_84, rg_112_85, rg_112_86, rg_112_90, rg_112_91, rg_112_92, ex5, Option.toList_some, Option.toList_none, List.cons_append, List.nil_append, true_and, and_true, nI_1, p_at, p_set, p_isIn, p_max, p_min, p_abs, j0, k0, c0, room, if_true, p0, a1, p2, i1, x1]
    · have w2 := u2 hg
      have rr : ∀ p, p = 149 ∨ p = 150 ∨ p = 154 → ∀ k, up2 (up2 (up2 G2 151 N v) 152 N (-1)) 153 N (-1) p k = I p k := fun p hp k => F5 p k (fun z => by unfold RPe R0 at z; omega)
      refine ⟨nmFx nmG (fun j => by rw [up2_p (by decide), up2_p (by decide), up2_p (by decide), f2.1 148 (by decide)]), ⟨(F5 112 54 (fun z => by unfold RPe R0 at z; omega)).trans d1, (F5 112 50 (fun z => by unfold RPe R0 at z; omega)).trans d2⟩, fun k hk => ?_, fun k hk w hw => ?_, fun k hk w hw => ?_, fun k hk => ?_⟩
      · by_cases e : k = N
        · subst e
          refine ⟨?_, ?_, ?_⟩
          · rw [up2_p (by decide), up2_p (by decide), up2_eq, w2]
            unfold peV
            rw [up2_p (by decide), up2_p (by decide), up2_eq]
          · rw [up2_p (by decide), up2_eq]
            unfold peV
            rw [up2_p (by decide), up2_eq]
          · rw [up2_eq]
            unfold peV
            rw [up2_eq]
        · rw [ov 0 k e, ov 1 k e, ov 3 k e, F5 151 k (fun z => by unfold RPe R0 at z; omega), F5 152 k (fun z => by unfold RPe R0 at z; omega), F5 153 k (fun z => by unfold RPe R0 at z; omega)]
          exact d3 k (by omega)
      · rw [rr 149 (by omega), sv _ k (by omega) (by omega) (by omega) (by omega)]
        exact d4 k hk w hw
      · rw [rr 150 (by omega), sv _ k (by omega) (by omega) (by omega) (by omega)]
        exact d5 k hk w hw
      · rw [rr 154 (by omega), sv 13 k (by decide) (by decide) (by decide) (by decide)]
        exact d6 k hk
  · have nm2 : ∃ V2 N2, N2 ≤ 12 ∧ NmM G1 Lk V2 NS NH N2 := by
      by_cases h0 : (peQ0 T n c V NS NH N q).1 = 0
      · exact ⟨_, N + 1, by omega, nmGG h0⟩
      · obtain ⟨y1, y2⟩ := u0b h0
        subst y2
        exact ⟨V, N, by omega, nmFx hR.1 (fun j => by rw [f1.1 148 (by decide), y1])⟩
    obtain ⟨V2, N2, hN2, nm2⟩ := nm2
    obtain ⟨v, G2, p2, q2, f2, -⟩ := r_oneOf (kd := 0) (NS := NS) (NH := NH) (N := N2) (V := V2) (Lm := Lk) (L := L) (xs := xs) (nw := nw) (sp := sp) (s2 := s2) (ai := ai) (by decide) ⟨hN.1, hN.2.1, hN2⟩ nm2 (F1.tbR hEB hTB) (F1.ktR hEB hKT) hX q1
    rw [show knz T n c (V2 (15 + 0)) (cnK NS NH N2 0) (peQ1 T n c V NS NH N q) = peQ1 T n c V NS NH N q from by unfold knz; rw [if_neg (fun z => hq1 z.1)]; exact if_neg hq1] at q2
    have p2 : ∀ r, Em L xs 185 [.ref 112, .int 0] (179, G1, Lk, RG nw sp s2 ai) r ↔ r = (some (.int v), 179, G2, Lk, RG nw sp s2 ai) := fun r => p2 r
    have F2 : FX I G2 (RPe N) := fxTr F1 (fxR f2 e0)
    have cu : ∀ {A : Nat → Nat → Int32} {x : Int32} p, p = 151 ∨ p = 152 ∨ p = 153 → FX A (up2 A p N x) (RPe N) := fun p hp => fxUp (Or.inr (Or.inr ⟨hp, rfl⟩))
    have F5 : FX I (up2 (up2 (up2 G2 151 N v) 152 N (-1)) 153 N (-1)) (RPe N) := fxTr (fxTr (fxTr F2 (cu 151 (by decide))) (cu 152 (by decide))) (cu 153 (by decide))
    have ez : peQ2 T n c V NS NH N q = peQ1 T n c V NS NH N q := by
      unfold peQ2 knz
      rw [if_neg (fun z => hq1 z.1)]
      exact if_neg hq1
    refine ⟨up2 (up2 (up2 G2 151 N v) 152 N (-1)) 153 N (-1), Lk, fun r => ?_, by rw [ez]; exact rsUp (rsUp (rsUp q2 (Or.inl (by decide))) (Or.inl (by decide))) (Or.inl (by decide)), F5, fL, fun hg => (hq1 (by rw [← ez]; exact hg)).elim⟩
    rw [em_189]
    simp only [x189_0, x189_1, x189_2, x189_5, x189_6, x189_7, x189_9, x189_10, x189_13, x189_16, x189_17, x189_18, x189_19, x189_22, x189_23, x189_24, x189_25, x189_28, x189_31, x189_32, x189_35, x189_36, x189_37, x189_38, x189_41, x189_42, x189_43, x189_46, x189_47, x189_48, x189_49, x189_50, x189_53, x189_54, x189_55, x189_56, sh_112, sh_113, sh_114, sh_115, sh_116, sh_117, sh_118, sh_119, sh_120, sh_121, sh_122, sh_123, sh_124, sh_125, sh_126, sh_127, sh_128, sh_129, sh_130, sh_131, sh_132, sh_133, sh_134, sh_135, sh_136, sh_137, sh_138, sh_139, sh_140, sh_141, sh_142, sh_143, sh_144, sh_145, sh_146, sh_147, sh_148, sh_149, sh_150, sh_151, sh_152, sh_153, sh_154, sh_155, sh_156, sh_157, sh_158, sh_159, sh_160, sh_161, sh_162, sh_163, sh_164, sh_165, sh_166, sh_167, sh_168, sh_169, sh_170, sh_171, sh_172, sh_173, sh_174, sh_175, sh_176, sh_177, sh_178, lq_112, lq_113, lq_114, lq_115, lq_116, lq_117, lq_118, lq_119, lq_120, lq_121, lq_122, lq_123, lq_124, lq_125, lq_126, lq_127, lq_128, lq_129, lq_130, lq_131, lq_132, lq_133, lq_134, lq_135, lq_136, lq_137, lq_138, lq_139, lq_140, lq_141, lq_142, lq_143, lq_144, lq_145, lq_146, lq_147, lq_148, lq_149, lq_150, lq_151, lq_152, lq_153, lq_154, lq_155, lq_156, lq_157, lq_158, lq_159, lq_160, lq_161, lq_162, lq_163, lq_164, lq_165, lq_166, lq_167, lq_168, lq_169, lq_170, lq_171, lq_172, lq_173, lq_174, lq_175, lq_176, lq_177, lq_178, rg_112_0, rg_112_9, rg_112_10, rg_112_11, rg_112_12, rg_112_13, rg_112_14, rg_112_15, rg_112_16, rg_112_17, rg_112_18, rg_112_19, rg_112_20, rg_112_21, rg_112_22, rg_112_23, rg_112_24, rg_112_25, rg_112_26, rg_112_27, rg_112_28, rg_112_29, rg_112_30, rg_112_31, rg_112_32, rg_112_33, rg_112_34, rg_112_35, rg_112_36, rg_112_37, rg_112_38, rg_112_39, rg_112_40, rg_112_41, rg_112_43, rg_112_44, rg_112_45, rg_112_46, rg_112_47, rg_112_48, rg_112_49, rg_112_51, rg_112_55, rg_112_57, rg_112_60, rg_112_61, rg_112_62, rg_112_63, rg_112_64, rg_112_66, rg_112_67, rg_112_68, rg_112_69, rg_112_70, rg_112_71, rg_112_72, rg_112_73, rg_112_74, rg_112_80, rg_112_83, rg_112_84, rg_112_85, rg_112_86, rg_112_90, rg_112_91, rg_112_92, ex5, Option.toList_some, Option.toList_none, List.cons_append, List.nil_append, true_and, and_true, nI_1, p_at, p_set, p_isIn, p_max, p_min, p_abs, j0, k0, c0, room, if_true, p0, a1, p2, i1, x1]
end
