/-! the reference: facts -/
section
variable {L : Nat} {xs : Nat → Int32} {σ : Mm} {r : Option Value × Mm} {I J K : Nat → Nat → Int32} {Lm : Nat → Nat → Int64} {Rm : Nat → Nat → Nat} {n s so t N NS NH m M P nw S U : Nat} {V W : Vw} {sp s2 ai p : Nat} {x y z h v : Int32} {k c w lo hi kd pl bs o ch g : Nat} {T : Nat → Nat} {q : Rz} {p : Pz} {E E2 : Nat → Nat → Prop} {G : Nat → Nat → Int32} {cs W ws O : List Nat}

theorem sg60 : sgO 60 := ⟨by decide, rfl, rfl⟩
theorem sg62 : sgO 62 := ⟨by decide, rfl, rfl⟩
theorem sg61 : sgO 61 := ⟨by decide, rfl, rfl⟩
/-- a sign is passed -/
theorem rs_step (hs : sgO ch) (hX : TX T n c) (h : RS I T n c q) (hb : q.1 = 0) (hw : wq T n c q.2.2 = 256 + ch) : RS (up2 I 112 2 (nI (frW T n q.2.2 + 1))) T n c (0, 0, q.2.2 + 1) ∧ RFr I (up2 I 112 2 (nI (frW T n q.2.2 + 1))) := by
  obtain ⟨g5, hP⟩ := rs_good h hb
  obtain ⟨kc, hT⟩ := (wq_sign (w := ch) hX hs.1 hs.2.1 hs.2.2).mp hw
  have P3 : PS (up2 I 112 2 (nI (frW T n q.2.2 + 1))) T n c (q.2.2 + 1) := by
    refine ps_sign hX kc (by rw [hT]; exact hs.2.1) (by rw [hT]; exact hs.2.2) up2_eq (by rw [up2_k (by decide)]; exact hP.2.1) ?_
    rw [up2_k (by decide)]
    obtain ⟨⟨a, -, q2, -, q4⟩, -, -, -⟩ := hP
    omega
  exact ⟨⟨by rw [up2_k (by decide)]; exact g5, Nat.zero_le _, fun _ => P3, (up2_k (by decide)).trans (h.2.2.2.trans (plc_g hb _ _))⟩, ⟨fun p hp => funext fun j => up2_p hp, fun j j2 _ _ _ _ => up2_k j2⟩⟩
theorem len_1 {l : List Nat} {m : Nat} : (l ++ [m]).length = l.length + 1 := List.length_append
theorem r_fact (hTB : TB I T) (hKT : KT I) (hX : TX T n c) (hR : RS I T n c p.1) (hp : p.1.1 = 0) (hY : YS I p.2 W) (hl : p.2.length + W.length + 2 ≤ p.1.2.2) (hn : NT 1 W) (ho : I 112 59 = nI o) (h6 : o ≤ 6) : ∃ G, (∀ r, Em L xs 206 [.ref 112] (179, I, Lm, RG nw sp s2 ai) r ↔ r = (none, 179, G, Lm, RG nw sp s2 ai)) ∧ RS G T n c (fcB T n c (6 - o) p).1 ∧ ((fcB T n c (6 - o) p).1.1 = 0 → YS G (fcB T n c (6 - o) p).2 W ∧ (fcB T n c (6 - o) p).2.length + W.length + 2 ≤ (fcB T n c (6 - o) p).1.2.2 ∧ G 112 59 = nI o) ∧ (∃ l, G 112 56 = nI l ∧ l ≤ 1600) ∧ FX I G EQ := by
  have hk := rs_k hR hp
  have hnn := hX.1
  have hcn := hX.2.1
  obtain ⟨G1, t1, R1, F1, -⟩ := r_takes (w := 23) (Lm := Lm) (L := L) (xs := xs) (nw := nw) (sp := sp) (s2 := s2) (ai := ai) (by decide) hTB hKT hX hR
  have t1 : ∀ r, Em L xs 175 [.ref 112, .ref 137] (179, I, Lm, RG nw sp s2 ai) r ↔ r = (some (.int (if p.1.1 = 0 ∧ wq T n c p.1.2.2 = 23 then 1 else 0)), 179, G1, Lm, RG nw sp s2 ai) := fun r => t1 r
  have o1 : G1 112 59 = nI o := (F1.2 59 (by decide) (by decide) (by decide) (by decide) (by decide)).trans ho
  by_cases e : wq T n c p.1.2.2 = 23
  · rw [if_pos ⟨hp, e⟩] at t1
    rw [show tkz T n c 23 p.1 = (0, 0, p.1.2.2 + 1) from if_pos ⟨hp, e⟩] at R1
    obtain ⟨G2, c1, c2, c3⟩ := r_code (m := 17) (Lm := Lm) (L := L) (xs := xs) (nw := nw) (sp := sp) (s2 := s2) (ai := ai) (ysR F1 hY) (by omega)
    have c1 : ∀ r, Em L xs 196 [.ref 112, .int 17] (179, G1, Lm, RG nw sp s2 ai) r ↔ r = (none, 179, G2, Lm, RG nw sp s2 ai) := fun r => c1 r
    have ez : fcB T n c (6 - o) p = ((0, 0, p.1.2.2 + 1), p.2 ++ [17]) := if_pos e
    rw [ez]
    refine ⟨G2, fun r => ?_, rsY c3 R1, fun _ => ⟨c2, ?_, ?_⟩, ⟨_, c2.1.1, ?_⟩, fxTr (fxR F1 eRQ) (fxSub c3 eYQ)⟩
    · rw [em_206]
      simp only [x206_0, x206_1, x206_2, x206_5, x206_8, x206_11, x206_12, x206_14, x206_17, x206_18, x206_19, x206_22, x206_23, x206_26, x206_29, x206_30, x206_31, x206_34, x206_35, x206_36, x206_38, x206_41, x206_42, x206_44, x206_47, x206_48, x206_50, x206_53, x206_54, x206_55, x206_56, x206_59, x206_62, x206_63, x206_64, x206_65, x206_68, x206_69, x206_70, x206_73, x206_74, x206_77, x206_78, x206_79, x206_81, x206_84, x206_86, x206_89, x206_90, x206_92, x206_95, x206_97, x206_100, x206_102, x206_105, sh_112, sh_113, sh_114, sh_115, sh_116, sh_117, sh_118, sh_119, sh_120, sh_121, sh_122, sh_123, sh_124, sh_125, sh_126, sh_127, sh_128, sh_129, sh_130, sh_131, sh_132, sh_133, sh_134, sh_135, sh_136, sh_137, sh_138, sh_139, sh_140, sh_141, sh_142, sh_143, sh_144, sh_145, sh_146, sh_147, sh_148, sh_149, sh_150, sh_151, sh_152, sh_153, sh_154, sh_155, sh_156, sh_157, sh_158, sh_159, sh_160, sh_161, sh_162, sh_163, sh_164, sh_165, sh_166, sh_167, sh_168, sh_169, sh_170, sh_171, sh_172, sh_173, sh_174, sh_175, sh_176, sh_177, sh_178, lq_112, lq_113, lq_114, lq_115, lq_116, lq_117, lq_118, lq_119, lq_120, lq_121, lq_122, lq_123, lq_124, lq_125, lq_126, lq_127, lq_128, lq_129, lq_130, lq_131, lq_132, lq_133, lq_134, lq_135, lq_136, lq_137, lq_138, lq_139, lq_140, lq_141, lq_142, lq_143, lq_144, lq_145, lq_146, lq_147, lq_148, lq_149, lq_150, lq_151, lq_152, lq_153, lq_154, lq_155, lq_156, lq_157, lq_158, lq_159, lq_160, lq_161, lq_162, lq_163, lq_164, lq_165, lq_166, lq_167, lq_168, lq_169, lq_170, lq_171, lq_172, lq_173, lq_174, lq_175, lq_176, lq_177, lq_178, rg_112_0, rg_112_9, rg_112_10, rg_112_11, rg_112_12, rg_112_13, rg_112_14, rg_112_15, rg_112_16, rg_112_17, rg_112_18, rg_112_19, rg_112_20, rg_112_21, rg_112_22, rg_112_23, rg_112_24, rg_112_25, rg_112_26, rg_112_27, rg_112_28, rg_112_29, rg_112_30, rg_112_31, rg_112_32, rg_112_33, rg_112_34, rg_112_35, rg_112_36, rg_112_37, rg_112_38, rg_112_39, rg_112_40, rg_112_41, rg_112_43, rg_112_44, rg_112_45, rg_112_46, rg_112_47, rg_112_48, rg_112_49, rg_112_51, rg_112_55, rg_112_57, rg_112_60, rg_112_61, rg_112_62, rg_112_63, rg_112_64, rg_112_66, rg_112_67, rg_112_68, rg_112_69, rg_112_70, rg_112_71, rg_112_72, rg_112_73, rg_112_74, rg_112_80, rg_112_83, rg_112_84, rg_112_85, rg_112_86, rg_112_90, rg_112_91, rg_112_92, ex5, Option.toList_some, Option.toList_none, List.cons_append, List.nil_append, true_and, and_true, nI_1, p_at, p_set, p_isIn, p_max, p_min, p_abs, t1, one_ne, if_false, c1]
    · show (p.2 ++ [17]).length + W.length + 2 ≤ p.1.2.2 + 1
      rw [len_1]; omega
    · exact (c3 112 59 (fun z => by unfold EY at z; omega)).trans o1
    · rw [len_1]; omega
  rw [if_neg (fun z => e z.2)] at t1
  rw [show tkz T n c 23 p.1 = p.1 from if_neg (fun z => e z.2)] at R1
  obtain ⟨G2, u1, R2, Z2, o2, F2⟩ := r_sums (Lm := Lm) (L := L) (xs := xs) (nw := nw) (sp := sp) (s2 := s2) (ai := ai) (F1.tb hTB) (F1.kt hKT) hX R1 hp (ysR F1 hY) hl hn o1 h6
  obtain ⟨y, hy⟩ : ∃ y, pSum T n c (6 - o) p = y := ⟨_, rfl⟩
  rw [hy] at R2 Z2 o2
  have ez : fcB T n c (6 - o) p = adP (cmN T n c y.1) (pSum T n c (6 - o) (qP (cmQ T n c) y)) := by
    have ez : fcB T n c (6 - o) p = cmpP T n c (pSum T n c (6 - o)) p := if_neg e
    rw [ez]
    unfold cmpP
    rw [hy]
  have F2 := fxTr (fxR F1 eRQ) F2
  by_cases hb : y.1.1 = 0
  · obtain ⟨Y2, l2⟩ := Z2.1 hb
    have o2 := o2 hb
    obtain ⟨q5, P2⟩ := rs_good R2 hb
    have hk2 := rs_k R2 hb
    obtain ⟨G3, a1, a2, a3, a4, a5⟩ := r_look (Lm := Lm) (L := L) (xs := xs) (nw := nw) (sp := sp) (s2 := s2) (ai := ai) (F2.tbE eQB hTB) hX P2
    have hF3 : RFr G2 G3 := ⟨a4, fun j j2 _ _ _ _ => a5 j j2⟩
    have R3 : RS G3 T n c y.1 := ⟨by rw [a5 5 (by decide)]; exact R2.1, R2.2.1, fun _ => a3, (a5 6 (by decide)).trans R2.2.2.2⟩
    have F3 := fxTr F2 (fxR hF3 eRQ)
    have tb3 := F3.tbE eQB hTB
    have kt3 := F3.ktE eQB hKT
    have g53 : G3 112 5 = 0 := (rs_good R3 hb).1
    have o3 : G3 112 59 = nI o := (a5 59 (by decide)).trans o2
    by_cases e60 : wq T n c y.1.2.2 = 316
    · have k60 : (lkR T n c y.1.2.2 = 60) = True := eq_true ((lk_is hX sg60).mpr e60)
      obtain ⟨R4, F4⟩ := rs_step sg60 hX R3 hb e60
      have cq : cmQ T n c y.1 = (0, 0, y.1.2.2 + 1) := by unfold cmQ; rw [if_pos hb, if_pos (Or.inl e60)]
      have cn : cmN T n c y.1 = 11 := by unfold cmN; rw [if_pos ⟨hb, e60⟩]
      have Y3 := ysR hF3 Y2
      obtain ⟨G5, v1, R5, Z5, o5, F5⟩ := r_sums (Lm := Lm) (L := L) (xs := xs) (nw := nw) (sp := sp) (s2 := s2) (ai := ai) (p := ((0, 0, y.1.2.2 + 1), y.2)) (F4.tb tb3) (F4.kt kt3) hX R4 rfl (ysR F4 Y3) (by show y.2.length + W.length + 2 ≤ y.1.2.2 + 1; omega) hn ((F4.2 59 (by decide) (by decide) (by decide) (by decide) (by decide)).trans o3) h6
      have ep : pSum T n c (6 - o) (qP (cmQ T n c) y) = pSum T n c (6 - o) ((0, 0, y.1.2.2 + 1), y.2) := by unfold qP; rw [cq]
      have sm := sm_sum (T := T) (n := n) (c := c) (6 - o) ((0, 0, y.1.2.2 + 1), y.2)
      obtain ⟨z, hz⟩ : ∃ z, pSum T n c (6 - o) ((0, 0, y.1.2.2 + 1), y.2) = z := ⟨_, rfl⟩
      rw [hz] at R5 Z5 o5 ep sm
      rw [cn, ep] at ez
      rw [ez]
      have F5 := fxTr (fxTr F3 (fxR F4 eRQ)) F5
      by_cases hz2 : z.1.1 = 0
      · obtain ⟨Y5, l5⟩ := Z5.1 hz2
        have hk5 := rs_k R5 hz2
        have sm : z.2.length + (y.1.2.2 + 1) ≤ z.1.2.2 + y.2.length := (sm hz2).2.1
        obtain ⟨G6, c1, c2, c3⟩ := r_code (m := 11) (Lm := Lm) (L := L) (xs := xs) (nw := nw) (sp := sp) (s2 := s2) (ai := ai) Y5 (by omega)
        have c1 : ∀ r, Em L xs 196 [.ref 112, .int 11] (179, G5, Lm, RG nw sp s2 ai) r ↔ r = (none, 179, G6, Lm, RG nw sp s2 ai) := fun r => c1 r
        refine ⟨G6, fun r => ?_, rsY c3 R5, fun _ => ⟨c2, ?_, ?_⟩, ⟨_, c2.1.1, ?_⟩, fxTr F5 (fxSub c3 eYQ)⟩
        · rw [em_206]
          simp only [x206_0, x206_1, x206_2, x206_5, x206_8, x206_11, x206_12, x206_14, x206_17, x206_18, x206_19, x206_22, x206_23, x206_26, x206_29, x206_30, x206_31, x206_34, x206_35, x206_36, x206_38, x206_41, x206_42, x206_44, x206_47, x206_48, x206_50, x206_53, x206_54, x206_55, x206_56, x206_59, x206_62, x206_63, x206_64, x206_65, x206_68, x206_69, x206_70, x206_73, x206_74, x206_77, x206_78, x206_79, x206_81, x206_84, x206_86, x206_89, x206_90, x206_92, x206_95, x206_97, x206_100, x206_102, x206_105, sh_112, sh_113, sh_114, sh_115, sh_116, sh_117, sh_118, sh_119, sh_120, sh_121, sh_122, sh_123, sh_124, sh_125, sh_126, sh_127, sh_128, sh_129, sh_130, sh_131, sh_132, sh_133, sh_134, sh_135, sh_136, sh_137, sh_138, sh_139, sh_140, sh_141, sh_142, sh_143, sh_144, sh_145, sh_146, sh_147, sh_148, sh_149, sh_150, sh_151, sh_152, sh_153, sh_154, sh_155, sh_156, sh_157, sh_158, sh_159, sh_160, sh_161, sh_162, sh_163, sh_164, sh_165, sh_166, sh_167, sh_168, sh_169, sh_170, sh_171, sh_172, sh_173, sh_174, sh_175, sh_176, sh_177, sh_178, lq_112, lq_113, lq_114, lq_115, lq_116, lq_117, lq_118, lq_119, lq_120, lq_121, lq_122, lq_123, lq_124, lq_125, lq_126, lq_127, lq_128, lq_129, lq_130, lq_131, lq_132, lq_133, lq_134, lq_135, lq_136, lq_137, lq_138, lq_139, lq_140, lq_141, lq_142, lq_143, lq_144, lq_145, lq_146, lq_147, lq_148, lq_149, lq_150, lq_151, lq_152, lq_153, lq_154, lq_155, lq_156, lq_157, lq_158, lq_159, lq_160, lq_161, lq_162, lq_163, lq_164, lq_165, lq_166, lq_167, lq_168, lq_169, lq_170, lq_171, lq_172, lq_173, lq_174, lq_175, lq_176, lq_177, lq_178, rg_112_0, rg_112_9, rg_112_10, rg_112_11, rg_112_12, rg_112_13, rg_112_14, rg_112_15, rg_112_16, rg_112_17, rg_112_18, rg_112_19, rg_112_20, rg_112_21, rg_112_22, rg_112_23, rg_112_24, rg_112_25, rg_112_26, rg_112_27, rg_112_28, rg_112_29, rg_112_30, rg_112_31, rg_112_32, rg_112_33, rg_112_34, rg_112_35, rg_112_36, rg_112_37, rg_112_38, rg_112_39, rg_112_40, rg_112_41, rg_112_43, rg_112_44, rg_112_45, rg_112_46, rg_112_47, rg_112_48, rg_112_49, rg_112_51, rg_112_55, rg_112_57, rg_112_60, rg_112_61, rg_112_62, rg_112_63, rg_112_64, rg_112_66, rg_112_67, rg_112_68, rg_112_69, rg_112_70, rg_112_71, rg_112_72, rg_112_73, rg_112_74, rg_112_80, rg_112_83, rg_112_84, rg_112_85, rg_112_86, rg_112_90, rg_112_91, rg_112_92, ex5, Option.toList_some, Option.toList_none, List.cons_append, List.nil_append, true_and, and_true, nI_1, p_at, p_set, p_isIn, p_max, p_min, p_abs, t1, if_true, if_false, u1, q5, a1, k60, a2, v1, c1]
        · show (z.2 ++ [11]).length + W.length + 2 ≤ z.1.2.2
          rw [len_1]; omega
        · exact (c3 112 59 (fun z => by unfold EY at z; omega)).trans (o5 hz2)
        · rw [len_1]; omega
      · obtain ⟨l, l1, l3⟩ := Z5.2
        obtain ⟨G6, c1, c2, c3⟩ := r_codeB (x := 11) (Lm := Lm) (L := L) (xs := xs) (nw := nw) (sp := sp) (s2 := s2) (ai := ai) l1 l3
        refine ⟨G6, fun r => ?_, rsY c2 R5, fun z => (hz2 z).elim, ⟨l + 1, c3, by omega⟩, fxTr F5 (fxSub c2 eYQ)⟩
        rw [em_206]
        simp only [x206_0, x206_1, x206_2, x206_5, x206_8, x206_11, x206_12, x206_14, x206_17, x206_18, x206_19, x206_22, x206_23, x206_26, x206_29, x206_30, x206_31, x206_34, x206_35, x206_36, x206_38, x206_41, x206_42, x206_44, x206_47, x206_48, x206_50, x206_53, x206_54, x206_55, x206_56, x206_59, x206_62, x206_63, x206_64, x206_65, x206_68, x206_69, x206_70, x206_73, x206_74, x206_77, x206_78, x206_79, x206_81, x206_84, x206_86, x206_89, x206_90, x206_92, x206_95, x206_97, x206_100, x206_102, x206_105, sh_112, sh_113, sh_114, sh_115, sh_116, sh_117, sh_118, sh_119, sh_120, sh_121, sh_122, sh_123, sh_124, sh_125, sh_126, sh_127, sh_128, sh_129, sh_130, sh_131, sh_132, sh_133, sh_134, sh_135, sh_136, sh_137, sh_138, sh_139, sh_140, sh_141, sh_142, sh_143, sh_144, sh_145, sh_146, sh_147, sh_148, sh_149, sh_150, sh_151, sh_152, sh_153, sh_154, sh_155, sh_156, sh_157, sh_158, sh_159, sh_160, sh_161, sh_162, sh_163, sh_164, sh_165, sh_166, sh_167, sh_168, sh_169, sh_170, sh_171, sh_172, sh_173, sh_174, sh_175, sh_176, sh_177, sh_178, lq_112, lq_113, lq_114, lq_115, lq_116, lq_117, lq_118, lq_119, lq_120, lq_121, lq_122, lq_123, lq_124, lq_125, lq_126, lq_127, lq_128, lq_129, lq_130, lq_131, lq_132, lq_133, lq_134, lq_135, lq_136, lq_137, lq_138, lq_139, lq_140, lq_141, lq_142, lq_143, lq_144, lq_145, lq_146, lq_147, lq_148, lq_149, lq_150, lq_151, lq_152, lq_153, lq_154, lq_155, lq_156, lq_157, lq_158, lq_159, lq_160, lq_161, lq_162, lq_163, lq_164, lq_165, lq_166, lq_167, lq_168, lq_169, lq_170, lq_171, lq_172, lq_173, lq_174, lq_175, lq_176, lq_177, lq_178, rg_112_0, rg_112_9, rg_112_10, rg_112_11, rg_112_12, rg_112_13, rg_112_14, rg_112_15, rg_112_16, rg_112_17, rg_112_18, rg_112_19, rg_112_20, rg_112_21, rg_112_22, rg_112_23, rg_112_24, rg_112_25, rg_112_26, rg_112_27, rg_112_28, rg_112_29, rg_112_30, rg_112_31, rg_112_32, rg_112_33, rg_112_34, rg_112_35, rg_112_36, rg_112_37, rg_112_38, rg_112_39, rg_112_40, rg_112_41, rg_112_43, rg_112_44, rg_112_45, rg_112_46, rg_112_47, rg_112_48, rg_112_49, rg_112_51, rg_112_55, rg_112_57, rg_112_60, rg_112_61, rg_112_62, rg_112_63, rg_112_64, rg_112_66, rg_112_67, rg_112_68, rg_112_69, rg_112_70, rg_112_71, rg_112_72, rg_112_73, rg_112_74, rg_112_80, rg_112_83, rg_112_84, rg_112_85, rg_112_86, rg_112_90, rg_112_91, rg_112_92, ex5, Option.toList_some, Option.toList_none, List.cons_append, List.nil_append, true_and, and_true, nI_1, p_at, p_set, p_isIn, p_max, p_min, p_abs, t1, if_true, if_false, u1, q5, a1, k60, a2, v1, c1]
    have k60 : (lkR T n c y.1.2.2 = 60) = False := eq_false (fun z => e60 ((lk_is hX sg60).mp z))
    by_cases e62 : wq T n c y.1.2.2 = 318
    · have k62 : (lkR T n c y.1.2.2 = 62) = True := eq_true ((lk_is hX sg62).mpr e62)
      obtain ⟨R4, F4⟩ := rs_step sg62 hX R3 hb e62
      have cq : cmQ T n c y.1 = (0, 0, y.1.2.2 + 1) := by unfold cmQ; rw [if_pos hb, if_pos (Or.inr e62)]
      have cn : cmN T n c y.1 = 12 := by unfold cmN; rw [if_neg (fun z => e60 z.2), if_pos ⟨hb, e62⟩]
      have Y3 := ysR hF3 Y2
      obtain ⟨G5, v1, R5, Z5, o5, F5⟩ := r_sums (Lm := Lm) (L := L) (xs := xs) (nw := nw) (sp := sp) (s2 := s2) (ai := ai) (p := ((0, 0, y.1.2.2 + 1), y.2)) (F4.tb tb3) (F4.kt kt3) hX R4 rfl (ysR F4 Y3) (by show y.2.length + W.length + 2 ≤ y.1.2.2 + 1; omega) hn ((F4.2 59 (by decide) (by decide) (by decide) (by decide) (by decide)).trans o3) h6
      have ep : pSum T n c (6 - o) (qP (cmQ T n c) y) = pSum T n c (6 - o) ((0, 0, y.1.2.2 + 1), y.2) := by unfold qP; rw [cq]
      have sm := sm_sum (T := T) (n := n) (c := c) (6 - o) ((0, 0, y.1.2.2 + 1), y.2)
      obtain ⟨z, hz⟩ : ∃ z, pSum T n c (6 - o) ((0, 0, y.1.2.2 + 1), y.2) = z := ⟨_, rfl⟩
      rw [hz] at R5 Z5 o5 ep sm
      rw [cn, ep] at ez
      rw [ez]
      have F5 := fxTr (fxTr F3 (fxR F4 eRQ)) F5
      by_cases hz2 : z.1.1 = 0
      · obtain ⟨Y5, l5⟩ := Z5.1 hz2
        have hk5 := rs_k R5 hz2
        have sm : z.2.length + (y.1.2.2 + 1) ≤ z.1.2.2 + y.2.length := (sm hz2).2.1
        obtain ⟨G6, c1, c2, c3⟩ := r_code (m := 12) (Lm := Lm) (L := L) (xs := xs) (nw := nw) (sp := sp) (s2 := s2) (ai := ai) Y5 (by omega)
        have c1 : ∀ r, Em L xs 196 [.ref 112, .int 12] (179, G5, Lm, RG nw sp s2 ai) r ↔ r = (none, 179, G6, Lm, RG nw sp s2 ai) := fun r => c1 r
        refine ⟨G6, fun r => ?_, rsY c3 R5, fun _ => ⟨c2, ?_, ?_⟩, ⟨_, c2.1.1, ?_⟩, fxTr F5 (fxSub c3 eYQ)⟩
        · rw [em_206]
          simp only [x206_0, x206_1, x206_2, x206_5, x206_8, x206_11, x206_12, x206_14, x206_17, x206_18, x206_19, x206_22, x206_23, x206_26, x206_29, x206_30, x206_31, x206_34, x206_35, x206_36, x206_38, x206_41, x206_42, x206_44, x206_47, x206_48, x206_50, x206_53, x206_54, x206_55, x206_56, x206_59, x206_62, x206_63, x206_64, x206_65, x206_68, x206_69, x206_70, x206_73, x206_74, x206_77, x206_78, x206_79, x206_81, x206_84, x206_86, x206_89, x206_90, x206_92, x206_95, x206_97, x206_100, x206_102, x206_105, sh_112, sh_113, sh_114, sh_115, sh_116, sh_117, sh_118, sh_119, sh_120, sh_121, sh_122, sh_123, sh_124, sh_125, sh_126, sh_127, sh_128, sh_129, sh_130, sh_131, sh_132, sh_133, sh_134, sh_135, sh_136, sh_137, sh_138, sh_139, sh_140, sh_141, sh_142, sh_143, sh_144, sh_145, sh_146, sh_147, sh_148, sh_149, sh_150, sh_151, sh_152, sh_153, sh_154, sh_155, sh_156, sh_157, sh_158, sh_159, sh_160, sh_161, sh_162, sh_163, sh_164, sh_165, sh_166, sh_167, sh_168, sh_169, sh_170, sh_171, sh_172, sh_173, sh_174, sh_175, sh_176, sh_177, sh_178, lq_112, lq_113, lq_114, lq_115, lq_116, lq_117, lq_118, lq_119, lq_120, lq_121, lq_122, lq_123, lq_124, lq_125, lq_126, lq_127, lq_128, lq_129, lq_130, lq_131, lq_132, lq_133, lq_134, lq_135, lq_136, lq_137, lq_138, lq_139, lq_140, lq_141, lq_142, lq_143, lq_144, lq_145, lq_146, lq_147, lq_148, lq_149, lq_150, lq_151, lq_152, lq_153, lq_154, lq_155, lq_156, lq_157, lq_158, lq_159, lq_160, lq_161, lq_162, lq_163, lq_164, lq_165, lq_166, lq_167, lq_168, lq_169, lq_170, lq_171, lq_172, lq_173, lq_174, lq_175, lq_176, lq_177, lq_178, rg_112_0, rg_112_9, rg_112_10, rg_112_11, rg_112_12, rg_112_13, rg_112_14, rg_112_15, rg_112_16, rg_112_17, rg_112_18, rg_112_19, rg_112_20, rg_112_21, rg_112_22, rg_112_23, rg_112_24, rg_112_25, rg_112_26, rg_112_27, rg_112_28, rg_112_29, rg_112_30, rg_112_31, rg_112_32, rg_112_33, rg_112_34, rg_112_35, rg_112_36, rg_112_37, rg_112_38, rg_112_39, rg_112_40, rg_112_41, rg_112_43, rg_112_44, rg_112_45, rg_112_46, rg_112_47, rg_112_48, rg_112_49, rg_112_51, rg_112_55, rg_112_57, rg_112_60, rg_112_61, rg_112_62, rg_112_63, rg_112_64, rg_112_66, rg_112_67, rg_112_68, rg_112_69, rg_112_70, rg_112_71, rg_112_72, rg_112_73, rg_112_74, rg_112_80, rg_112_83, rg_112_84, rg_112_85, rg_112_86, rg_112_90, rg_112_91, rg_112_92, ex5, Option.toList_some, Option.toList_none, List.cons_append, List.nil_append, true_and, and_true, nI_1, p_at, p_set, p_isIn, p_max, p_min, p_abs, t1, if_true, if_false, u1, q5, a1, k60, k62, a2, v1, c1]
        · show (z.2 ++ [12]).length + W.length + 2 ≤ z.1.2.2
          rw [len_1]; omega
        · exact (c3 112 59 (fun z => by unfold EY at z; omega)).trans (o5 hz2)
        · rw [len_1]; omega
      · obtain ⟨l, l1, l3⟩ := Z5.2
        obtain ⟨G6, c1, c2, c3⟩ := r_codeB (x := 12) (Lm := Lm) (L := L) (xs := xs) (nw := nw) (sp := sp) (s2 := s2) (ai := ai) l1 l3
        refine ⟨G6, fun r => ?_, rsY c2 R5, fun z => (hz2 z).elim, ⟨l + 1, c3, by omega⟩, fxTr F5 (fxSub c2 eYQ)⟩
        rw [em_206]
        simp only [x206_0, x206_1, x206_2, x206_5, x206_8, x206_11, x206_12, x206_14, x206_17, x206_18, x206_19, x206_22, x206_23, x206_26, x206_29, x206_30, x206_31, x206_34, x206_35, x206_36, x206_38, x206_41, x206_42, x206_44, x206_47, x206_48, x206_50, x206_53, x206_54, x206_55, x206_56, x206_59, x206_62, x206_63, x206_64, x206_65, x206_68, x206_69, x206_70, x206_73, x206_74, x206_77, x206_78, x206_79, x206_81, x206_84, x206_86, x206_89, x206_90, x206_92, x206_95, x206_97, x206_100, x206_102, x206_105, sh_112, sh_113, sh_114, sh_115, sh_116, sh_117, sh_118, sh_119, sh_120, sh_121, sh_122, sh_123, sh_124, sh_125, sh_126, sh_127, sh_128, sh_129, sh_130, sh_131, sh_132, sh_133, sh_134, sh_135, sh_136, sh_137, sh_138, sh_139, sh_140, sh_141, sh_142, sh_143, sh_144, sh_145, sh_146, sh_147, sh_148, sh_149, sh_150, sh_151, sh_152, sh_153, sh_154, sh_155, sh_156, sh_157, sh_158, sh_159, sh_160, sh_161, sh_162, sh_163, sh_164, sh_165, sh_166, sh_167, sh_168, sh_169, sh_170, sh_171, sh_172, sh_173, sh_174, sh_175, sh_176, sh_177, sh_178, lq_112, lq_113, lq_114, lq_115, lq_116, lq_117, lq_118, lq_119, lq_120, lq_121, lq_122, lq_123, lq_124, lq_125, lq_126, lq_127, lq_128, lq_129, lq_130, lq_131, lq_132, lq_133, lq_134, lq_135, lq_136, lq_137, lq_138, lq_139, lq_140, lq_141, lq_142, lq_143, lq_144, lq_145, lq_146, lq_147, lq_148, lq_149, lq_150, lq_151, lq_152, lq_153, lq_154, lq_155, lq_156, lq_157, lq_158, lq_159, lq_160, lq_161, lq_162, lq_163, lq_164, lq_165, lq_166, lq_167, lq_168, lq_169, lq_170, lq_171, lq_172, lq_173, lq_174, lq_175, lq_176, lq_177, lq_178, rg_112_0, rg_112_9, rg_112_10, rg_112_11, rg_112_12, rg_112_13, rg_112_14, rg_112_15, rg_112_16, rg_112_17, rg_112_18, rg_112_19, rg_112_20, rg_112_21, rg_112_22, rg_112_23, rg_112_24, rg_112_25, rg_112_26, rg_112_27, rg_112_28, rg_112_29, rg_112_30, rg_112_31, rg_112_32, rg_112_33, rg_112_34, rg_112_35, rg_112_36, rg_112_37, rg_112_38, rg_112_39, rg_112_40, rg_112_41, rg_112_43, rg_112_44, rg_112_45, rg_112_46, rg_112_47, rg_112_48, rg_112_49, rg_112_51, rg_112_55, rg_112_57, rg_112_60, rg_112_61, rg_112_62, rg_112_63, rg_112_64, rg_112_66, rg_112_67, rg_112_68, rg_112_69, rg_112_70, rg_112_71, rg_112_72, rg_112_73, rg_112_74, rg_112_80, rg_112_83, rg_112_84, rg_112_85, rg_112_86, rg_112_90, rg_112_91, rg_112_92, ex5, Option.toList_some, Option.toList_none, List.cons_append, List.nil_append, true_and, and_true, nI_1, p_at, p_set, p_isIn, p_max, p_min, p_abs, t1, if_true, if_false, u1, q5, a1, k60, k62, a2, v1, c1]
    have k62 : (lkR T n c y.1.2.2 = 62) = False := eq_false (fun z => e62 ((lk_is hX sg62).mp z))
    by_cases e61 : wq T n c y.1.2.2 = 317
    · have k61 : (lkR T n c y.1.2.2 = 61) = True := eq_true ((lk_is hX sg61).mpr e61)
      obtain ⟨R4, F4⟩ := rs_step sg61 hX R3 hb e61
      have cq : cmQ T n c y.1 = (0, 0, y.1.2.2 + 1) := by unfold cmQ asz; rw [if_pos hb, if_neg (fun z => z.elim e60 e62), if_pos hb, if_pos e61]
      have cn : cmN T n c y.1 = 13 := by unfold cmN; rw [if_neg (fun z => e60 z.2), if_neg (fun z => e62 z.2)]
      have Y3 := ysR hF3 Y2
      obtain ⟨G5, v1, R5, Z5, o5, F5⟩ := r_sums (Lm := Lm) (L := L) (xs := xs) (nw := nw) (sp := sp) (s2 := s2) (ai := ai) (p := ((0, 0, y.1.2.2 + 1), y.2)) (F4.tb tb3) (F4.kt kt3) hX R4 rfl (ysR F4 Y3) (by show y.2.length + W.length + 2 ≤ y.1.2.2 + 1; omega) hn ((F4.2 59 (by decide) (by decide) (by decide) (by decide) (by decide)).trans o3) h6
      have ep : pSum T n c (6 - o) (qP (cmQ T n c) y) = pSum T n c (6 - o) ((0, 0, y.1.2.2 + 1), y.2) := by unfold qP; rw [cq]
      have sm := sm_sum (T := T) (n := n) (c := c) (6 - o) ((0, 0, y.1.2.2 + 1), y.2)
      obtain ⟨z, hz⟩ : ∃ z, pSum T n c (6 - o) ((0, 0, y.1.2.2 + 1), y.2) = z := ⟨_, rfl⟩
      rw [hz] at R5 Z5 o5 ep sm
      rw [cn, ep] at ez
      rw [ez]
      have F5 := fxTr (fxTr F3 (fxR F4 eRQ)) F5
      by_cases hz2 : z.1.1 = 0
      · obtain ⟨Y5, l5⟩ := Z5.1 hz2
        have hk5 := rs_k R5 hz2
        have sm : z.2.length + (y.1.2.2 + 1) ≤ z.1.2.2 + y.2.length := (sm hz2).2.1
        obtain ⟨G6, c1, c2, c3⟩ := r_code (m := 13) (Lm := Lm) (L := L) (xs := xs) (nw := nw) (sp := sp) (s2 := s2) (ai := ai) Y5 (by omega)
        have c1 : ∀ r, Em L xs 196 [.ref 112, .int 13] (179, G5, Lm, RG nw sp s2 ai) r ↔ r = (none, 179, G6, Lm, RG nw sp s2 ai) := fun r => c1 r
        refine ⟨G6, fun r => ?_, rsY c3 R5, fun _ => ⟨c2, ?_, ?_⟩, ⟨_, c2.1.1, ?_⟩, fxTr F5 (fxSub c3 eYQ)⟩
        · rw [em_206]
          simp only [x206_0, x206_1, x206_2, x206_5, x206_8, x206_11, x206_12, x206_14, x206_17, x206_18, x206_19, x206_22, x206_23, x206_26, x206_29, x206_30, x206_31, x206_34, x206_35, x206_36, x206_38, x206_41, x206_42, x206_44, x206_47, x206_48, x206_50, x206_53, x206_54, x206_55, x206_56, x206_59, x206_62, x206_63, x206_64, x206_65, x206_68, x206_69, x206_70, x206_73, x206_74, x206_77, x206_78, x206_79, x206_81, x206_84, x206_86, x206_89, x206_90, x206_92, x206_95, x206_97, x206_100, x206_102, x206_105, sh_112, sh_113, sh_114, sh_115, sh_116, sh_117, sh_118, sh_119, sh_120, sh_121, sh_122, sh_123, sh_124, sh_125, sh_126, sh_127, sh_128, sh_129, sh_130, sh_131, sh_132, sh_133, sh_134, sh_135, sh_136, sh_137, sh_138, sh_139, sh_140, sh_141, sh_142, sh_143, sh_144, sh_145, sh_146, sh_147, sh_148, sh_149, sh_150, sh_151, sh_152, sh_153, sh_154, sh_155, sh_156, sh_157, sh_158, sh_159, sh_160, sh_161, sh_162, sh_163, sh_164, sh_165, sh_166, sh_167, sh_168, sh_169, sh_170, sh_171, sh_172, sh_173, sh_174, sh_175, sh_176, sh_177, sh_178, lq_112, lq_113, lq_114, lq_115, lq_116, lq_117, lq_118, lq_119, lq_120, lq_121, lq_122, lq_123, lq_124, lq_125, lq_126, lq_127, lq_128, lq_129, lq_130, lq_131, lq_132, lq_133, lq_134, lq_135, lq_136, lq_137, lq_138, lq_139, lq_140, lq_141, lq_142, lq_143, lq_144, lq_145, lq_146, lq_147, lq_148, lq_149, lq_150, lq_151, lq_152, lq_153, lq_154, lq_155, lq_156, lq_157, lq_158, lq_159, lq_160, lq_161, lq_162, lq_163, lq_164, lq_165, lq_166, lq_167, lq_168, lq_169, lq_170, lq_171, lq_172, lq_173, lq_174, lq_175, lq_176, lq_177, lq_178, rg_112_0, rg_112_9, rg_112_10, rg_112_11, rg_112_12, rg_112_13, rg_112_14, rg_112_15, rg_112_16, rg_112_17, rg_112_18, rg_112_19, rg_112_20, rg_112_21, rg_112_22, rg_112_23, rg_112_24, rg_112_25, rg_112_26, rg_112_27, rg_112_28, rg_112_29, rg_112_30, rg_112_31, rg_112_32, rg_112_33, rg_112_34, rg_112_35, rg_112_36, rg_112_37, rg_112_38, rg_112_39, rg_112_40, rg_112_41, rg_112_43, rg_112_44, rg_112_45, rg_112_46, rg_112_47, rg_112_48, rg_112_49, rg_112_51, rg_112_55, rg_112_57, rg_112_60, rg_112_61, rg_112_62, rg_112_63, rg_112_64, rg_112_66, rg_112_67, rg_112_68, rg_112_69, rg_112_70, rg_112_71, rg_112_72, rg_112_73, rg_112_74, rg_112_80, rg_112_83, rg_112_84, rg_112_85, rg_112_86, rg_112_90, rg_112_91, rg_112_92, ex5, Option.toList_some, Option.toList_none, List.cons_append, List.nil_append, true_and, and_true, nI_1, p_at, p_set, p_isIn, p_max, p_min, p_abs, t1, if_true, if_false, u1, q5, a1, k60, k62, k61, a2, v1, c1]
        · show (z.2 ++ [13]).length + W.length + 2 ≤ z.1.2.2
          rw [len_1]; omega
        · exact (c3 112 59 (fun z => by unfold EY at z; omega)).trans (o5 hz2)
        · rw [len_1]; omega
      · obtain ⟨l, l1, l3⟩ := Z5.2
        obtain ⟨G6, c1, c2, c3⟩ := r_codeB (x := 13) (Lm := Lm) (L := L) (xs := xs) (nw := nw) (sp := sp) (s2 := s2) (ai := ai) l1 l3
        refine ⟨G6, fun r => ?_, rsY c2 R5, fun z => (hz2 z).elim, ⟨l + 1, c3, by omega⟩, fxTr F5 (fxSub c2 eYQ)⟩
        rw [em_206]
        simp only [x206_0, x206_1, x206_2, x206_5, x206_8, x206_11, x206_12, x206_14, x206_17, x206_18, x206_19, x206_22, x206_23, x206_26, x206_29, x206_30, x206_31, x206_34, x206_35, x206_36, x206_38, x206_41, x206_42, x206_44, x206_47, x206_48, x206_50, x206_53, x206_54, x206_55, x206_56, x206_59, x206_62, x206_63, x206_64, x206_65, x206_68, x206_69, x206_70, x206_73, x206_74, x206_77, x206_78, x206_79, x206_81, x206_84, x206_86, x206_89, x206_90, x206_92, x206_95, x206_97, x206_100, x206_102, x206_105, sh_112, sh_113, sh_114, sh_115, sh_116, sh_117, sh_118, sh_119, sh_120, sh_121, sh_122, sh_123, sh_124, sh_125, sh_126, sh_127, sh_128, sh_129, sh_130, sh_131, sh_132, sh_133, sh_134, sh_135, sh_136, sh_137, sh_138, sh_139, sh_140, sh_141, sh_142, sh_143, sh_144, sh_145, sh_146, sh_147, sh_148, sh_149, sh_150, sh_151, sh_152, sh_153, sh_154, sh_155, sh_156, sh_157, sh_158, sh_159, sh_160, sh_161, sh_162, sh_163, sh_164, sh_165, sh_166, sh_167, sh_168, sh_169, sh_170, sh_171, sh_172, sh_173, sh_174, sh_175, sh_176, sh_177, sh_178, lq_112, lq_113, lq_114, lq_115, lq_116, lq_117, lq_118, lq_119, lq_120, lq_121, lq_122, lq_123, lq_124, lq_125, lq_126, lq_127, lq_128, lq_129, lq_130, lq_131, lq_132, lq_133, lq_134, lq_135, lq_136, lq_137, lq_138, lq_139, lq_140, lq_141, lq_142, lq_143, lq_144, lq_145, lq_146, lq_147, lq_148, lq_149, lq_150, lq_151, lq_152, lq_153, lq_154, lq_155, lq_156, lq_157, lq_158, lq_159, lq_160, lq_161, lq_162, lq_163, lq_164, lq_165, lq_166, lq_167, lq_168, lq_169, lq_170, lq_171, lq_172, lq_173, lq_174, lq_175, lq_176, lq_177, lq_178, rg_112_0, rg_112_9, rg_112_10, rg_112_11, rg_112_12, rg_112_13, rg_112_14, rg_112_15, rg_112_16, rg_112_17, rg_112_18, rg_112_19, rg_112_20, rg_112_21, rg_112_22, rg_112_23, rg_112_24, rg_112_25, rg_112_26, rg_112_27, rg_112_28, rg_112_29, rg_112_30, rg_112_31, rg_112_32, rg_112_33, rg_112_34, rg_112_35, rg_112_36, rg_112_37, rg_112_38, rg_112_39, rg_112_40, rg_112_41, rg_112_43, rg_112_44, rg_112_45, rg_112_46, rg_112_47, rg_112_48, rg_112_49, rg_112_51, rg_112_55, rg_112_57, rg_112_60, rg_112_61, rg_112_62, rg_112_63, rg_112_64, rg_112_66, rg_112_67, rg_112_68, rg_112_69, rg_112_70, rg_112_71, rg_112_72, rg_112_73, rg_112_74, rg_112_80, rg_112_83, rg_112_84, rg_112_85, rg_112_86, rg_112_90, rg_112_91, rg_112_92, ex5, Option.toList_some, Option.toList_none, List.cons_append, List.nil_append, true_and, and_true, nI_1, p_at, p_set, p_isIn, p_max, p_min, p_abs, t1, if_true, if_false, u1, q5, a1, k60, k62, k61, a2, v1, c1]
    have k61 : (lkR T n c y.1.2.2 = 61) = False := eq_false (fun z => e61 ((lk_is hX sg61).mp z))
    have cq : cmQ T n c y.1 = (1, frW T n y.1.2.2, 0) := by unfold cmQ asz; rw [if_pos hb, if_neg (fun z => z.elim e60 e62), if_pos hb, if_neg e61]
    have cn : cmN T n c y.1 = 13 := by unfold cmN; rw [if_neg (fun z => e60 z.2), if_neg (fun z => e62 z.2)]
    have ep : pSum T n c (6 - o) (qP (cmQ T n c) y) = ((1, frW T n y.1.2.2, 0), y.2) := by
      have eq : qP (cmQ T n c) y = ((1, frW T n y.1.2.2, 0), y.2) := by unfold qP; rw [cq]
      rw [eq]
      exact bd_sum (6 - o) _ (fun z => by cases z)
    rw [cn, ep] at ez
    rw [ez]
    have f1 := r_fail (kd := 1) (pl := frW T n y.1.2.2) (Lm := Lm) (L := L) (xs := xs) (nw := nw) (sp := sp) (s2 := s2) (ai := ai) g53
    have f1 : ∀ r, Em L xs 170 [.ref 112, .int 1, .int (nI (frW T n y.1.2.2))] (179, G3, Lm, RG nw sp s2 ai) r ↔ r = (none, 179, up2 (up2 G3 112 5 (nI 1)) 112 6 (nI (frW T n y.1.2.2)), Lm, RG nw sp s2 ai) := fun r => f1 r
    obtain ⟨R4, F4⟩ := rs_fail (I := G3) (T := T) (n := n) (c := c) (kd := 1) (pl := frW T n y.1.2.2) (by decide) (by decide)
    obtain ⟨l, l1, l3⟩ := Z2.2
    refine ⟨_, fun r => ?_, R4, fun z => (by cases z), ⟨l, ((F4.2 56 (by decide) (by decide) (by decide) (by decide) (by decide)).trans (a5 56 (by decide))).trans l1, by omega⟩, fxTr F3 (fxR F4 eRQ)⟩
    rw [em_206]
    simp only [x206_0, x206_1, x206_2, x206_5, x206_8, x206_11, x206_12, x206_14, x206_17, x206_18, x206_19, x206_22, x206_23, x206_26, x206_29, x206_30, x206_31, x206_34, x206_35, x206_36, x206_38, x206_41, x206_42, x206_44, x206_47, x206_48, x206_50, x206_53, x206_54, x206_55, x206_56, x206_59, x206_62, x206_63, x206_64, x206_65, x206_68, x206_69, x206_70, x206_73, x206_74, x206_77, x206_78, x206_79, x206_81, x206_84, x206_86, x206_89, x206_90, x206_92, x206_95, x206_97, x206_100, x206_102, x206_105, sh_112, sh_113, sh_114, sh_115, sh_116, sh_117, sh_118, sh_119, sh_120, sh_121, sh_122, sh_123, sh_124, sh_125, sh_126, sh_127, sh_128, sh_129, sh_130, sh_131, sh_132, sh_133, sh_134, sh_135, sh_136, sh_137, sh_138, sh_139, sh_140, sh_141, sh_142, sh_143, sh_144, sh_145, sh_146, sh_147, sh_148, sh_149, sh_150, sh_151, sh_152, sh_153, sh_154, sh_155, sh_156, sh_157, sh_158, sh_159, sh_160, sh_161, sh_162, sh_163, sh_164, sh_165, sh_166, sh_167, sh_168, sh_169, sh_170, sh_171, sh_172, sh_173, sh_174, sh_175, sh_176, sh_177, sh_178, lq_112, lq_113, lq_114, lq_115, lq_116, lq_117, lq_118, lq_119, lq_120, lq_121, lq_122, lq_123, lq_124, lq_125, lq_126, lq_127, lq_128, lq_129, lq_130, lq_131, lq_132, lq_133, lq_134, lq_135, lq_136, lq_137, lq_138, lq_139, lq_140, lq_141, lq_142, lq_143, lq_144, lq_145, lq_146, lq_147, lq_148, lq_149, lq_150, lq_151, lq_152, lq_153, lq_154, lq_155, lq_156, lq_157, lq_158, lq_159, lq_160, lq_161, lq_162, lq_163, lq_164, lq_165, lq_166, lq_167, lq_168, lq_169, lq_170, lq_171, lq_172, lq_173, lq_174, lq_175, lq_176, lq_177, lq_178, rg_112_0, rg_112_9, rg_112_10, rg_112_11, rg_112_12, rg_112_13, rg_112_14, rg_112_15, rg_112_16, rg_112_17, rg_112_18, rg_112_19, rg_112_20, rg_112_21, rg_112_22, rg_112_23, rg_112_24, rg_112_25, rg_112_26, rg_112_27, rg_112_28, rg_112_29, rg_112_30, rg_112_31, rg_112_32, rg_112_33, rg_112_34, rg_112_35, rg_112_36, rg_112_37, rg_112_38, rg_112_39, rg_112_40, rg_112_41, rg_112_43, rg_112_44, rg_112_45, rg_112_46, rg_112_47, rg_112_48, rg_112_49, rg_112_51, rg_112_55, rg_112_57, rg_112_60, rg_112_61, rg_112_62, rg_112_63, rg_112_64, rg_112_66, rg_112_67, rg_112_68, rg_112_69, rg_112_70, rg_112_71, rg_112_72, rg_112_73, rg_112_74, rg_112_80, rg_112_83, rg_112_84, rg_112_85, rg_112_86, rg_112_90, rg_112_91, rg_112_92, ex5, Option.toList_some, Option.toList_none, List.cons_append, List.nil_append, true_and, and_true, nI_1, p_at, p_set, p_isIn, p_max, p_min, p_abs, t1, if_true, if_false, u1, q5, a1, k60, k62, k61, a2, f1]
  · obtain ⟨q5, q6⟩ := rs_bad R2 hb
    have cq : qP (cmQ T n c) y = y := by unfold qP cmQ; rw [if_neg hb]
    rw [cq, bd_sum (6 - o) y hb] at ez
    rw [ez]
    obtain ⟨l, l1, l3⟩ := Z2.2
    refine ⟨G2, fun r => ?_, R2, fun z => (hb z).elim, ⟨l, l1, by omega⟩, F2⟩
    rw [em_206]
    simp only [x206_0, x206_1, x206_2, x206_5, x206_8, x206_11, x206_12, x206_14, x206_17, x206_18, x206_19, x206_22, x206_23, x206_26, x206_29, x206_30, x206_31, x206_34, x206_35, x206_36, x206_38, x206_41, x206_42, x206_44, x206_47, x206_48, x206_50, x206_53, x206_54, x206_55, x206_56, x206_59, x206_62, x206_63, x206_64, x206_65, x206_68, x206_69, x206_70, x206_73, x206_74, x206_77, x206_78, x206_79, x206_81, x206_84, x206_86, x206_89, x206_90, x206_92, x206_95, x206_97, x206_100, x206_102, x206_105, sh_112, sh_113, sh_114, sh_115, sh_116, sh_117, sh_118, sh_119, sh_120, sh_121, sh_122, sh_123, sh_124, sh_125, sh_126, sh_127, sh_128, sh_129, sh_130, sh_131, sh_132, sh_133, sh_134, sh_135, sh_136, sh_137, sh_138, sh_139, sh_140, sh_141, sh_142, sh_143, sh_144, sh_145, sh_146, sh_147, sh_148, sh_149, sh_150, sh_151, sh_152, sh_153, sh_154, sh_155, sh_156, sh_157, sh_158, sh_159, sh_160, sh_161, sh_162, sh_163, sh_164, sh_165, sh_166, sh_167, sh_168, sh_169, sh_170, sh_171, sh_172, sh_173, sh_174, sh_175, sh_176, sh_177, sh_178, lq_112, lq_113, lq_114, lq_115, lq_116, lq_117, lq_118, lq_119, lq_120, lq_121, lq_122, lq_123, lq_124, lq_125, lq_126, lq_127, lq_128, lq_129, lq_130, lq_131, lq_132, lq_133, lq_134, lq_135, lq_136, lq_137, lq_138, lq_139, lq_140, lq_141, lq_142, lq_143, lq_144, lq_145, lq_146, lq_147, lq_148, lq_149, lq_150, lq_151, lq_152, lq_153, lq_154, lq_155, lq_156, lq_157, lq_158, lq_159, lq_160, lq_161, lq_162, lq_163, lq_164, lq_165, lq_166, lq_167, lq_168, lq_169, lq_170, lq_171, lq_172, lq_173, lq_174, lq_175, lq_176, lq_177, lq_178, rg_112_0, rg_112_9, rg_112_10, rg_112_11, rg_112_12, rg_112_13, rg_112_14, rg_112_15, rg_112_16, rg_112_17, rg_112_18, rg_112_19, rg_112_20, rg_112_21, rg_112_22, rg_112_23, rg_112_24, rg_112_25, rg_112_26, rg_112_27, rg_112_28, rg_112_29, rg_112_30, rg_112_31, rg_112_32, rg_112_33, rg_112_34, rg_112_35, rg_112_36, rg_112_37, rg_112_38, rg_112_39, rg_112_40, rg_112_41, rg_112_43, rg_112_44, rg_112_45, rg_112_46, rg_112_47, rg_112_48, rg_112_49, rg_112_51, rg_112_55, rg_112_57, rg_112_60, rg_112_61, rg_112_62, rg_112_63, rg_112_64, rg_112_66, rg_112_67, rg_112_68, rg_112_69, rg_112_70, rg_112_71, rg_112_72, rg_112_73, rg_112_74, rg_112_80, rg_112_83, rg_112_84, rg_112_85, rg_112_86, rg_112_90, rg_112_91, rg_112_92, ex5, Option.toList_some, Option.toList_none, List.cons_append, List.nil_append, true_and, and_true, nI_1, p_at, p_set, p_isIn, p_max, p_min, p_abs, t1, if_true, if_false, u1, q5, q6]
end
