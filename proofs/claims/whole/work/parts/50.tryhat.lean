/-! what would be with another keeps, looks, kind of a hat: the trial and the reference aside -/
/-- the first of the best: g what is told, f what it is worth; z ahead of all -/
def amz (z : Int32 × Int32) (g f : Nat → Int32) : Nat → Int32 × Int32
  | 0 => z
  | 1 => (g 0, f 0)
  | k + 2 => if f (k + 1) ≤ (amz z g f (k + 1)).2 then amz z g f (k + 1) else (g (k + 1), f (k + 1))
theorem amz_g (z : Int32 × Int32) (g f : Nat → Int32) : ∀ k, ∃ i, i ≤ k ∧ (amz z g f (k + 1)).1 = g i
  | 0 => ⟨0, Nat.le_refl 0, rfl⟩
  | k + 1 => by
    obtain ⟨i, a, b⟩ := amz_g z g f k
    by_cases c : f (k + 1) ≤ (amz z g f (k + 1)).2
    · exact ⟨i, by omega, by simp only [amz, if_pos c]; exact b⟩
    · exact ⟨k + 1, Nat.le_refl _, by simp only [amz, if_neg c]⟩
theorem amz_z (z z2 : Int32 × Int32) (g f : Nat → Int32) : ∀ k, amz z g f (k + 1) = amz z2 g f (k + 1)
  | 0 => rfl
  | k + 1 => by
    have ih := amz_z z z2 g f k
    show (if f (k + 1) ≤ (amz z g f (k + 1)).2 then amz z g f (k + 1) else (g (k + 1), f (k + 1))) = (if f (k + 1) ≤ (amz z2 g f (k + 1)).2 then amz z2 g f (k + 1) else (g (k + 1), f (k + 1)))
    rw [ih]
/-- the reference aside: the hours stand in 165 and 171, the hat's number idx may be another -/
def TI (idx N : Nat) (I J : Nat → Nat → Int32) : Prop := (∀ p, p ≠ 165 → p ≠ 150 → p ≠ 171 → J p = I p) ∧ (∀ k, J 165 k = I 165 k) ∧ (∀ i, i ≠ idx → J 150 i = I 150 i) ∧ (∀ k, k < N → J 171 k = I 165 k)
section
variable {L : Nat} {xs : Nat → Int32} {σ : Mm} {r : Option Value × Mm} {I J K : Nat → Nat → Int32} {Lm : Nat → Nat → Int64} {Rm : Nat → Nat → Nat} {n s so t N NS NH m M P nw S U : Nat} {V W : Vw} {sp s2 ai p : Nat} {x y z h v : Int32}
theorem r_putsAside (hP : I 148 5 = nI N) (hN : N ≤ 12) : ∃ J, (∀ r, Em L xs 247 [.ref 112] (179, I, Lm, RG nw sp s2 ai) r ↔ r = (none, 179, J, Lm, RG nw sp s2 ai)) ∧ (∀ p, p ≠ 171 → J p = I p) ∧ (∀ k, k < N → J 171 k = I 165 k) := by
  have key : ∀ j, j ≤ N → ∀ J, (∀ p, p ≠ 171 → J p = I p) → (∀ k, k < j → J 171 k = I 165 k) → ∃ J', (∀ r, Ev L xs 1 247 2 [some (.ref 112), some (.int (nI j))] [] (179, J, Lm, RG nw sp s2 ai) r ↔ r = (none, 179, J', Lm, RG nw sp s2 ai)) ∧ (∀ p, p ≠ 171 → J' p = I p) ∧ (∀ k, k < N → J' 171 k = I 165 k) := by
    refine up_ind ?_ ?_
    · intro J h1 h2
      have hc : J 148 5 = nI N := by rw [h1 148 (by decide)]; exact hP
      refine ⟨J, fun r => ?_, h1, h2⟩
      rw [x247_2]
      simp only [x247_0, x247_1, x247_3, x247_4, x247_7, x247_10, x247_11, x247_14, x247_15, x247_16, x247_19, x247_20, x247_21, x247_22, x247_25, x247_28, sh_112, sh_113, sh_114, sh_115, sh_116, sh_117, sh_118, sh_119, sh_120, sh_121, sh_122, sh_123, sh_124, sh_125, sh_126, sh_127, sh_128, sh_129, sh_130, sh_131, sh_132, sh_133, sh_134, sh_135, sh_136, sh_137, sh_138, sh_139, sh_140, sh_141, sh_142, sh_143, sh_144, sh_145, sh_146, sh_147, sh_148, sh_149, sh_150, sh_151, sh_152, sh_153, sh_154, sh_155, sh_156, sh_157, sh_158, sh_159, sh_160, sh_161, sh_162, sh_163, sh_164, sh_165, sh_166, sh_167, sh_168, sh_169, sh_170, sh_171, sh_172, sh_173, sh_174, sh_175, sh_176, sh_177, sh_178, lq_112, lq_113, lq_114, lq_115, lq_116, lq_117, lq_118, lq_119, lq_120, lq_121, lq_122, lq_123, lq_124, lq_125, lq_126, lq_127, lq_128, lq_129, lq_130, lq_131, lq_132, lq_133, lq_134, lq_135, lq_136, lq_137, lq_138, lq_139, lq_140, lq_141, lq_142, lq_143, lq_144, lq_145, lq_146, lq_147, lq_148, lq_149, lq_150, lq_151, lq_152, lq_153, lq_154, lq_155, lq_156, lq_157, lq_158, lq_159, lq_160, lq_161, lq_162, lq_163, lq_164, lq_165, lq_166, lq_167, lq_168, lq_169, lq_170, lq_171, lq_172, lq_173, lq_174, lq_175, lq_176, lq_177, lq_178, rg_112_0, rg_112_9, rg_112_10, rg_112_11, rg_112_12, rg_112_13, rg_112_14, rg_112_15, rg_112_16, rg_112_17, rg_112_18, rg_112_19, rg_112_20, rg_112_21, rg_112_22, rg_112_23, rg_112_24, rg_112_25, rg_112_26, rg_112_27, rg_112_28, rg_112_29, rg_112_30, rg_112_31, rg_112_32, rg_112_33, rg_112_34, rg_112_35, rg_112_36, rg_112_37, rg_112_38, rg_112_39, rg_112_40, rg_112_41, rg_112_43, rg_112_44, rg_112_45, rg_112_46, rg_112_47, rg_112_48, rg_112_49, rg_112_51, rg_112_55, rg_112_57, rg_112_60, rg_112_61, rg_112_62, rg_112_63, rg_112_64, rg_112_66, rg_112_67, rg_112_68, rg_112_69, rg_112_70, rg_112_71, rg_112_72, rg_112_73, rg_112_74, rg_112_80, rg_112_83, rg_112_84, rg_112_85, rg_112_86, rg_112_90, rg_112_91, rg_112_92, ex5, Option.toList_some, Option.toList_none, List.cons_append, List.nil_append, true_and, and_true, nI_1, p_at, p_set, p_isIn, p_max, p_min, p_abs, r_people hc, nI_le (Nat.le_refl N) (by omega), if_true]
    · intro j hj ih J h1 h2
      have hc : J 148 5 = nI N := by rw [h1 148 (by decide)]; exact hP
      have i1 : inb (nI j) 32 = True := inb_i (by omega) (by decide)
      have i2 : ixn (nI j) = j := ixn_nI (by omega)
      have i3 : inb (nI j) 12 = True := inb_i (by omega) (by decide)
      obtain ⟨J', g1, g2⟩ := ih (up2 J 171 j (J 165 j)) (fun p a => (funext fun k => up2_p a : up2 J 171 j (J 165 j) p = J p).trans (h1 p a)) (fun k hk => by
        by_cases c : k = j
        · rw [c, up2_eq, h1 165 (by decide)]
        · rw [up2_k c]; exact h2 k (by omega))
      refine ⟨J', fun r => ?_, g2⟩
      rw [x247_2]
      simp only [x247_0, x247_1, x247_3, x247_4, x247_7, x247_10, x247_11, x247_14, x247_15, x247_16, x247_19, x247_20, x247_21, x247_22, x247_25, x247_28, sh_112, sh_113, sh_114, sh_115, sh_116, sh_117, sh_118, sh_119, sh_120, sh_121, sh_122, sh_123, sh_124, sh_125, sh_126, sh_127, sh_128, sh_129, sh_130, sh_131, sh_132, sh_133, sh_134, sh_135, sh_136, sh_137, sh_138, sh_139, sh_140, sh_141, sh_142, sh_143, sh_144, sh_145, sh_146, sh_147, sh_148, sh_149, sh_150, sh_151, sh_152, sh_153, sh_154, sh_155, sh_156, sh_157, sh_158, sh_159, sh_160, sh_161, sh_162, sh_163, sh_164, sh_165, sh_166, sh_167, sh_168, sh_169, sh_170, sh_171, sh_172, sh_173, sh_174, sh_175, sh_176, sh_177, sh_178, lq_112, lq_113, lq_114, lq_115, lq_116, lq_117, lq_118, lq_119, lq_120, lq_121, lq_122, lq_123, lq_124, lq_125, lq_126, lq_127, lq_128, lq_129, lq_130, lq_131, lq_132, lq_133, lq_134, lq_135, lq_136, lq_137, lq_138, lq_139, lq_140, lq_141, lq_142, lq_143, lq_144, lq_145, lq_146, lq_147, lq_148, lq_149, lq_150, lq_151, lq_152, lq_153, lq_154, lq_155, lq_156, lq_157, lq_158, lq_159, lq_160, lq_161, lq_162, lq_163, lq_164, lq_165, lq_166, lq_167, lq_168, lq_169, lq_170, lq_171, lq_172, lq_173, lq_174, lq_175, lq_176, lq_177, lq_178, rg_112_0, rg_112_9, rg_112_10, rg_112_11, rg_112_12, rg_112_13, rg_112_14, rg_112_15, rg_112_16, rg_112_17, rg_112_18, rg_112_19, rg_112_20, rg_112_21, rg_112_22, rg_112_23, rg_112_24, rg_112_25, rg_112_26, rg_112_27, rg_112_28, rg_112_29, rg_112_30, rg_112_31, rg_112_32, rg_112_33, rg_112_34, rg_112_35, rg_112_36, rg_112_37, rg_112_38, rg_112_39, rg_112_40, rg_112_41, rg_112_43, rg_112_44, rg_112_45, rg_112_46, rg_112_47, rg_112_48, rg_112_49, rg_112_51, rg_112_55, rg_112_57, rg_112_60, rg_112_61, rg_112_62, rg_112_63, rg_112_64, rg_112_66, rg_112_67, rg_112_68, rg_112_69, rg_112_70, rg_112_71, rg_112_72, rg_112_73, rg_112_74, rg_112_80, rg_112_83, rg_112_84, rg_112_85, rg_112_86, rg_112_90, rg_112_91, rg_112_92, ex5, Option.toList_some, Option.toList_none, List.cons_append, List.nil_append, true_and, and_true, nI_1, p_at, p_set, p_isIn, p_max, p_min, p_abs, r_people hc, nI_ge hj (by omega), if_false, i1, i2, i3]
      exact g1 r
  obtain ⟨J, j1, j2⟩ := key 0 (Nat.zero_le _) I (fun _ _ => rfl) (fun k hk => absurd hk (Nat.not_lt_zero k))
  refine ⟨J, fun r => ?_, j2⟩
  rw [em_247]
  simp only [x247_0, x247_1, x247_3, x247_4, x247_7, x247_10, x247_11, x247_14, x247_15, x247_16, x247_19, x247_20, x247_21, x247_22, x247_25, x247_28]
  exact j1 r
theorem r_takesBack (hP : I 148 5 = nI N) (hN : N ≤ 12) : ∃ J, (∀ r, Em L xs 248 [.ref 112] (179, I, Lm, RG nw sp s2 ai) r ↔ r = (none, 179, J, Lm, RG nw sp s2 ai)) ∧ (∀ p, p ≠ 165 → J p = I p) ∧ (∀ k, k < N → J 165 k = I 171 k) ∧ (∀ k, N ≤ k → J 165 k = I 165 k) := by
  have key : ∀ j, j ≤ N → ∀ J, (∀ p, p ≠ 165 → J p = I p) → (∀ k, k < j → J 165 k = I 171 k) → (∀ k, N ≤ k → J 165 k = I 165 k) → ∃ J', (∀ r, Ev L xs 1 248 2 [some (.ref 112), some (.int (nI j))] [] (179, J, Lm, RG nw sp s2 ai) r ↔ r = (none, 179, J', Lm, RG nw sp s2 ai)) ∧ (∀ p, p ≠ 165 → J' p = I p) ∧ (∀ k, k < N → J' 165 k = I 171 k) ∧ (∀ k, N ≤ k → J' 165 k = I 165 k) := by
    refine up_ind ?_ ?_
    · intro J h1 h2 h3
      have hc : J 148 5 = nI N := by rw [h1 148 (by decide)]; exact hP
      refine ⟨J, fun r => ?_, h1, h2, h3⟩
      rw [x248_2]
      simp only [x248_0, x248_1, x248_3, x248_4, x248_7, x248_10, x248_11, x248_14, x248_15, x248_16, x248_19, x248_20, x248_21, x248_22, x248_25, x248_28, sh_112, sh_113, sh_114, sh_115, sh_116, sh_117, sh_118, sh_119, sh_120, sh_121, sh_122, sh_123, sh_124, sh_125, sh_126, sh_127, sh_128, sh_129, sh_130, sh_131, sh_132, sh_133, sh_134, sh_135, sh_136, sh_137, sh_138, sh_139, sh_140, sh_141, sh_142, sh_143, sh_144, sh_145, sh_146, sh_147, sh_148, sh_149, sh_150, sh_151, sh_152, sh_153, sh_154, sh_155, sh_156, sh_157, sh_158, sh_159, sh_160, sh_161, sh_162, sh_163, sh_164, sh_165, sh_166, sh_167, sh_168, sh_169, sh_170, sh_171, sh_172, sh_173, sh_174, sh_175, sh_176, sh_177, sh_178, lq_112, lq_113, lq_114, lq_115, lq_116, lq_117, lq_118, lq_119, lq_120, lq_121, lq_122, lq_123, lq_124, lq_125, lq_126, lq_127, lq_128, lq_129, lq_130, lq_131, lq_132, lq_133, lq_134, lq_135, lq_136, lq_137, lq_138, lq_139, lq_140, lq_141, lq_142, lq_143, lq_144, lq_145, lq_146, lq_147, lq_148, lq_149, lq_150, lq_151, lq_152, lq_153, lq_154, lq_155, lq_156, lq_157, lq_158, lq_159, lq_160, lq_161, lq_162, lq_163, lq_164, lq_165, lq_166, lq_167, lq_168, lq_169, lq_170, lq_171, lq_172, lq_173, lq_174, lq_175, lq_176, lq_177, lq_178, rg_112_0, rg_112_9, rg_112_10, rg_112_11, rg_112_12, rg_112_13, rg_112_14, rg_112_15, rg_112_16, rg_112_17, rg_112_18, rg_112_19, rg_112_20, rg_112_21, rg_112_22, rg_112_23, rg_112_24, rg_112_25, rg_112_26, rg_112_27, rg_112_28, rg_112_29, rg_112_30, rg_112_31, rg_112_32, rg_112_33, rg_112_34, rg_112_35, rg_112_36, rg_112_37, rg_112_38, rg_112_39, rg_112_40, rg_112_41, rg_112_43, rg_112_44, rg_112_45, rg_112_46, rg_112_47, rg_112_48, rg_112_49, rg_112_51, rg_112_55, rg_112_57, rg_112_60, rg_112_61, rg_112_62, rg_112_63, rg_112_64, rg_112_66, rg_112_67, rg_112_68, rg_112_69, rg_112_70, rg_112_71, rg_112_72, rg_112_73, rg_112_74, rg_112_80, rg_112_83, rg_112_84, rg_112_85, rg_112_86, rg_112_90, rg_112_91, rg_112_92, ex5, Option.toList_some, Option.toList_none, List.cons_append, List.nil_append, true_and, and_true, nI_1, p_at, p_set, p_isIn, p_max, p_min, p_abs, r_people hc, nI_le (Nat.le_refl N) (by omega), if_true]
    · intro j hj ih J h1 h2 h3
      have hc : J 148 5 = nI N := by rw [h1 148 (by decide)]; exact hP
      have i1 : inb (nI j) 32 = True := inb_i (by omega) (by decide)
      have i2 : ixn (nI j) = j := ixn_nI (by omega)
      have i3 : inb (nI j) 12 = True := inb_i (by omega) (by decide)
      obtain ⟨J', g1, g2⟩ := ih (up2 J 165 j (J 171 j)) (fun p a => (funext fun k => up2_p a : up2 J 165 j (J 171 j) p = J p).trans (h1 p a)) (fun k hk => by
        by_cases c : k = j
        · rw [c, up2_eq, h1 171 (by decide)]
        · rw [up2_k c]; exact h2 k (by omega)) (fun k hk => by rw [up2_k (by omega)]; exact h3 k hk)
      refine ⟨J', fun r => ?_, g2⟩
      rw [x248_2]
      simp only [x248_0, x248_1, x248_3, x248_4, x248_7, x248_10, x248_11, x248_14, x248_15, x248_16, x248_19, x248_20, x248_21, x248_22, x248_25, x248_28, sh_112, sh_113, sh_114, sh_115, sh_116, sh_117, sh_118, sh_119, sh_120, sh_121, sh_122, sh_123, sh_124, sh_125, sh_126, sh_127, sh_128, sh_129, sh_130, sh_131, sh_132, sh_133, sh_134, sh_135, sh_136, sh_137, sh_138, sh_139, sh_140, sh_141, sh_142, sh_143, sh_144, sh_145, sh_146, sh_147, sh_148, sh_149, sh_150, sh_151, sh_152, sh_153, sh_154, sh_155, sh_156, sh_157, sh_158, sh_159, sh_160, sh_161, sh_162, sh_163, sh_164, sh_165, sh_166, sh_167, sh_168, sh_169, sh_170, sh_171, sh_172, sh_173, sh_174, sh_175, sh_176, sh_177, sh_178, lq_112, lq_113, lq_114, lq_115, lq_116, lq_117, lq_118, lq_119, lq_120, lq_121, lq_122, lq_123, lq_124, lq_125, lq_126, lq_127, lq_128, lq_129, lq_130, lq_131, lq_132, lq_133, lq_134, lq_135, lq_136, lq_137, lq_138, lq_139, lq_140, lq_141, lq_142, lq_143, lq_144, lq_145, lq_146, lq_147, lq_148, lq_149, lq_150, lq_151, lq_152, lq_153, lq_154, lq_155, lq_156, lq_157, lq_158, lq_159, lq_160, lq_161, lq_162, lq_163, lq_164, lq_165, lq_166, lq_167, lq_168, lq_169, lq_170, lq_171, lq_172, lq_173, lq_174, lq_175, lq_176, lq_177, lq_178, rg_112_0, rg_112_9, rg_112_10, rg_112_11, rg_112_12, rg_112_13, rg_112_14, rg_112_15, rg_112_16, rg_112_17, rg_112_18, rg_112_19, rg_112_20, rg_112_21, rg_112_22, rg_112_23, rg_112_24, rg_112_25, rg_112_26, rg_112_27, rg_112_28, rg_112_29, rg_112_30, rg_112_31, rg_112_32, rg_112_33, rg_112_34, rg_112_35, rg_112_36, rg_112_37, rg_112_38, rg_112_39, rg_112_40, rg_112_41, rg_112_43, rg_112_44, rg_112_45, rg_112_46, rg_112_47, rg_112_48, rg_112_49, rg_112_51, rg_112_55, rg_112_57, rg_112_60, rg_112_61, rg_112_62, rg_112_63, rg_112_64, rg_112_66, rg_112_67, rg_112_68, rg_112_69, rg_112_70, rg_112_71, rg_112_72, rg_112_73, rg_112_74, rg_112_80, rg_112_83, rg_112_84, rg_112_85, rg_112_86, rg_112_90, rg_112_91, rg_112_92, ex5, Option.toList_some, Option.toList_none, List.cons_append, List.nil_append, true_and, and_true, nI_1, p_at, p_set, p_isIn, p_max, p_min, p_abs, r_people hc, nI_ge hj (by omega), if_false, i1, i2, i3]
      exact g1 r
  obtain ⟨J, j1, j2⟩ := key 0 (Nat.zero_le _) I (fun _ _ => rfl) (fun k hk => absurd hk (Nat.not_lt_zero k)) (fun _ _ => rfl)
  refine ⟨J, fun r => ?_, j2⟩
  rw [em_248]
  simp only [x248_0, x248_1, x248_3, x248_4, x248_7, x248_10, x248_11, x248_14, x248_15, x248_16, x248_19, x248_20, x248_21, x248_22, x248_25, x248_28]
  exact j1 r
theorem mrTry {w h : Nat} (hR : MR I 0 N NS NH V) (hT : TI (16 + 4 * h + w) N I J) (hw : w < 4) : MR (up2 J 150 (16 + 4 * h + w) x) 0 N NS NH (up2 V (9 + w) h x) := by
  obtain ⟨⟨a1, a2⟩, b1, c1, d1, e1⟩ := hR
  obtain ⟨t1, t2, t3, t4⟩ := hT
  have hI : ∀ p, p ≠ 165 → p ≠ 150 → p ≠ 171 → up2 J 150 (16 + 4 * h + w) x p = I p := fun p q0 q1 q2 => (funext fun k => up2_p q1 : up2 J 150 (16 + 4 * h + w) x p = J p).trans (t1 p q0 q1 q2)
  have hV : ∀ f k, f < 9 → up2 V (9 + w) h x f k = V f k := fun f k hf => up2_p (by omega)
  refine ⟨⟨?_, ?_⟩, b1, fun k hk => ?_, fun k hk w2 hw2 => ?_, fun k hk w2 hw2 => ?_⟩
  · rw [hI 112 (by decide) (by decide) (by decide)]; exact a1
  · rw [hI 112 (by decide) (by decide) (by decide)]; exact a2
  · rw [hI 162 (by decide) (by decide) (by decide), hI 163 (by decide) (by decide) (by decide), hI 164 (by decide) (by decide) (by decide), up2_p (show 165 ≠ 150 by decide), t2, hV 0 k (by decide), hV 1 k (by decide), hV 2 k (by decide), hV 3 k (by decide)]; exact c1 k hk
  · rw [hI 149 (by decide) (by decide) (by decide), hV (4 + w2) k (by omega)]; exact d1 k hk w2 hw2
  · by_cases q : k = h ∧ w2 = w
    · obtain ⟨rfl, rfl⟩ := q
      rw [up2_eq, up2_eq]
    · rw [up2_k (by omega), t3 _ (by omega)]
      have e2 : up2 V (9 + w) h x (9 + w2) k = V (9 + w2) k := by
        unfold up2
        rw [if_neg (by omega)]
      rw [e2]; exact e1 k hk w2 hw2
theorem wvHat {w h : Nat} (hW : WV V N NS NH) (hx : (w = 0 → rng x 0 100) ∧ (w = 1 → rng x 0 60) ∧ (w = 2 → rng x 0 100) ∧ (w = 3 → rng x 0 3)) : WV (up2 V (9 + w) h x) N NS NH := by
  have hV : ∀ f k, f < 9 → up2 V (9 + w) h x f k = V f k := fun f k hf => up2_p (by omega)
  have hV2 : ∀ f k, up2 V (9 + w) h x f k = if f = 9 + w ∧ k = h then x else V f k := fun f k => rfl
  refine ⟨fun k hk => ?_, fun k hk => ?_, fun k hk => ?_⟩
  · rw [hV 0 k (by decide), hV 1 k (by decide), hV 2 k (by decide), hV 3 k (by decide)]; exact hW.1 k hk
  · rw [hV 4 k (by decide), hV 5 k (by decide), hV 6 k (by decide), hV 7 k (by decide), hV 8 k (by decide)]; exact hW.2.1 k hk
  · rw [hV2 9, hV2 10, hV2 11, hV2 12]
    obtain ⟨a, b, c, d⟩ := hW.2.2 k hk
    refine ⟨?_, ?_, ?_, ?_⟩
    · split
      · exact hx.1 (by omega)
      · exact a
    · split
      · exact hx.2.1 (by omega)
      · exact b
    · split
      · exact hx.2.2.1 (by omega)
      · exact c
    · split
      · exact hx.2.2.2 (by omega)
      · exact d
theorem mwHat {w h : Nat} (hM : MW V 0 N) : MW (up2 V (9 + w) h x) 0 N := fun k hk => by rw [up2_p (by omega)]; exact hM k hk
/-- sixty rounds aside, and back -/
theorem r_try {w h : Nat} (hM : GM I Lm N NS NH M P V) (hN : N ≤ 12) (hM6 : M ≤ 60) (hMW : MW V 0 N) (hW : WV (up2 V (9 + w) h x) N NS NH) (hT : TI (16 + 4 * h + w) N I J) (hw : w < 4) : ∃ K J', (∀ r, Em L xs 244 [.ref 112, .int 60] (179, up2 J 150 (16 + 4 * h + w) x, Lm, RG nw sp s2 ai) r ↔ r = (some (.int (rsV N M (up2 V (9 + w) h x) 60 0)), 179, K, Lm, RG nw sp s2 ai)) ∧ MR K 0 N NS NH (itV N M (up2 V (9 + w) h x) 60) ∧ (∀ p, p ≠ 165 → p ≠ 150 → p ≠ 171 → K p = I p) ∧ (∀ r, Em L xs 248 [.ref 112] (179, K, Lm, RG nw sp s2 ai) r ↔ r = (none, 179, J', Lm, RG nw sp s2 ai)) ∧ TI (16 + 4 * h + w) N I J' := by
  have hR := mrTry (x := x) hM.1 hT hw
  obtain ⟨t1, t2, t3, t4⟩ := id hT
  have hI : ∀ p, p ≠ 165 → p ≠ 150 → p ≠ 171 → up2 J 150 (16 + 4 * h + w) x p = I p := fun p q0 q1 q2 => (funext fun k => up2_p q1 : up2 J 150 (16 + 4 * h + w) x p = J p).trans (t1 p q0 q1 q2)
  have hm : up2 J 150 (16 + 4 * h + w) x 112 52 = nI M := by rw [hI 112 (by decide) (by decide) (by decide)]; exact hM.2.2.1
  obtain ⟨K, k1, k2, k3, k4⟩ := r_rounds (L := L) (xs := xs) (Lm := Lm) (nw := nw) (sp := sp) (s2 := s2) (ai := ai) (n := 60) hR hW (mwHat hMW) hm hM6 (Nat.le_refl 60)
  have hKI : ∀ p, p ≠ 165 → p ≠ 150 → p ≠ 171 → K p = I p := fun p q0 q1 q2 => (k3 p q0).trans (hI p q0 q1 q2)
  have hp5 : K 148 5 = nI N := by rw [hKI 148 (by decide) (by decide) (by decide)]; exact hM.2.1.2.2
  obtain ⟨J', j1, j2, j3, j4⟩ := r_takesBack (L := L) (xs := xs) (Lm := Lm) (nw := nw) (sp := sp) (s2 := s2) (ai := ai) hp5 hN
  have n60 : nI 60 = 60 := rfl
  rw [n60] at k1
  have hU : ∀ k, up2 J 150 (16 + 4 * h + w) x 165 k = I 165 k := fun k => by rw [up2_p (by decide)]; exact t2 k
  refine ⟨K, J', k1, k2, hKI, j1, fun p q0 q1 q2 => (j2 p q0).trans (hKI p q0 q1 q2), fun k => ?_, fun i hi => ?_, fun k hk => ?_⟩
  · by_cases c : k < N
    · rw [j3 k c, k3 171 (by decide), up2_p (by decide)]; exact t4 k c
    · rw [j4 k (by omega), k4 k (by omega)]; exact hU k
  · rw [j2 150 (by decide), k3 150 (by decide), up2_k hi]; exact t3 i hi
  · rw [j2 171 (by decide), k3 171 (by decide), up2_p (by decide)]; exact t4 k hk
theorem tiSqM {idx : Nat} (hT : TI idx N I J) (hb : J 150 idx = I 150 idx) : SqM I J := by
  obtain ⟨t1, t2, t3, t4⟩ := hT
  refine ⟨fun p hp => t1 p (by omega) (by omega) (by omega), fun k _ _ => by rw [t1 112 (by decide) (by decide) (by decide)], fun p a b c d e f _ _ _ => ?_, fun p a b k hk => ?_⟩
  · by_cases q : p = 150
    · subst q
      funext i
      by_cases z : i = idx
      · rw [z]; exact hb
      · exact t3 i z
    · exact t1 p e q f
  · by_cases q : p = 165
    · rw [q]; exact t2 k
    · rw [t1 p q (by omega) (by omega)]
theorem tiUp {idx : Nat} (hT : TI idx N I J) : TI idx N I (up2 J 150 idx x) := ⟨fun p a b c => (funext fun k => up2_p b : up2 J 150 idx x p = J p).trans (hT.1 p a b c), fun k => by rw [up2_p (by decide)]; exact hT.2.1 k, fun i hi => by rw [up2_k hi]; exact hT.2.2.1 i hi, fun k hk => by rw [up2_p (by decide)]; exact hT.2.2.2 k hk⟩
/-- the class's trial with another number of a hat, settled -/
theorem c_try {w h : Nat} (hT : Tw nw S U) (ht : t = 11) (hso : so = S + 9) (hC : CR I S so N NS NH V) (hMo : I S 6 = nI M) (hM6 : M ≤ 60) (hD : I t 4 = nI 20) (hh : h < NH) (hw : w < 4) (hW : WV (up2 V (9 + w) h x) N NS NH) : ∃ J1 J2, (∀ r, Em L xs 60 [.ref t, .ref S] (179, I, Lm, RG nw sp s2 ai) r ↔ r = (none, 179, J1, Lm, RG nw sp so ai)) ∧ (∀ r, Em L xs 79 [.ref t] (179, setv J1 (t + (3 + w)) (nI h) x, Lm, RG nw sp so ai) r ↔ r = (none, 179, J2, Lm, RG nw sp so ai)) ∧ CR J2 t so N NS NH (itV N M (up2 V (9 + w) h x) 60) ∧ J2 t 6 = nI M ∧ J2 t 4 = nI 20 ∧ Ft I J2 := by
  have hBt : SB nw sp so ai t so := ttSo hT ht hso
  have hts := hBt.1
  have hwt : wd t = 20 := by subst ht; rfl
  have hH := hC.2.1.2.2
  obtain ⟨J1, a1, a2, a3, a4, a5, a6⟩ := c_copyOf (L := L) (xs := xs) (Lm := Lm) (sp := sp) (s2 := s2) (ai := ai) hT ht hso hC hMo
  have est : setv J1 (t + (3 + w)) (nI h) x = up2 J1 (t + (3 + w)) h x := by
    refine setv_lt ?_
    have : w = 0 ∨ w = 1 ∨ w = 2 ∨ w = 3 := by omega
    rcases this with rfl | rfl | rfl | rfl
    · rw [sh_s3 hts]; show h < 4; omega
    · rw [show t + (3 + 1) = t + 4 by omega, sh_s4 hts]; show h < 4; omega
    · rw [show t + (3 + 2) = t + 5 by omega, sh_s5 hts]; show h < 4; omega
    · rw [show t + (3 + 3) = t + 6 by omega, sh_s6 hts]; show h < 4; omega
  have hC2 : CR (up2 J1 (t + (3 + w)) h x) t so N NS NH (up2 V (9 + w) h x) := by
    obtain ⟨⟨q1, q2, q3⟩, b1, c1, d1, e1⟩ := a2
    have hV : ∀ f k, f < 9 → up2 V (9 + w) h x f k = V f k := fun f k hf => up2_p (by omega)
    have hts2 : ∀ i, (i < 3 ∨ 6 < i) → up2 J1 (t + (3 + w)) h x (t + i) = J1 (t + i) := fun i hi => funext fun k => up2_p (by omega)
    have hso2 : ∀ i, up2 J1 (t + (3 + w)) h x (so + i) = J1 (so + i) := fun i => funext fun k => up2_p (by have := tw_S hT; omega)
    have hh2 : ∀ w2 k, w2 < 4 → up2 J1 (t + (3 + w)) h x (t + (3 + w2)) k = if w2 = w ∧ k = h then x else J1 (t + (3 + w2)) k := fun w2 k _ => by
      unfold up2
      by_cases q : w2 = w ∧ k = h
      · obtain ⟨rfl, rfl⟩ := q; simp
      · rw [if_neg q, if_neg (by omega)]
    have hv2 : ∀ w2 k, up2 V (9 + w) h x (9 + w2) k = if w2 = w ∧ k = h then x else V (9 + w2) k := fun w2 k => by
      unfold up2
      by_cases q : w2 = w ∧ k = h
      · obtain ⟨rfl, rfl⟩ := q; simp
      · rw [if_neg q, if_neg (by omega)]
    refine ⟨⟨?_, ?_, ?_⟩, b1, fun k hk => ?_, fun k hk => ?_, fun k hk => ?_⟩
    · rw [hts2 16 (by omega)]; exact q1
    · have := hso2 0; rw [Nat.add_zero] at this; rw [this]; exact q2
    · rw [hts2 1 (by omega)]; exact q3
    · rw [hts2 20 (by omega), hts2 21 (by omega), hts2 22 (by omega), hts2 24 (by omega), hV 0 k (by decide), hV 1 k (by decide), hV 2 k (by decide), hV 3 k (by decide)]; exact c1 k hk
    · rw [hso2 2, hso2 3, hso2 4, hso2 5, hso2 6, hV 4 k (by decide), hV 5 k (by decide), hV 6 k (by decide), hV 7 k (by decide), hV 8 k (by decide)]; exact d1 k hk
    · obtain ⟨g0, g1, g2, g3⟩ := e1 k hk
      refine ⟨?_, ?_, ?_, ?_⟩
      · have z1 := hh2 0 k (by decide); have z2 := hv2 0 k
        rw [show t + 3 = t + (3 + 0) from rfl, show (9 : Nat) = 9 + 0 from rfl, z1, z2]; split
        · rfl
        · exact g0
      · have z1 := hh2 1 k (by decide); have z2 := hv2 1 k
        rw [show t + 4 = t + (3 + 1) from rfl, show (10 : Nat) = 9 + 1 from rfl, z1, z2]; split
        · rfl
        · exact g1
      · have z1 := hh2 2 k (by decide); have z2 := hv2 2 k
        rw [show t + 5 = t + (3 + 2) from rfl, show (11 : Nat) = 9 + 2 from rfl, z1, z2]; split
        · rfl
        · exact g2
      · have z1 := hh2 3 k (by decide); have z2 := hv2 3 k
        rw [show t + 6 = t + (3 + 3) from rfl, show (12 : Nat) = 9 + 3 from rfl, z1, z2]; split
        · rfl
        · exact g3
  have hm6 : up2 J1 (t + (3 + w)) h x t 6 = nI M := by rw [up2_p (by omega)]; exact a3
  have hd4 : up2 J1 (t + (3 + w)) h x t 4 = nI (wd t) := by rw [up2_p (by omega), hwt, a4]; exact hD
  obtain ⟨J2, b1, b2, b3⟩ := c_settle (L := L) (xs := xs) (Lm := Lm) hBt hC2 hW hm6 hM6 hd4
  have hb : J2 t = up2 J1 (t + (3 + w)) h x t := b3 t (by omega) (by omega) (by omega) (by omega) (by omega)
  refine ⟨J1, J2, a1, fun r => by rw [est]; exact b1 r, b2, by rw [hb]; exact hm6, by rw [hb, hd4, hwt], fun p hp => ?_⟩
  rw [b3 p (by omega) (by omega) (by omega) (by omega) (by omega), ← a6 p hp]
  exact funext fun k => up2_p (by omega)
end
