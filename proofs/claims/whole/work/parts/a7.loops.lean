/-! statement by statement -/
def runZ (T : Nat → Nat) (n c : Nat) : Nat → Rt → Rt
  | 0, t => t
  | f + 1, t => if t.1.1.1 = 0 ∧ t.1.1.2.2 < c then runZ T n c f (stZ T n c t) else t
section
variable {T : Nat → Nat} {n c k : Nat}
theorem wq_ne (hX : TX T n c) (hk : k < c) : wq T n c k ≠ 43 := by
  rw [wq_lt hX hk]
  unfold whW
  have h := owW_lt (T := T) (p := frW T n k) (s := snW T n k)
  by_cases a : pL (T (frW T n k)) = true
  · rw [if_pos a]
    by_cases b : stB T n k = true
    · rw [if_pos b]; decide
    · rw [if_neg b]; omega
  · rw [if_neg a]
    by_cases a : pD (T (frW T n k)) = true
    · rw [if_pos a]
      by_cases b : stB T n k = true
      · rw [if_pos b]; decide
      · rw [if_neg b]; decide
    · rw [if_neg a]; omega
theorem run_pi : ∀ (f : Nat) (t : Rt), PIt t → PIt (runZ T n c f t)
  | 0, _, h => h
  | f + 1, t, h => by
    unfold runZ
    by_cases a : t.1.1.1 = 0 ∧ t.1.1.2.2 < c
    · rw [if_pos a]
      obtain ⟨p, V, ⟨NS, NH, N, M, P, C⟩, ⟨rs, sf, se, te⟩, j⟩ := t
      exact run_pi f _ (pi_step a.1 (h a.1))
    · rw [if_neg a]; exact h
/-- it comes to an end -/
theorem run_stop : ∀ (f : Nat) (t : Rt), PIt t → (t.1.1.1 = 0 → t.2.2.2.2 + f = 101) → ¬ ((runZ T n c f t).1.1.1 = 0 ∧ (runZ T n c f t).1.1.2.2 < c)
  | 0, t, h, h1 => fun z => by
    have z : t.1.1.1 = 0 ∧ t.1.1.2.2 < c := z
    have a := h1 z.1
    have b := (h z.1).2.2.1
    omega
  | f + 1, t, h, h1 => by
    unfold runZ
    by_cases a : t.1.1.1 = 0 ∧ t.1.1.2.2 < c
    · rw [if_pos a]
      obtain ⟨p, V, ⟨NS, NH, N, M, P, C⟩, ⟨rs, sf, se, te⟩, j⟩ := t
      refine run_stop f _ (pi_step a.1 (h a.1)) (fun z => ?_)
      rw [st_one z]
      have := h1 a.1
      omega
    · rw [if_neg a]; exact a
end
section
variable {L : Nat} {xs : Nat → Int32} {σ : Mm} {r : Option Value × Mm} {I J K : Nat → Nat → Int32} {Lm : Nat → Nat → Int64} {Rm : Nat → Nat → Nat} {n s so N NS NH M P nw S U : Nat} {V W : Vw} {sp s2 ai : Nat} {x y z h v : Int32} {k c w lo hi kd pl g m C j u : Nat} {T : Nat → Nat} {q q2 : Rz} {p p2 : Pz} {E E2 : Nat → Nat → Prop} {cs : List Nat} {rs : Nat → Int32} {sf se te : Nat → Nat} {G : Nat → Nat → Int32} {Lk : Nat → Nat → Int64} {t : Rt}

theorem c_hasMore (hX : TX T n c) (hT : TKs I T n c) (h : CS I T n c q) (r : Option Value × Mm) : Em L xs 19 [.ref 105] (179, I, Lm, RG nw sp s2 ai) r ↔ r = (some (.int (if q.1 = 0 ∧ q.2.2 < c then 1 else 0)), 179, I, Lm, RG nw sp s2 ai) := by
  have a1 := fun r => c_ahead (Lm := Lm) (L := L) (xs := xs) (nw := nw) (sp := sp) (s2 := s2) (ai := ai) hX hT h r
  rw [em_19]
  by_cases e : q.1 = 0 ∧ q.2.2 < c
  · have c1 : (nI (ahV T n c q) = 43) = False := eq_false (fun z => by
      have z2 : ahV T n c q = wq T n c q.2.2 := if_pos e.1
      rw [z2] at z
      have wb := wq_b hX q.2.2
      exact wq_ne hX e.2 ((nI_eq (a := wq T n c q.2.2) (b := 43) (by omega) (by decide)).mp z))
    rw [if_pos e]
    simp only [x19_0, x19_1, x19_4, x19_6, x19_9, x19_10, x19_13, x19_14, sh_105, lq_105, ex5, Option.toList_some, Option.toList_none, List.cons_append, List.nil_append, true_and, and_true, nI_1, p_at, p_set, p_isIn, p_max, p_min, p_abs, true_or, or_true, a1, c1, if_false]
  · have c1 : (nI (ahV T n c q) = 43) = True := eq_true (by
      have z2 : ahV T n c q = 43 := by
        unfold ahV
        by_cases z : q.1 = 0
        · rw [if_pos z]
          unfold wq
          rw [if_neg (fun y => e ⟨z, y⟩)]
        · rw [if_neg z]
      rw [z2]
      rfl)
    rw [if_neg e]
    simp only [x19_0, x19_1, x19_4, x19_6, x19_9, x19_10, x19_13, x19_14, sh_105, lq_105, ex5, Option.toList_some, Option.toList_none, List.cons_append, List.nil_append, true_and, and_true, nI_1, p_at, p_set, p_isIn, p_max, p_min, p_abs, true_or, or_true, a1, c1, if_true]
theorem c_loop (ha : ai = 37 ∨ ai = 71) (hs1 : s = ai + 1) (hua : u = ai + 27) (hX : TX T n c) : ∀ (f i : Nat) (t : Rt) (I : Nat → Nat → Int32), i + f = 101 → PIt t → CIt I T n c s u t → ∃ J i2, (∀ r, Ev L xs 79 116 26 [some (.ref 0), some (.int (nI i))] [] (179, I, Lm, RG nw sp s2 ai) r ↔ Ev L xs 79 116 55 [some (.ref 0), some (.int i2)] [] (179, J, Lm, RG nw sp s2 ai) r) ∧ CIt J T n c s u (runZ T n c f t) ∧ FX I J (ECl ai) := by
  intro f
  induction f with
  | zero =>
    intro i t I hi hP hC
    have ei : i = 101 := hi
    subst ei
    have c1 : (100 < nI 101) = True := eq_true (by decide)
    refine ⟨I, nI 101, fun r => ?_, hC, fxRf⟩
    rw [x116_26]
    simp only [x116_0, x116_1, x116_4, x116_5, x116_8, x116_9, x116_12, x116_13, x116_16, x116_19, x116_20, x116_21, x116_24, x116_25, x116_27, x116_29, x116_32, x116_33, x116_36, x116_39, x116_42, x116_43, x116_46, x116_49, x116_52, x116_56, x116_59, x116_62, x116_65, x116_66, x116_67, x116_68, x116_71, x116_72, x116_73, x116_74, x116_77, x116_80, x116_81, x116_82, x116_85, x116_86, x116_89, x116_92, x116_93, x116_96, x116_99, rg_0_now, rg_0_spare, rg_0_0, rg_0_1, rg_0_2, rg_0_6, sh_0, sh_1, sh_2, sh_3, lq_0, lq_1, lq_2, lq_3, sh_105, lq_105, ex5, Option.toList_some, Option.toList_none, List.cons_append, List.nil_append, true_and, and_true, nI_1, p_at, p_set, p_isIn, p_max, p_min, p_abs, c1, if_true]
  | succ f ih =>
    intro i t I hi hP hC
    have c1 : (100 < nI i) = False := eq_false (nI_nlt (b := i) (a := 100) (by omega) (by decide))
    have hm := fun r => c_hasMore (Lm := Lm) (L := L) (xs := xs) (nw := nw) (sp := sp) (s2 := s2) (ai := ai) hX hC.2.1 hC.1 r
    unfold runZ
    by_cases e : t.1.1.1 = 0 ∧ t.1.1.2.2 < c
    · rw [if_pos e] at hm
      rw [if_pos e]
      obtain ⟨p, V, ⟨NS, NH, N, M, P, C⟩, ⟨rs, sf, se, te⟩, j⟩ := t
      obtain ⟨w1, w2, w3, w4, w5⟩ := hP e.1
      obtain ⟨J1, d1, d2, d3⟩ := c_step (Lm := Lm) (L := L) (xs := xs) (nw := nw) (sp := sp) (s2 := s2) (ai := ai) ha hs1 hua w1 w2 w3 hX e.1 e.2 hC
      obtain ⟨J, i2, f1, f2, f3⟩ := ih (i + 1) (stZ T n c (p, V, (NS, NH, N, M, P, C), (rs, sf, se, te), j)) J1 (by omega) (pi_step e.1 (hP e.1)) d2
      refine ⟨J, i2, fun r => ?_, f2, fxTr d3 f3⟩
      rw [x116_26]
      simp only [x116_0, x116_1, x116_4, x116_5, x116_8, x116_9, x116_12, x116_13, x116_16, x116_19, x116_20, x116_21, x116_24, x116_25, x116_27, x116_29, x116_32, x116_33, x116_36, x116_39, x116_42, x116_43, x116_46, x116_49, x116_52, x116_56, x116_59, x116_62, x116_65, x116_66, x116_67, x116_68, x116_71, x116_72, x116_73, x116_74, x116_77, x116_80, x116_81, x116_82, x116_85, x116_86, x116_89, x116_92, x116_93, x116_96, x116_99, rg_0_now, rg_0_spare, rg_0_0, rg_0_1, rg_0_2, rg_0_6, sh_0, sh_1, sh_2, sh_3, lq_0, lq_1, lq_2, lq_3, sh_105, lq_105, ex5, Option.toList_some, Option.toList_none, List.cons_append, List.nil_append, true_and, and_true, nI_1, p_at, p_set, p_isIn, p_max, p_min, p_abs, c1, if_false, hm, one_ne, d1]
      exact f1 r
    · rw [if_neg e] at hm
      rw [if_neg e]
      refine ⟨I, nI i, fun r => ?_, hC, fxRf⟩
      rw [x116_26]
      simp only [x116_0, x116_1, x116_4, x116_5, x116_8, x116_9, x116_12, x116_13, x116_16, x116_19, x116_20, x116_21, x116_24, x116_25, x116_27, x116_29, x116_32, x116_33, x116_36, x116_39, x116_42, x116_43, x116_46, x116_49, x116_52, x116_56, x116_59, x116_62, x116_65, x116_66, x116_67, x116_68, x116_71, x116_72, x116_73, x116_74, x116_77, x116_80, x116_81, x116_82, x116_85, x116_86, x116_89, x116_92, x116_93, x116_96, x116_99, rg_0_now, rg_0_spare, rg_0_0, rg_0_1, rg_0_2, rg_0_6, sh_0, sh_1, sh_2, sh_3, lq_0, lq_1, lq_2, lq_3, sh_105, lq_105, ex5, Option.toList_some, Option.toList_none, List.cons_append, List.nil_append, true_and, and_true, nI_1, p_at, p_set, p_isIn, p_max, p_min, p_abs, c1, if_false, hm, if_true]
/-- look's frame, for what has been read -/
theorem ri_look (h : RIt I Lm T n c t) (h4 : ∀ a, a ≠ 112 → G a = I a) (h5 : ∀ j, j ≠ 2 → G 112 j = I 112 j) (hP : t.1.1.1 = 0 → PS G T n c t.1.1.2.2) : RIt G Lm T n c t := by
  obtain ⟨⟨a1, a2, a3, a4⟩, b⟩ := h
  exact ⟨⟨(h5 5 (by decide)).trans a1, a2, hP, (h5 6 (by decide)).trans a4⟩, fun z => (b z).rf ⟨h4, fun j j2 _ _ _ _ => h5 j j2⟩⟩
theorem r_loop (hX : TX T n c) : ∀ (f : Nat) (t : Rt) (I : Nat → Nat → Int32) (Lm : Nat → Nat → Int64), ¬ ((runZ T n c f t).1.1.1 = 0 ∧ (runZ T n c f t).1.1.2.2 < c) → PIt t → TB I T → KT I → RIt I Lm T n c t → ∃ G Lk, (∀ r l1, Ev L xs 10 194 42 [some (.ref 112), l1] [] (179, I, Lm, RG nw sp s2 ai) r ↔ Ev L xs 10 194 64 [some (.ref 112), l1] [] (179, G, Lk, RG nw sp s2 ai) r) ∧ RIt G Lk T n c (runZ T n c f t) ∧ FX I G ERf ∧ (∀ p k, p ≠ 147 ∨ 36 ≤ k → Lk p k = Lm p k) := by
  -- no statement more
  have no : ∀ (t : Rt) (I : Nat → Nat → Int32) (Lm : Nat → Nat → Int64), ¬ (t.1.1.1 = 0 ∧ t.1.1.2.2 < c) → TB I T → RIt I Lm T n c t → ∃ G Lk, (∀ r l1, Ev L xs 10 194 42 [some (.ref 112), l1] [] (179, I, Lm, RG nw sp s2 ai) r ↔ Ev L xs 10 194 64 [some (.ref 112), l1] [] (179, G, Lk, RG nw sp s2 ai) r) ∧ RIt G Lk T n c t ∧ FX I G ERf ∧ (∀ p k, p ≠ 147 ∨ 36 ≤ k → Lk p k = Lm p k) := fun t I Lm e hTB h => by
    by_cases hg : t.1.1.1 = 0
    · obtain ⟨g5, hP⟩ := rs_good h.1 hg
      obtain ⟨G1, a1, a2, a3, a4, a5⟩ := r_look (Lm := Lm) (L := L) (xs := xs) (nw := nw) (sp := sp) (s2 := s2) (ai := ai) hTB hX hP
      have lk : (lkR T n c t.1.1.2.2 = -1) = True := eq_true (if_neg (fun z => e ⟨hg, z⟩))
      refine ⟨G1, Lm, fun r l1 => ?_, ri_look h a4 a5 (fun _ => a3), fxR ⟨a4, fun j j2 _ _ _ _ => a5 j j2⟩ eR0f, fun _ _ _ => rfl⟩
      rw [x194_42]
      simp only [x194_0, x194_1, x194_4, x194_5, x194_7, x194_8, x194_11, x194_12, x194_15, x194_16, x194_17, x194_18, x194_21, x194_24, x194_25, x194_26, x194_29, x194_30, x194_33, x194_34, x194_35, x194_36, x194_37, x194_39, x194_43, x194_46, x194_49, x194_50, x194_53, x194_54, x194_57, x194_58, x194_61, x194_65, x194_66, x194_69, x194_72, x194_73, x194_74, x194_77, x194_80, x194_81, x194_84, x194_87, x194_88, x194_89, x194_90, x194_93, x194_94, x194_97, sh_112, sh_113, sh_114, sh_115, sh_116, sh_117, sh_118, sh_119, sh_120, sh_121, sh_122, sh_123, sh_124, sh_125, sh_126, sh_127, sh_128, sh_129, sh_130, sh_131, sh_132, sh_133, sh_134, sh_135, sh_136, sh_137, sh_138, sh_139, sh_140, sh_141, sh_142, sh_143, sh_144, sh_145, sh_146, sh_147, sh_148, sh_149, sh_150, sh_151, sh_152, sh_153, sh_154, sh_155, sh_156, sh_157, sh_158, sh_159, sh_160, sh_161, sh_162, sh_163, sh_164, sh_165, sh_166, sh_167, sh_168, sh_169, sh_170, sh_171, sh_172, sh_173, sh_174, sh_175, sh_176, sh_177, sh_178, lq_112, lq_113, lq_114, lq_115, lq_116, lq_117, lq_118, lq_119, lq_120, lq_121, lq_122, lq_123, lq_124, lq_125, lq_126, lq_127, lq_128, lq_129, lq_130, lq_131, lq_132, lq_133, lq_134, lq_135, lq_136, lq_137, lq_138, lq_139, lq_140, lq_141, lq_142, lq_143, lq_144, lq_145, lq_146, lq_147, lq_148, lq_149, lq_150, lq_151, lq_152, lq_153, lq_154, lq_155, lq_156, lq_157, lq_158, lq_159, lq_160, lq_161, lq_162, lq_163, lq_164, lq_165, lq_166, lq_167, lq_168, lq_169, lq_170, lq_171, lq_172, lq_173, lq_174, lq_175, lq_176, lq_177, lq_178, rg_112_0, rg_112_9, rg_112_10, rg_112_11, rg_112_12, rg_112_13, rg_112_14, rg_112_15, rg_112_16, rg_112_17, rg_112_18, rg_112_19, rg_112_20, rg_112_21, rg_112_22, rg_112_23, rg_112_24, rg_112_25, rg_112_26, rg_112_27, rg_112_28, rg_112_29, rg_112_30, rg_112_31, rg_112_32, rg_112_33, rg_112_34, rg_112_35, rg_112_36, rg_112_37, rg_112_38, rg_112_39, rg_112_40, rg_112_41, rg_112_43, rg_112_44, rg_112_45, rg_112_46, rg_112_47, rg_112_48, rg_112_49, rg_112_51, rg_112_55, rg_112_57, rg_112_60, rg_112_61, rg_112_62, rg_112_63, rg_112_64, rg_112_66, rg_112_67, rg_112_68, rg_112_69, rg_112_70, rg_112_71, rg_112_72, rg_112_73, rg_112_74, rg_112_80, rg_112_83, rg_112_84, rg_112_85, rg_112_86, rg_112_90, rg_112_91, rg_112_92, ex5, Option.toList_some, Option.toList_none, List.cons_append, List.nil_append, true_and, and_true, nI_1, p_at, p_set, p_isIn, p_max, p_min, p_abs, g5, if_true, a1, lk]
    · have g5 := rs_bad5 h.1 hg
      refine ⟨I, Lm, fun r l1 => ?_, h, fxRf, fun _ _ _ => rfl⟩
      rw [x194_42]
      simp only [x194_0, x194_1, x194_4, x194_5, x194_7, x194_8, x194_11, x194_12, x194_15, x194_16, x194_17, x194_18, x194_21, x194_24, x194_25, x194_26, x194_29, x194_30, x194_33, x194_34, x194_35, x194_36, x194_37, x194_39, x194_43, x194_46, x194_49, x194_50, x194_53, x194_54, x194_57, x194_58, x194_61, x194_65, x194_66, x194_69, x194_72, x194_73, x194_74, x194_77, x194_80, x194_81, x194_84, x194_87, x194_88, x194_89, x194_90, x194_93, x194_94, x194_97, sh_112, sh_113, sh_114, sh_115, sh_116, sh_117, sh_118, sh_119, sh_120, sh_121, sh_122, sh_123, sh_124, sh_125, sh_126, sh_127, sh_128, sh_129, sh_130, sh_131, sh_132, sh_133, sh_134, sh_135, sh_136, sh_137, sh_138, sh_139, sh_140, sh_141, sh_142, sh_143, sh_144, sh_145, sh_146, sh_147, sh_148, sh_149, sh_150, sh_151, sh_152, sh_153, sh_154, sh_155, sh_156, sh_157, sh_158, sh_159, sh_160, sh_161, sh_162, sh_163, sh_164, sh_165, sh_166, sh_167, sh_168, sh_169, sh_170, sh_171, sh_172, sh_173, sh_174, sh_175, sh_176, sh_177, sh_178, lq_112, lq_113, lq_114, lq_115, lq_116, lq_117, lq_118, lq_119, lq_120, lq_121, lq_122, lq_123, lq_124, lq_125, lq_126, lq_127, lq_128, lq_129, lq_130, lq_131, lq_132, lq_133, lq_134, lq_135, lq_136, lq_137, lq_138, lq_139, lq_140, lq_141, lq_142, lq_143, lq_144, lq_145, lq_146, lq_147, lq_148, lq_149, lq_150, lq_151, lq_152, lq_153, lq_154, lq_155, lq_156, lq_157, lq_158, lq_159, lq_160, lq_161, lq_162, lq_163, lq_164, lq_165, lq_166, lq_167, lq_168, lq_169, lq_170, lq_171, lq_172, lq_173, lq_174, lq_175, lq_176, lq_177, lq_178, rg_112_0, rg_112_9, rg_112_10, rg_112_11, rg_112_12, rg_112_13, rg_112_14, rg_112_15, rg_112_16, rg_112_17, rg_112_18, rg_112_19, rg_112_20, rg_112_21, rg_112_22, rg_112_23, rg_112_24, rg_112_25, rg_112_26, rg_112_27, rg_112_28, rg_112_29, rg_112_30, rg_112_31, rg_112_32, rg_112_33, rg_112_34, rg_112_35, rg_112_36, rg_112_37, rg_112_38, rg_112_39, rg_112_40, rg_112_41, rg_112_43, rg_112_44, rg_112_45, rg_112_46, rg_112_47, rg_112_48, rg_112_49, rg_112_51, rg_112_55, rg_112_57, rg_112_60, rg_112_61, rg_112_62, rg_112_63, rg_112_64, rg_112_66, rg_112_67, rg_112_68, rg_112_69, rg_112_70, rg_112_71, rg_112_72, rg_112_73, rg_112_74, rg_112_80, rg_112_83, rg_112_84, rg_112_85, rg_112_86, rg_112_90, rg_112_91, rg_112_92, ex5, Option.toList_some, Option.toList_none, List.cons_append, List.nil_append, true_and, and_true, nI_1, p_at, p_set, p_isIn, p_max, p_min, p_abs, g5, if_false]
  intro f
  induction f with
  | zero =>
    intro t I Lm hE hP hTB hKT h
    exact no t I Lm hE hTB h
  | succ f ih =>
    intro t I Lm hE hP hTB hKT h
    unfold runZ at hE ⊢
    by_cases e : t.1.1.1 = 0 ∧ t.1.1.2.2 < c
    · rw [if_pos e] at hE ⊢
      obtain ⟨p, V, ⟨NS, NH, N, M, P, C⟩, ⟨rs, sf, se, te⟩, j⟩ := t
      obtain ⟨g5, hPS⟩ := rs_good h.1 e.1
      obtain ⟨G1, a1, a2, a3, a4, a5⟩ := r_look (Lm := Lm) (L := L) (xs := xs) (nw := nw) (sp := sp) (s2 := s2) (ai := ai) hTB hX hPS
      have F1 : RFr I G1 := ⟨a4, fun j j2 _ _ _ _ => a5 j j2⟩
      have lk : (lkR T n c p.1.2.2 = -1) = False := by
        rw [show lkR T n c p.1.2.2 = nI (T (frW T n p.1.2.2)) from if_pos e.2]
        exact nI_mF (by have := tx_b (k := p.1.2.2) hX e.2; omega)
      obtain ⟨w1, w2, w3, w4, w5⟩ := hP e.1
      obtain ⟨G2, Lk, d1, d2, d3, d4⟩ := r_step (Lm := Lm) (L := L) (xs := xs) (nw := nw) (sp := sp) (s2 := s2) (ai := ai) w1 w2 w3 (F1.tb hTB) (F1.kt hKT) hX e.1 e.2 a2 w4 (ri_look h a4 a5 (fun _ => a3))
      have F2 : FX I G2 ERf := fxTr (fxR F1 eR0f) d3
      obtain ⟨G, Lk2, f1, f2, f3, f4⟩ := ih (stZ T n c (p, V, (NS, NH, N, M, P, C), (rs, sf, se, te), j)) G2 Lk hE (pi_step e.1 (hP e.1)) (F2.tbG eRfB hTB) (F2.ktG eRfB hKT) d2
      refine ⟨G, Lk2, fun r l1 => ?_, f2, fxTr F2 f3, fun p k z => (f4 p k z).trans (d4 p k z)⟩
      rw [x194_42]
      simp only [x194_0, x194_1, x194_4, x194_5, x194_7, x194_8, x194_11, x194_12, x194_15, x194_16, x194_17, x194_18, x194_21, x194_24, x194_25, x194_26, x194_29, x194_30, x194_33, x194_34, x194_35, x194_36, x194_37, x194_39, x194_43, x194_46, x194_49, x194_50, x194_53, x194_54, x194_57, x194_58, x194_61, x194_65, x194_66, x194_69, x194_72, x194_73, x194_74, x194_77, x194_80, x194_81, x194_84, x194_87, x194_88, x194_89, x194_90, x194_93, x194_94, x194_97, sh_112, sh_113, sh_114, sh_115, sh_116, sh_117, sh_118, sh_119, sh_120, sh_121, sh_122, sh_123, sh_124, sh_125, sh_126, sh_127, sh_128, sh_129, sh_130, sh_131, sh_132, sh_133, sh_134, sh_135, sh_136, sh_137, sh_138, sh_139, sh_140, sh_141, sh_142, sh_143, sh_144, sh_145, sh_146, sh_147, sh_148, sh_149, sh_150, sh_151, sh_152, sh_153, sh_154, sh_155, sh_156, sh_157, sh_158, sh_159, sh_160, sh_161, sh_162, sh_163, sh_164, sh_165, sh_166, sh_167, sh_168, sh_169, sh_170, sh_171, sh_172, sh_173, sh_174, sh_175, sh_176, sh_177, sh_178, lq_112, lq_113, lq_114, lq_115, lq_116, lq_117, lq_118, lq_119, lq_120, lq_121, lq_122, lq_123, lq_124, lq_125, lq_126, lq_127, lq_128, lq_129, lq_130, lq_131, lq_132, lq_133, lq_134, lq_135, lq_136, lq_137, lq_138, lq_139, lq_140, lq_141, lq_142, lq_143, lq_144, lq_145, lq_146, lq_147, lq_148, lq_149, lq_150, lq_151, lq_152, lq_153, lq_154, lq_155, lq_156, lq_157, lq_158, lq_159, lq_160, lq_161, lq_162, lq_163, lq_164, lq_165, lq_166, lq_167, lq_168, lq_169, lq_170, lq_171, lq_172, lq_173, lq_174, lq_175, lq_176, lq_177, lq_178, rg_112_0, rg_112_9, rg_112_10, rg_112_11, rg_112_12, rg_112_13, rg_112_14, rg_112_15, rg_112_16, rg_112_17, rg_112_18, rg_112_19, rg_112_20, rg_112_21, rg_112_22, rg_112_23, rg_112_24, rg_112_25, rg_112_26, rg_112_27, rg_112_28, rg_112_29, rg_112_30, rg_112_31, rg_112_32, rg_112_33, rg_112_34, rg_112_35, rg_112_36, rg_112_37, rg_112_38, rg_112_39, rg_112_40, rg_112_41, rg_112_43, rg_112_44, rg_112_45, rg_112_46, rg_112_47, rg_112_48, rg_112_49, rg_112_51, rg_112_55, rg_112_57, rg_112_60, rg_112_61, rg_112_62, rg_112_63, rg_112_64, rg_112_66, rg_112_67, rg_112_68, rg_112_69, rg_112_70, rg_112_71, rg_112_72, rg_112_73, rg_112_74, rg_112_80, rg_112_83, rg_112_84, rg_112_85, rg_112_86, rg_112_90, rg_112_91, rg_112_92, ex5, Option.toList_some, Option.toList_none, List.cons_append, List.nil_append, true_and, and_true, nI_1, p_at, p_set, p_isIn, p_max, p_min, p_abs, g5, if_true, a1, lk, if_false, d1]
      exact f1 r l1
    · rw [if_neg e] at hE ⊢
      exact no t I Lm hE hTB h
end
