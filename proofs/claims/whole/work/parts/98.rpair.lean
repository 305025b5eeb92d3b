/-! the reference reads: who is in, pairs; the numbers stay in their bounds -/
def RIn (P p k : Nat) : Prop := R0 p k ∨ (p = 152 ∧ k = P)
def RPa (p k : Nat) : Prop := R0 p k ∨ p = 153 ∨ p = 154 ∨ (p = 112 ∧ k = 50)
section
variable {L : Nat} {xs : Nat → Int32} {σ : Mm} {r : Option Value × Mm} {I J K : Nat → Nat → Int32} {Lm : Nat → Nat → Int64} {Rm : Nat → Nat → Nat} {n s so t N NS NH m M P nw S U : Nat} {V W : Vw} {sp s2 ai p : Nat} {x y z h v : Int32} {k c w lo hi kd pl a b : Nat} {T : Nat → Nat} {q : Rz} {f : Nat → Int32} {E E2 : Nat → Nat → Prop} {Lk : Nat → Nat → Int64} {G : Nat → Nat → Int32} {V2 : Vw}

theorem rInB : RB (RIn a) := fun p k h => by
  rcases h with h | h
  · exact Or.inl h
  · exact Or.inr (by omega)
theorem rPaB : RB RPa := fun p k h => by
  rcases h with h | h
  · exact Or.inl h
  · exact Or.inr (by omega)
theorem knz_b {m : Nat} (h : ¬ q.1 = 0) : knz T n c f m q = q := by
  unfold knz
  rw [if_neg (fun z => h z.1)]
  exact if_neg h
theorem r_inT (hN : NS ≤ 6 ∧ NH ≤ 4 ∧ N ≤ 12) (hR : RdM I Lm V NS NH N M P) (hTB : TB I T) (hKT : KT I) (hX : TX T n c) (h : RS I T n c q) : ∃ G, (∀ r, Em L xs 190 [.ref 112] (179, I, Lm, RG nw sp s2 ai) r ↔ r = (none, 179, G, Lm, RG nw sp s2 ai)) ∧ RS G T n c (inQ1 T n c V NH N q) ∧ FX I G (RIn (inP T n V N q)) ∧ ((inQ1 T n c V NH N q).1 = 0 → RdM G Lm (inV T n c V NH N q) NS NH N M P) := by
  obtain ⟨hm, ⟨d1, d2⟩, d3, d4, d5, d6⟩ := id hR
  have e0 : ∀ p k, R0 p k → RIn (inP T n V N q) p k := fun p k z => Or.inl z
  obtain ⟨v0, G0, p0, q0, f0, u0, -⟩ := r_oneOf (kd := 2) (Lm := Lm) (L := L) (xs := xs) (nw := nw) (sp := sp) (s2 := s2) (ai := ai) (by decide) hN hm hTB hKT hX h
  have q0 : RS G0 T n c (inQ0 T n c V N q) := q0
  have p0 : ∀ r, Em L xs 185 [.ref 112, .int 2] (179, I, Lm, RG nw sp s2 ai) r ↔ r = (some (.int v0), 179, G0, Lm, RG nw sp s2 ai) := fun r => p0 r
  have hm0 : NmM G0 Lm V NS NH N := nmFx hm (fun j => by rw [f0.1 148 (by decide)])
  obtain ⟨v1, G1, p1, q1, f1, u1, -⟩ := r_oneOf (kd := 1) (Lm := Lm) (L := L) (xs := xs) (nw := nw) (sp := sp) (s2 := s2) (ai := ai) (by decide) hN hm0 (f0.tb hTB) (f0.kt hKT) hX q0
  have q1 : RS G1 T n c (inQ1 T n c V NH N q) := q1
  have p1 : ∀ r, Em L xs 185 [.ref 112, .int 1] (179, G0, Lm, RG nw sp s2 ai) r ↔ r = (some (.int v1), 179, G1, Lm, RG nw sp s2 ai) := fun r => p1 r
  have F1 : FX I G1 (RIn (inP T n V N q)) := fxTr (fxR f0 e0) (fxR f1 e0)
  by_cases hg : (inQ1 T n c V NH N q).1 = 0
  · obtain ⟨h0, -, l1⟩ := knz_0 (q := inQ0 T n c V N q) hg
    obtain ⟨hb, -, l0⟩ := knz_0 h0
    have w0 : v0 = nI (inP T n V N q) := (u0 h0 hb).1
    have w1 : v1 = nI (ixF (V 16) (nxI T n (inQ0 T n c V N q).2.2) NH 0) := (u1 hg h0).1
    have l0 : inP T n V N q < N := l0
    have g5 := (rs_good q1 hg).1
    have i1 : inb (nI (inP T n V N q)) 12 = True := inb_i (by omega) (by decide)
    have x1 : ixn (nI (inP T n V N q)) = inP T n V N q := ixn_nI (by omega)
    have F2 : FX I (up2 G1 152 (inP T n V N q) v1) (RIn (inP T n V N q)) := fxTr F1 (fxUp (Or.inr ⟨rfl, rfl⟩))
    refine ⟨up2 G1 152 (inP T n V N q) v1, fun r => ?_, rsUp q1 (Or.inl (by decide)), F2, fun _ => ?_⟩
    · rw [em_190]
      simp only [x190_0, x190_1, x190_2, x190_5, x190_6, x190_7, x190_8, x190_11, x190_12, x190_13, x190_16, x190_19, x190_20, x190_23, x190_24, x190_25, x190_26, sh_112, sh_113, sh_114, sh_115, sh_116, sh_117, sh_118, sh_119, sh_120, sh_121, sh_122, sh_123, sh_124, sh_125, sh_126, sh_127, sh_128, sh_129, sh_130, sh_131, sh_132, sh_133, sh_134, sh_135, sh_136, sh_137, sh_138, sh_139, sh_140, sh_141, sh_142, sh_143, sh_144, sh_145, sh_146, sh_147, sh_148, sh_149, sh_150, sh_151, sh_152, sh_153, sh_154, sh_155, sh_156, sh_157, sh_158, sh_159, sh_160, sh_161, sh_162, sh_163, sh_164, sh_165, sh_166, sh_167, sh_168, sh_169, sh_170, sh_171, sh_172, sh_173, sh_174, sh_175, sh_176, sh_177, sh_178, lq_112, lq_113, lq_114, lq_115, lq_116, lq_117, lq_118, lq_119, lq_120, lq_121, lq_122, lq_123, lq_124, lq_125, lq_126, lq_127, lq_128, lq_129, lq_130, lq_131, lq_132, lq_133, lq_134, lq_135, lq_136, lq_137, lq_138, lq_139, lq_140, lq_141, lq_142, lq_143, lq_144, lq_145, lq_146, lq_147, lq_148, lq_149, lq_150, lq_151, lq_152, lq_153, lq_154, lq_155, lq_156, lq_157, lq_158, lq_159, lq_160, lq_161, lq_162, lq_163, lq_164, lq_165, lq_166, lq_167, lq_168, lq_169, lq_170, lq_171, lq_172, lq_173, lq_174, lq_175, lq_176, lq_177, lq_178, rg_112_0, rg_112_9, rg_112_10, rg_112_11, rg_112_12, rg_112_13, rg_112_14, rg_112_15, rg_112_16, rg_112_17, rg_112_18, rg_112_19, rg_112_20, rg_112_21, rg_112_22, rg_112_23, rg_112_24, rg_112_25, rg_112_26, rg_112_27, rg_112_28, rg_112_29, rg_112_30, rg_112_31, rg_112_32, rg_112_33, rg_112_34, rg_112_35, rg_112_36, rg_112_37, rg_112_38, rg_112_39, rg_112_40, rg_112_41, rg_112_43, rg_112_44, rg_112_45, rg_112_46, rg_112_47, rg_112_48, rg_112_49, rg_112_51, rg_112_55, rg_112_57, rg_112_60, rg_112_61, rg_112_62, rg_112_63, rg_112_64, rg_112_66, rg_112_67, rg_112_68, rg_112_69, rg_112_70, rg_112_71, rg_112_72, rg_112_73, rg_112_74, rg_112_80, rg_112_83, rg_112_84, rg_112_85, rg_112_86, rg_112_90, rg_112_91, rg_112_92, ex5, Option.toList_some, Option.toList_none, List.cons_append, List.nil_append, true_and, and_true, nI_1, p_at, p_set, p_isIn, p_max, p_min, p_abs, p0, p1, g5, if_true, w0, i1, x1]
    · have rr : ∀ p k, p ≠ 152 → ¬ R0 p k → up2 G1 152 (inP T n V N q) v1 p k = I p k := fun p k hp hk => F2 p k (fun z => z.elim hk (fun y => hp y.1))
      have sv : ∀ f k, f ≠ 1 → inV T n c V NH N q f k = V f k := fun f k a1 => up2_p a1
      have nr : ∀ p k, p ≠ 112 → ¬ R0 p k := fun p k hp z => hp z.1
      refine ⟨fun e he => ?_, ⟨(rr 112 54 (by decide) (fun z => by unfold R0 at z; omega)).trans d1, (rr 112 50 (by decide) (fun z => by unfold R0 at z; omega)).trans d2⟩, fun k hk => ?_, fun k hk w hw => ?_, fun k hk w hw => ?_, fun k hk => ?_⟩
      · rw [rr 148 e (by decide) (nr _ _ (by decide))]
        exact ⟨(hm e he).1, fun k hk => by rw [sv _ k (by omega)]; exact (hm e he).2 k hk⟩
      · rw [rr 151 k (by decide) (nr _ _ (by decide)), rr 153 k (by decide) (nr _ _ (by decide)), sv 0 k (by decide), sv 3 k (by decide)]
        refine ⟨(d3 k hk).1, ?_, (d3 k hk).2.2⟩
        unfold inV
        rw [up2_at, up2_at, f1.1 152 (by decide), f0.1 152 (by decide), (d3 k hk).2.1, w1]
      · rw [rr 149 _ (by decide) (nr _ _ (by decide)), sv _ k (by omega)]; exact d4 k hk w hw
      · rw [rr 150 _ (by decide) (nr _ _ (by decide)), sv _ k (by omega)]; exact d5 k hk w hw
      · rw [rr 154 _ (by decide) (nr _ _ (by decide)), sv _ k (by decide)]; exact d6 k hk
  · obtain ⟨g1, g2⟩ := rs_bad q1 hg
    refine ⟨G1, fun r => ?_, q1, F1, fun z => (hg z).elim⟩
    rw [em_190]
    simp only [x190_0, x190_1, x190_2, x190_5, x190_6, x190_7, x190_8, x190_11, x190_12, x190_13, x190_16, x190_19, x190_20, x190_23, x190_24, x190_25, x190_26, sh_112, sh_113, sh_114, sh_115, sh_116, sh_117, sh_118, sh_119, sh_120, sh_121, sh_122, sh_123, sh_124, sh_125, sh_126, sh_127, sh_128, sh_129, sh_130, sh_131, sh_132, sh_133, sh_134, sh_135, sh_136, sh_137, sh_138, sh_139, sh_140, sh_141, sh_142, sh_143, sh_144, sh_145, sh_146, sh_147, sh_148, sh_149, sh_150, sh_151, sh_152, sh_153, sh_154, sh_155, sh_156, sh_157, sh_158, sh_159, sh_160, sh_161, sh_162, sh_163, sh_164, sh_165, sh_166, sh_167, sh_168, sh_169, sh_170, sh_171, sh_172, sh_173, sh_174, sh_175, sh_176, sh_177, sh_178, lq_112, lq_113, lq_114, lq_115, lq_116, lq_117, lq_118, lq_119, lq_120, lq_121, lq_122, lq_123, lq_124, lq_125, lq_126, lq_127, lq_128, lq_129, lq_130, lq_131, lq_132, lq_133, lq_134, lq_135, lq_136, lq_137, lq_138, lq_139, lq_140, lq_141, lq_142, lq_143, lq_144, lq_145, lq_146, lq_147, lq_148, lq_149, lq_150, lq_151, lq_152, lq_153, lq_154, lq_155, lq_156, lq_157, lq_158, lq_159, lq_160, lq_161, lq_162, lq_163, lq_164, lq_165, lq_166, lq_167, lq_168, lq_169, lq_170, lq_171, lq_172, lq_173, lq_174, lq_175, lq_176, lq_177, lq_178, rg_112_0, rg_112_9, rg_112_10, rg_112_11, rg_112_12, rg_112_13, rg_112_14, rg_112_15, rg_112_16, rg_112_17, rg_112_18, rg_112_19, rg_112_20, rg_112_21, rg_112_22, rg_112_23, rg_112_24, rg_112_25, rg_112_26, rg_112_27, rg_112_28, rg_112_29, rg_112_30, rg_112_31, rg_112_32, rg_112_33, rg_112_34, rg_112_35, rg_112_36, rg_112_37, rg_112_38, rg_112_39, rg_112_40, rg_112_41, rg_112_43, rg_112_44, rg_112_45, rg_112_46, rg_112_47, rg_112_48, rg_112_49, rg_112_51, rg_112_55, rg_112_57, rg_112_60, rg_112_61, rg_112_62, rg_112_63, rg_112_64, rg_112_66, rg_112_67, rg_112_68, rg_112_69, rg_112_70, rg_112_71, rg_112_72, rg_112_73, rg_112_74, rg_112_80, rg_112_83, rg_112_84, rg_112_85, rg_112_86, rg_112_90, rg_112_91, rg_112_92, ex5, Option.toList_some, Option.toList_none, List.cons_append, List.nil_append, true_and, and_true, nI_1, p_at, p_set, p_isIn, p_max, p_min, p_abs, p0, p1, g1, g2, if_false]
/-- those without a mate -/
theorem mt_two (ha : V 3 a = -1) (hb : V 3 b = -1) (hab : a ≠ b) : ∀ N, mtC V N + (if a < N then 1 else 0) + (if b < N then 1 else 0) ≤ N
  | 0 => by rw [if_neg (by omega), if_neg (by omega)]; exact Nat.le_refl _
  | N + 1 => by
    have ih := mt_two ha hb hab N
    show mtC V N + (if V 3 N = -1 then 0 else 1) + _ + _ ≤ _
    by_cases e1 : a = N
    · rw [if_pos (show V 3 N = -1 by rw [← e1]; exact ha), if_pos (show a < N + 1 by omega)]
      rw [if_neg (show ¬ a < N by omega)] at ih
      by_cases e2 : b < N
      · rw [if_pos e2] at ih; rw [if_pos (show b < N + 1 by omega)]; omega
      · rw [if_neg e2] at ih; rw [if_neg (show ¬ b < N + 1 by omega)]; omega
    · have ea : (if a < N + 1 then 1 else 0) = (if a < N then 1 else 0 : Nat) := by
        by_cases y : a < N
        · rw [if_pos y, if_pos (by omega)]
        · rw [if_neg y, if_neg (by omega)]
      rw [ea]
      by_cases e2 : b = N
      · rw [if_pos (show V 3 N = -1 by rw [← e2]; exact hb), if_pos (show b < N + 1 by omega)]
        rw [if_neg (show ¬ b < N by omega)] at ih
        omega
      · have eb : (if b < N + 1 then 1 else 0) = (if b < N then 1 else 0 : Nat) := by
          by_cases y : b < N
          · rw [if_pos y, if_pos (by omega)]
          · rw [if_neg y, if_neg (by omega)]
        rw [eb]
        by_cases e3 : V 3 N = -1
        · rw [if_pos e3]; omega
        · rw [if_neg e3]; omega
theorem mt_cg (h : ∀ k, k < N → (V2 3 k = -1 ↔ V 3 k = -1)) : mtC V2 N = mtC V N := by
  induction N with
  | zero => rfl
  | succ N ih =>
    show mtC V2 N + (if V2 3 N = -1 then 0 else 1) = mtC V N + (if V 3 N = -1 then 0 else 1)
    rw [ih (fun k hk => h k (by omega))]
    by_cases e : V 3 N = -1
    · rw [if_pos e, if_pos ((h N (by omega)).mpr e)]
    · rw [if_neg e, if_neg (fun z => e ((h N (by omega)).mp z))]
/-- one more has a mate -/
theorem mt_one (ha : V 3 a = -1) (h2 : V2 3 a ≠ -1) (h : ∀ k, k ≠ a → V2 3 k = V 3 k) : ∀ N, mtC V2 N = mtC V N + (if a < N then 1 else 0)
  | 0 => by rw [if_neg (by omega)]; rfl
  | N + 1 => by
    have ih := mt_one ha h2 h N
    show mtC V2 N + (if V2 3 N = -1 then 0 else 1) = mtC V N + (if V 3 N = -1 then 0 else 1) + _
    rw [ih]
    by_cases e : a = N
    · subst e
      rw [if_neg (by omega), if_neg h2, if_pos ha, if_pos (by omega)]
    · rw [h N (Ne.symm e)]
      by_cases y : a < N
      · rw [if_pos y, if_pos (show a < N + 1 by omega)]; omega
      · rw [if_neg y, if_neg (show ¬ a < N + 1 by omega), Nat.add_zero, Nat.add_zero]
theorem pa_mt (h : (paQ1 T n c V N q).1 = 0) : (inP T n V N q < N ∧ paB T n c V N q < N ∧ inP T n V N q ≠ paB T n c V N q) ∧ V 3 (inP T n V N q) = -1 ∧ V 3 (paB T n c V N q) = -1 ∧ (paQ0 T n c V N q).1 = 0 := by
  obtain ⟨h0, -, m1⟩ := unz_0 (q := paQ0 T n c V N q) h
  obtain ⟨-, -, m0⟩ := unz_0 h0
  exact ⟨⟨m0.1, m1.1, fun z => m1.2.1 (congrArg nI z.symm)⟩, m0.2.2, m1.2.2, h0⟩
theorem pa_room (hW : RdW V NS NH N M P) (h : (paQ1 T n c V N q).1 = 0) : P < 6 := by
  obtain ⟨⟨l0, l1, ne⟩, a1, b1, -⟩ := pa_mt h
  have t := mt_two a1 b1 ne N
  rw [if_pos l0, if_pos l1] at t
  have := hW.1
  omega
theorem r_pairT (hW : RdW V NS NH N M P) (hR : RdM I Lm V NS NH N M P) (hTB : TB I T) (hKT : KT I) (hX : TX T n c) (h : RS I T n c q) : ∃ G, (∀ r, Em L xs 192 [.ref 112] (179, I, Lm, RG nw sp s2 ai) r ↔ r = (none, 179, G, Lm, RG nw sp s2 ai)) ∧ RS G T n c (paQ1 T n c V N q) ∧ FX I G RPa ∧ ((paQ1 T n c V N q).1 = 0 → RdM G Lm (paV T n c V N P q) NS NH N M (P + 1)) := by
  obtain ⟨hm, ⟨d1, d2⟩, d3, d4, d5, d6⟩ := id hR
  have hN : NS ≤ 6 ∧ NH ≤ 4 ∧ N ≤ 12 := ⟨hW.1.1, hW.1.2.1, hW.1.2.2.1⟩
  have e0 : ∀ p k, R0 p k → RPa p k := fun p k z => Or.inl z
  obtain ⟨v0, G0, p0, q0, f0, u0⟩ := r_unpaired (x := -1) (Lm := Lm) (L := L) (xs := xs) (nw := nw) (sp := sp) (s2 := s2) (ai := ai) hN hm (fun k hk => (d3 k hk).2.2) hTB hKT hX h
  have q0 : RS G0 T n c (paQ0 T n c V N q) := q0
  have hm0 : NmM G0 Lm V NS NH N := nmFx hm (fun j => by rw [f0.1 148 (by decide)])
  obtain ⟨v1, G1, p1, q1, f1, u1⟩ := r_unpaired (x := v0) (Lm := Lm) (L := L) (xs := xs) (nw := nw) (sp := sp) (s2 := s2) (ai := ai) hN hm0 (fun k hk => by rw [f0.1 153 (by decide)]; exact (d3 k hk).2.2) (f0.tb hTB) (f0.kt hKT) hX q0
  have hu : unz T n c V N v0 (paQ0 T n c V N q) = unz T n c V N (nI (inP T n V N q)) (paQ0 T n c V N q) := unz_r (fun z => u0 z)
  rw [hu] at q1 u1
  have q1 : RS G1 T n c (paQ1 T n c V N q) := q1
  have F1 : FX I G1 RPa := fxTr (fxR f0 e0) (fxR f1 e0)
  by_cases hg : (paQ1 T n c V N q).1 = 0
  · obtain ⟨⟨l0, l1, ne⟩, a1, b1, h0⟩ := pa_mt hg
    have hP := pa_room hW hg
    have w0 : v0 = nI (inP T n V N q) := u0 h0
    have w1 : v1 = nI (paB T n c V N q) := u1 hg
    have g5 := (rs_good q1 hg).1
    have i1 : inb (nI (inP T n V N q)) 12 = True := inb_i (by omega) (by decide)
    have x1 : ixn (nI (inP T n V N q)) = inP T n V N q := ixn_nI (by omega)
    have i2 : inb (nI (paB T n c V N q)) 12 = True := inb_i (by omega) (by decide)
    have x2 : ixn (nI (paB T n c V N q)) = paB T n c V N q := ixn_nI (by omega)
    have i3 : inb (nI P) 6 = True := inb_i hP (by decide)
    have x3 : ixn (nI P) = P := ixn_nI (by omega)
    obtain ⟨A, hA⟩ : ∃ A, up2 (up2 G1 153 (inP T n V N q) (nI (paB T n c V N q))) 153 (paB T n c V N q) (nI (inP T n V N q)) = A := ⟨_, rfl⟩
    have FA : FX G1 A (fun p _ => p = 153) := by rw [← hA]; exact fxTr (fxUp rfl) (fxUp rfl)
    have c50 : A 112 50 = nI P := by rw [FA 112 50 (by decide), f1.2 50 (by decide) (by decide) (by decide) (by decide) (by decide), f0.2 50 (by decide) (by decide) (by decide) (by decide) (by decide)]; exact d2
    have c51 : up2 A 154 P (nI (inP T n V N q)) 112 50 = nI P := by rw [up2_p (by decide)]; exact c50
    have F2 : FX I (up2 (up2 A 154 P (nI (inP T n V N q))) 112 50 (nI (P + 1))) RPa := fxTr (fxTr (fxTr F1 (fxSub FA (fun p k z => Or.inr (Or.inl z)))) (fxUp (Or.inr (Or.inr (Or.inl rfl))))) (fxUp (Or.inr (Or.inr (Or.inr ⟨rfl, rfl⟩))))
    have qA : RS A T n c (paQ1 T n c V N q) := by rw [← hA]; exact rsUp (rsUp q1 (Or.inl (by decide))) (Or.inl (by decide))
    refine ⟨up2 (up2 A 154 P (nI (inP T n V N q))) 112 50 (nI (P + 1)), fun r => ?_, rsUp (rsUp qA (Or.inl (by decide))) (Or.inr (by decide)), F2, fun _ => ?_⟩
    · rw [w0] at p0 p1
      rw [w1] at p1
      rw [em_192]
      simp only [x192_0, x192_1, x192_2, x192_5, x192_6, x192_7, x192_8, x192_11, x192_12, x192_13, x192_16, x192_19, x192_20, x192_21, x192_24, x192_25, x192_26, x192_27, x192_28, x192_31, x192_32, x192_33, x192_34, x192_35, x192_38, x192_39, x192_42, x192_43, x192_44, x192_45, x192_46, x192_49, x192_50, x192_51, x192_54, sh_112, sh_113, sh_114, sh_115, sh_116, sh_117, sh_118, sh_119, sh_120, sh_121, sh_122, sh_123, sh_124, sh_125, sh_126, sh_127, sh_128, sh_129, sh_130, sh_131, sh_132, sh_133, sh_134, sh_135, sh_136, sh_137, sh_138, sh_139, sh_140, sh_141, sh_142, sh_143, sh_144, sh_145, sh_146, sh_147, sh_148, sh_149, sh_150, sh_151, sh_152, sh_153, sh_154, sh_155, sh_156, sh_157, sh_158, sh_159, sh_160, sh_161, sh_162, sh_163, sh_164, sh_165, sh_166, sh_167, sh_168, sh_169, sh_170, sh_171, sh_172, sh_173, sh_174, sh_175, sh_176, sh_177, sh_178, lq_112, lq_113, lq_114, lq_115, lq_116, lq_117, lq_118, lq_119, lq_120, lq_121, lq_122, lq_123, lq_124, lq_125, lq_126, lq_127, lq_128, lq_129, lq_130, lq_131, lq_132, lq_133, lq_134, lq_135, lq_136, lq_137, lq_138, lq_139, lq_140, lq_141, lq_142, lq_143, lq_144, lq_145, lq_146, lq_147, lq_148, lq_149, lq_150, lq_151, lq_152, lq_153, lq_154, lq_155, lq_156, lq_157, lq_158, lq_159, lq_160, lq_161, lq_162, lq_163, lq_164, lq_165, lq_166, lq_167, lq_168, lq_169, lq_170, lq_171, lq_172, lq_173, lq_174, lq_175, lq_176, lq_177, lq_178, rg_112_0, rg_112_9, rg_112_10, rg_112_11, rg_112_12, rg_112_13, rg_112_14, rg_112_15, rg_112_16, rg_112_17, rg_112_18, rg_112_19, rg_112_20, rg_112_21, rg_112_22, rg_112_23, rg_112_24, rg_112_25, rg_112_26, rg_112_27, rg_112_28, rg_112_29, rg_112_30, rg_112_31, rg_112_32, rg_112_33, rg_112_34, rg_112_35, rg_112_36, rg_112_37, rg_112_38, rg_112_39, rg_112_40, rg_112_41, rg_112_43, rg_112_44, rg_112_45, rg_112_46, rg_112_47, rg_112_48, rg_112_49, rg_112_51, rg_112_55, rg_112_57, rg_112_60, rg_112_61, rg_112_62, rg_112_63, rg_112_64, rg_112_66, rg_112_67, rg_112_68, rg_112_69, rg_112_70, rg_112_71, rg_112_72, rg_112_73, rg_112_74, rg_112_80, rg_112_83, rg_112_84, rg_112_85, rg_112_86, rg_112_90, rg_112_91, rg_112_92, ex5, Option.toList_some, Option.toList_none, List.cons_append, List.nil_append, true_and, and_true, nI_1, p_at, p_set, p_isIn, p_max, p_min, p_abs, p0, p1, g5, if_true, i1, x1, i2, x2, hA, c50, i3, x3, c51]
    · have rr : ∀ p k, p ≠ 153 → p ≠ 154 → ¬ R0 p k → ¬ (p = 112 ∧ k = 50) → up2 (up2 A 154 P (nI (inP T n V N q))) 112 50 (nI (P + 1)) p k = I p k := fun p k h1 h2 h3 h4 => F2 p k (fun z => z.elim h3 (fun y => y.elim h1 (fun y => y.elim h2 h4)))
      have sv : ∀ f k, f ≠ 3 → f ≠ 13 → f ≠ 14 → paV T n c V N P q f k = V f k := fun f k a1 a2 a3 => by unfold paV; rw [up2_p a3, up2_p a2, up2_p a1, up2_p a1]
      have nr : ∀ p k, p ≠ 112 → ¬ R0 p k := fun p k hp z => hp z.1
      have n5 : ∀ p k, p ≠ 112 → ¬ (p = 112 ∧ k = 50) := fun p k hp z => hp z.1
      refine ⟨fun e he => ?_, ⟨(rr 112 54 (by decide) (by decide) (fun z => by unfold R0 at z; omega) (by decide)).trans d1, up2_eq⟩, fun k hk => ?_, fun k hk w hw => ?_, fun k hk w hw => ?_, fun k hk => ?_⟩
      · rw [rr 148 e (by decide) (by decide) (nr _ _ (by decide)) (n5 _ _ (by decide))]
        exact ⟨(hm e he).1, fun k hk => by rw [sv _ k (by omega) (by omega) (by omega)]; exact (hm e he).2 k hk⟩
      · rw [rr 151 k (by decide) (by decide) (nr _ _ (by decide)) (n5 _ _ (by decide)), rr 152 k (by decide) (by decide) (nr _ _ (by decide)) (n5 _ _ (by decide)), sv 0 k (by decide) (by decide) (by decide), sv 1 k (by decide) (by decide) (by decide)]
        refine ⟨(d3 k hk).1, (d3 k hk).2.1, ?_⟩
        rw [up2_p (by decide), up2_p (by decide), ← hA, up2_at, up2_at, f1.1 153 (by decide), f0.1 153 (by decide), (d3 k hk).2.2]
        unfold paV
        rw [up2_p (by decide), up2_p (by decide), up2_at, up2_at]
      · rw [rr 149 _ (by decide) (by decide) (nr _ _ (by decide)) (n5 _ _ (by decide)), sv _ k (by omega) (by omega) (by omega)]; exact d4 k hk w hw
      · rw [rr 150 _ (by decide) (by decide) (nr _ _ (by decide)) (n5 _ _ (by decide)), sv _ k (by omega) (by omega) (by omega)]; exact d5 k hk w hw
      · rw [up2_p (by decide), up2_at, FA 154 k (show ¬ (154 : Nat) = 153 by decide), f1.1 154 (by decide), f0.1 154 (by decide)]
        unfold paV
        rw [up2_p (by decide), up2_at, up2_p (by decide), up2_p (by decide)]
        by_cases e : k = P
        · rw [if_pos e, if_pos e]
        · rw [if_neg e, if_neg e]; exact d6 k (by omega)
  · obtain ⟨g1, g2⟩ := rs_bad q1 hg
    have g2 : (nI (paQ1 T n c V N q).1 = 0) = False := eq_false g2
    refine ⟨G1, fun r => ?_, q1, F1, fun z => (hg z).elim⟩
    rw [em_192]
    simp only [x192_0, x192_1, x192_2, x192_5, x192_6, x192_7, x192_8, x192_11, x192_12, x192_13, x192_16, x192_19, x192_20, x192_21, x192_24, x192_25, x192_26, x192_27, x192_28, x192_31, x192_32, x192_33, x192_34, x192_35, x192_38, x192_39, x192_42, x192_43, x192_44, x192_45, x192_46, x192_49, x192_50, x192_51, x192_54, sh_112, sh_113, sh_114, sh_115, sh_116, sh_117, sh_118, sh_119, sh_120, sh_121, sh_122, sh_123, sh_124, sh_125, sh_126, sh_127, sh_128, sh_129, sh_130, sh_131, sh_132, sh_133, sh_134, sh_135, sh_136, sh_137, sh_138, sh_139, sh_140, sh_141, sh_142, sh_143, sh_144, sh_145, sh_146, sh_147, sh_148, sh_149, sh_150, sh_151, sh_152, sh_153, sh_154, sh_155, sh_156, sh_157, sh_158, sh_159, sh_160, sh_161, sh_162, sh_163, sh_164, sh_165, sh_166, sh_167, sh_168, sh_169, sh_170, sh_171, sh_172, sh_173, sh_174, sh_175, sh_176, sh_177, sh_178, lq_112, lq_113, lq_114, lq_115, lq_116, lq_117, lq_118, lq_119, lq_120, lq_121, lq_122, lq_123, lq_124, lq_125, lq_126, lq_127, lq_128, lq_129, lq_130, lq_131, lq_132, lq_133, lq_134, lq_135, lq_136, lq_137, lq_138, lq_139, lq_140, lq_141, lq_142, lq_143, lq_144, lq_145, lq_146, lq_147, lq_148, lq_149, lq_150, lq_151, lq_152, lq_153, lq_154, lq_155, lq_156, lq_157, lq_158, lq_159, lq_160, lq_161, lq_162, lq_163, lq_164, lq_165, lq_166, lq_167, lq_168, lq_169, lq_170, lq_171, lq_172, lq_173, lq_174, lq_175, lq_176, lq_177, lq_178, rg_112_0, rg_112_9, rg_112_10, rg_112_11, rg_112_12, rg_112_13, rg_112_14, rg_112_15, rg_112_16, rg_112_17, rg_112_18, rg_112_19, rg_112_20, rg_112_21, rg_112_22, rg_112_23, rg_112_24, rg_112_25, rg_112_26, rg_112_27, rg_112_28, rg_112_29, rg_112_30, rg_112_31, rg_112_32, rg_112_33, rg_112_34, rg_112_35, rg_112_36, rg_112_37, rg_112_38, rg_112_39, rg_112_40, rg_112_41, rg_112_43, rg_112_44, rg_112_45, rg_112_46, rg_112_47, rg_112_48, rg_112_49, rg_112_51, rg_112_55, rg_112_57, rg_112_60, rg_112_61, rg_112_62, rg_112_63, rg_112_64, rg_112_66, rg_112_67, rg_112_68, rg_112_69, rg_112_70, rg_112_71, rg_112_72, rg_112_73, rg_112_74, rg_112_80, rg_112_83, rg_112_84, rg_112_85, rg_112_86, rg_112_90, rg_112_91, rg_112_92, ex5, Option.toList_some, Option.toList_none, List.cons_append, List.nil_append, true_and, and_true, nI_1, p_at, p_set, p_isIn, p_max, p_min, p_abs, p0, p1, g1, g2, if_false]
end
