/-! the class reads tests -/
section
variable {L : Nat} {xs : Nat → Int32} {σ : Mm} {r : Option Value × Mm} {I J K : Nat → Nat → Int32} {Lm : Nat → Nat → Int64} {Rm : Nat → Nat → Nat} {n s so t N NS NH m M P nw U : Nat} {V W : Vw} {sp s2 ai p : Nat} {x y z h v : Int32} {k c w lo hi a u o g : Nat} {T : Nat → Nat} {q : Rz} {p p2 : Pz} {F F2 S Fi Ti : Pz → Pz} {b : Bool} {E E2 : Nat → Nat → Prop}

theorem cm_g (h : (cmQ T n c q).1 = 0) : q.1 = 0 ∧ (cmQ T n c q).2.2 = q.2.2 + 1 := by
  unfold cmQ at h ⊢
  by_cases z : q.1 = 0
  · rw [if_pos z] at h ⊢
    by_cases y : wq T n c q.2.2 = 316 ∨ wq T n c q.2.2 = 318
    · rw [if_pos y]; exact ⟨z, rfl⟩
    · rw [if_neg y] at h ⊢; exact ⟨z, (asz_g h).2⟩
  · rw [if_neg z] at h; exact (z h).elim
theorem sm_cmp (hS : SM S) (h : (cmpP T n c S p).1.1 = 0) : p.1.1 = 0 ∧ (S (qP (cmQ T n c) (S p))).2.length + p.1.2.2 + 1 ≤ (S (qP (cmQ T n c) (S p))).1.2.2 + p.2.length ∧ p.1.2.2 < (S (qP (cmQ T n c) (S p))).1.2.2 ∧ (S p).1.1 = 0 := by
  have h : (S (qP (cmQ T n c) (S p))).1.1 = 0 := h
  obtain ⟨b1, b2, b3⟩ := hS _ h
  have b1 : (cmQ T n c (S p).1).1 = 0 := b1
  obtain ⟨d1, d2⟩ := cm_g b1
  obtain ⟨e1, e2, e3⟩ := hS _ d1
  have e5 : (qP (cmQ T n c) (S p)).1.2.2 = (S p).1.2.2 + 1 := d2
  have e6 : (qP (cmQ T n c) (S p)).2 = (S p).2 := rfl
  rw [e5, e6] at b2
  rw [e5] at b3
  exact ⟨e1, by omega, by omega, d1⟩
theorem sm_fact (hF : b = true → SM Fi) (hT : b = true → SM Ti) (hS : SM S) : SM (factP T n c b Fi Ti S) := fun p h => by
  unfold factP at h ⊢
  have e3 : (nxP p).2 = p.2 := rfl
  have e4 : (nxP p).1.2.2 = p.1.2.2 + 1 := rfl
  have ln : ∀ {m : Nat} {y : Pz}, (adP m y).2.length = y.2.length + 1 := fun {m y} => by show (y.2 ++ [m]).length = _; rw [List.length_append]; rfl
  by_cases z : p.1.1 = 0
  · rw [if_pos z] at h ⊢
    refine ⟨z, ?_⟩
    by_cases y1 : wq T n c p.1.2.2 = 22
    · rw [if_pos y1] at h ⊢
      by_cases y : b = true
      · rw [if_pos y] at h ⊢
        obtain ⟨c1, c2, c3⟩ := hF y _ (show (Fi (nxP p)).1.1 = 0 from h)
        rw [e3, e4] at c2
        rw [e4] at c3
        have e8 : (adP 16 (Fi (nxP p))).1.2.2 = (Fi (nxP p)).1.2.2 := rfl
        rw [ln, e8]; omega
      · rw [if_neg y] at h; cases h
    rw [if_neg y1] at h ⊢
    by_cases y4 : wq T n c p.1.2.2 = 347
    · rw [if_pos y4] at h ⊢
      by_cases y : b = true
      · rw [if_pos y] at h ⊢
        have a1 : (asz T n c 349 (Ti (nxP p)).1).1 = 0 := h
        obtain ⟨a2, a3⟩ := asz_g a1
        obtain ⟨c1, c2, c3⟩ := hT y _ a2
        rw [e3, e4] at c2
        rw [e4] at c3
        have e5 : (qP (asz T n c 349) (Ti (nxP p))).1.2.2 = (Ti (nxP p)).1.2.2 + 1 := a3
        have e6 : (qP (asz T n c 349) (Ti (nxP p))).2 = (Ti (nxP p)).2 := rfl
        rw [e5, e6]; omega
      · rw [if_neg y] at h; cases h
    rw [if_neg y4] at h ⊢
    by_cases y3 : wq T n c p.1.2.2 = 23
    · rw [if_pos y3]
      have e8 : (adP 17 (nxP p)).1.2.2 = p.1.2.2 + 1 := rfl
      rw [ln, e8, e3]; omega
    rw [if_neg y3] at h ⊢
    obtain ⟨b1, b2, b3, b4⟩ := sm_cmp hS h
    have e7 : (cmpP T n c S p).2.length = (S (qP (cmQ T n c) (S p))).2.length + 1 := ln
    have e8 : (cmpP T n c S p).1.2.2 = (S (qP (cmQ T n c) (S p))).1.2.2 := rfl
    rw [e7, e8]; omega
  · rw [if_neg z] at h; exact (z h).elim
theorem sm_pFact : ∀ g, SM (pFact T n c g)
  | 0 => sm_fact (fun z => by cases z) (fun z => by cases z) (sm_sum 0)
  | g + 1 => sm_fact (fun _ => sm_pFact g) (fun _ => sm_run (sm_run (sm_pFact g))) (sm_sum (g + 1))
theorem bd_loop {w1 m1 w2 m2 : Nat} (h : ¬ p.1.1 = 0) : ∀ f, loopP T n c w1 m1 w2 m2 F f p = p
  | 0 => rfl
  | f + 1 => if_neg h
theorem bd_run {w1 m1 w2 m2 f : Nat} (hF : ∀ p, ¬ p.1.1 = 0 → F p = p) (p : Pz) (h : ¬ p.1.1 = 0) : loopP T n c w1 m1 w2 m2 F f (F p) = p := by
  rw [hF p h]; exact bd_loop h f
theorem bd_sum : ∀ g p, ¬ p.1.1 = 0 → pSum T n c g p = p
  | 0, p, h => bd_run (fun p h => bd_run (fun p h => if_neg h) p h) p h
  | g + 1, p, h => bd_run (fun p h => bd_run (fun p h => if_neg h) p h) p h
theorem bd_fact : ∀ g p, ¬ p.1.1 = 0 → pFact T n c g p = p
  | 0, p, h => if_neg h
  | g + 1, p, h => if_neg h
theorem bd_test (g : Nat) (p : Pz) (h : ¬ p.1.1 = 0) : pTest T n c g p = p := bd_run (fun p h => bd_run (fun p h => bd_fact g p h) p h) p h
theorem c_fact (hu : u = 64 ∨ u = 98) (hua : u = ai + 27) (hX : TX T n c) (ho : o ≤ 6) (hb : b = true ↔ o < 6) (hF : b = true → CM L xs Lm nw sp s2 ai T n c u 42 (o + 1) Fi) (hFM : b = true → SM Fi) (hTt : b = true → CM L xs Lm nw sp s2 ai T n c u 40 (o + 1) Ti) (hS : CM L xs Lm nw sp s2 ai T n c u 45 o S) (hM : SM S) (hBd : ∀ p, ¬ p.1.1 = 0 → S p = p) : CM L xs Lm nw sp s2 ai T n c u 42 o (factP T n c b Fi Ti S) := fun I p hT h => by
  have hw := wq_b hX p.1.2.2
  have ah := fun r => c_ahead (L := L) (xs := xs) (Lm := Lm) (nw := nw) (sp := sp) (s2 := s2) (ai := ai) hX hT h.1 r
  obtain ⟨ρ, hρ⟩ : ∃ ρ, 8 + 8 * (8 - ixn (nI o)) = ρ := ⟨_, rfl⟩
  have hρ' := hρ
  rw [ixn_nI (by omega)] at hρ'
  have hρ4 : 8 ≤ ρ := by omega
  have k20 : ∀ A, (rka 20 A < ρ) = True := fun A => eq_true (rka_lt rfl (Nat.lt_of_lt_of_le (show mrk 20 < 8 by decide) hρ4))
  have k22 : ∀ A, (rka 22 A < ρ) = True := fun A => eq_true (rka_lt rfl (Nat.lt_of_lt_of_le (show mrk 22 < 8 by decide) hρ4))
  have k44 : ∀ A, (rka 44 A < ρ) = True := fun A => eq_true (rka_lt rfl (Nat.lt_of_lt_of_le (show mrk 44 < 8 by decide) hρ4))
  have k23 : ∀ A, (rka 23 A < ρ) = True := fun A => eq_true (rka_lt rfl (Nat.lt_of_lt_of_le (show mrk 23 < 8 by decide) hρ4))
  have k52 : ∀ A, (rka 52 A < ρ) = True := fun A => eq_true (rka_lt rfl (Nat.lt_of_lt_of_le (show mrk 52 < 8 by decide) hρ4))
  have k43 : ∀ A, (rka 43 A < ρ) = True := fun A => eq_true (rka_lt rfl (Nat.lt_of_lt_of_le (show mrk 43 < 8 by decide) hρ4))
  have k45 : (rka 45 [.ref 105, .int (nI o)] < ρ) = True := eq_true (show 7 + 8 * (8 - ixn (nI o)) < ρ by omega)
  have k42 : (rka 42 [.ref 105, .int (nI (o + 1))] < ρ) = True ∨ o = 6 := by
    by_cases e : o = 6
    · exact Or.inr e
    · exact Or.inl (eq_true (show 8 + 8 * (8 - ixn (nI (o + 1))) < ρ by rw [ixn_nI (by omega)]; omega))
  have k40 : (rka 40 [.ref 105, .int (nI (o + 1))] < ρ) = True ∨ o = 6 := by
    by_cases e : o = 6
    · exact Or.inr e
    · exact Or.inl (eq_true (show 10 + 8 * (8 - ixn (nI (o + 1))) < ρ by rw [ixn_nI (by omega)]; omega))
  have g5 : rfv (RG nw sp s2 ai 105 5) = .ref u := by rw [hua]; exact (rd_rg (s := ai + 1) rfl).2.2.2.2
  obtain ⟨y1, y2, -⟩ := ru_sh hu
  have n1 : nI 1 = 1 := rfl
  by_cases hp : p.1.1 = 0
  · have ea : ahV T n c p.1 = wq T n c p.1.2.2 := if_pos hp
    rw [ea] at ah
    by_cases d1 : wq T n c p.1.2.2 = 22
    · have c1 : (nI (wq T n c p.1.2.2) = 22) = True := eq_true (by rw [d1]; rfl)
      have k1 : p.1.2.2 < c := wq_c (T := T) (n := n) (c := c) (k := p.1.2.2) (by omega)
      obtain ⟨J1, e1, e2, e3⟩ := c_opens (L := L) (xs := xs) (Lm := Lm) (nw := nw) (sp := sp) (s2 := s2) (ai := ai) ho hX hT h.1 hp k1
      by_cases hb1 : b = true
      · have o6 := hb.mp hb1
        have k42 := k42.resolve_right (by omega)
        rw [if_pos o6] at e1 e2
        have x1 : CDX J1 T n c u (nxP p) := cxCF h hu e3 e2 (fun _ => ⟨hp, Nat.le_succ _⟩)
        have F1 : FX I J1 (EX u) := fxCF e3 eX0
        obtain ⟨J2, f1, x2, f2⟩ := hF hb1 J1 (nxP p) (F1.tksX hu hT) x1
        have F2 := fxTr F1 f2
        obtain ⟨J3, i1, x3, f3⟩ := c_addX (m := 16) (x := 10010) (L := L) (xs := xs) (Lm := Lm) (nw := nw) (sp := sp) (s2 := s2) (ai := ai) hu hX x2 (fun z => sm_sl (hFM hb1) hp (cx_sl h hp).1 z) (fun _ => by decide)
        rw [show factP T n c b Fi Ti S p = adP 16 (Fi (nxP p)) from by unfold factP; rw [if_pos hp, if_pos d1, if_pos hb1]]
        refine ⟨J3, fun r => ?_, x3, fxTr F2 f3⟩
        rw [em_42, hρ]
        simp only [x42_0, x42_1, x42_4, x42_5, x42_6, x42_8, x42_11, x42_12, x42_13, x42_16, x42_19, x42_20, x42_21, x42_22, x42_23, x42_26, x42_27, x42_30, x42_33, x42_36, x42_39, x42_40, x42_43, x42_46, x42_47, x42_48, x42_51, x42_54, x42_55, x42_56, x42_57, x42_58, x42_61, x42_62, x42_65, x42_68, x42_71, x42_72, x42_74, x42_77, x42_80, x42_81, x42_84, x42_85, x42_88, x42_91, x42_92, x42_93, x42_96, x42_97, x42_100, x42_101, x42_102, x42_103, x42_106, x42_107, x42_110, x42_111, x42_114, sh_105, lq_105, sh_106, lq_106, sh_108, lq_108, sh_109, lq_109, sh_110, lq_110, sh_111, lq_111, rg_105_0, rg_106_1, rg_106_2, rg_106_3, rg_106_4, ex5, Option.toList_some, Option.toList_none, List.cons_append, List.nil_append, true_and, and_true, nI_1, p_at, p_set, p_isIn, p_max, p_min, p_abs, k20, k44, k42, k52, ah, c1, if_true, e1, one_ne, if_false, f1, g5, y1, y2, i1]
      · have o6 : ¬ o < 6 := fun z => hb1 (hb.mpr z)
        rw [if_neg o6] at e1 e2
        rw [show factP T n c b Fi Ti S p = dpP T n p from by unfold factP; rw [if_pos hp, if_pos d1, if_neg hb1]]
        refine ⟨J1, fun r => ?_, cxCF h hu e3 e2 (fun z => by cases z), fxCF e3 eX0⟩
        rw [em_42, hρ]
        simp only [x42_0, x42_1, x42_4, x42_5, x42_6, x42_8, x42_11, x42_12, x42_13, x42_16, x42_19, x42_20, x42_21, x42_22, x42_23, x42_26, x42_27, x42_30, x42_33, x42_36, x42_39, x42_40, x42_43, x42_46, x42_47, x42_48, x42_51, x42_54, x42_55, x42_56, x42_57, x42_58, x42_61, x42_62, x42_65, x42_68, x42_71, x42_72, x42_74, x42_77, x42_80, x42_81, x42_84, x42_85, x42_88, x42_91, x42_92, x42_93, x42_96, x42_97, x42_100, x42_101, x42_102, x42_103, x42_106, x42_107, x42_110, x42_111, x42_114, sh_105, lq_105, sh_106, lq_106, sh_108, lq_108, sh_109, lq_109, sh_110, lq_110, sh_111, lq_111, rg_105_0, rg_106_1, rg_106_2, rg_106_3, rg_106_4, ex5, Option.toList_some, Option.toList_none, List.cons_append, List.nil_append, true_and, and_true, nI_1, p_at, p_set, p_isIn, p_max, p_min, p_abs, k20, k44, ah, c1, if_true, e1]
    have c1 : (nI (wq T n c p.1.2.2) = 22) = False := eq_false (fun z => d1 ((nI_eq (b := 22) (by omega) (by decide)).mp z))
    by_cases d4 : wq T n c p.1.2.2 = 347
    · have c2 : (nI (wq T n c p.1.2.2) = 347) = True := eq_true (by rw [d4]; rfl)
      have k1 : p.1.2.2 < c := wq_c (T := T) (n := n) (c := c) (k := p.1.2.2) (by omega)
      obtain ⟨J1, e1, e2, e3⟩ := c_opens (L := L) (xs := xs) (Lm := Lm) (nw := nw) (sp := sp) (s2 := s2) (ai := ai) ho hX hT h.1 hp k1
      by_cases hb1 : b = true
      · have o6 := hb.mp hb1
        have k40 := k40.resolve_right (by omega)
        rw [if_pos o6] at e1 e2
        have x1 : CDX J1 T n c u (nxP p) := cxCF h hu e3 e2 (fun _ => ⟨hp, Nat.le_succ _⟩)
        have F1 : FX I J1 (EX u) := fxCF e3 eX0
        obtain ⟨J2, f1, x2, f2⟩ := hTt hb1 J1 (nxP p) (F1.tksX hu hT) x1
        have F2 := fxTr F1 f2
        obtain ⟨J3, i1, i2, i3⟩ := c_need (w := 349) (L := L) (xs := xs) (Lm := Lm) (nw := nw) (sp := sp) (s2 := s2) (ai := ai) (by decide) (by decide) hX (F2.tksX hu hT) x2.1
        have i1 : ∀ r, Em L xs 23 [.ref 105, .int 349] (179, J2, Lm, RG nw sp s2 ai) r ↔ r = (none, 179, J3, Lm, RG nw sp s2 ai) := fun r => i1 r
        rw [show factP T n c b Fi Ti S p = qP (asz T n c 349) (Ti (nxP p)) from by unfold factP; rw [if_pos hp, if_neg d1, if_pos d4, if_pos hb1]]
        refine ⟨J3, fun r => ?_, cxCF x2 hu i3 i2 (fun z => ⟨(asz_g z).1, by rw [(asz_g z).2]; exact Nat.le_succ _⟩), fxTr F2 (fxCF i3 eX0)⟩
        rw [em_42, hρ]
        simp only [x42_0, x42_1, x42_4, x42_5, x42_6, x42_8, x42_11, x42_12, x42_13, x42_16, x42_19, x42_20, x42_21, x42_22, x42_23, x42_26, x42_27, x42_30, x42_33, x42_36, x42_39, x42_40, x42_43, x42_46, x42_47, x42_48, x42_51, x42_54, x42_55, x42_56, x42_57, x42_58, x42_61, x42_62, x42_65, x42_68, x42_71, x42_72, x42_74, x42_77, x42_80, x42_81, x42_84, x42_85, x42_88, x42_91, x42_92, x42_93, x42_96, x42_97, x42_100, x42_101, x42_102, x42_103, x42_106, x42_107, x42_110, x42_111, x42_114, sh_105, lq_105, sh_106, lq_106, sh_108, lq_108, sh_109, lq_109, sh_110, lq_110, sh_111, lq_111, rg_105_0, rg_106_1, rg_106_2, rg_106_3, rg_106_4, ex5, Option.toList_some, Option.toList_none, List.cons_append, List.nil_append, true_and, and_true, nI_1, p_at, p_set, p_isIn, p_max, p_min, p_abs, k20, k44, k40, k23, ah, c1, c2, if_true, e1, one_ne, if_false, f1, i1]
      · have o6 : ¬ o < 6 := fun z => hb1 (hb.mpr z)
        rw [if_neg o6] at e1 e2
        rw [show factP T n c b Fi Ti S p = dpP T n p from by unfold factP; rw [if_pos hp, if_neg d1, if_pos d4, if_neg hb1]]
        refine ⟨J1, fun r => ?_, cxCF h hu e3 e2 (fun z => by cases z), fxCF e3 eX0⟩
        rw [em_42, hρ]
        simp only [x42_0, x42_1, x42_4, x42_5, x42_6, x42_8, x42_11, x42_12, x42_13, x42_16, x42_19, x42_20, x42_21, x42_22, x42_23, x42_26, x42_27, x42_30, x42_33, x42_36, x42_39, x42_40, x42_43, x42_46, x42_47, x42_48, x42_51, x42_54, x42_55, x42_56, x42_57, x42_58, x42_61, x42_62, x42_65, x42_68, x42_71, x42_72, x42_74, x42_77, x42_80, x42_81, x42_84, x42_85, x42_88, x42_91, x42_92, x42_93, x42_96, x42_97, x42_100, x42_101, x42_102, x42_103, x42_106, x42_107, x42_110, x42_111, x42_114, sh_105, lq_105, sh_106, lq_106, sh_108, lq_108, sh_109, lq_109, sh_110, lq_110, sh_111, lq_111, rg_105_0, rg_106_1, rg_106_2, rg_106_3, rg_106_4, ex5, Option.toList_some, Option.toList_none, List.cons_append, List.nil_append, true_and, and_true, nI_1, p_at, p_set, p_isIn, p_max, p_min, p_abs, k20, k44, ah, c1, c2, if_true, if_false, e1]
    have c2 : (nI (wq T n c p.1.2.2) = 347) = False := eq_false (fun z => d4 ((nI_eq (b := 347) (by omega) (by decide)).mp z))
    obtain ⟨J1, a1, a2, a3⟩ := c_takes (w := 23) (L := L) (xs := xs) (Lm := Lm) (nw := nw) (sp := sp) (s2 := s2) (ai := ai) (by decide) (by decide) hX hT h.1
    have a1 : ∀ r, Em L xs 22 [.ref 105, .int 23] (179, I, Lm, RG nw sp s2 ai) r ↔ r = (some (.int (if p.1.1 = 0 ∧ wq T n c p.1.2.2 = 23 then 1 else 0)), 179, J1, Lm, RG nw sp s2 ai) := fun r => a1 r
    have F1 : FX I J1 (EX u) := fxCF a3 eX0
    by_cases d3 : wq T n c p.1.2.2 = 23
    · rw [if_pos ⟨hp, d3⟩] at a1
      rw [show tkz T n c 23 p.1 = (0, 0, p.1.2.2 + 1) from if_pos ⟨hp, d3⟩] at a2
      have x1 : CDX J1 T n c u (nxP p) := cxCF h hu a3 a2 (fun _ => ⟨hp, Nat.le_succ _⟩)
      obtain ⟨J3, i1, x3, f3⟩ := c_addX (m := 17) (x := 1) (L := L) (xs := xs) (Lm := Lm) (nw := nw) (sp := sp) (s2 := s2) (ai := ai) hu hX x1 (fun z => Nat.lt_succ_of_le (cx_sl h hp).1) (fun _ => by decide)
      rw [show factP T n c b Fi Ti S p = adP 17 (nxP p) from by unfold factP; rw [if_pos hp, if_neg d1, if_neg d4, if_pos d3]]
      refine ⟨J3, fun r => ?_, x3, fxTr F1 f3⟩
      rw [em_42, hρ]
      simp only [x42_0, x42_1, x42_4, x42_5, x42_6, x42_8, x42_11, x42_12, x42_13, x42_16, x42_19, x42_20, x42_21, x42_22, x42_23, x42_26, x42_27, x42_30, x42_33, x42_36, x42_39, x42_40, x42_43, x42_46, x42_47, x42_48, x42_51, x42_54, x42_55, x42_56, x42_57, x42_58, x42_61, x42_62, x42_65, x42_68, x42_71, x42_72, x42_74, x42_77, x42_80, x42_81, x42_84, x42_85, x42_88, x42_91, x42_92, x42_93, x42_96, x42_97, x42_100, x42_101, x42_102, x42_103, x42_106, x42_107, x42_110, x42_111, x42_114, sh_105, lq_105, sh_106, lq_106, sh_108, lq_108, sh_109, lq_109, sh_110, lq_110, sh_111, lq_111, rg_105_0, rg_106_1, rg_106_2, rg_106_3, rg_106_4, ex5, Option.toList_some, Option.toList_none, List.cons_append, List.nil_append, true_and, and_true, nI_1, p_at, p_set, p_isIn, p_max, p_min, p_abs, k20, k22, k52, ah, c1, c2, if_false, a1, one_ne, g5, y1, y2, i1]
    rw [if_neg (fun z => d3 z.2)] at a1
    rw [show tkz T n c 23 p.1 = p.1 from if_neg (fun z => d3 z.2)] at a2
    have x1 : CDX J1 T n c u p := cxCF h hu a3 a2 (fun z => ⟨z, Nat.le_refl _⟩)
    rw [show factP T n c b Fi Ti S p = cmpP T n c S p from by unfold factP; rw [if_pos hp, if_neg d1, if_neg d4, if_neg d3]]
    obtain ⟨J2, b1, x2, f2⟩ := hS J1 p (F1.tksX hu hT) x1
    have F2 := fxTr F1 f2
    obtain ⟨v, J3, e1, e2, e3, e4⟩ := c_compare (L := L) (xs := xs) (Lm := Lm) (nw := nw) (sp := sp) (s2 := s2) (ai := ai) hX (F2.tksX hu hT) x2.1
    have x3 : CDX J3 T n c u (qP (cmQ T n c) (S p)) := cxCF x2 hu e3 e2 (fun z => ⟨(cm_g z).1, by rw [(cm_g z).2]; exact Nat.le_succ _⟩)
    have F3 := fxTr F2 (fxCF e3 eX0)
    obtain ⟨J4, i1, x4, f4⟩ := hS J3 _ (F3.tksX hu hT) x3
    have F4 := fxTr F3 f4
    obtain ⟨J5, j1, x5, f5⟩ := c_addX (m := cmN T n c (S p).1) (x := v) (L := L) (xs := xs) (Lm := Lm) (nw := nw) (sp := sp) (s2 := s2) (ai := ai) hu hX x4 (fun z => by
      obtain ⟨-, s2, -, -⟩ := sm_cmp hM (p := p) z
      have := (cx_sl h hp).1
      omega) (fun _ => e4)
    refine ⟨J5, fun r => ?_, x5, fxTr F4 f5⟩
    rw [em_42, hρ]
    simp only [x42_0, x42_1, x42_4, x42_5, x42_6, x42_8, x42_11, x42_12, x42_13, x42_16, x42_19, x42_20, x42_21, x42_22, x42_23, x42_26, x42_27, x42_30, x42_33, x42_36, x42_39, x42_40, x42_43, x42_46, x42_47, x42_48, x42_51, x42_54, x42_55, x42_56, x42_57, x42_58, x42_61, x42_62, x42_65, x42_68, x42_71, x42_72, x42_74, x42_77, x42_80, x42_81, x42_84, x42_85, x42_88, x42_91, x42_92, x42_93, x42_96, x42_97, x42_100, x42_101, x42_102, x42_103, x42_106, x42_107, x42_110, x42_111, x42_114, sh_105, lq_105, sh_106, lq_106, sh_108, lq_108, sh_109, lq_109, sh_110, lq_110, sh_111, lq_111, rg_105_0, rg_106_1, rg_106_2, rg_106_3, rg_106_4, ex5, Option.toList_some, Option.toList_none, List.cons_append, List.nil_append, true_and, and_true, nI_1, p_at, p_set, p_isIn, p_max, p_min, p_abs, k20, k22, k45, k43, k52, ah, c1, c2, if_false, a1, if_true, b1, e1, i1, g5, y1, y2, j1]
  · have ea : ahV T n c p.1 = 43 := if_neg hp
    rw [ea] at ah
    have c1 : (nI 43 = 22) = False := eq_false (by decide)
    have c2 : (nI 43 = 347) = False := eq_false (by decide)
    obtain ⟨J1, a1, a2, a3⟩ := c_takes (w := 23) (L := L) (xs := xs) (Lm := Lm) (nw := nw) (sp := sp) (s2 := s2) (ai := ai) (by decide) (by decide) hX hT h.1
    have a1 : ∀ r, Em L xs 22 [.ref 105, .int 23] (179, I, Lm, RG nw sp s2 ai) r ↔ r = (some (.int (if p.1.1 = 0 ∧ wq T n c p.1.2.2 = 23 then 1 else 0)), 179, J1, Lm, RG nw sp s2 ai) := fun r => a1 r
    have F1 : FX I J1 (EX u) := fxCF a3 eX0
    rw [if_neg (fun z => hp z.1)] at a1
    rw [show tkz T n c 23 p.1 = p.1 from if_neg (fun z => hp z.1)] at a2
    have x1 : CDX J1 T n c u p := cxCF h hu a3 a2 (fun z => ⟨z, Nat.le_refl _⟩)
    rw [show factP T n c b Fi Ti S p = p from if_neg hp]
    have bd : ∀ {J}, CDX J T n c u (cmpP T n c S p) → CDX J T n c u p := fun {J} hh => by
      have e1 : qP (cmQ T n c) p = p := by
        have : cmQ T n c p.1 = p.1 := if_neg hp
        unfold qP
        rw [this]
      have e2 : cmpP T n c S p = adP (cmN T n c p.1) p := by unfold cmpP; rw [hBd p hp, e1, hBd p hp]
      rw [e2] at hh
      exact cx_bad hh hp rfl
    obtain ⟨J2, b1, x2, f2⟩ := hS J1 p (F1.tksX hu hT) x1
    have F2 := fxTr F1 f2
    obtain ⟨v, J3, e1, e2, e3, e4⟩ := c_compare (L := L) (xs := xs) (Lm := Lm) (nw := nw) (sp := sp) (s2 := s2) (ai := ai) hX (F2.tksX hu hT) x2.1
    have x3 : CDX J3 T n c u (qP (cmQ T n c) (S p)) := cxCF x2 hu e3 e2 (fun z => ⟨(cm_g z).1, by rw [(cm_g z).2]; exact Nat.le_succ _⟩)
    have F3 := fxTr F2 (fxCF e3 eX0)
    obtain ⟨J4, i1, x4, f4⟩ := hS J3 _ (F3.tksX hu hT) x3
    have F4 := fxTr F3 f4
    obtain ⟨J5, j1, x5, f5⟩ := c_addX (m := cmN T n c (S p).1) (x := v) (L := L) (xs := xs) (Lm := Lm) (nw := nw) (sp := sp) (s2 := s2) (ai := ai) hu hX x4 (fun z => by
      exact (hp (sm_cmp hM (p := p) z).1).elim) (fun _ => e4)
    refine ⟨J5, fun r => ?_, bd x5, fxTr F4 f5⟩
    rw [em_42, hρ]
    simp only [x42_0, x42_1, x42_4, x42_5, x42_6, x42_8, x42_11, x42_12, x42_13, x42_16, x42_19, x42_20, x42_21, x42_22, x42_23, x42_26, x42_27, x42_30, x42_33, x42_36, x42_39, x42_40, x42_43, x42_46, x42_47, x42_48, x42_51, x42_54, x42_55, x42_56, x42_57, x42_58, x42_61, x42_62, x42_65, x42_68, x42_71, x42_72, x42_74, x42_77, x42_80, x42_81, x42_84, x42_85, x42_88, x42_91, x42_92, x42_93, x42_96, x42_97, x42_100, x42_101, x42_102, x42_103, x42_106, x42_107, x42_110, x42_111, x42_114, sh_105, lq_105, sh_106, lq_106, sh_108, lq_108, sh_109, lq_109, sh_110, lq_110, sh_111, lq_111, rg_105_0, rg_106_1, rg_106_2, rg_106_3, rg_106_4, ex5, Option.toList_some, Option.toList_none, List.cons_append, List.nil_append, true_and, and_true, nI_1, p_at, p_set, p_isIn, p_max, p_min, p_abs, k20, k22, k45, k43, k52, ah, c1, c2, if_false, a1, if_true, b1, e1, i1, g5, y1, y2, j1]
theorem c_both (hu : u = 64 ∨ u = 98) (hua : u = ai + 27) (hX : TX T n c) (ho : o ≤ 6) (hF : CM L xs Lm nw sp s2 ai T n c u 42 o F) (hM : SM F) : CM L xs Lm nw sp s2 ai T n c u 41 o (bothP T n c F) := fun I p hT h => by
  obtain ⟨ρ, hρ⟩ : ∃ ρ, 9 + 8 * (8 - ixn (nI o)) = ρ := ⟨_, rfl⟩
  have hρ' := hρ
  rw [ixn_nI (by omega)] at hρ'
  have hρ4 : 9 ≤ ρ := by omega
  have k18 : ∀ A, (rka 18 A < ρ) = True := fun A => eq_true (rka_lt rfl (Nat.lt_of_lt_of_le (show mrk 18 < 9 by decide) hρ4))
  have k22 : ∀ A, (rka 22 A < ρ) = True := fun A => eq_true (rka_lt rfl (Nat.lt_of_lt_of_le (show mrk 22 < 9 by decide) hρ4))
  have k52 : ∀ A, (rka 52 A < ρ) = True := fun A => eq_true (rka_lt rfl (Nat.lt_of_lt_of_le (show mrk 52 < 9 by decide) hρ4))
  have kK : (rka 42 [.ref 105, .int (nI o)] < ρ) = True := eq_true (show 8 + 8 * (8 - ixn (nI o)) < ρ by omega)
  have g5 : rfv (RG nw sp s2 ai 105 5) = .ref u := by rw [hua]; exact (rd_rg (s := ai + 1) rfl).2.2.2.2
  obtain ⟨y1, y2, -⟩ := ru_sh hu
  have key : ∀ f i p I, i + f = 1600 → TKs I T n c → CDX I T n c u p → ∃ J, (∀ r, Ev L xs ρ 41 7 [some (.ref 105), some (.int (nI o)), some (.int (nI i))] [] (179, I, Lm, RG nw sp s2 ai) r ↔ r = (none, 179, J, Lm, RG nw sp s2 ai)) ∧ CDX J T n c u (loopP T n c 21 14 21 14 F f p) ∧ FX I J (EX u) := by
    intro f
    induction f with
    | zero =>
      intro i p I hi hT h
      have c1 : ((1600 : Int32) ≤ nI i) = True := eq_true (by rw [show i = 1600 by omega]; decide)
      refine ⟨I, fun r => ?_, h, fxRf⟩
      rw [x41_7]
      simp only [x41_0, x41_1, x41_2, x41_5, x41_6, x41_8, x41_11, x41_14, x41_15, x41_17, x41_20, x41_23, x41_24, x41_25, x41_28, x41_29, x41_32, x41_35, x41_38, x41_41, x41_44, sh_105, lq_105, sh_106, lq_106, sh_108, lq_108, sh_109, lq_109, sh_110, lq_110, sh_111, lq_111, rg_105_0, rg_106_1, rg_106_2, rg_106_3, rg_106_4, ex5, Option.toList_some, Option.toList_none, List.cons_append, List.nil_append, true_and, and_true, nI_1, p_at, p_set, p_isIn, p_max, p_min, p_abs, c1, if_true]
    | succ f ih =>
      intro i p I hi hT h
      have c1 : ((1600 : Int32) ≤ nI i) = False := eq_false (nI_ge (a := i) (b := 1600) (by omega) (by decide))
      have gd := fun r => c_isGood (L := L) (xs := xs) (Lm := Lm) (nw := nw) (sp := sp) (s2 := s2) (ai := ai) h.1 r
      by_cases hp : p.1.1 = 0
      · rw [if_pos hp] at gd
        have go : ∀ m x J1, x = cOf m → CDX J1 T n c u (nxP p) → FX I J1 (EX u) → ∃ J2 J3 J, (∀ r, Em L xs 42 [.ref 105, .int (nI o)] (179, J1, Lm, RG nw sp s2 ai) r ↔ r = (none, 179, J2, Lm, RG nw sp s2 ai)) ∧ (∀ r, Em L xs 52 [.ref u, .int x] (179, J2, Lm, RG nw sp s2 ai) r ↔ r = (none, 179, J3, Lm, RG nw sp s2 ai)) ∧ (∀ r, Ev L xs ρ 41 7 [some (.ref 105), some (.int (nI o)), some (.int (nI (i + 1)))] [] (179, J3, Lm, RG nw sp s2 ai) r ↔ r = (none, 179, J, Lm, RG nw sp s2 ai)) ∧ CDX J T n c u (loopP T n c 21 14 21 14 F f (adP m (F (nxP p)))) ∧ FX I J (EX u) := fun m x J1 hx x1 F1 => by
          obtain ⟨J2, a1, x2, f2⟩ := hF J1 (nxP p) (F1.tksX hu hT) x1
          have F2 := fxTr F1 f2
          obtain ⟨J3, b1, x3, f3⟩ := c_addX (m := m) (x := x) (L := L) (xs := xs) (Lm := Lm) (nw := nw) (sp := sp) (s2 := s2) (ai := ai) hu hX x2 (fun z => sm_sl hM hp (cx_sl h hp).1 z) (fun _ => hx)
          have F3 := fxTr F2 f3
          obtain ⟨J4, d1, x4, f4⟩ := ih (i + 1) _ J3 (by omega) (F3.tksX hu hT) x3
          exact ⟨J2, J3, J4, a1, b1, d1, x4, fxTr F3 f4⟩
        obtain ⟨J1, a1, a2, a3⟩ := c_takes (w := 21) (L := L) (xs := xs) (Lm := Lm) (nw := nw) (sp := sp) (s2 := s2) (ai := ai) (by decide) (by decide) hX hT h.1
        have a1 : ∀ r, Em L xs 22 [.ref 105, .int 21] (179, I, Lm, RG nw sp s2 ai) r ↔ r = (some (.int (if p.1.1 = 0 ∧ wq T n c p.1.2.2 = 21 then 1 else 0)), 179, J1, Lm, RG nw sp s2 ai) := fun r => a1 r
        have F1 : FX I J1 (EX u) := fxCF a3 eX0
        by_cases d1 : wq T n c p.1.2.2 = 21
        · rw [if_pos ⟨hp, d1⟩] at a1
          rw [show tkz T n c 21 p.1 = (0, 0, p.1.2.2 + 1) from if_pos ⟨hp, d1⟩] at a2
          obtain ⟨J2, J3, J, b1, b2, b3, b4, b5⟩ := go 14 10015 J1 (by decide) (cxCF h hu a3 a2 (fun _ => ⟨hp, Nat.le_succ _⟩)) F1
          rw [show loopP T n c 21 14 21 14 F (f + 1) p = loopP T n c 21 14 21 14 F f (adP 14 (F (nxP p))) from by show (if _ then _ else _) = _; rw [if_pos hp, if_pos d1]]
          refine ⟨J, fun r => ?_, b4, b5⟩
          rw [x41_7]
          simp only [x41_0, x41_1, x41_2, x41_5, x41_6, x41_8, x41_11, x41_14, x41_15, x41_17, x41_20, x41_23, x41_24, x41_25, x41_28, x41_29, x41_32, x41_35, x41_38, x41_41, x41_44, sh_105, lq_105, sh_106, lq_106, sh_108, lq_108, sh_109, lq_109, sh_110, lq_110, sh_111, lq_111, rg_105_0, rg_106_1, rg_106_2, rg_106_3, rg_106_4, ex5, Option.toList_some, Option.toList_none, List.cons_append, List.nil_append, true_and, and_true, nI_1, p_at, p_set, p_isIn, p_max, p_min, p_abs, c1, if_false, k18, k22, kK, k52, gd, one_ne, a1, b1, g5, y1, y2, b2, b3]
        rw [if_neg (fun z => d1 z.2)] at a1
        rw [show tkz T n c 21 p.1 = p.1 from if_neg (fun z => d1 z.2)] at a2
        rw [show loopP T n c 21 14 21 14 F (f + 1) p = p from by show (if _ then _ else _) = _; rw [if_pos hp, if_neg d1, if_neg d1]]
        refine ⟨J1, fun r => ?_, cxCF h hu a3 a2 (fun z => ⟨z, Nat.le_refl _⟩), F1⟩
        rw [x41_7]
        simp only [x41_0, x41_1, x41_2, x41_5, x41_6, x41_8, x41_11, x41_14, x41_15, x41_17, x41_20, x41_23, x41_24, x41_25, x41_28, x41_29, x41_32, x41_35, x41_38, x41_41, x41_44, sh_105, lq_105, sh_106, lq_106, sh_108, lq_108, sh_109, lq_109, sh_110, lq_110, sh_111, lq_111, rg_105_0, rg_106_1, rg_106_2, rg_106_3, rg_106_4, ex5, Option.toList_some, Option.toList_none, List.cons_append, List.nil_append, true_and, and_true, nI_1, p_at, p_set, p_isIn, p_max, p_min, p_abs, c1, if_false, k22, a1, if_true]
      · rw [if_neg hp] at gd
        obtain ⟨J1, a1, a2, a3⟩ := c_takes (w := 21) (L := L) (xs := xs) (Lm := Lm) (nw := nw) (sp := sp) (s2 := s2) (ai := ai) (by decide) (by decide) hX hT h.1
        have a1 : ∀ r, Em L xs 22 [.ref 105, .int 21] (179, I, Lm, RG nw sp s2 ai) r ↔ r = (some (.int (if p.1.1 = 0 ∧ wq T n c p.1.2.2 = 21 then 1 else 0)), 179, J1, Lm, RG nw sp s2 ai) := fun r => a1 r
        rw [if_neg (fun z => hp z.1)] at a1
        rw [show tkz T n c 21 p.1 = p.1 from if_neg (fun z => hp z.1)] at a2
        rw [show loopP T n c 21 14 21 14 F (f + 1) p = p from if_neg hp]
        refine ⟨J1, fun r => ?_, cxCF h hu a3 a2 (fun z => ⟨z, Nat.le_refl _⟩), fxCF a3 eX0⟩
        rw [x41_7]
        simp only [x41_0, x41_1, x41_2, x41_5, x41_6, x41_8, x41_11, x41_14, x41_15, x41_17, x41_20, x41_23, x41_24, x41_25, x41_28, x41_29, x41_32, x41_35, x41_38, x41_41, x41_44, sh_105, lq_105, sh_106, lq_106, sh_108, lq_108, sh_109, lq_109, sh_110, lq_110, sh_111, lq_111, rg_105_0, rg_106_1, rg_106_2, rg_106_3, rg_106_4, ex5, Option.toList_some, Option.toList_none, List.cons_append, List.nil_append, true_and, and_true, nI_1, p_at, p_set, p_isIn, p_max, p_min, p_abs, c1, if_false, k22, a1, if_true]
  obtain ⟨J0, a1, x1, f1⟩ := hF I p hT h
  obtain ⟨J, b1, b2, b3⟩ := key 1600 0 (F p) J0 rfl (f1.tksX hu hT) x1
  rw [nI_0] at b1
  refine ⟨J, fun r => ?_, b2, fxTr f1 b3⟩
  rw [em_41, hρ]
  simp only [x41_0, x41_1, x41_2, x41_5, x41_6, x41_8, x41_11, x41_14, x41_15, x41_17, x41_20, x41_23, x41_24, x41_25, x41_28, x41_29, x41_32, x41_35, x41_38, x41_41, x41_44, sh_105, lq_105, sh_106, lq_106, sh_108, lq_108, sh_109, lq_109, sh_110, lq_110, sh_111, lq_111, rg_105_0, rg_106_1, rg_106_2, rg_106_3, rg_106_4, ex5, Option.toList_some, Option.toList_none, List.cons_append, List.nil_append, true_and, and_true, nI_1, p_at, p_set, p_isIn, p_max, p_min, p_abs, kK, a1, b1]
theorem c_test (hu : u = 64 ∨ u = 98) (hua : u = ai + 27) (hX : TX T n c) (ho : o ≤ 6) (hF : CM L xs Lm nw sp s2 ai T n c u 41 o F) (hM : SM F) : CM L xs Lm nw sp s2 ai T n c u 40 o (testP T n c F) := fun I p hT h => by
  obtain ⟨ρ, hρ⟩ : ∃ ρ, 10 + 8 * (8 - ixn (nI o)) = ρ := ⟨_, rfl⟩
  have hρ' := hρ
  rw [ixn_nI (by omega)] at hρ'
  have hρ4 : 10 ≤ ρ := by omega
  have k18 : ∀ A, (rka 18 A < ρ) = True := fun A => eq_true (rka_lt rfl (Nat.lt_of_lt_of_le (show mrk 18 < 10 by decide) hρ4))
  have k22 : ∀ A, (rka 22 A < ρ) = True := fun A => eq_true (rka_lt rfl (Nat.lt_of_lt_of_le (show mrk 22 < 10 by decide) hρ4))
  have k52 : ∀ A, (rka 52 A < ρ) = True := fun A => eq_true (rka_lt rfl (Nat.lt_of_lt_of_le (show mrk 52 < 10 by decide) hρ4))
  have kK : (rka 41 [.ref 105, .int (nI o)] < ρ) = True := eq_true (show 9 + 8 * (8 - ixn (nI o)) < ρ by omega)
  have g5 : rfv (RG nw sp s2 ai 105 5) = .ref u := by rw [hua]; exact (rd_rg (s := ai + 1) rfl).2.2.2.2
  obtain ⟨y1, y2, -⟩ := ru_sh hu
  have key : ∀ f i p I, i + f = 1600 → TKs I T n c → CDX I T n c u p → ∃ J, (∀ r, Ev L xs ρ 40 7 [some (.ref 105), some (.int (nI o)), some (.int (nI i))] [] (179, I, Lm, RG nw sp s2 ai) r ↔ r = (none, 179, J, Lm, RG nw sp s2 ai)) ∧ CDX J T n c u (loopP T n c 20 15 20 15 F f p) ∧ FX I J (EX u) := by
    intro f
    induction f with
    | zero =>
      intro i p I hi hT h
      have c1 : ((1600 : Int32) ≤ nI i) = True := eq_true (by rw [show i = 1600 by omega]; decide)
      refine ⟨I, fun r => ?_, h, fxRf⟩
      rw [x40_7]
      simp only [x40_0, x40_1, x40_2, x40_5, x40_6, x40_8, x40_11, x40_14, x40_15, x40_17, x40_20, x40_23, x40_24, x40_25, x40_28, x40_29, x40_32, x40_35, x40_38, x40_41, x40_44, sh_105, lq_105, sh_106, lq_106, sh_108, lq_108, sh_109, lq_109, sh_110, lq_110, sh_111, lq_111, rg_105_0, rg_106_1, rg_106_2, rg_106_3, rg_106_4, ex5, Option.toList_some, Option.toList_none, List.cons_append, List.nil_append, true_and, and_true, nI_1, p_at, p_set, p_isIn, p_max, p_min, p_abs, c1, if_true]
    | succ f ih =>
      intro i p I hi hT h
      have c1 : ((1600 : Int32) ≤ nI i) = False := eq_false (nI_ge (a := i) (b := 1600) (by omega) (by decide))
      have gd := fun r => c_isGood (L := L) (xs := xs) (Lm := Lm) (nw := nw) (sp := sp) (s2 := s2) (ai := ai) h.1 r
      by_cases hp : p.1.1 = 0
      · rw [if_pos hp] at gd
        have go : ∀ m x J1, x = cOf m → CDX J1 T n c u (nxP p) → FX I J1 (EX u) → ∃ J2 J3 J, (∀ r, Em L xs 41 [.ref 105, .int (nI o)] (179, J1, Lm, RG nw sp s2 ai) r ↔ r = (none, 179, J2, Lm, RG nw sp s2 ai)) ∧ (∀ r, Em L xs 52 [.ref u, .int x] (179, J2, Lm, RG nw sp s2 ai) r ↔ r = (none, 179, J3, Lm, RG nw sp s2 ai)) ∧ (∀ r, Ev L xs ρ 40 7 [some (.ref 105), some (.int (nI o)), some (.int (nI (i + 1)))] [] (179, J3, Lm, RG nw sp s2 ai) r ↔ r = (none, 179, J, Lm, RG nw sp s2 ai)) ∧ CDX J T n c u (loopP T n c 20 15 20 15 F f (adP m (F (nxP p)))) ∧ FX I J (EX u) := fun m x J1 hx x1 F1 => by
          obtain ⟨J2, a1, x2, f2⟩ := hF J1 (nxP p) (F1.tksX hu hT) x1
          have F2 := fxTr F1 f2
          obtain ⟨J3, b1, x3, f3⟩ := c_addX (m := m) (x := x) (L := L) (xs := xs) (Lm := Lm) (nw := nw) (sp := sp) (s2 := s2) (ai := ai) hu hX x2 (fun z => sm_sl hM hp (cx_sl h hp).1 z) (fun _ => hx)
          have F3 := fxTr F2 f3
          obtain ⟨J4, d1, x4, f4⟩ := ih (i + 1) _ J3 (by omega) (F3.tksX hu hT) x3
          exact ⟨J2, J3, J4, a1, b1, d1, x4, fxTr F3 f4⟩
        obtain ⟨J1, a1, a2, a3⟩ := c_takes (w := 20) (L := L) (xs := xs) (Lm := Lm) (nw := nw) (sp := sp) (s2 := s2) (ai := ai) (by decide) (by decide) hX hT h.1
        have a1 : ∀ r, Em L xs 22 [.ref 105, .int 20] (179, I, Lm, RG nw sp s2 ai) r ↔ r = (some (.int (if p.1.1 = 0 ∧ wq T n c p.1.2.2 = 20 then 1 else 0)), 179, J1, Lm, RG nw sp s2 ai) := fun r => a1 r
        have F1 : FX I J1 (EX u) := fxCF a3 eX0
        by_cases d1 : wq T n c p.1.2.2 = 20
        · rw [if_pos ⟨hp, d1⟩] at a1
          rw [show tkz T n c 20 p.1 = (0, 0, p.1.2.2 + 1) from if_pos ⟨hp, d1⟩] at a2
          obtain ⟨J2, J3, J, b1, b2, b3, b4, b5⟩ := go 15 10016 J1 (by decide) (cxCF h hu a3 a2 (fun _ => ⟨hp, Nat.le_succ _⟩)) F1
          rw [show loopP T n c 20 15 20 15 F (f + 1) p = loopP T n c 20 15 20 15 F f (adP 15 (F (nxP p))) from by show (if _ then _ else _) = _; rw [if_pos hp, if_pos d1]]
          refine ⟨J, fun r => ?_, b4, b5⟩
          rw [x40_7]
          simp only [x40_0, x40_1, x40_2, x40_5, x40_6, x40_8, x40_11, x40_14, x40_15, x40_17, x40_20, x40_23, x40_24, x40_25, x40_28, x40_29, x40_32, x40_35, x40_38, x40_41, x40_44, sh_105, lq_105, sh_106, lq_106, sh_108, lq_108, sh_109, lq_109, sh_110, lq_110, sh_111, lq_111, rg_105_0, rg_106_1, rg_106_2, rg_106_3, rg_106_4, ex5, Option.toList_some, Option.toList_none, List.cons_append, List.nil_append, true_and, and_true, nI_1, p_at, p_set, p_isIn, p_max, p_min, p_abs, c1, if_false, k18, k22, kK, k52, gd, one_ne, a1, b1, g5, y1, y2, b2, b3]
        rw [if_neg (fun z => d1 z.2)] at a1
        rw [show tkz T n c 20 p.1 = p.1 from if_neg (fun z => d1 z.2)] at a2
        rw [show loopP T n c 20 15 20 15 F (f + 1) p = p from by show (if _ then _ else _) = _; rw [if_pos hp, if_neg d1, if_neg d1]]
        refine ⟨J1, fun r => ?_, cxCF h hu a3 a2 (fun z => ⟨z, Nat.le_refl _⟩), F1⟩
        rw [x40_7]
        simp only [x40_0, x40_1, x40_2, x40_5, x40_6, x40_8, x40_11, x40_14, x40_15, x40_17, x40_20, x40_23, x40_24, x40_25, x40_28, x40_29, x40_32, x40_35, x40_38, x40_41, x40_44, sh_105, lq_105, sh_106, lq_106, sh_108, lq_108, sh_109, lq_109, sh_110, lq_110, sh_111, lq_111, rg_105_0, rg_106_1, rg_106_2, rg_106_3, rg_106_4, ex5, Option.toList_some, Option.toList_none, List.cons_append, List.nil_append, true_and, and_true, nI_1, p_at, p_set, p_isIn, p_max, p_min, p_abs, c1, if_false, k22, a1, if_true]
      · rw [if_neg hp] at gd
        obtain ⟨J1, a1, a2, a3⟩ := c_takes (w := 20) (L := L) (xs := xs) (Lm := Lm) (nw := nw) (sp := sp) (s2 := s2) (ai := ai) (by decide) (by decide) hX hT h.1
        have a1 : ∀ r, Em L xs 22 [.ref 105, .int 20] (179, I, Lm, RG nw sp s2 ai) r ↔ r = (some (.int (if p.1.1 = 0 ∧ wq T n c p.1.2.2 = 20 then 1 else 0)), 179, J1, Lm, RG nw sp s2 ai) := fun r => a1 r
        rw [if_neg (fun z => hp z.1)] at a1
        rw [show tkz T n c 20 p.1 = p.1 from if_neg (fun z => hp z.1)] at a2
        rw [show loopP T n c 20 15 20 15 F (f + 1) p = p from if_neg hp]
        refine ⟨J1, fun r => ?_, cxCF h hu a3 a2 (fun z => ⟨z, Nat.le_refl _⟩), fxCF a3 eX0⟩
        rw [x40_7]
        simp only [x40_0, x40_1, x40_2, x40_5, x40_6, x40_8, x40_11, x40_14, x40_15, x40_17, x40_20, x40_23, x40_24, x40_25, x40_28, x40_29, x40_32, x40_35, x40_38, x40_41, x40_44, sh_105, lq_105, sh_106, lq_106, sh_108, lq_108, sh_109, lq_109, sh_110, lq_110, sh_111, lq_111, rg_105_0, rg_106_1, rg_106_2, rg_106_3, rg_106_4, ex5, Option.toList_some, Option.toList_none, List.cons_append, List.nil_append, true_and, and_true, nI_1, p_at, p_set, p_isIn, p_max, p_min, p_abs, c1, if_false, k22, a1, if_true]
  obtain ⟨J0, a1, x1, f1⟩ := hF I p hT h
  obtain ⟨J, b1, b2, b3⟩ := key 1600 0 (F p) J0 rfl (f1.tksX hu hT) x1
  rw [nI_0] at b1
  refine ⟨J, fun r => ?_, b2, fxTr f1 b3⟩
  rw [em_40, hρ]
  simp only [x40_0, x40_1, x40_2, x40_5, x40_6, x40_8, x40_11, x40_14, x40_15, x40_17, x40_20, x40_23, x40_24, x40_25, x40_28, x40_29, x40_32, x40_35, x40_38, x40_41, x40_44, sh_105, lq_105, sh_106, lq_106, sh_108, lq_108, sh_109, lq_109, sh_110, lq_110, sh_111, lq_111, rg_105_0, rg_106_1, rg_106_2, rg_106_3, rg_106_4, ex5, Option.toList_some, Option.toList_none, List.cons_append, List.nil_append, true_and, and_true, nI_1, p_at, p_set, p_isIn, p_max, p_min, p_abs, kK, a1, b1]
/-- what the class reads where o are open -/
theorem c_factAll (hu : u = 64 ∨ u = 98) (hua : u = ai + 27) (hX : TX T n c) : ∀ g o, o + g = 6 → CM L xs Lm nw sp s2 ai T n c u 42 o (pFact T n c g)
  | 0, o, h => c_fact hu hua hX (by omega) ⟨(fun z => by cases z), fun z => absurd z (by omega)⟩ (fun z => by cases z) (fun z => by cases z) (fun z => by cases z) (c_sumAll hu hua hX 0 o h) (sm_sum 0) (bd_sum 0)
  | g + 1, o, h => c_fact hu hua hX (by omega) ⟨fun _ => by omega, fun _ => rfl⟩ (fun _ => c_factAll hu hua hX g (o + 1) (by omega)) (fun _ => sm_pFact g) (fun _ => c_test hu hua hX (by omega) (c_both hu hua hX (by omega) (c_factAll hu hua hX g (o + 1) (by omega)) (sm_pFact g)) (sm_run (sm_pFact g))) (c_sumAll hu hua hX (g + 1) o h) (sm_sum (g + 1)) (bd_sum (g + 1))
theorem c_testAll (hu : u = 64 ∨ u = 98) (hua : u = ai + 27) (hX : TX T n c) (g o : Nat) (h : o + g = 6) : CM L xs Lm nw sp s2 ai T n c u 40 o (pTest T n c g) := c_test hu hua hX (by omega) (c_both hu hua hX (by omega) (c_factAll hu hua hX g o h) (sm_pFact g)) (sm_run (sm_pFact g))
end
