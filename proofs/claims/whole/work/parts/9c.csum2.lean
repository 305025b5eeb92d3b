/-! the class reads sums: pieces, products, sums -/
section
variable {L : Nat} {xs : Nat → Int32} {σ : Mm} {r : Option Value × Mm} {I J K : Nat → Nat → Int32} {Lm : Nat → Nat → Int64} {Rm : Nat → Nat → Nat} {n s so t N NS NH m M P nw U : Nat} {V W : Vw} {sp s2 ai p : Nat} {x y z h v : Int32} {k c w lo hi a u o g : Nat} {T : Nat → Nat} {q : Rz} {p p2 : Pz} {F F2 S : Pz → Pz} {b : Bool} {E E2 : Nat → Nat → Prop}

theorem c_piece (hu : u = 64 ∨ u = 98) (hua : u = ai + 27) (hX : TX T n c) (ho : o ≤ 6) (hb : b = true ↔ o < 6) (hS : b = true → CM L xs Lm nw sp s2 ai T n c u 45 (o + 1) S) (hM : b = true → SM S) : CM L xs Lm nw sp s2 ai T n c u 47 o (pieceP T n c b S) := fun I p hT h => by
  have hw := wq_b hX p.1.2.2
  have ah := fun r => c_ahead (L := L) (xs := xs) (Lm := Lm) (nw := nw) (sp := sp) (s2 := s2) (ai := ai) hX hT h.1 r
  have hah : ahV T n c p.1 < 512 := by
    unfold ahV
    by_cases hp : p.1.1 = 0
    · rw [if_pos hp]; exact hw
    · rw [if_neg hp]; decide
  have fo := fun (σ : Mm) r => c_factOf (L := L) (xs := xs) (σ := σ) hah r
  obtain ⟨ρ, hρ⟩ : ∃ ρ, 5 + 8 * (8 - ixn (nI o)) = ρ := ⟨_, rfl⟩
  have hρ' := hρ
  rw [ixn_nI (by omega)] at hρ'
  have hρ4 : 5 ≤ ρ := by omega
  have k20 : ∀ A, (rka 20 A < ρ) = True := fun A => eq_true (rka_lt rfl (Nat.lt_of_lt_of_le (show mrk 20 < 5 by decide) hρ4))
  have k49 : ∀ A, (rka 49 A < ρ) = True := fun A => eq_true (rka_lt rfl (Nat.lt_of_lt_of_le (show mrk 49 < 5 by decide) hρ4))
  have k22 : ∀ A, (rka 22 A < ρ) = True := fun A => eq_true (rka_lt rfl (Nat.lt_of_lt_of_le (show mrk 22 < 5 by decide) hρ4))
  have k44 : ∀ A, (rka 44 A < ρ) = True := fun A => eq_true (rka_lt rfl (Nat.lt_of_lt_of_le (show mrk 44 < 5 by decide) hρ4))
  have k23 : ∀ A, (rka 23 A < ρ) = True := fun A => eq_true (rka_lt rfl (Nat.lt_of_lt_of_le (show mrk 23 < 5 by decide) hρ4))
  have k52 : ∀ A, (rka 52 A < ρ) = True := fun A => eq_true (rka_lt rfl (Nat.lt_of_lt_of_le (show mrk 52 < 5 by decide) hρ4))
  have k24 : ∀ A, (rka 24 A < ρ) = True := fun A => eq_true (rka_lt rfl (Nat.lt_of_lt_of_le (show mrk 24 < 5 by decide) hρ4))
  have k48 : ∀ x, (rka 48 [.ref 105, .int (nI o), .int x] < ρ) = True := fun x => eq_true (show 4 + 8 * (8 - ixn (nI o)) < ρ by omega)
  have k45 : (rka 45 [.ref 105, .int (nI (o + 1))] < ρ) = True ∨ o = 6 := by
    by_cases e : o = 6
    · exact Or.inr e
    · exact Or.inl (eq_true (show 7 + 8 * (8 - ixn (nI (o + 1))) < ρ by rw [ixn_nI (by omega)]; omega))
  have g5 : rfv (RG nw sp s2 ai 105 5) = .ref u := by rw [hua]; exact (rd_rg (s := ai + 1) rfl).2.2.2.2
  obtain ⟨y1, y2, -⟩ := ru_sh hu
  have n1 : nI 1 = 1 := rfl
  obtain ⟨J1, a1, a2, a3⟩ := c_takes (w := 31) (L := L) (xs := xs) (Lm := Lm) (nw := nw) (sp := sp) (s2 := s2) (ai := ai) (by decide) (by decide) hX hT h.1
  have a1 : ∀ r, Em L xs 22 [.ref 105, .int 31] (179, I, Lm, RG nw sp s2 ai) r ↔ r = (some (.int (if p.1.1 = 0 ∧ wq T n c p.1.2.2 = 31 then 1 else 0)), 179, J1, Lm, RG nw sp s2 ai) := fun r => a1 r
  have F1 : FX I J1 (EX u) := fxCF a3 eX0
  by_cases d1 : p.1.1 = 0 ∧ wq T n c p.1.2.2 = 31
  · rw [if_pos d1] at a1
    rw [show tkz T n c 31 p.1 = (0, 0, p.1.2.2 + 1) from if_pos d1] at a2
    have x1 : CDX J1 T n c u (nxP p) := cxCF h hu a3 a2 (fun _ => ⟨d1.1, Nat.le_succ _⟩)
    have sl : (nxP p).2.length < (nxP p).1.2.2 := Nat.lt_succ_of_le (cx_sl h d1.1).1
    obtain ⟨J2, b1, b2, b3⟩ := c_ofTwo (m := 5) (L := L) (xs := xs) (Lm := Lm) (nw := nw) (sp := sp) (s2 := s2) (ai := ai) hu hua hX ho hb hS hM (F1.tksX hu hT) x1 rfl sl
    have b1 : ∀ r, Em L xs 48 [.ref 105, .int (nI o), .int 10015] (179, J1, Lm, RG nw sp s2 ai) r ↔ r = (none, 179, J2, Lm, RG nw sp s2 ai) := fun r => b1 r
    rw [show pieceP T n c b S p = twoP T n c b S 5 (nxP p) from by unfold pieceP; rw [if_pos d1.1, if_pos d1.2]]
    refine ⟨J2, fun r => ?_, b2, fxTr F1 b3⟩
    rw [em_47, hρ]
    simp only [x47_0, x47_1, x47_4, x47_5, x47_6, x47_9, x47_10, x47_11, x47_13, x47_16, x47_19, x47_20, x47_21, x47_24, x47_27, x47_30, x47_31, x47_33, x47_36, x47_39, x47_40, x47_41, x47_44, x47_47, x47_50, x47_51, x47_52, x47_55, x47_56, x47_57, x47_60, x47_61, x47_62, x47_65, x47_66, x47_69, x47_72, x47_73, x47_74, x47_77, x47_80, x47_81, x47_84, x47_87, x47_88, x47_89, x47_92, x47_95, x47_96, x47_97, x47_98, x47_99, x47_102, x47_103, x47_106, x47_109, x47_112, x47_113, x47_116, x47_117, x47_118, x47_121, x47_124, x47_127, sh_105, lq_105, sh_106, lq_106, sh_108, lq_108, sh_109, lq_109, sh_110, lq_110, sh_111, lq_111, rg_105_0, rg_106_1, rg_106_2, rg_106_3, rg_106_4, ex5, Option.toList_some, Option.toList_none, List.cons_append, List.nil_append, true_and, and_true, nI_1, p_at, p_set, p_isIn, p_max, p_min, p_abs, k20, k49, k22, k48, ah, fo, a1, one_ne, if_false, b1]
  rw [if_neg d1] at a1
  rw [show tkz T n c 31 p.1 = p.1 from if_neg d1] at a2
  obtain ⟨J2, b1, b2, b3⟩ := c_takes (w := 32) (L := L) (xs := xs) (Lm := Lm) (nw := nw) (sp := sp) (s2 := s2) (ai := ai) (by decide) (by decide) hX (F1.tksX hu hT) a2
  have b1 : ∀ r, Em L xs 22 [.ref 105, .int 32] (179, J1, Lm, RG nw sp s2 ai) r ↔ r = (some (.int (if p.1.1 = 0 ∧ wq T n c p.1.2.2 = 32 then 1 else 0)), 179, J2, Lm, RG nw sp s2 ai) := fun r => b1 r
  have a3 := cfTr a3 b3
  have F2 : FX I J2 (EX u) := fxCF a3 eX0
  by_cases d2 : p.1.1 = 0 ∧ wq T n c p.1.2.2 = 32
  · rw [if_pos d2] at b1
    rw [show tkz T n c 32 p.1 = (0, 0, p.1.2.2 + 1) from if_pos d2] at b2
    have x1 : CDX J2 T n c u (nxP p) := cxCF h hu a3 b2 (fun _ => ⟨d2.1, Nat.le_succ _⟩)
    have sl : (nxP p).2.length < (nxP p).1.2.2 := Nat.lt_succ_of_le (cx_sl h d2.1).1
    obtain ⟨J3, c1, c2, c3⟩ := c_ofTwo (m := 6) (L := L) (xs := xs) (Lm := Lm) (nw := nw) (sp := sp) (s2 := s2) (ai := ai) hu hua hX ho hb hS hM (F2.tksX hu hT) x1 rfl sl
    have c1 : ∀ r, Em L xs 48 [.ref 105, .int (nI o), .int 10016] (179, J2, Lm, RG nw sp s2 ai) r ↔ r = (none, 179, J3, Lm, RG nw sp s2 ai) := fun r => c1 r
    rw [show pieceP T n c b S p = twoP T n c b S 6 (nxP p) from by unfold pieceP; rw [if_pos d2.1, if_neg (fun z => d1 ⟨d2.1, z⟩), if_pos d2.2]]
    refine ⟨J3, fun r => ?_, c2, fxTr F2 c3⟩
    rw [em_47, hρ]
    simp only [x47_0, x47_1, x47_4, x47_5, x47_6, x47_9, x47_10, x47_11, x47_13, x47_16, x47_19, x47_20, x47_21, x47_24, x47_27, x47_30, x47_31, x47_33, x47_36, x47_39, x47_40, x47_41, x47_44, x47_47, x47_50, x47_51, x47_52, x47_55, x47_56, x47_57, x47_60, x47_61, x47_62, x47_65, x47_66, x47_69, x47_72, x47_73, x47_74, x47_77, x47_80, x47_81, x47_84, x47_87, x47_88, x47_89, x47_92, x47_95, x47_96, x47_97, x47_98, x47_99, x47_102, x47_103, x47_106, x47_109, x47_112, x47_113, x47_116, x47_117, x47_118, x47_121, x47_124, x47_127, sh_105, lq_105, sh_106, lq_106, sh_108, lq_108, sh_109, lq_109, sh_110, lq_110, sh_111, lq_111, rg_105_0, rg_106_1, rg_106_2, rg_106_3, rg_106_4, ex5, Option.toList_some, Option.toList_none, List.cons_append, List.nil_append, true_and, and_true, nI_1, p_at, p_set, p_isIn, p_max, p_min, p_abs, k20, k49, k22, k48, ah, fo, a1, if_true, b1, one_ne, if_false, c1]
  rw [if_neg d2] at b1
  rw [show tkz T n c 32 p.1 = p.1 from if_neg d2] at b2
  have x2 : CDX J2 T n c u p := cxCF h hu a3 b2 (fun z => ⟨z, Nat.le_refl _⟩)
  by_cases hp : p.1.1 = 0
  · have ea : ahV T n c p.1 = wq T n c p.1.2.2 := if_pos hp
    rw [ea] at ah fo
    have n31 : ¬ wq T n c p.1.2.2 = 31 := fun z => d1 ⟨hp, z⟩
    have n32 : ¬ wq T n c p.1.2.2 = 32 := fun z => d2 ⟨hp, z⟩
    by_cases d3 : isF (wq T n c p.1.2.2)
    · rw [if_pos d3] at fo
      obtain ⟨z1, z2⟩ := fc_ok d3
      have k1 : p.1.2.2 < c := wq_c (T := T) (n := n) (c := c) (k := p.1.2.2) (by unfold isF at d3; omega)
      obtain ⟨c1, c2⟩ := cs_nx x2.1 (fun _ => k1)
      rw [show nxz p.1 = (0, 0, p.1.2.2 + 1) from if_pos hp] at c1
      have x3 := cxCF x2 hu c2 c1 (fun _ => ⟨hp, Nat.le_succ _⟩)
      obtain ⟨J4, e1, e2, e3⟩ := c_addX (m := fcN (wq T n c p.1.2.2)) (x := cOf (fcN (wq T n c p.1.2.2))) (L := L) (xs := xs) (Lm := Lm) (nw := nw) (sp := sp) (s2 := s2) (ai := ai) hu hX x3 (fun _ => Nat.lt_succ_of_le (cx_sl h hp).1) (fun _ => rfl)
      rw [show pieceP T n c b S p = adP (fcN (wq T n c p.1.2.2)) (nxP p) from by unfold pieceP; rw [if_pos hp, if_neg n31, if_neg n32, if_pos d3]]
      refine ⟨J4, fun r => ?_, e2, fxTr (fxTr F2 (fxCF c2 eX0)) e3⟩
      rw [em_47, hρ]
      simp only [x47_0, x47_1, x47_4, x47_5, x47_6, x47_9, x47_10, x47_11, x47_13, x47_16, x47_19, x47_20, x47_21, x47_24, x47_27, x47_30, x47_31, x47_33, x47_36, x47_39, x47_40, x47_41, x47_44, x47_47, x47_50, x47_51, x47_52, x47_55, x47_56, x47_57, x47_60, x47_61, x47_62, x47_65, x47_66, x47_69, x47_72, x47_73, x47_74, x47_77, x47_80, x47_81, x47_84, x47_87, x47_88, x47_89, x47_92, x47_95, x47_96, x47_97, x47_98, x47_99, x47_102, x47_103, x47_106, x47_109, x47_112, x47_113, x47_116, x47_117, x47_118, x47_121, x47_124, x47_127, sh_105, lq_105, sh_106, lq_106, sh_108, lq_108, sh_109, lq_109, sh_110, lq_110, sh_111, lq_111, rg_105_0, rg_106_1, rg_106_2, rg_106_3, rg_106_4, ex5, Option.toList_some, Option.toList_none, List.cons_append, List.nil_append, true_and, and_true, nI_1, p_at, p_set, p_isIn, p_max, p_min, p_abs, k20, k49, k22, k52, ah, fo, a1, if_true, b1, z1, if_false, g5, y1, y2, z2, e1]
    · rw [if_neg d3] at fo
      by_cases d4 : wq T n c p.1.2.2 = 296
      · have c1 : (nI (wq T n c p.1.2.2) = 296) = True := eq_true (by rw [d4]; rfl)
        have k1 : p.1.2.2 < c := wq_c (T := T) (n := n) (c := c) (k := p.1.2.2) (by omega)
        obtain ⟨J3, e1, e2, e3⟩ := c_opens (L := L) (xs := xs) (Lm := Lm) (nw := nw) (sp := sp) (s2 := s2) (ai := ai) ho hX (F2.tksX hu hT) x2.1 hp k1
        by_cases hb1 : b = true
        · have o6 := hb.mp hb1
          have k45 := k45.resolve_right (by omega)
          rw [if_pos o6] at e1 e2
          have x3 : CDX J3 T n c u (nxP p) := cxCF x2 hu e3 e2 (fun _ => ⟨hp, Nat.le_succ _⟩)
          have F3 : FX I J3 (EX u) := fxTr F2 (fxCF e3 eX0)
          obtain ⟨J4, f1, x4, f4⟩ := hS hb1 J3 (nxP p) (F3.tksX hu hT) x3
          have F4 := fxTr F3 f4
          obtain ⟨J5, i1, i2, i3⟩ := c_need (w := 297) (L := L) (xs := xs) (Lm := Lm) (nw := nw) (sp := sp) (s2 := s2) (ai := ai) (by decide) (by decide) hX (F4.tksX hu hT) x4.1
          have i1 : ∀ r, Em L xs 23 [.ref 105, .int 297] (179, J4, Lm, RG nw sp s2 ai) r ↔ r = (none, 179, J5, Lm, RG nw sp s2 ai) := fun r => i1 r
          rw [show pieceP T n c b S p = qP (asz T n c 297) (S (nxP p)) from by unfold pieceP; rw [if_pos hp, if_neg n31, if_neg n32, if_neg d3, if_pos d4, if_pos hb1]]
          refine ⟨J5, fun r => ?_, cxCF x4 hu i3 i2 (fun z => ⟨(asz_g z).1, by rw [(asz_g z).2]; exact Nat.le_succ _⟩), fxTr F4 (fxCF i3 eX0)⟩
          rw [em_47, hρ]
          simp only [x47_0, x47_1, x47_4, x47_5, x47_6, x47_9, x47_10, x47_11, x47_13, x47_16, x47_19, x47_20, x47_21, x47_24, x47_27, x47_30, x47_31, x47_33, x47_36, x47_39, x47_40, x47_41, x47_44, x47_47, x47_50, x47_51, x47_52, x47_55, x47_56, x47_57, x47_60, x47_61, x47_62, x47_65, x47_66, x47_69, x47_72, x47_73, x47_74, x47_77, x47_80, x47_81, x47_84, x47_87, x47_88, x47_89, x47_92, x47_95, x47_96, x47_97, x47_98, x47_99, x47_102, x47_103, x47_106, x47_109, x47_112, x47_113, x47_116, x47_117, x47_118, x47_121, x47_124, x47_127, sh_105, lq_105, sh_106, lq_106, sh_108, lq_108, sh_109, lq_109, sh_110, lq_110, sh_111, lq_111, rg_105_0, rg_106_1, rg_106_2, rg_106_3, rg_106_4, ex5, Option.toList_some, Option.toList_none, List.cons_append, List.nil_append, true_and, and_true, nI_1, p_at, p_set, p_isIn, p_max, p_min, p_abs, k20, k49, k22, k44, k45, k23, ah, fo, a1, if_true, b1, c1, e1, one_ne, if_false, f1, i1]
        · have o6 : ¬ o < 6 := fun z => hb1 (hb.mpr z)
          rw [if_neg o6] at e1 e2
          rw [show pieceP T n c b S p = dpP T n p from by unfold pieceP; rw [if_pos hp, if_neg n31, if_neg n32, if_neg d3, if_pos d4, if_neg hb1]]
          refine ⟨J3, fun r => ?_, cxCF x2 hu e3 e2 (fun z => by cases z), fxTr F2 (fxCF e3 eX0)⟩
          rw [em_47, hρ]
          simp only [x47_0, x47_1, x47_4, x47_5, x47_6, x47_9, x47_10, x47_11, x47_13, x47_16, x47_19, x47_20, x47_21, x47_24, x47_27, x47_30, x47_31, x47_33, x47_36, x47_39, x47_40, x47_41, x47_44, x47_47, x47_50, x47_51, x47_52, x47_55, x47_56, x47_57, x47_60, x47_61, x47_62, x47_65, x47_66, x47_69, x47_72, x47_73, x47_74, x47_77, x47_80, x47_81, x47_84, x47_87, x47_88, x47_89, x47_92, x47_95, x47_96, x47_97, x47_98, x47_99, x47_102, x47_103, x47_106, x47_109, x47_112, x47_113, x47_116, x47_117, x47_118, x47_121, x47_124, x47_127, sh_105, lq_105, sh_106, lq_106, sh_108, lq_108, sh_109, lq_109, sh_110, lq_110, sh_111, lq_111, rg_105_0, rg_106_1, rg_106_2, rg_106_3, rg_106_4, ex5, Option.toList_some, Option.toList_none, List.cons_append, List.nil_append, true_and, and_true, nI_1, p_at, p_set, p_isIn, p_max, p_min, p_abs, k20, k49, k22, k44, ah, fo, a1, if_true, b1, c1, e1]
      · have c1 : (nI (wq T n c p.1.2.2) = 296) = False := eq_false (fun z => d4 ((nI_eq (b := 296) (by omega) (by decide)).mp z))
        obtain ⟨v, J3, e1, e2, e3, e4⟩ := c_number (lo := 0) (hi := 9999) (L := L) (xs := xs) (Lm := Lm) (nw := nw) (sp := sp) (s2 := s2) (ai := ai) (by decide) (by decide) hX (F2.tksX hu hT) x2.1
        have e1 : ∀ r, Em L xs 24 [.ref 105, .int 0, .int 9999] (179, J2, Lm, RG nw sp s2 ai) r ↔ r = (some (.int v), 179, J3, Lm, RG nw sp s2 ai) := fun r => e1 r
        have x3 : CDX J3 T n c u (qP (nbz T n c 0 9999) p) := cxCF x2 hu e3 e2 (fun z => ⟨(nbz_g z).1, by rw [(nbz_g z).2]; exact Nat.le_succ _⟩)
        obtain ⟨J4, f1, f2, f3⟩ := c_addX (m := 1000 + nbW T n p.1.2.2) (x := v) (L := L) (xs := xs) (Lm := Lm) (nw := nw) (sp := sp) (s2 := s2) (ai := ai) hu hX x3 (fun z => by
          show p.2.length < (nbz T n c 0 9999 p.1).2.2
          rw [(nbz_g z).2]
          exact Nat.lt_succ_of_le (cx_sl h hp).1) (fun z => by rw [cOf_num]; exact e4 z)
        rw [show pieceP T n c b S p = adP (1000 + nbW T n p.1.2.2) (qP (nbz T n c 0 9999) p) from by unfold pieceP; rw [if_pos hp, if_neg n31, if_neg n32, if_neg d3, if_neg d4]]
        refine ⟨J4, fun r => ?_, f2, fxTr (fxTr F2 (fxCF e3 eX0)) f3⟩
        rw [em_47, hρ]
        simp only [x47_0, x47_1, x47_4, x47_5, x47_6, x47_9, x47_10, x47_11, x47_13, x47_16, x47_19, x47_20, x47_21, x47_24, x47_27, x47_30, x47_31, x47_33, x47_36, x47_39, x47_40, x47_41, x47_44, x47_47, x47_50, x47_51, x47_52, x47_55, x47_56, x47_57, x47_60, x47_61, x47_62, x47_65, x47_66, x47_69, x47_72, x47_73, x47_74, x47_77, x47_80, x47_81, x47_84, x47_87, x47_88, x47_89, x47_92, x47_95, x47_96, x47_97, x47_98, x47_99, x47_102, x47_103, x47_106, x47_109, x47_112, x47_113, x47_116, x47_117, x47_118, x47_121, x47_124, x47_127, sh_105, lq_105, sh_106, lq_106, sh_108, lq_108, sh_109, lq_109, sh_110, lq_110, sh_111, lq_111, rg_105_0, rg_106_1, rg_106_2, rg_106_3, rg_106_4, ex5, Option.toList_some, Option.toList_none, List.cons_append, List.nil_append, true_and, and_true, nI_1, p_at, p_set, p_isIn, p_max, p_min, p_abs, k20, k49, k22, k24, k52, ah, fo, a1, if_true, b1, c1, if_false, e1, g5, y1, y2, f1]
  · have ea : ahV T n c p.1 = 43 := if_neg hp
    rw [ea] at ah fo
    rw [if_neg (show ¬ isF 43 by decide)] at fo
    have c1 : (nI 43 = 296) = False := eq_false (by decide)
    obtain ⟨v, J3, e1, e2, e3, e4⟩ := c_number (lo := 0) (hi := 9999) (L := L) (xs := xs) (Lm := Lm) (nw := nw) (sp := sp) (s2 := s2) (ai := ai) (by decide) (by decide) hX (F2.tksX hu hT) x2.1
    have e1 : ∀ r, Em L xs 24 [.ref 105, .int 0, .int 9999] (179, J2, Lm, RG nw sp s2 ai) r ↔ r = (some (.int v), 179, J3, Lm, RG nw sp s2 ai) := fun r => e1 r
    rw [show nbz T n c 0 9999 p.1 = p.1 from if_neg hp] at e2
    have x3 : CDX J3 T n c u p := cxCF x2 hu e3 e2 (fun z => ⟨z, Nat.le_refl _⟩)
    obtain ⟨J4, f1, f2, f3⟩ := c_addX (m := 0) (x := v) (L := L) (xs := xs) (Lm := Lm) (nw := nw) (sp := sp) (s2 := s2) (ai := ai) hu hX x3 (fun z => (hp z).elim) (fun z => (hp z).elim)
    rw [show pieceP T n c b S p = p from if_neg hp]
    refine ⟨J4, fun r => ?_, cx_bad f2 hp rfl, fxTr (fxTr F2 (fxCF e3 eX0)) f3⟩
    rw [em_47, hρ]
    simp only [x47_0, x47_1, x47_4, x47_5, x47_6, x47_9, x47_10, x47_11, x47_13, x47_16, x47_19, x47_20, x47_21, x47_24, x47_27, x47_30, x47_31, x47_33, x47_36, x47_39, x47_40, x47_41, x47_44, x47_47, x47_50, x47_51, x47_52, x47_55, x47_56, x47_57, x47_60, x47_61, x47_62, x47_65, x47_66, x47_69, x47_72, x47_73, x47_74, x47_77, x47_80, x47_81, x47_84, x47_87, x47_88, x47_89, x47_92, x47_95, x47_96, x47_97, x47_98, x47_99, x47_102, x47_103, x47_106, x47_109, x47_112, x47_113, x47_116, x47_117, x47_118, x47_121, x47_124, x47_127, sh_105, lq_105, sh_106, lq_106, sh_108, lq_108, sh_109, lq_109, sh_110, lq_110, sh_111, lq_111, rg_105_0, rg_106_1, rg_106_2, rg_106_3, rg_106_4, ex5, Option.toList_some, Option.toList_none, List.cons_append, List.nil_append, true_and, and_true, nI_1, p_at, p_set, p_isIn, p_max, p_min, p_abs, k20, k49, k22, k24, k52, ah, fo, a1, if_true, b1, c1, if_false, e1, g5, y1, y2, f1]
theorem c_product (hu : u = 64 ∨ u = 98) (hua : u = ai + 27) (hX : TX T n c) (ho : o ≤ 6) (hF : CM L xs Lm nw sp s2 ai T n c u 47 o F) (hM : SM F) : CM L xs Lm nw sp s2 ai T n c u 46 o (prodP T n c F) := fun I p hT h => by
  obtain ⟨ρ, hρ⟩ : ∃ ρ, 6 + 8 * (8 - ixn (nI o)) = ρ := ⟨_, rfl⟩
  have hρ' := hρ
  rw [ixn_nI (by omega)] at hρ'
  have hρ4 : 6 ≤ ρ := by omega
  have k18 : ∀ A, (rka 18 A < ρ) = True := fun A => eq_true (rka_lt rfl (Nat.lt_of_lt_of_le (show mrk 18 < 6 by decide) hρ4))
  have k22 : ∀ A, (rka 22 A < ρ) = True := fun A => eq_true (rka_lt rfl (Nat.lt_of_lt_of_le (show mrk 22 < 6 by decide) hρ4))
  have k52 : ∀ A, (rka 52 A < ρ) = True := fun A => eq_true (rka_lt rfl (Nat.lt_of_lt_of_le (show mrk 52 < 6 by decide) hρ4))
  have kK : (rka 47 [.ref 105, .int (nI o)] < ρ) = True := eq_true (show 5 + 8 * (8 - ixn (nI o)) < ρ by omega)
  have g5 : rfv (RG nw sp s2 ai 105 5) = .ref u := by rw [hua]; exact (rd_rg (s := ai + 1) rfl).2.2.2.2
  obtain ⟨y1, y2, -⟩ := ru_sh hu
  have key : ∀ f i p I, i + f = 1600 → TKs I T n c → CDX I T n c u p → ∃ J, (∀ r, Ev L xs ρ 46 7 [some (.ref 105), some (.int (nI o)), some (.int (nI i))] [] (179, I, Lm, RG nw sp s2 ai) r ↔ r = (none, 179, J, Lm, RG nw sp s2 ai)) ∧ CDX J T n c u (loopP T n c 298 3 303 4 F f p) ∧ FX I J (EX u) := by
    intro f
    induction f with
    | zero =>
      intro i p I hi hT h
      have c1 : ((1600 : Int32) ≤ nI i) = True := eq_true (by rw [show i = 1600 by omega]; decide)
      refine ⟨I, fun r => ?_, h, fxRf⟩
      rw [x46_7]
      simp only [x46_0, x46_1, x46_2, x46_5, x46_6, x46_8, x46_11, x46_14, x46_15, x46_18, x46_21, x46_22, x46_25, x46_28, x46_31, x46_32, x46_33, x46_36, x46_37, x46_40, x46_43, x46_46, x46_49, x46_50, x46_53, x46_56, x46_59, x46_60, x46_61, x46_64, x46_65, x46_68, x46_71, x46_74, x46_77, x46_78, x46_81, x46_84, sh_105, lq_105, sh_106, lq_106, sh_108, lq_108, sh_109, lq_109, sh_110, lq_110, sh_111, lq_111, rg_105_0, rg_106_1, rg_106_2, rg_106_3, rg_106_4, ex5, Option.toList_some, Option.toList_none, List.cons_append, List.nil_append, true_and, and_true, nI_1, p_at, p_set, p_isIn, p_max, p_min, p_abs, c1, if_true]
    | succ f ih =>
      intro i p I hi hT h
      have c1 : ((1600 : Int32) ≤ nI i) = False := eq_false (nI_ge (a := i) (b := 1600) (by omega) (by decide))
      have gd := fun r => c_isGood (L := L) (xs := xs) (Lm := Lm) (nw := nw) (sp := sp) (s2 := s2) (ai := ai) h.1 r
      by_cases hp : p.1.1 = 0
      · rw [if_pos hp] at gd
        have go : ∀ m x J1, x = cOf m → CDX J1 T n c u (nxP p) → FX I J1 (EX u) → ∃ J2 J3 J, (∀ r, Em L xs 47 [.ref 105, .int (nI o)] (179, J1, Lm, RG nw sp s2 ai) r ↔ r = (none, 179, J2, Lm, RG nw sp s2 ai)) ∧ (∀ r, Em L xs 52 [.ref u, .int x] (179, J2, Lm, RG nw sp s2 ai) r ↔ r = (none, 179, J3, Lm, RG nw sp s2 ai)) ∧ (∀ r, Ev L xs ρ 46 7 [some (.ref 105), some (.int (nI o)), some (.int (nI (i + 1)))] [] (179, J3, Lm, RG nw sp s2 ai) r ↔ r = (none, 179, J, Lm, RG nw sp s2 ai)) ∧ CDX J T n c u (loopP T n c 298 3 303 4 F f (adP m (F (nxP p)))) ∧ FX I J (EX u) := fun m x J1 hx x1 F1 => by
          obtain ⟨J2, a1, x2, f2⟩ := hF J1 (nxP p) (F1.tksX hu hT) x1
          have F2 := fxTr F1 f2
          obtain ⟨J3, b1, x3, f3⟩ := c_addX (m := m) (x := x) (L := L) (xs := xs) (Lm := Lm) (nw := nw) (sp := sp) (s2 := s2) (ai := ai) hu hX x2 (fun z => sm_sl hM hp (cx_sl h hp).1 z) (fun _ => hx)
          have F3 := fxTr F2 f3
          obtain ⟨J4, d1, x4, f4⟩ := ih (i + 1) _ J3 (by omega) (F3.tksX hu hT) x3
          exact ⟨J2, J3, J4, a1, b1, d1, x4, fxTr F3 f4⟩
        obtain ⟨J1, a1, a2, a3⟩ := c_takes (w := 298) (L := L) (xs := xs) (Lm := Lm) (nw := nw) (sp := sp) (s2 := s2) (ai := ai) (by decide) (by decide) hX hT h.1
        have a1 : ∀ r, Em L xs 22 [.ref 105, .int 298] (179, I, Lm, RG nw sp s2 ai) r ↔ r = (some (.int (if p.1.1 = 0 ∧ wq T n c p.1.2.2 = 298 then 1 else 0)), 179, J1, Lm, RG nw sp s2 ai) := fun r => a1 r
        have F1 : FX I J1 (EX u) := fxCF a3 eX0
        by_cases d1 : wq T n c p.1.2.2 = 298
        · rw [if_pos ⟨hp, d1⟩] at a1
          rw [show tkz T n c 298 p.1 = (0, 0, p.1.2.2 + 1) from if_pos ⟨hp, d1⟩] at a2
          obtain ⟨J2, J3, J, b1, b2, b3, b4, b5⟩ := go 3 10013 J1 (by decide) (cxCF h hu a3 a2 (fun _ => ⟨hp, Nat.le_succ _⟩)) F1
          rw [show loopP T n c 298 3 303 4 F (f + 1) p = loopP T n c 298 3 303 4 F f (adP 3 (F (nxP p))) from by show (if _ then _ else _) = _; rw [if_pos hp, if_pos d1]]
          refine ⟨J, fun r => ?_, b4, b5⟩
          rw [x46_7]
          simp only [x46_0, x46_1, x46_2, x46_5, x46_6, x46_8, x46_11, x46_14, x46_15, x46_18, x46_21, x46_22, x46_25, x46_28, x46_31, x46_32, x46_33, x46_36, x46_37, x46_40, x46_43, x46_46, x46_49, x46_50, x46_53, x46_56, x46_59, x46_60, x46_61, x46_64, x46_65, x46_68, x46_71, x46_74, x46_77, x46_78, x46_81, x46_84, sh_105, lq_105, sh_106, lq_106, sh_108, lq_108, sh_109, lq_109, sh_110, lq_110, sh_111, lq_111, rg_105_0, rg_106_1, rg_106_2, rg_106_3, rg_106_4, ex5, Option.toList_some, Option.toList_none, List.cons_append, List.nil_append, true_and, and_true, nI_1, p_at, p_set, p_isIn, p_max, p_min, p_abs, c1, if_false, k18, k22, kK, k52, gd, one_ne, a1, b1, g5, y1, y2, b2, b3]
        rw [if_neg (fun z => d1 z.2)] at a1
        rw [show tkz T n c 298 p.1 = p.1 from if_neg (fun z => d1 z.2)] at a2
        obtain ⟨J2, e1, e2, e3⟩ := c_takes (w := 303) (L := L) (xs := xs) (Lm := Lm) (nw := nw) (sp := sp) (s2 := s2) (ai := ai) (by decide) (by decide) hX (F1.tksX hu hT) a2
        have e1 : ∀ r, Em L xs 22 [.ref 105, .int 303] (179, J1, Lm, RG nw sp s2 ai) r ↔ r = (some (.int (if p.1.1 = 0 ∧ wq T n c p.1.2.2 = 303 then 1 else 0)), 179, J2, Lm, RG nw sp s2 ai) := fun r => e1 r
        have a3 := cfTr a3 e3
        have F2 : FX I J2 (EX u) := fxCF a3 eX0
        by_cases d2 : wq T n c p.1.2.2 = 303
        · rw [if_pos ⟨hp, d2⟩] at e1
          rw [show tkz T n c 303 p.1 = (0, 0, p.1.2.2 + 1) from if_pos ⟨hp, d2⟩] at e2
          obtain ⟨J3, J4, J, b1, b2, b3, b4, b5⟩ := go 4 10014 J2 (by decide) (cxCF h hu a3 e2 (fun _ => ⟨hp, Nat.le_succ _⟩)) F2
          rw [show loopP T n c 298 3 303 4 F (f + 1) p = loopP T n c 298 3 303 4 F f (adP 4 (F (nxP p))) from by show (if _ then _ else _) = _; rw [if_pos hp, if_neg d1, if_pos d2]]
          refine ⟨J, fun r => ?_, b4, b5⟩
          rw [x46_7]
          simp only [x46_0, x46_1, x46_2, x46_5, x46_6, x46_8, x46_11, x46_14, x46_15, x46_18, x46_21, x46_22, x46_25, x46_28, x46_31, x46_32, x46_33, x46_36, x46_37, x46_40, x46_43, x46_46, x46_49, x46_50, x46_53, x46_56, x46_59, x46_60, x46_61, x46_64, x46_65, x46_68, x46_71, x46_74, x46_77, x46_78, x46_81, x46_84, sh_105, lq_105, sh_106, lq_106, sh_108, lq_108, sh_109, lq_109, sh_110, lq_110, sh_111, lq_111, rg_105_0, rg_106_1, rg_106_2, rg_106_3, rg_106_4, ex5, Option.toList_some, Option.toList_none, List.cons_append, List.nil_append, true_and, and_true, nI_1, p_at, p_set, p_isIn, p_max, p_min, p_abs, c1, if_false, k18, k22, kK, k52, gd, one_ne, a1, if_true, e1, b1, g5, y1, y2, b2, b3]
        rw [if_neg (fun z => d2 z.2)] at e1
        rw [show tkz T n c 303 p.1 = p.1 from if_neg (fun z => d2 z.2)] at e2
        rw [show loopP T n c 298 3 303 4 F (f + 1) p = p from by show (if _ then _ else _) = _; rw [if_pos hp, if_neg d1, if_neg d2]]
        refine ⟨J2, fun r => ?_, cxCF h hu a3 e2 (fun z => ⟨z, Nat.le_refl _⟩), F2⟩
        rw [x46_7]
        simp only [x46_0, x46_1, x46_2, x46_5, x46_6, x46_8, x46_11, x46_14, x46_15, x46_18, x46_21, x46_22, x46_25, x46_28, x46_31, x46_32, x46_33, x46_36, x46_37, x46_40, x46_43, x46_46, x46_49, x46_50, x46_53, x46_56, x46_59, x46_60, x46_61, x46_64, x46_65, x46_68, x46_71, x46_74, x46_77, x46_78, x46_81, x46_84, sh_105, lq_105, sh_106, lq_106, sh_108, lq_108, sh_109, lq_109, sh_110, lq_110, sh_111, lq_111, rg_105_0, rg_106_1, rg_106_2, rg_106_3, rg_106_4, ex5, Option.toList_some, Option.toList_none, List.cons_append, List.nil_append, true_and, and_true, nI_1, p_at, p_set, p_isIn, p_max, p_min, p_abs, c1, if_false, k18, k22, gd, one_ne, a1, if_true, e1]
      · rw [if_neg hp] at gd
        rw [show loopP T n c 298 3 303 4 F (f + 1) p = p from if_neg hp]
        refine ⟨I, fun r => ?_, h, fxRf⟩
        rw [x46_7]
        simp only [x46_0, x46_1, x46_2, x46_5, x46_6, x46_8, x46_11, x46_14, x46_15, x46_18, x46_21, x46_22, x46_25, x46_28, x46_31, x46_32, x46_33, x46_36, x46_37, x46_40, x46_43, x46_46, x46_49, x46_50, x46_53, x46_56, x46_59, x46_60, x46_61, x46_64, x46_65, x46_68, x46_71, x46_74, x46_77, x46_78, x46_81, x46_84, sh_105, lq_105, sh_106, lq_106, sh_108, lq_108, sh_109, lq_109, sh_110, lq_110, sh_111, lq_111, rg_105_0, rg_106_1, rg_106_2, rg_106_3, rg_106_4, ex5, Option.toList_some, Option.toList_none, List.cons_append, List.nil_append, true_and, and_true, nI_1, p_at, p_set, p_isIn, p_max, p_min, p_abs, c1, if_false, k18, gd, if_true]
  obtain ⟨J0, a1, x1, f1⟩ := hF I p hT h
  obtain ⟨J, b1, b2, b3⟩ := key 1600 0 (F p) J0 rfl (f1.tksX hu hT) x1
  rw [nI_0] at b1
  refine ⟨J, fun r => ?_, b2, fxTr f1 b3⟩
  rw [em_46, hρ]
  simp only [x46_0, x46_1, x46_2, x46_5, x46_6, x46_8, x46_11, x46_14, x46_15, x46_18, x46_21, x46_22, x46_25, x46_28, x46_31, x46_32, x46_33, x46_36, x46_37, x46_40, x46_43, x46_46, x46_49, x46_50, x46_53, x46_56, x46_59, x46_60, x46_61, x46_64, x46_65, x46_68, x46_71, x46_74, x46_77, x46_78, x46_81, x46_84, sh_105, lq_105, sh_106, lq_106, sh_108, lq_108, sh_109, lq_109, sh_110, lq_110, sh_111, lq_111, rg_105_0, rg_106_1, rg_106_2, rg_106_3, rg_106_4, ex5, Option.toList_some, Option.toList_none, List.cons_append, List.nil_append, true_and, and_true, nI_1, p_at, p_set, p_isIn, p_max, p_min, p_abs, kK, a1, b1]
theorem c_sum (hu : u = 64 ∨ u = 98) (hua : u = ai + 27) (hX : TX T n c) (ho : o ≤ 6) (hF : CM L xs Lm nw sp s2 ai T n c u 46 o F) (hM : SM F) : CM L xs Lm nw sp s2 ai T n c u 45 o (sumP T n c F) := fun I p hT h => by
  obtain ⟨ρ, hρ⟩ : ∃ ρ, 7 + 8 * (8 - ixn (nI o)) = ρ := ⟨_, rfl⟩
  have hρ' := hρ
  rw [ixn_nI (by omega)] at hρ'
  have hρ4 : 7 ≤ ρ := by omega
  have k18 : ∀ A, (rka 18 A < ρ) = True := fun A => eq_true (rka_lt rfl (Nat.lt_of_lt_of_le (show mrk 18 < 7 by decide) hρ4))
  have k22 : ∀ A, (rka 22 A < ρ) = True := fun A => eq_true (rka_lt rfl (Nat.lt_of_lt_of_le (show mrk 22 < 7 by decide) hρ4))
  have k52 : ∀ A, (rka 52 A < ρ) = True := fun A => eq_true (rka_lt rfl (Nat.lt_of_lt_of_le (show mrk 52 < 7 by decide) hρ4))
  have kK : (rka 46 [.ref 105, .int (nI o)] < ρ) = True := eq_true (show 6 + 8 * (8 - ixn (nI o)) < ρ by omega)
  have g5 : rfv (RG nw sp s2 ai 105 5) = .ref u := by rw [hua]; exact (rd_rg (s := ai + 1) rfl).2.2.2.2
  obtain ⟨y1, y2, -⟩ := ru_sh hu
  have key : ∀ f i p I, i + f = 1600 → TKs I T n c → CDX I T n c u p → ∃ J, (∀ r, Ev L xs ρ 45 7 [some (.ref 105), some (.int (nI o)), some (.int (nI i))] [] (179, I, Lm, RG nw sp s2 ai) r ↔ r = (none, 179, J, Lm, RG nw sp s2 ai)) ∧ CDX J T n c u (loopP T n c 299 1 301 2 F f p) ∧ FX I J (EX u) := by
    intro f
    induction f with
    | zero =>
      intro i p I hi hT h
      have c1 : ((1600 : Int32) ≤ nI i) = True := eq_true (by rw [show i = 1600 by omega]; decide)
      refine ⟨I, fun r => ?_, h, fxRf⟩
      rw [x45_7]
      simp only [x45_0, x45_1, x45_2, x45_5, x45_6, x45_8, x45_11, x45_14, x45_15, x45_18, x45_21, x45_22, x45_25, x45_28, x45_31, x45_32, x45_33, x45_36, x45_37, x45_40, x45_43, x45_46, x45_49, x45_50, x45_53, x45_56, x45_59, x45_60, x45_61, x45_64, x45_65, x45_68, x45_71, x45_74, x45_77, x45_78, x45_81, x45_84, sh_105, lq_105, sh_106, lq_106, sh_108, lq_108, sh_109, lq_109, sh_110, lq_110, sh_111, lq_111, rg_105_0, rg_106_1, rg_106_2, rg_106_3, rg_106_4, ex5, Option.toList_some, Option.toList_none, List.cons_append, List.nil_append, true_and, and_true, nI_1, p_at, p_set, p_isIn, p_max, p_min, p_abs, c1, if_true]
    | succ f ih =>
      intro i p I hi hT h
      have c1 : ((1600 : Int32) ≤ nI i) = False := eq_false (nI_ge (a := i) (b := 1600) (by omega) (by decide))
      have gd := fun r => c_isGood (L := L) (xs := xs) (Lm := Lm) (nw := nw) (sp := sp) (s2 := s2) (ai := ai) h.1 r
      by_cases hp : p.1.1 = 0
      · rw [if_pos hp] at gd
        have go : ∀ m x J1, x = cOf m → CDX J1 T n c u (nxP p) → FX I J1 (EX u) → ∃ J2 J3 J, (∀ r, Em L xs 46 [.ref 105, .int (nI o)] (179, J1, Lm, RG nw sp s2 ai) r ↔ r = (none, 179, J2, Lm, RG nw sp s2 ai)) ∧ (∀ r, Em L xs 52 [.ref u, .int x] (179, J2, Lm, RG nw sp s2 ai) r ↔ r = (none, 179, J3, Lm, RG nw sp s2 ai)) ∧ (∀ r, Ev L xs ρ 45 7 [some (.ref 105), some (.int (nI o)), some (.int (nI (i + 1)))] [] (179, J3, Lm, RG nw sp s2 ai) r ↔ r = (none, 179, J, Lm, RG nw sp s2 ai)) ∧ CDX J T n c u (loopP T n c 299 1 301 2 F f (adP m (F (nxP p)))) ∧ FX I J (EX u) := fun m x J1 hx x1 F1 => by
          obtain ⟨J2, a1, x2, f2⟩ := hF J1 (nxP p) (F1.tksX hu hT) x1
          have F2 := fxTr F1 f2
          obtain ⟨J3, b1, x3, f3⟩ := c_addX (m := m) (x := x) (L := L) (xs := xs) (Lm := Lm) (nw := nw) (sp := sp) (s2 := s2) (ai := ai) hu hX x2 (fun z => sm_sl hM hp (cx_sl h hp).1 z) (fun _ => hx)
          have F3 := fxTr F2 f3
          obtain ⟨J4, d1, x4, f4⟩ := ih (i + 1) _ J3 (by omega) (F3.tksX hu hT) x3
          exact ⟨J2, J3, J4, a1, b1, d1, x4, fxTr F3 f4⟩
        obtain ⟨J1, a1, a2, a3⟩ := c_takes (w := 299) (L := L) (xs := xs) (Lm := Lm) (nw := nw) (sp := sp) (s2 := s2) (ai := ai) (by decide) (by decide) hX hT h.1
        have a1 : ∀ r, Em L xs 22 [.ref 105, .int 299] (179, I, Lm, RG nw sp s2 ai) r ↔ r = (some (.int (if p.1.1 = 0 ∧ wq T n c p.1.2.2 = 299 then 1 else 0)), 179, J1, Lm, RG nw sp s2 ai) := fun r => a1 r
        have F1 : FX I J1 (EX u) := fxCF a3 eX0
        by_cases d1 : wq T n c p.1.2.2 = 299
        · rw [if_pos ⟨hp, d1⟩] at a1
          rw [show tkz T n c 299 p.1 = (0, 0, p.1.2.2 + 1) from if_pos ⟨hp, d1⟩] at a2
          obtain ⟨J2, J3, J, b1, b2, b3, b4, b5⟩ := go 1 10011 J1 (by decide) (cxCF h hu a3 a2 (fun _ => ⟨hp, Nat.le_succ _⟩)) F1
          rw [show loopP T n c 299 1 301 2 F (f + 1) p = loopP T n c 299 1 301 2 F f (adP 1 (F (nxP p))) from by show (if _ then _ else _) = _; rw [if_pos hp, if_pos d1]]
          refine ⟨J, fun r => ?_, b4, b5⟩
          rw [x45_7]
          simp only [x45_0, x45_1, x45_2, x45_5, x45_6, x45_8, x45_11, x45_14, x45_15, x45_18, x45_21, x45_22, x45_25, x45_28, x45_31, x45_32, x45_33, x45_36, x45_37, x45_40, x45_43, x45_46, x45_49, x45_50, x45_53, x45_56, x45_59, x45_60, x45_61, x45_64, x45_65, x45_68, x45_71, x45_74, x45_77, x45_78, x45_81, x45_84, sh_105, lq_105, sh_106, lq_106, sh_108, lq_108, sh_109, lq_109, sh_110, lq_110, sh_111, lq_111, rg_105_0, rg_106_1, rg_106_2, rg_106_3, rg_106_4, ex5, Option.toList_some, Option.toList_none, List.cons_append, List.nil_append, true_and, and_true, nI_1, p_at, p_set, p_isIn, p_max, p_min, p_abs, c1, if_false, k18, k22, kK, k52, gd, one_ne, a1, b1, g5, y1, y2, b2, b3]
        rw [if_neg (fun z => d1 z.2)] at a1
        rw [show tkz T n c 299 p.1 = p.1 from if_neg (fun z => d1 z.2)] at a2
        obtain ⟨J2, e1, e2, e3⟩ := c_takes (w := 301) (L := L) (xs := xs) (Lm := Lm) (nw := nw) (sp := sp) (s2 := s2) (ai := ai) (by decide) (by decide) hX (F1.tksX hu hT) a2
        have e1 : ∀ r, Em L xs 22 [.ref 105, .int 301] (179, J1, Lm, RG nw sp s2 ai) r ↔ r = (some (.int (if p.1.1 = 0 ∧ wq T n c p.1.2.2 = 301 then 1 else 0)), 179, J2, Lm, RG nw sp s2 ai) := fun r => e1 r
        have a3 := cfTr a3 e3
        have F2 : FX I J2 (EX u) := fxCF a3 eX0
        by_cases d2 : wq T n c p.1.2.2 = 301
        · rw [if_pos ⟨hp, d2⟩] at e1
          rw [show tkz T n c 301 p.1 = (0, 0, p.1.2.2 + 1) from if_pos ⟨hp, d2⟩] at e2
          obtain ⟨J3, J4, J, b1, b2, b3, b4, b5⟩ := go 2 10012 J2 (by decide) (cxCF h hu a3 e2 (fun _ => ⟨hp, Nat.le_succ _⟩)) F2
          rw [show loopP T n c 299 1 301 2 F (f + 1) p = loopP T n c 299 1 301 2 F f (adP 2 (F (nxP p))) from by show (if _ then _ else _) = _; rw [if_pos hp, if_neg d1, if_pos d2]]
          refine ⟨J, fun r => ?_, b4, b5⟩
          rw [x45_7]
          simp only [x45_0, x45_1, x45_2, x45_5, x45_6, x45_8, x45_11, x45_14, x45_15, x45_18, x45_21, x45_22, x45_25, x45_28, x45_31, x45_32, x45_33, x45_36, x45_37, x45_40, x45_43, x45_46, x45_49, x45_50, x45_53, x45_56, x45_59, x45_60, x45_61, x45_64, x45_65, x45_68, x45_71, x45_74, x45_77, x45_78, x45_81, x45_84, sh_105, lq_105, sh_106, lq_106, sh_108, lq_108, sh_109, lq_109, sh_110, lq_110, sh_111, lq_111, rg_105_0, rg_106_1, rg_106_2, rg_106_3, rg_106_4, ex5, Option.toList_some, Option.toList_none, List.cons_append, List.nil_append, true_and, and_true, nI_1, p_at, p_set, p_isIn, p_max, p_min, p_abs, c1, if_false, k18, k22, kK, k52, gd, one_ne, a1, if_true, e1, b1, g5, y1, y2, b2, b3]
        rw [if_neg (fun z => d2 z.2)] at e1
        rw [show tkz T n c 301 p.1 = p.1 from if_neg (fun z => d2 z.2)] at e2
        rw [show loopP T n c 299 1 301 2 F (f + 1) p = p from by show (if _ then _ else _) = _; rw [if_pos hp, if_neg d1, if_neg d2]]
        refine ⟨J2, fun r => ?_, cxCF h hu a3 e2 (fun z => ⟨z, Nat.le_refl _⟩), F2⟩
        rw [x45_7]
        simp only [x45_0, x45_1, x45_2, x45_5, x45_6, x45_8, x45_11, x45_14, x45_15, x45_18, x45_21, x45_22, x45_25, x45_28, x45_31, x45_32, x45_33, x45_36, x45_37, x45_40, x45_43, x45_46, x45_49, x45_50, x45_53, x45_56, x45_59, x45_60, x45_61, x45_64, x45_65, x45_68, x45_71, x45_74, x45_77, x45_78, x45_81, x45_84, sh_105, lq_105, sh_106, lq_106, sh_108, lq_108, sh_109, lq_109, sh_110, lq_110, sh_111, lq_111, rg_105_0, rg_106_1, rg_106_2, rg_106_3, rg_106_4, ex5, Option.toList_some, Option.toList_none, List.cons_append, List.nil_append, true_and, and_true, nI_1, p_at, p_set, p_isIn, p_max, p_min, p_abs, c1, if_false, k18, k22, gd, one_ne, a1, if_true, e1]
      · rw [if_neg hp] at gd
        rw [show loopP T n c 299 1 301 2 F (f + 1) p = p from if_neg hp]
        refine ⟨I, fun r => ?_, h, fxRf⟩
        rw [x45_7]
        simp only [x45_0, x45_1, x45_2, x45_5, x45_6, x45_8, x45_11, x45_14, x45_15, x45_18, x45_21, x45_22, x45_25, x45_28, x45_31, x45_32, x45_33, x45_36, x45_37, x45_40, x45_43, x45_46, x45_49, x45_50, x45_53, x45_56, x45_59, x45_60, x45_61, x45_64, x45_65, x45_68, x45_71, x45_74, x45_77, x45_78, x45_81, x45_84, sh_105, lq_105, sh_106, lq_106, sh_108, lq_108, sh_109, lq_109, sh_110, lq_110, sh_111, lq_111, rg_105_0, rg_106_1, rg_106_2, rg_106_3, rg_106_4, ex5, Option.toList_some, Option.toList_none, List.cons_append, List.nil_append, true_and, and_true, nI_1, p_at, p_set, p_isIn, p_max, p_min, p_abs, c1, if_false, k18, gd, if_true]
  obtain ⟨J0, a1, x1, f1⟩ := hF I p hT h
  obtain ⟨J, b1, b2, b3⟩ := key 1600 0 (F p) J0 rfl (f1.tksX hu hT) x1
  rw [nI_0] at b1
  refine ⟨J, fun r => ?_, b2, fxTr f1 b3⟩
  rw [em_45, hρ]
  simp only [x45_0, x45_1, x45_2, x45_5, x45_6, x45_8, x45_11, x45_14, x45_15, x45_18, x45_21, x45_22, x45_25, x45_28, x45_31, x45_32, x45_33, x45_36, x45_37, x45_40, x45_43, x45_46, x45_49, x45_50, x45_53, x45_56, x45_59, x45_60, x45_61, x45_64, x45_65, x45_68, x45_71, x45_74, x45_77, x45_78, x45_81, x45_84, sh_105, lq_105, sh_106, lq_106, sh_108, lq_108, sh_109, lq_109, sh_110, lq_110, sh_111, lq_111, rg_105_0, rg_106_1, rg_106_2, rg_106_3, rg_106_4, ex5, Option.toList_some, Option.toList_none, List.cons_append, List.nil_append, true_and, and_true, nI_1, p_at, p_set, p_isIn, p_max, p_min, p_abs, kK, a1, b1]
/-- what the class reads where o are open -/
theorem c_sumAll (hu : u = 64 ∨ u = 98) (hua : u = ai + 27) (hX : TX T n c) : ∀ g o, o + g = 6 → CM L xs Lm nw sp s2 ai T n c u 45 o (pSum T n c g)
  | 0, o, h => c_sum hu hua hX (by omega) (c_product hu hua hX (by omega) (c_piece hu hua hX (by omega) ⟨(fun z => by cases z), fun z => absurd z (by omega)⟩ (fun z => by cases z) (fun z => by cases z)) (sm_piece (fun z => by cases z))) (sm_run (sm_piece (fun z => by cases z)))
  | g + 1, o, h => c_sum hu hua hX (by omega) (c_product hu hua hX (by omega) (c_piece hu hua hX (by omega) ⟨fun _ => by omega, fun _ => rfl⟩ (fun _ => c_sumAll hu hua hX g (o + 1) (by omega)) (fun _ => sm_sum g)) (sm_piece (fun _ => sm_sum g))) (sm_run (sm_piece (fun _ => sm_sum g)))
end
