/-! the class reads sums -/
section
variable {L : Nat} {xs : Nat → Int32} {σ : Mm} {r : Option Value × Mm} {I J K : Nat → Nat → Int32} {Lm : Nat → Nat → Int64} {Rm : Nat → Nat → Nat} {n s so t N NS NH m M P nw U : Nat} {V W : Vw} {sp s2 ai p : Nat} {x y z h v : Int32} {k c w lo hi a u o g : Nat} {T : Nat → Nat} {q : Rz} {p p2 : Pz} {F F2 S : Pz → Pz} {b : Bool} {E E2 : Nat → Nat → Prop}

theorem sm_loop {w1 m1 w2 m2 : Nat} (hF : SM F) : ∀ f p, (loopP T n c w1 m1 w2 m2 F f p).1.1 = 0 → p.1.1 = 0 ∧ (loopP T n c w1 m1 w2 m2 F f p).2.length + p.1.2.2 ≤ (loopP T n c w1 m1 w2 m2 F f p).1.2.2 + p.2.length ∧ p.1.2.2 ≤ (loopP T n c w1 m1 w2 m2 F f p).1.2.2 := by
  intro f
  induction f with
  | zero => intro p h; exact ⟨h, by show p.2.length + p.1.2.2 ≤ p.1.2.2 + p.2.length; omega, Nat.le_refl _⟩
  | succ f ih =>
    intro p h
    have two : ∀ m, (loopP T n c w1 m1 w2 m2 F f (adP m (F (nxP p)))).1.1 = 0 → (loopP T n c w1 m1 w2 m2 F f (adP m (F (nxP p)))).2.length + p.1.2.2 ≤ (loopP T n c w1 m1 w2 m2 F f (adP m (F (nxP p)))).1.2.2 + p.2.length ∧ p.1.2.2 ≤ (loopP T n c w1 m1 w2 m2 F f (adP m (F (nxP p)))).1.2.2 := fun m h => by
      obtain ⟨i1, i2, i3⟩ := ih _ h
      obtain ⟨j1, j2, j3⟩ := hF (nxP p) i1
      have e1 : (adP m (F (nxP p))).2.length = (F (nxP p)).2.length + 1 := by show ((F (nxP p)).2 ++ [m]).length = _; rw [List.length_append]; rfl
      have e2 : (adP m (F (nxP p))).1 = (F (nxP p)).1 := rfl
      have e3 : (nxP p).2 = p.2 := rfl
      have e4 : (nxP p).1.2.2 = p.1.2.2 + 1 := rfl
      rw [e1, e2] at i2
      rw [e2] at i3
      rw [e3, e4] at j2
      rw [e4] at j3
      omega
    unfold loopP at h ⊢
    by_cases z : p.1.1 = 0
    · rw [if_pos z] at h ⊢
      by_cases y1 : wq T n c p.1.2.2 = w1
      · rw [if_pos y1] at h ⊢; exact ⟨z, two m1 h⟩
      · rw [if_neg y1] at h ⊢
        by_cases y2 : wq T n c p.1.2.2 = w2
        · rw [if_pos y2] at h ⊢; exact ⟨z, two m2 h⟩
        · rw [if_neg y2]; exact ⟨z, by omega, Nat.le_refl _⟩
    · rw [if_neg z] at h; exact (z h).elim
theorem sm_run {w1 m1 w2 m2 f : Nat} (hF : SM F) : SM (fun p => loopP T n c w1 m1 w2 m2 F f (F p)) := fun p h => by
  obtain ⟨i1, i2, i3⟩ := sm_loop hF f (F p) h
  obtain ⟨j1, j2, j3⟩ := hF p i1
  refine ⟨j1, ?_, ?_⟩
  · show (loopP T n c w1 m1 w2 m2 F f (F p)).2.length + p.1.2.2 ≤ (loopP T n c w1 m1 w2 m2 F f (F p)).1.2.2 + p.2.length
    omega
  · show p.1.2.2 < (loopP T n c w1 m1 w2 m2 F f (F p)).1.2.2
    omega
theorem sm_two {m : Nat} (hS : b = true → SM S) (hp : p.1.1 = 0) (h : (twoP T n c b S m p).1.1 = 0) : (twoP T n c b S m p).2.length + p.1.2.2 ≤ (twoP T n c b S m p).1.2.2 + p.2.length ∧ p.1.2.2 < (twoP T n c b S m p).1.2.2 := by
  unfold twoP at h ⊢
  by_cases z : wq T n c p.1.2.2 = 296
  · rw [if_pos z] at h ⊢
    by_cases y : b = true
    · rw [if_pos y] at h ⊢
      have a1 : (asz T n c 297 (S (qP (asz T n c 300) (S (nxP p)))).1).1 = 0 := h
      obtain ⟨a2, a3⟩ := asz_g a1
      obtain ⟨b1, b2, b3⟩ := hS y _ a2
      have a4 : (asz T n c 300 (S (nxP p)).1).1 = 0 := b1
      obtain ⟨a5, a6⟩ := asz_g a4
      obtain ⟨c1, c2, c3⟩ := hS y _ a5
      have e3 : (nxP p).2 = p.2 := rfl
      have e4 : (nxP p).1.2.2 = p.1.2.2 + 1 := rfl
      rw [e3, e4] at c2
      rw [e4] at c3
      have e5 : (qP (asz T n c 300) (S (nxP p))).1.2.2 = (S (nxP p)).1.2.2 + 1 := a6
      have e6 : (qP (asz T n c 300) (S (nxP p))).2 = (S (nxP p)).2 := rfl
      rw [e5, e6] at b2
      rw [e5] at b3
      have e7 : (adP m (qP (asz T n c 297) (S (qP (asz T n c 300) (S (nxP p)))))).2.length = (S (qP (asz T n c 300) (S (nxP p)))).2.length + 1 := by show ((S (qP (asz T n c 300) (S (nxP p)))).2 ++ [m]).length = _; rw [List.length_append]; rfl
      have e8 : (adP m (qP (asz T n c 297) (S (qP (asz T n c 300) (S (nxP p)))))).1.2.2 = (S (qP (asz T n c 300) (S (nxP p)))).1.2.2 + 1 := a3
      rw [e7, e8]
      omega
    · rw [if_neg y] at h; cases h
  · rw [if_neg z] at h
    have h : (flz T n 1 0 p.1).1 = 0 := h
    rw [show flz T n 1 0 p.1 = (1, frW T n p.1.2.2, 0) from if_pos hp] at h
    cases h
theorem sm_piece (hS : b = true → SM S) : SM (pieceP T n c b S) := fun p h => by
  unfold pieceP at h ⊢
  have e3 : (nxP p).2 = p.2 := rfl
  have e4 : (nxP p).1.2.2 = p.1.2.2 + 1 := rfl
  by_cases z : p.1.1 = 0
  · rw [if_pos z] at h ⊢
    refine ⟨z, ?_⟩
    by_cases y1 : wq T n c p.1.2.2 = 31
    · rw [if_pos y1] at h ⊢
      have := sm_two hS rfl h
      rw [e3, e4] at this; omega
    rw [if_neg y1] at h ⊢
    by_cases y2 : wq T n c p.1.2.2 = 32
    · rw [if_pos y2] at h ⊢
      have := sm_two hS rfl h
      rw [e3, e4] at this; omega
    rw [if_neg y2] at h ⊢
    by_cases y3 : isF (wq T n c p.1.2.2)
    · rw [if_pos y3]
      have e7 : (adP (fcN (wq T n c p.1.2.2)) (nxP p)).2.length = p.2.length + 1 := by show (p.2 ++ [_]).length = _; rw [List.length_append]; rfl
      have e8 : (adP (fcN (wq T n c p.1.2.2)) (nxP p)).1.2.2 = p.1.2.2 + 1 := rfl
      rw [e7, e8]; omega
    rw [if_neg y3] at h ⊢
    by_cases y4 : wq T n c p.1.2.2 = 296
    · rw [if_pos y4] at h ⊢
      by_cases y : b = true
      · rw [if_pos y] at h ⊢
        have a1 : (asz T n c 297 (S (nxP p)).1).1 = 0 := h
        obtain ⟨a2, a3⟩ := asz_g a1
        obtain ⟨c1, c2, c3⟩ := hS y _ a2
        rw [e3, e4] at c2
        rw [e4] at c3
        have e5 : (qP (asz T n c 297) (S (nxP p))).1.2.2 = (S (nxP p)).1.2.2 + 1 := a3
        have e6 : (qP (asz T n c 297) (S (nxP p))).2 = (S (nxP p)).2 := rfl
        rw [e5, e6]; omega
      · rw [if_neg y] at h; cases h
    · rw [if_neg y4] at h ⊢
      have a1 : (nbz T n c 0 9999 p.1).1 = 0 := h
      obtain ⟨a2, a3⟩ := nbz_g a1
      have e7 : (adP (1000 + nbW T n p.1.2.2) (qP (nbz T n c 0 9999) p)).2.length = p.2.length + 1 := by show (p.2 ++ [_]).length = _; rw [List.length_append]; rfl
      have e8 : (adP (1000 + nbW T n p.1.2.2) (qP (nbz T n c 0 9999) p)).1.2.2 = p.1.2.2 + 1 := a3
      rw [e7, e8]; omega
  · rw [if_neg z] at h; exact (z h).elim
theorem sm_sum : ∀ g, SM (pSum T n c g)
  | 0 => sm_run (sm_run (sm_piece (fun z => by cases z)))
  | g + 1 => sm_run (sm_run (sm_piece (fun _ => sm_sum g)))
/-- room for one code more -/
theorem sm_sl (hF : SM F) (hp : p.1.1 = 0) (hl : p.2.length ≤ p.1.2.2) (z : (F (nxP p)).1.1 = 0) : (F (nxP p)).2.length < (F (nxP p)).1.2.2 := by
  obtain ⟨-, c2, -⟩ := hF (nxP p) z
  have e3 : (nxP p).2 = p.2 := rfl
  have e4 : (nxP p).1.2.2 = p.1.2.2 + 1 := rfl
  rw [e3, e4] at c2; omega
theorem cx_sl (h : CDX I T n c u p) (hp : p.1.1 = 0) : p.2.length ≤ p.1.2.2 ∧ p.1.2.2 ≤ c := ⟨(h.2.2 hp).2.1, (h.1.2.2.1 hp).2⟩
/-- with a fault the codes are nobody's -/
theorem cx_bad (h : CDX I T n c u p) (hp : ¬ p.1.1 = 0) (hq : p2.1 = p.1) : CDX I T n c u p2 := ⟨by rw [hq]; exact h.1, h.2.1, fun z => by rw [hq] at z; exact (hp z).elim⟩
theorem fc_ok {w : Nat} (h : isF w) : (cOf (fcN w) - 10000 = -1) = False ∧ (10000 : Int32) + (cOf (fcN w) - 10000) = cOf (fcN w) := by
  have : w = 2 ∨ w = 24 ∨ w = 25 ∨ w = 26 ∨ w = 27 ∨ w = 28 ∨ w = 29 ∨ w = 30 := by unfold isF at h; omega
  rcases this with rfl | rfl | rfl | rfl | rfl | rfl | rfl | rfl <;> exact ⟨eq_false (by decide), by decide⟩
theorem cOf_num (k : Nat) : cOf (1000 + k) = nI k := by
  have : cdN (1000 + k) = 1000 + k - 1000 := by unfold cdN; split <;> omega
  unfold cOf
  rw [this]
  exact congrArg nI (by omega)
theorem c_addX {m : Nat} (hu : u = 64 ∨ u = 98) (hX : TX T n c) (h : CDX I T n c u p) (hl : p.1.1 = 0 → p.2.length < p.1.2.2) (hx : p.1.1 = 0 → x = cOf m) : ∃ J, (∀ r, Em L xs 52 [.ref u, .int x] (179, I, Lm, RG nw sp s2 ai) r ↔ r = (none, 179, J, Lm, RG nw sp s2 ai)) ∧ CDX J T n c u (adP m p) ∧ FX I J (EX u) :=
  c_add hu h (fun z => ⟨hl z, by have := (cx_sl h z).2; have := hX.1; have := hX.2.1; omega, hx z⟩)
theorem c_ofTwo {m : Nat} (hu : u = 64 ∨ u = 98) (hua : u = ai + 27) (hX : TX T n c) (ho : o ≤ 6) (hb : b = true ↔ o < 6) (hS : b = true → CM L xs Lm nw sp s2 ai T n c u 45 (o + 1) S) (hM : b = true → SM S) (hT : TKs I T n c) (h : CDX I T n c u p) (hp : p.1.1 = 0) (hl : p.2.length < p.1.2.2) : ∃ J, (∀ r, Em L xs 48 [.ref 105, .int (nI o), .int (cOf m)] (179, I, Lm, RG nw sp s2 ai) r ↔ r = (none, 179, J, Lm, RG nw sp s2 ai)) ∧ CDX J T n c u (twoP T n c b S m p) ∧ FX I J (EX u) := by
  have hw := wq_b hX p.1.2.2
  have ah := fun r => c_ahead (L := L) (xs := xs) (Lm := Lm) (nw := nw) (sp := sp) (s2 := s2) (ai := ai) hX hT h.1 r
  rw [show ahV T n c p.1 = wq T n c p.1.2.2 from if_pos hp] at ah
  obtain ⟨ρ, hρ⟩ : ∃ ρ, 4 + 8 * (8 - ixn (nI o)) = ρ := ⟨_, rfl⟩
  have hρ' := hρ
  rw [ixn_nI (by omega)] at hρ'
  have hρ4 : 4 ≤ ρ := by omega
  have k20 : (rka 20 [.ref 105] < ρ) = True := eq_true (rka_lt rfl (Nat.lt_of_lt_of_le (show mrk 20 < 4 by decide) hρ4))
  have k21 : ∀ A, (rka 21 A < ρ) = True := fun A => eq_true (rka_lt rfl (Nat.lt_of_lt_of_le (show mrk 21 < 4 by decide) hρ4))
  have k44 : ∀ A, (rka 44 A < ρ) = True := fun A => eq_true (rka_lt rfl (Nat.lt_of_lt_of_le (show mrk 44 < 4 by decide) hρ4))
  have k23 : ∀ A, (rka 23 A < ρ) = True := fun A => eq_true (rka_lt rfl (Nat.lt_of_lt_of_le (show mrk 23 < 4 by decide) hρ4))
  have k52 : ∀ A, (rka 52 A < ρ) = True := fun A => eq_true (rka_lt rfl (Nat.lt_of_lt_of_le (show mrk 52 < 4 by decide) hρ4))
  have k45 : (rka 45 [.ref 105, .int (nI (o + 1))] < ρ) = True := eq_true (show 7 + 8 * (8 - ixn (nI (o + 1))) < ρ by rw [ixn_nI (by omega)]; omega)
  have g5 : rfv (RG nw sp s2 ai 105 5) = .ref u := by rw [hua]; exact (rd_rg (s := ai + 1) rfl).2.2.2.2
  obtain ⟨y1, y2, -⟩ := ru_sh hu
  have n1 : nI 1 = 1 := rfl
  unfold twoP
  by_cases e : wq T n c p.1.2.2 = 296
  · have c1 : (nI (wq T n c p.1.2.2) = 296) = True := eq_true (by rw [e]; rfl)
    have k1 : p.1.2.2 < c := wq_c (T := T) (n := n) (c := c) (k := p.1.2.2) (by omega)
    obtain ⟨J1, a1, a2, a3⟩ := c_opens (L := L) (xs := xs) (Lm := Lm) (nw := nw) (sp := sp) (s2 := s2) (ai := ai) ho hX hT h.1 hp k1
    rw [if_pos e]
    by_cases hb1 : b = true
    · have o6 := hb.mp hb1
      rw [if_pos o6] at a1 a2
      rw [if_pos hb1]
      have x1 : CDX J1 T n c u (nxP p) := cxCF h hu a3 a2 (fun _ => ⟨hp, Nat.le_succ _⟩)
      have F1 : FX I J1 (EX u) := fxCF a3 eX0
      obtain ⟨J2, b1, x2, f2⟩ := hS hb1 J1 (nxP p) (F1.tksX hu hT) x1
      have F2 := fxTr F1 f2
      obtain ⟨J3, c1', c2, c3⟩ := c_need (w := 300) (L := L) (xs := xs) (Lm := Lm) (nw := nw) (sp := sp) (s2 := s2) (ai := ai) (by decide) (by decide) hX (F2.tksX hu hT) x2.1
      have c1' : ∀ r, Em L xs 23 [.ref 105, .int 300] (179, J2, Lm, RG nw sp s2 ai) r ↔ r = (none, 179, J3, Lm, RG nw sp s2 ai) := fun r => c1' r
      have x3 : CDX J3 T n c u (qP (asz T n c 300) (S (nxP p))) := cxCF x2 hu c3 c2 (fun z => ⟨(asz_g z).1, by rw [(asz_g z).2]; exact Nat.le_succ _⟩)
      have F3 := fxTr F2 (fxCF c3 eX0)
      obtain ⟨J4, d1, x4, f4⟩ := hS hb1 J3 _ (F3.tksX hu hT) x3
      have F4 := fxTr F3 f4
      obtain ⟨J5, e1, e2, e3⟩ := c_need (w := 297) (L := L) (xs := xs) (Lm := Lm) (nw := nw) (sp := sp) (s2 := s2) (ai := ai) (by decide) (by decide) hX (F4.tksX hu hT) x4.1
      have e1 : ∀ r, Em L xs 23 [.ref 105, .int 297] (179, J4, Lm, RG nw sp s2 ai) r ↔ r = (none, 179, J5, Lm, RG nw sp s2 ai) := fun r => e1 r
      have x5 : CDX J5 T n c u (qP (asz T n c 297) (S (qP (asz T n c 300) (S (nxP p))))) := cxCF x4 hu e3 e2 (fun z => ⟨(asz_g z).1, by rw [(asz_g z).2]; exact Nat.le_succ _⟩)
      have F5 := fxTr F4 (fxCF e3 eX0)
      obtain ⟨J6, g1, x6, f6⟩ := c_addX (m := m) (x := cOf m) (L := L) (xs := xs) (Lm := Lm) (nw := nw) (sp := sp) (s2 := s2) (ai := ai) hu hX x5 (fun z => by
        obtain ⟨a2, a3⟩ := asz_g (show (asz T n c 297 (S (qP (asz T n c 300) (S (nxP p)))).1).1 = 0 from z)
        show (S (qP (asz T n c 300) (S (nxP p)))).2.length < (asz T n c 297 (S (qP (asz T n c 300) (S (nxP p)))).1).2.2
        rw [a3]
        have := (cx_sl x4 a2).1
        omega) (fun _ => rfl)
      refine ⟨J6, fun r => ?_, x6, fxTr F5 f6⟩
      rw [em_48, hρ]
      simp only [x48_0, x48_1, x48_4, x48_7, x48_10, x48_11, x48_12, x48_13, x48_16, x48_19, x48_20, x48_21, x48_24, x48_27, x48_28, x48_29, x48_30, x48_31, x48_34, x48_35, x48_38, x48_41, x48_42, x48_43, x48_44, x48_45, x48_48, x48_49, x48_52, x48_55, x48_56, x48_59, x48_60, x48_63, sh_105, lq_105, sh_106, lq_106, sh_108, lq_108, sh_109, lq_109, sh_110, lq_110, sh_111, lq_111, rg_105_0, rg_106_1, rg_106_2, rg_106_3, rg_106_4, ex5, Option.toList_some, Option.toList_none, List.cons_append, List.nil_append, true_and, and_true, nI_1, p_at, p_set, p_isIn, p_max, p_min, p_abs, k20, k21, k44, k23, k52, k45, ah, c1, if_true, a1, one_ne, if_false, b1, c1', d1, e1, g5, y1, y2, g1]
    · have o6 : ¬ o < 6 := fun z => hb1 (hb.mpr z)
      rw [if_neg o6] at a1 a2
      rw [if_neg hb1]
      refine ⟨J1, fun r => ?_, cxCF h hu a3 a2 (fun z => by cases z), fxCF a3 eX0⟩
      rw [em_48, hρ]
      simp only [x48_0, x48_1, x48_4, x48_7, x48_10, x48_11, x48_12, x48_13, x48_16, x48_19, x48_20, x48_21, x48_24, x48_27, x48_28, x48_29, x48_30, x48_31, x48_34, x48_35, x48_38, x48_41, x48_42, x48_43, x48_44, x48_45, x48_48, x48_49, x48_52, x48_55, x48_56, x48_59, x48_60, x48_63, sh_105, lq_105, sh_106, lq_106, sh_108, lq_108, sh_109, lq_109, sh_110, lq_110, sh_111, lq_111, rg_105_0, rg_106_1, rg_106_2, rg_106_3, rg_106_4, ex5, Option.toList_some, Option.toList_none, List.cons_append, List.nil_append, true_and, and_true, nI_1, p_at, p_set, p_isIn, p_max, p_min, p_abs, k20, k44, ah, c1, if_true, a1]
  · have c1 : (nI (wq T n c p.1.2.2) = 296) = False := eq_false (fun z => e ((nI_eq (b := 296) (by omega) (by decide)).mp z))
    obtain ⟨J1, f1, f2, f3⟩ := c_fail (fu := 0) (kd := 1) (L := L) (xs := xs) (Lm := Lm) (nw := nw) (sp := sp) (s2 := s2) (ai := ai) (by decide) (by decide) hX hT h.1
    rw [n1, nI_0] at f1
    rw [if_neg e]
    refine ⟨J1, fun r => ?_, cxCF h hu f3 f2 (fun z => by rw [show flz T n 1 0 p.1 = (1, frW T n p.1.2.2 + 0, 0) from if_pos hp] at z; cases z), fxCF f3 eX0⟩
    rw [em_48, hρ]
    simp only [x48_0, x48_1, x48_4, x48_7, x48_10, x48_11, x48_12, x48_13, x48_16, x48_19, x48_20, x48_21, x48_24, x48_27, x48_28, x48_29, x48_30, x48_31, x48_34, x48_35, x48_38, x48_41, x48_42, x48_43, x48_44, x48_45, x48_48, x48_49, x48_52, x48_55, x48_56, x48_59, x48_60, x48_63, sh_105, lq_105, sh_106, lq_106, sh_108, lq_108, sh_109, lq_109, sh_110, lq_110, sh_111, lq_111, rg_105_0, rg_106_1, rg_106_2, rg_106_3, rg_106_4, ex5, Option.toList_some, Option.toList_none, List.cons_append, List.nil_append, true_and, and_true, nI_1, p_at, p_set, p_isIn, p_max, p_min, p_abs, k20, k21, ah, c1, if_false, f1]
end
