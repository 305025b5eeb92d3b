/-! the class reads: names, new and known -/
/-- the class's town that is read, at s -/
def RdC (J : Nat → Nat → Int32) (s : Nat) (V : Vw) (NS NH N M P : Nat) : Prop := (J (s + 16) 8 = nI N ∧ J (s + 9) 6 = nI NS ∧ J (s + 1) 5 = nI NH ∧ J s 6 = nI M ∧ J (s + 16) 9 = nI P) ∧
  (∀ k, k < N → J (s + 20) k = V 0 k ∧ J (s + 21) k = V 1 k ∧ J (s + 22) k = 0 ∧ J (s + 24) k = V 3 k ∧ J (s + 19) k = V 17 k) ∧
  (∀ k, k < NS → J (s + 10) k = V 15 k ∧ J (s + 11) k = V 4 k ∧ J (s + 12) k = V 5 k ∧ J (s + 13) k = V 6 k ∧ J (s + 14) k = V 7 k ∧ J (s + 15) k = V 8 k) ∧
  (∀ k, k < NH → J (s + 2) k = V 16 k ∧ J (s + 3) k = V 9 k ∧ J (s + 4) k = V 10 k ∧ J (s + 5) k = V 11 k ∧ J (s + 6) k = V 12 k) ∧
  (∀ k, k < P → J (s + 17) k = V 13 k ∧ J (s + 18) k = V 14 k)
/-- how many have a mate -/
def mtC (V : Vw) : Nat → Nat
  | 0 => 0
  | k + 1 => mtC V k + (if V 3 k = -1 then 0 else 1)
/-- the numbers of the town that is read -/
def RdW (V : Vw) (NS NH N M P : Nat) : Prop := (NS ≤ 6 ∧ NH ≤ 4 ∧ N ≤ 12 ∧ M ≤ 60 ∧ 2 * P = mtC V N) ∧
  (∀ k, k < N → inb (V 0 k) NS ∧ (V 1 k = -1 ∨ inb (V 1 k) NH) ∧ (V 3 k = -1 ∨ (inb (V 3 k) N ∧ V 3 k ≠ nI k))) ∧
  (∀ k, k < NS → rng (V 4 k) 0 99 ∧ rng (V 5 k) 0 99 ∧ rng (V 6 k) 0 100 ∧ rng (V 7 k) 0 999 ∧ rng (V 8 k) 1 9) ∧
  (∀ k, k < NH → rng (V 9 k) 0 100 ∧ rng (V 10 k) 0 60 ∧ rng (V 11 k) 0 100 ∧ rng (V 12 k) 0 3) ∧
  (∀ k, k < P → inb (V 13 k) N ∧ inb (V 14 k) N ∧ V 3 (ixn (V 13 k)) = V 14 k)
/-- the number of the name ahead -/
def nxI (T : Nat → Nat) (n k : Nat) : Int32 := nI (nmN T (frW T n k) (snW T n k) 6)
abbrev gvn (V : Vw) (NS NH N : Nat) (x : Int32) : Prop := ixF (V 15) x NS 0 < NS ∨ ixF (V 16) x NH 0 < NH ∨ ixF (V 17) x N 0 < N
def nnz (T : Nat → Nat) (n c : Nat) (V : Vw) (NS NH N : Nat) (q : Rz) : Rz := if q.1 = 0 ∧ (nmz T n c q).1 = 0 ∧ gvn V NS NH N (nxI T n q.2.2) then (3, frW T n q.2.2, 0) else nmz T n c q
def knz (T : Nat → Nat) (n c : Nat) (f : Nat → Int32) (m : Nat) (q : Rz) : Rz := if q.1 = 0 ∧ (nmz T n c q).1 = 0 ∧ ixF f (nxI T n q.2.2) m 0 = m then (3, frW T n q.2.2, 0) else nmz T n c q
abbrev upF (V : Vw) (N : Nat) (b x : Int32) : Prop := ixF (V 17) x N 0 < N ∧ ¬ nI (ixF (V 17) x N 0) = b ∧ V 3 (ixF (V 17) x N 0) = -1
def unz (T : Nat → Nat) (n c : Nat) (V : Vw) (N : Nat) (b : Int32) (q : Rz) : Rz := if q.1 = 0 ∧ (nmz T n c q).1 = 0 ∧ ¬ upF V N b (nxI T n q.2.2) then (3, frW T n q.2.2, 0) else nmz T n c q
theorem b01 {B : Prop} [Decidable B] : (if B then (1 : Int32) else 0) = 0 ∨ (if B then (1 : Int32) else 0) = 1 := by
  by_cases h : B
  · rw [if_pos h]; exact Or.inr rfl
  · rw [if_neg h]; exact Or.inl rfl
theorem rd_rg {nw sp s2 ai s : Nat} (hs : s = ai + 1) : rfv (RG nw sp s2 ai 105 1) = .ref s ∧ rfv (RG nw sp s2 ai 105 2) = .ref (s + 9) ∧ rfv (RG nw sp s2 ai 105 3) = .ref (s + 1) ∧ rfv (RG nw sp s2 ai 105 4) = .ref (s + 16) ∧ rfv (RG nw sp s2 ai 105 5) = .ref (s + 26) := by
  subst hs
  rw [rg_105_scene, rg_105_sorts, rg_105_hats, rg_105_people, rg_105_rules]
  exact ⟨rfl, rfl, rfl, rfl, rfl⟩
theorem rd_sc {ai s : Nat} (ha : ai = 37 ∨ ai = 71) (hs : s = ai + 1) : Sc s ∧ So (s + 9) ∧ 36 < s ∧ s < 73 ∧ wd s = 12 := by
  rcases ha with rfl | rfl <;> subst hs
  · exact ⟨Or.inr (Or.inl rfl), Or.inr (Or.inl rfl), by decide, by decide, rfl⟩
  · exact ⟨Or.inr (Or.inr rfl), Or.inr (Or.inr rfl), by decide, by decide, rfl⟩
/-- a name's token: its faults, in order -/
theorem nmz_1 {T : Nat → Nat} {n c : Nat} {q : Rz} : nmz T n c q = if (nm1 T n c q).1 = 0 then nxz q else nm1 T n c q := by
  unfold nmz nm1 nxz
  by_cases hb : q.1 = 0
  · rw [if_pos hb, if_pos hb]
    by_cases h4 : wq T n c q.2.2 = 40
    · rw [if_pos h4, if_pos h4]
      by_cases h6 : 6 < snW T n q.2.2
      · rw [if_pos h6, if_pos h6]; rfl
      · rw [if_neg h6, if_neg h6, if_pos hb, if_pos hb]
    · rw [if_neg h4, if_neg h4]; rfl
  · rw [if_neg hb, if_neg hb, if_neg hb]
theorem nm1_0 {T : Nat → Nat} {n c : Nat} {q : Rz} (h : (nm1 T n c q).1 = 0) : q.1 = 0 ∧ nm1 T n c q = q ∧ wq T n c q.2.2 = 40 ∧ ¬ 6 < snW T n q.2.2 := by
  unfold nm1 at h ⊢
  by_cases hb : q.1 = 0
  · rw [if_pos hb] at h ⊢
    by_cases h4 : wq T n c q.2.2 = 40
    · rw [if_pos h4] at h ⊢
      by_cases h6 : 6 < snW T n q.2.2
      · rw [if_pos h6] at h; cases h
      · rw [if_neg h6]; exact ⟨hb, rfl, h4, h6⟩
    · rw [if_neg h4] at h; cases h
  · rw [if_neg hb] at h; exact (hb h).elim
theorem nmz_0 {T : Nat → Nat} {n c : Nat} {q : Rz} : (nmz T n c q).1 = 0 ↔ (nm1 T n c q).1 = 0 := by
  rw [nmz_1]
  by_cases h : (nm1 T n c q).1 = 0
  · rw [if_pos h]
    have hb := (nm1_0 h).1
    exact ⟨fun _ => h, fun _ => by unfold nxz; rw [if_pos hb]⟩
  · rw [if_neg h]
section
variable {L : Nat} {xs : Nat → Int32} {σ : Mm} {r : Option Value × Mm} {I J K : Nat → Nat → Int32} {Lm : Nat → Nat → Int64} {Rm : Nat → Nat → Nat} {n s so t N NS NH m M P nw S U : Nat} {V W : Vw} {sp s2 ai p : Nat} {x y z h v : Int32} {k c w lo hi fu a : Nat} {T : Nat → Nat} {q : Rz} {f : Nat → Int32}
theorem c_nameNext (hX : TX T n c) (hT : TKs I T n c) (h : CS I T n c q) : ∃ J, (∀ r, Em L xs 26 [.ref 105] (179, I, Lm, RG nw sp s2 ai) r ↔ r = (some (.int (if (nm1 T n c q).1 = 0 then 1 else 0)), 179, J, Lm, RG nw sp s2 ai)) ∧ CS J T n c (nm1 T n c q) ∧ CF I J ∧ ((nm1 T n c q).1 = 0 → J = I) := by
  have ah := fun r => c_ahead (L := L) (xs := xs) (Lm := Lm) (nw := nw) (sp := sp) (s2 := s2) (ai := ai) hX hT h r
  have n1 : nI 1 = 1 := rfl
  have n6 : nI 6 = 6 := rfl
  have bad : ∀ {fu : Nat}, ∃ J, (∀ r, Em L xs 21 [.ref 105, .int (nI 1), .int (nI fu)] (179, I, Lm, RG nw sp s2 ai) r ↔ r = (none, 179, J, Lm, RG nw sp s2 ai)) ∧ CS J T n c (flz T n 1 fu q) ∧ CF I J := fun {fu} => c_fail (fu := fu) (kd := 1) (by decide) (by decide) hX hT h
  by_cases hb : q.1 = 0
  · obtain ⟨g1, g2, g3⟩ := cs_good h hb
    have ea : ahV T n c q = wq T n c q.2.2 := if_pos hb
    rw [ea] at ah
    by_cases h4 : wq T n c q.2.2 = 40
    · have k1 : q.2.2 < c := wq_c (by rw [h4]; decide)
      have hn := hX.1; have hcn := hX.2.1
      have hlt := tx_fr hX _ k1
      have tl := te_le (T := T) hlt
      have e40 : nI (wq T n c q.2.2) = 40 := by rw [h4]; rfl
      have a10 : atv I 110 (nI q.2.2) = nI (snW T n q.2.2) := (atv_lt (show q.2.2 < 1601 by omega)).trans (hT.1 _ k1).2.2.1
      have hs : snW T n q.2.2 < 2 ^ 31 := by unfold snW; omega
      by_cases h6 : 6 < snW T n q.2.2
      · have s6 : (nI (snW T n q.2.2) ≤ 6) = False := eq_false (nI_ge (a := 6) h6 hs)
        obtain ⟨J, f1, f2, f3⟩ := bad (fu := 6)
        rw [n1, n6] at f1
        have ez : nm1 T n c q = (1, frW T n q.2.2 + 6, 0) := by unfold nm1; rw [if_pos hb, if_pos h4, if_pos h6]
        rw [show flz T n 1 6 q = (1, frW T n q.2.2 + 6, 0) from if_pos hb] at f2
        have gd := fun r => c_isGood (L := L) (xs := xs) (Lm := Lm) (nw := nw) (sp := sp) (s2 := s2) (ai := ai) f2 r
        rw [ez]
        refine ⟨J, fun r => ?_, f2, f3, fun z => by cases z⟩
        rw [em_26]
        simp only [x26_0, x26_1, x26_4, x26_6, x26_9, x26_10, x26_11, x26_12, x26_15, x26_18, x26_19, x26_22, x26_25, x26_26, x26_29, x26_32, x26_34, x26_37, x26_38, x26_39, x26_41, x26_44, x26_45, x26_48, sh_105, lq_105, sh_106, lq_106, sh_108, lq_108, sh_109, lq_109, sh_110, lq_110, sh_111, lq_111, rg_105_0, rg_106_1, rg_106_2, rg_106_3, rg_106_4, p_at (n := 179) (a := 108) (by decide) rfl, p_at (n := 179) (a := 109) (by decide) rfl, p_at (n := 179) (a := 110) (by decide) rfl, p_at (n := 179) (a := 111) (by decide) rfl, ex5, Option.toList_some, Option.toList_none, List.cons_append, List.nil_append, true_and, and_true, nI_1, p_at, p_set, p_isIn, p_max, p_min, p_abs, ah, e40, if_true, if_false, g2, a10, s6, f1, gd]
        exact and_iff_right b01
      · have s6 : (nI (snW T n q.2.2) ≤ 6) = True := eq_true (nI_le (b := 6) (by omega) (by decide))
        have ez : nm1 T n c q = q := by unfold nm1; rw [if_pos hb, if_pos h4, if_neg h6]
        have gd := fun r => c_isGood (L := L) (xs := xs) (Lm := Lm) (nw := nw) (sp := sp) (s2 := s2) (ai := ai) h r
        rw [ez]
        refine ⟨I, fun r => ?_, h, cfRf, fun _ => rfl⟩
        rw [em_26]
        simp only [x26_0, x26_1, x26_4, x26_6, x26_9, x26_10, x26_11, x26_12, x26_15, x26_18, x26_19, x26_22, x26_25, x26_26, x26_29, x26_32, x26_34, x26_37, x26_38, x26_39, x26_41, x26_44, x26_45, x26_48, sh_105, lq_105, sh_106, lq_106, sh_108, lq_108, sh_109, lq_109, sh_110, lq_110, sh_111, lq_111, rg_105_0, rg_106_1, rg_106_2, rg_106_3, rg_106_4, p_at (n := 179) (a := 108) (by decide) rfl, p_at (n := 179) (a := 109) (by decide) rfl, p_at (n := 179) (a := 110) (by decide) rfl, p_at (n := 179) (a := 111) (by decide) rfl, ex5, Option.toList_some, Option.toList_none, List.cons_append, List.nil_append, true_and, and_true, nI_1, p_at, p_set, p_isIn, p_max, p_min, p_abs, ah, e40, if_true, g2, a10, s6, gd]
        exact and_iff_right b01
    · have e40 : (nI (wq T n c q.2.2) = 40) = False := eq_false (fun z => h4 ((nI_eq (b := 40) (by have := wq_b hX q.2.2; omega) (by decide)).mp z))
      obtain ⟨J, f1, f2, f3⟩ := bad (fu := 0)
      rw [n1, nI_0] at f1
      have ez : nm1 T n c q = (1, frW T n q.2.2, 0) := by unfold nm1; rw [if_pos hb, if_neg h4]
      rw [show flz T n 1 0 q = (1, frW T n q.2.2, 0) from if_pos hb] at f2
      have gd := fun r => c_isGood (L := L) (xs := xs) (Lm := Lm) (nw := nw) (sp := sp) (s2 := s2) (ai := ai) f2 r
      rw [ez]
      refine ⟨J, fun r => ?_, f2, f3, fun z => by cases z⟩
      rw [em_26]
      simp only [x26_0, x26_1, x26_4, x26_6, x26_9, x26_10, x26_11, x26_12, x26_15, x26_18, x26_19, x26_22, x26_25, x26_26, x26_29, x26_32, x26_34, x26_37, x26_38, x26_39, x26_41, x26_44, x26_45, x26_48, sh_105, lq_105, sh_106, lq_106, sh_108, lq_108, sh_109, lq_109, sh_110, lq_110, sh_111, lq_111, rg_105_0, rg_106_1, rg_106_2, rg_106_3, rg_106_4, ex5, Option.toList_some, Option.toList_none, List.cons_append, List.nil_append, true_and, and_true, nI_1, p_at, p_set, p_isIn, p_max, p_min, p_abs, ah, e40, if_false, f1, gd]
      exact and_iff_right b01
  · have ea : ahV T n c q = 43 := if_neg hb
    rw [ea] at ah
    have e40 : (nI 43 = 40) = False := eq_false (by decide)
    obtain ⟨J, f1, f2, f3⟩ := bad (fu := 0)
    rw [n1, nI_0] at f1
    have ez : nm1 T n c q = q := if_neg hb
    rw [show flz T n 1 0 q = q from if_neg hb] at f2
    have gd := fun r => c_isGood (L := L) (xs := xs) (Lm := Lm) (nw := nw) (sp := sp) (s2 := s2) (ai := ai) f2 r
    rw [ez]
    refine ⟨J, fun r => ?_, f2, f3, fun z => (hb z).elim⟩
    rw [em_26]
    simp only [x26_0, x26_1, x26_4, x26_6, x26_9, x26_10, x26_11, x26_12, x26_15, x26_18, x26_19, x26_22, x26_25, x26_26, x26_29, x26_32, x26_34, x26_37, x26_38, x26_39, x26_41, x26_44, x26_45, x26_48, sh_105, lq_105, sh_106, lq_106, sh_108, lq_108, sh_109, lq_109, sh_110, lq_110, sh_111, lq_111, rg_105_0, rg_106_1, rg_106_2, rg_106_3, rg_106_4, ex5, Option.toList_some, Option.toList_none, List.cons_append, List.nil_append, true_and, and_true, nI_1, p_at, p_set, p_isIn, p_max, p_min, p_abs, ah, e40, if_false, f1, gd]
    exact and_iff_right b01
theorem c_numAfter (hw : w ≠ 43) (hw2 : w < 512) (hlo : lo < 2 ^ 31) (hhi : hi < 2 ^ 31) (hX : TX T n c) (hT : TKs I T n c) (h : CS I T n c q) : ∃ v J, (∀ r, Em L xs 25 [.ref 105, .int (nI w), .int (nI lo), .int (nI hi)] (179, I, Lm, RG nw sp s2 ai) r ↔ r = (some (.int v), 179, J, Lm, RG nw sp s2 ai)) ∧ CS J T n c (nbz T n c lo hi (asz T n c w q)) ∧ CF I J ∧ ((nbz T n c lo hi (asz T n c w q)).1 = 0 → v = nI (nbW T n (asz T n c w q).2.2)) := by
  obtain ⟨J1, a1, a2, a3⟩ := c_need (L := L) (xs := xs) (Lm := Lm) (nw := nw) (sp := sp) (s2 := s2) (ai := ai) hw hw2 hX hT h
  obtain ⟨v, J2, b1, b2, b3, b4⟩ := c_number (L := L) (xs := xs) (Lm := Lm) (nw := nw) (sp := sp) (s2 := s2) (ai := ai) hlo hhi hX (a3.tks hT) a2
  refine ⟨v, J2, fun r => ?_, b2, cfTr a3 b3, b4⟩
  rw [em_25]
  simp only [x25_0, x25_1, x25_2, x25_5, x25_6, x25_7, x25_8, x25_11, sh_105, lq_105, sh_106, lq_106, sh_108, lq_108, sh_109, lq_109, sh_110, lq_110, sh_111, lq_111, rg_105_0, rg_106_1, rg_106_2, rg_106_3, rg_106_4, ex5, Option.toList_some, Option.toList_none, List.cons_append, List.nil_append, true_and, and_true, nI_1, p_at, p_set, p_isIn, p_max, p_min, p_abs, a1, b1]
theorem c_given (ha : ai = 37 ∨ ai = 71) (hs1 : s = ai + 1) (hR : RdC I s V NS NH N M P) (hN : NS ≤ 6 ∧ NH ≤ 4 ∧ N ≤ 12) (r : Option Value × Mm) : Em L xs 28 [.ref 105, .int x] (179, I, Lm, RG nw sp s2 ai) r ↔ r = (some (.int (if gvn V NS NH N x then 1 else 0)), 179, I, Lm, RG nw sp s2 ai) := by
  obtain ⟨hs, ho, s36, s73, hwd⟩ := rd_sc ha hs1
  obtain ⟨g1, g2, g3, g4, g5⟩ := rd_rg (nw := nw) (sp := sp) (s2 := s2) hs1
  obtain ⟨⟨c1, c2, c3, c4, c5⟩, d1, d2, d3, d4⟩ := hR
  have yo : (shp (s + 9 + 1)).1 = 1 ∧ (shp (s + 9 + 1)).2 = 6 := by rw [sh_o1 ho]; exact ⟨rfl, rfl⟩
  have y2 : (shp (s + 2)).1 = 1 ∧ (shp (s + 2)).2 = 4 := by rw [sh_s2 hs]; exact ⟨rfl, rfl⟩
  have y19 : (shp (s + 19)).1 = 1 ∧ (shp (s + 19)).2 = 12 := by rw [sh_s19 hs]; exact ⟨rfl, hwd⟩
  have i1 := fun r => c_indexOf (I := I) (n := NS) (a := s + 9 + 1) (v := x) (f := V 15) (L := L) (xs := xs) (Lm := Lm) (nw := nw) (sp := sp) (s2 := s2) (ai := ai) (by omega) yo.1 (by rw [yo.2]; omega) (fun i hi => (d2 i hi).1) r
  have i2 := fun r => c_indexOf (I := I) (n := NH) (a := s + 2) (v := x) (f := V 16) (L := L) (xs := xs) (Lm := Lm) (nw := nw) (sp := sp) (s2 := s2) (ai := ai) (by omega) y2.1 (by rw [y2.2]; omega) (fun i hi => (d3 i hi).1) r
  have i3 := fun r => c_indexOf (I := I) (n := N) (a := s + 19) (v := x) (f := V 17) (L := L) (xs := xs) (Lm := Lm) (nw := nw) (sp := sp) (s2 := s2) (ai := ai) (by omega) y19.1 (by rw [y19.2]; omega) (fun i hi => (d1 i hi).2.2.2.2) r
  have l1 := ixF_le (f := V 15) (v := x) NS 0
  have l2 := ixF_le (f := V 16) (v := x) NH 0
  have l3 := ixF_le (f := V 17) (v := x) N 0
  have nm : ∀ j, j < 100 → (nI j = -1) = False := fun j hj => eq_false (fun y => absurd (show (0 : Int32) ≤ nI j from nI_pos' (by omega)) (by rw [y]; decide))
  rw [em_28]
  by_cases e1 : ixF (V 15) x NS 0 = NS
  · by_cases e2 : ixF (V 16) x NH 0 = NH
    · by_cases e3 : ixF (V 17) x N 0 = N
      · rw [if_neg (show ¬ gvn V NS NH N x by unfold gvn; omega)]
        simp only [x28_0, x28_1, x28_4, x28_7, x28_8, x28_11, x28_14, x28_15, x28_18, x28_19, x28_22, x28_23, x28_26, x28_29, x28_30, x28_33, x28_36, x28_37, x28_40, x28_41, x28_44, x28_45, x28_48, x28_51, x28_52, x28_55, x28_58, x28_59, x28_62, x28_63, x28_66, x28_67, x28_70, x28_71, sh_105, lq_105, sh_106, lq_106, sh_108, lq_108, sh_109, lq_109, sh_110, lq_110, sh_111, lq_111, rg_105_0, rg_106_1, rg_106_2, rg_106_3, rg_106_4, sh_s, lq_s, sh_s1, lq_s1, sh_s2, lq_s2, sh_s3, lq_s3, sh_s4, lq_s4, sh_s5, lq_s5, sh_s6, lq_s6, sh_s7, lq_s7, sh_s8, lq_s8, sh_s9, lq_s9, sh_s10, lq_s10, sh_s11, lq_s11, sh_s12, lq_s12, sh_s13, lq_s13, sh_s14, lq_s14, sh_s15, lq_s15, sh_s16, lq_s16, sh_s17, lq_s17, sh_s18, lq_s18, sh_s19, lq_s19, sh_s20, lq_s20, sh_s21, lq_s21, sh_s22, lq_s22, sh_s23, lq_s23, sh_s24, lq_s24, sh_s25, lq_s25, rg_s0_0, rg_s0_1, rg_s0_2, rg_s0_3, rg_s1_0, rg_s1_1, rg_s1_2, rg_s1_3, rg_s1_4, rg_s7_0, rg_s9_0, rg_s9_1, rg_s9_2, rg_s9_3, rg_s9_4, rg_s9_5, rg_s16_6, rg_s16_7, rg_s16_0, rg_s16_1, rg_s16_2, rg_s16_3, rg_s16_4, rg_s16_5, sh_o, lq_o, sh_o1, lq_o1, sh_o2, lq_o2, sh_o3, lq_o3, sh_o4, lq_o4, sh_o5, lq_o5, sh_o6, lq_o6, rg_o0, rg_o1, rg_o2, rg_o3, rg_o4, rg_o5, ex5, Option.toList_some, Option.toList_none, List.cons_append, List.nil_append, true_and, and_true, nI_1, p_at, p_set, p_isIn, p_max, p_min, p_abs, hs, ho, g1, g2, g3, g4, c1, c2, c3, i1, i2, i3, e1, e2, e3, if_true, true_or]
      · rw [if_pos (show gvn V NS NH N x by unfold gvn; omega)]
        simp only [x28_0, x28_1, x28_4, x28_7, x28_8, x28_11, x28_14, x28_15, x28_18, x28_19, x28_22, x28_23, x28_26, x28_29, x28_30, x28_33, x28_36, x28_37, x28_40, x28_41, x28_44, x28_45, x28_48, x28_51, x28_52, x28_55, x28_58, x28_59, x28_62, x28_63, x28_66, x28_67, x28_70, x28_71, sh_105, lq_105, sh_106, lq_106, sh_108, lq_108, sh_109, lq_109, sh_110, lq_110, sh_111, lq_111, rg_105_0, rg_106_1, rg_106_2, rg_106_3, rg_106_4, sh_s, lq_s, sh_s1, lq_s1, sh_s2, lq_s2, sh_s3, lq_s3, sh_s4, lq_s4, sh_s5, lq_s5, sh_s6, lq_s6, sh_s7, lq_s7, sh_s8, lq_s8, sh_s9, lq_s9, sh_s10, lq_s10, sh_s11, lq_s11, sh_s12, lq_s12, sh_s13, lq_s13, sh_s14, lq_s14, sh_s15, lq_s15, sh_s16, lq_s16, sh_s17, lq_s17, sh_s18, lq_s18, sh_s19, lq_s19, sh_s20, lq_s20, sh_s21, lq_s21, sh_s22, lq_s22, sh_s23, lq_s23, sh_s24, lq_s24, sh_s25, lq_s25, rg_s0_0, rg_s0_1, rg_s0_2, rg_s0_3, rg_s1_0, rg_s1_1, rg_s1_2, rg_s1_3, rg_s1_4, rg_s7_0, rg_s9_0, rg_s9_1, rg_s9_2, rg_s9_3, rg_s9_4, rg_s9_5, rg_s16_6, rg_s16_7, rg_s16_0, rg_s16_1, rg_s16_2, rg_s16_3, rg_s16_4, rg_s16_5, sh_o, lq_o, sh_o1, lq_o1, sh_o2, lq_o2, sh_o3, lq_o3, sh_o4, lq_o4, sh_o5, lq_o5, sh_o6, lq_o6, rg_o0, rg_o1, rg_o2, rg_o3, rg_o4, rg_o5, ex5, Option.toList_some, Option.toList_none, List.cons_append, List.nil_append, true_and, and_true, nI_1, p_at, p_set, p_isIn, p_max, p_min, p_abs, hs, ho, g1, g2, g3, g4, c1, c2, c3, i1, i2, i3, e1, e2, e3, if_true, if_false, nm (ixF (V 17) x N 0) (by omega), or_true]
    · rw [if_pos (show gvn V NS NH N x by unfold gvn; omega)]
      simp only [x28_0, x28_1, x28_4, x28_7, x28_8, x28_11, x28_14, x28_15, x28_18, x28_19, x28_22, x28_23, x28_26, x28_29, x28_30, x28_33, x28_36, x28_37, x28_40, x28_41, x28_44, x28_45, x28_48, x28_51, x28_52, x28_55, x28_58, x28_59, x28_62, x28_63, x28_66, x28_67, x28_70, x28_71, sh_105, lq_105, sh_106, lq_106, sh_108, lq_108, sh_109, lq_109, sh_110, lq_110, sh_111, lq_111, rg_105_0, rg_106_1, rg_106_2, rg_106_3, rg_106_4, sh_s, lq_s, sh_s1, lq_s1, sh_s2, lq_s2, sh_s3, lq_s3, sh_s4, lq_s4, sh_s5, lq_s5, sh_s6, lq_s6, sh_s7, lq_s7, sh_s8, lq_s8, sh_s9, lq_s9, sh_s10, lq_s10, sh_s11, lq_s11, sh_s12, lq_s12, sh_s13, lq_s13, sh_s14, lq_s14, sh_s15, lq_s15, sh_s16, lq_s16, sh_s17, lq_s17, sh_s18, lq_s18, sh_s19, lq_s19, sh_s20, lq_s20, sh_s21, lq_s21, sh_s22, lq_s22, sh_s23, lq_s23, sh_s24, lq_s24, sh_s25, lq_s25, rg_s0_0, rg_s0_1, rg_s0_2, rg_s0_3, rg_s1_0, rg_s1_1, rg_s1_2, rg_s1_3, rg_s1_4, rg_s7_0, rg_s9_0, rg_s9_1, rg_s9_2, rg_s9_3, rg_s9_4, rg_s9_5, rg_s16_6, rg_s16_7, rg_s16_0, rg_s16_1, rg_s16_2, rg_s16_3, rg_s16_4, rg_s16_5, sh_o, lq_o, sh_o1, lq_o1, sh_o2, lq_o2, sh_o3, lq_o3, sh_o4, lq_o4, sh_o5, lq_o5, sh_o6, lq_o6, rg_o0, rg_o1, rg_o2, rg_o3, rg_o4, rg_o5, ex5, Option.toList_some, Option.toList_none, List.cons_append, List.nil_append, true_and, and_true, nI_1, p_at, p_set, p_isIn, p_max, p_min, p_abs, hs, ho, g1, g2, g3, g4, c1, c2, c3, i1, i2, e1, e2, if_true, if_false, nm (ixF (V 16) x NH 0) (by omega), or_true]
  · rw [if_pos (show gvn V NS NH N x by unfold gvn; omega)]
    simp only [x28_0, x28_1, x28_4, x28_7, x28_8, x28_11, x28_14, x28_15, x28_18, x28_19, x28_22, x28_23, x28_26, x28_29, x28_30, x28_33, x28_36, x28_37, x28_40, x28_41, x28_44, x28_45, x28_48, x28_51, x28_52, x28_55, x28_58, x28_59, x28_62, x28_63, x28_66, x28_67, x28_70, x28_71, sh_105, lq_105, sh_106, lq_106, sh_108, lq_108, sh_109, lq_109, sh_110, lq_110, sh_111, lq_111, rg_105_0, rg_106_1, rg_106_2, rg_106_3, rg_106_4, sh_s, lq_s, sh_s1, lq_s1, sh_s2, lq_s2, sh_s3, lq_s3, sh_s4, lq_s4, sh_s5, lq_s5, sh_s6, lq_s6, sh_s7, lq_s7, sh_s8, lq_s8, sh_s9, lq_s9, sh_s10, lq_s10, sh_s11, lq_s11, sh_s12, lq_s12, sh_s13, lq_s13, sh_s14, lq_s14, sh_s15, lq_s15, sh_s16, lq_s16, sh_s17, lq_s17, sh_s18, lq_s18, sh_s19, lq_s19, sh_s20, lq_s20, sh_s21, lq_s21, sh_s22, lq_s22, sh_s23, lq_s23, sh_s24, lq_s24, sh_s25, lq_s25, rg_s0_0, rg_s0_1, rg_s0_2, rg_s0_3, rg_s1_0, rg_s1_1, rg_s1_2, rg_s1_3, rg_s1_4, rg_s7_0, rg_s9_0, rg_s9_1, rg_s9_2, rg_s9_3, rg_s9_4, rg_s9_5, rg_s16_6, rg_s16_7, rg_s16_0, rg_s16_1, rg_s16_2, rg_s16_3, rg_s16_4, rg_s16_5, sh_o, lq_o, sh_o1, lq_o1, sh_o2, lq_o2, sh_o3, lq_o3, sh_o4, lq_o4, sh_o5, lq_o5, sh_o6, lq_o6, rg_o0, rg_o1, rg_o2, rg_o3, rg_o4, rg_o5, ex5, Option.toList_some, Option.toList_none, List.cons_append, List.nil_append, true_and, and_true, nI_1, p_at, p_set, p_isIn, p_max, p_min, p_abs, hs, ho, g1, g2, g3, g4, c1, c2, c3, i1, e1, if_true, if_false, nm (ixF (V 15) x NS 0) (by omega), or_true]
theorem c_newName (ha : ai = 37 ∨ ai = 71) (hs1 : s = ai + 1) (hR : RdC I s V NS NH N M P) (hN : NS ≤ 6 ∧ NH ≤ 4 ∧ N ≤ 12) (hX : TX T n c) (hT : TKs I T n c) (h : CS I T n c q) : ∃ v J, (∀ r, Em L xs 27 [.ref 105] (179, I, Lm, RG nw sp s2 ai) r ↔ r = (some (.int v), 179, J, Lm, RG nw sp s2 ai)) ∧ CS J T n c (nnz T n c V NS NH N q) ∧ CF I J ∧ ((nnz T n c V NS NH N q).1 = 0 → v = nxI T n q.2.2) := by
  obtain ⟨J1, a1, a2, a3, a4⟩ := c_nameNext (L := L) (xs := xs) (Lm := Lm) (nw := nw) (sp := sp) (s2 := s2) (ai := ai) hX hT h
  have n3 : nI 3 = 3 := rfl
  by_cases h1 : (nm1 T n c q).1 = 0
  · obtain ⟨hb, e1, e2, e3⟩ := nm1_0 h1
    have hJ := a4 h1
    subst hJ
    have k1 : q.2.2 < c := wq_c (by rw [e2]; decide)
    have k2 := ((wq_name hX).mp e2).2.1
    have hn := hX.1; have hcn := hX.2.1
    obtain ⟨g1, g2, g3⟩ := cs_good h hb
    have a11 : atv J1 111 (nI q.2.2) = nxI T n q.2.2 := (atv_lt (show q.2.2 < 1601 by omega)).trans ((hT.1 _ k1).2.2.2.1 k2)
    have gv := fun r => c_given (x := nxI T n q.2.2) (L := L) (xs := xs) (Lm := Lm) (nw := nw) (sp := sp) (s2 := s2) ha hs1 hR hN r
    rw [if_pos h1] at a1
    by_cases hg : gvn V NS NH N (nxI T n q.2.2)
    · obtain ⟨J2, f1, f2, f3⟩ := c_fail (fu := 0) (kd := 3) (L := L) (xs := xs) (Lm := Lm) (nw := nw) (sp := sp) (s2 := s2) (ai := ai) (by decide) (by decide) hX hT h
      rw [n3, nI_0] at f1
      rw [show flz T n 3 0 q = (3, frW T n q.2.2, 0) from if_pos hb] at f2
      obtain ⟨b1, b2⟩ := cs_nx f2 (fun z => by cases z)
      have ez : nnz T n c V NS NH N q = (3, frW T n q.2.2, 0) := if_pos ⟨hb, nmz_0.mpr h1, hg⟩
      rw [if_pos hg] at gv
      rw [ez]
      refine ⟨nxI T n q.2.2, _, fun r => ?_, b1, cfTr f3 b2, fun _ => rfl⟩
      rw [em_27]
      simp only [x27_0, x27_1, x27_4, x27_7, x27_8, x27_11, x27_14, x27_15, x27_16, x27_19, x27_22, x27_23, x27_24, x27_27, x27_30, x27_31, x27_32, x27_33, x27_36, x27_37, x27_38, x27_41, x27_42, x27_43, x27_46, x27_47, sh_105, lq_105, sh_106, lq_106, sh_108, lq_108, sh_109, lq_109, sh_110, lq_110, sh_111, lq_111, rg_105_0, rg_106_1, rg_106_2, rg_106_3, rg_106_4, p_at (n := 179) (a := 108) (by decide) rfl, p_at (n := 179) (a := 109) (by decide) rfl, p_at (n := 179) (a := 110) (by decide) rfl, p_at (n := 179) (a := 111) (by decide) rfl, ex5, Option.toList_some, Option.toList_none, List.cons_append, List.nil_append, true_and, and_true, nI_1, p_at, p_set, p_isIn, p_max, p_min, p_abs, g2, a11, a1, one_ne, if_false, gv, f1]
    · have ez : nnz T n c V NS NH N q = nxz q := by unfold nnz; rw [if_neg (fun z => hg z.2.2), nmz_1, if_pos h1]
      obtain ⟨b1, b2⟩ := cs_nx h (fun _ => k1)
      rw [if_neg hg] at gv
      rw [ez]
      rw [g2] at b1 b2
      refine ⟨nxI T n q.2.2, _, fun r => ?_, b1, b2, fun _ => rfl⟩
      rw [em_27]
      simp only [x27_0, x27_1, x27_4, x27_7, x27_8, x27_11, x27_14, x27_15, x27_16, x27_19, x27_22, x27_23, x27_24, x27_27, x27_30, x27_31, x27_32, x27_33, x27_36, x27_37, x27_38, x27_41, x27_42, x27_43, x27_46, x27_47, sh_105, lq_105, sh_106, lq_106, sh_108, lq_108, sh_109, lq_109, sh_110, lq_110, sh_111, lq_111, rg_105_0, rg_106_1, rg_106_2, rg_106_3, rg_106_4, p_at (n := 179) (a := 108) (by decide) rfl, p_at (n := 179) (a := 109) (by decide) rfl, p_at (n := 179) (a := 110) (by decide) rfl, p_at (n := 179) (a := 111) (by decide) rfl, ex5, Option.toList_some, Option.toList_none, List.cons_append, List.nil_append, true_and, and_true, nI_1, p_at, p_set, p_isIn, p_max, p_min, p_abs, g2, a11, a1, one_ne, if_false, gv, if_true]
  · have ez : nnz T n c V NS NH N q = nm1 T n c q := by unfold nnz; rw [if_neg (fun z => h1 (nmz_0.mp z.2.1)), nmz_1, if_neg h1]
    obtain ⟨b1, b2⟩ := cs_nx a2 (fun z => (h1 z).elim)
    rw [show nxz (nm1 T n c q) = nm1 T n c q from if_neg h1] at b1
    rw [if_neg h1] at a1
    rw [ez]
    refine ⟨atv I 111 (I 105 6), _, fun r => ?_, b1, cfTr a3 b2, fun z => (h1 z).elim⟩
    rw [em_27]
    simp only [x27_0, x27_1, x27_4, x27_7, x27_8, x27_11, x27_14, x27_15, x27_16, x27_19, x27_22, x27_23, x27_24, x27_27, x27_30, x27_31, x27_32, x27_33, x27_36, x27_37, x27_38, x27_41, x27_42, x27_43, x27_46, x27_47, sh_105, lq_105, sh_106, lq_106, sh_108, lq_108, sh_109, lq_109, sh_110, lq_110, sh_111, lq_111, rg_105_0, rg_106_1, rg_106_2, rg_106_3, rg_106_4, p_at (n := 179) (a := 108) (by decide) rfl, p_at (n := 179) (a := 109) (by decide) rfl, p_at (n := 179) (a := 110) (by decide) rfl, p_at (n := 179) (a := 111) (by decide) rfl, ex5, Option.toList_some, Option.toList_none, List.cons_append, List.nil_append, true_and, and_true, nI_1, p_at, p_set, p_isIn, p_max, p_min, p_abs, a1, if_true]
theorem c_known {m : Nat} (ha1 : a < 179) (h1a : (shp a).1 = 1) (hm : m ≤ (shp a).2) (hf : ∀ i, i < m → I a i = f i) (hX : TX T n c) (hT : TKs I T n c) (h : CS I T n c q) : ∃ v J, (∀ r, Em L xs 29 [.ref 105, .ref a, .int (nI m)] (179, I, Lm, RG nw sp s2 ai) r ↔ r = (some (.int v), 179, J, Lm, RG nw sp s2 ai)) ∧ CS J T n c (knz T n c f m q) ∧ CF I J ∧ ((knz T n c f m q).1 = 0 → v = nI (ixF f (nxI T n q.2.2) m 0) ∧ ixF f (nxI T n q.2.2) m 0 < m) ∧ (v = -1 ∨ inb v m) := by
  obtain ⟨J1, a1, a2, a3, a4⟩ := c_nameNext (L := L) (xs := xs) (Lm := Lm) (nw := nw) (sp := sp) (s2 := s2) (ai := ai) hX hT h
  have n3 : nI 3 = 3 := rfl
  have hsm := shp_small a
  have ixi := fun v r => c_indexOf (I := I) (n := m) (a := a) (v := v) (f := f) (L := L) (xs := xs) (Lm := Lm) (nw := nw) (sp := sp) (s2 := s2) (ai := ai) ha1 h1a hm hf r
  have inn : ∀ v, (if ixF f v m 0 = m then (-1 : Int32) else nI (ixF f v m 0)) = -1 ∨ inb (if ixF f v m 0 = m then (-1 : Int32) else nI (ixF f v m 0)) m := fun v => by
    have l := ixF_le (f := f) (v := v) m 0
    by_cases e : ixF f v m 0 = m
    · rw [if_pos e]; exact Or.inl rfl
    · rw [if_neg e]; exact Or.inr (inb_nI' (by omega) (by omega))
  by_cases h1 : (nm1 T n c q).1 = 0
  · obtain ⟨hb, e1, e2, e3⟩ := nm1_0 h1
    have hJ := a4 h1
    subst hJ
    have k1 : q.2.2 < c := wq_c (by rw [e2]; decide)
    have k2 := ((wq_name hX).mp e2).2.1
    have hn := hX.1; have hcn := hX.2.1
    obtain ⟨g1, g2, g3⟩ := cs_good h hb
    have a11 : atv J1 111 (nI q.2.2) = nxI T n q.2.2 := (atv_lt (show q.2.2 < 1601 by omega)).trans ((hT.1 _ k1).2.2.2.1 k2)
    have l := ixF_le (f := f) (v := nxI T n q.2.2) m 0
    rw [if_pos h1] at a1
    by_cases hg : ixF f (nxI T n q.2.2) m 0 = m
    · obtain ⟨J2, f1, f2, f3⟩ := c_fail (fu := 0) (kd := 3) (L := L) (xs := xs) (Lm := Lm) (nw := nw) (sp := sp) (s2 := s2) (ai := ai) (by decide) (by decide) hX hT h
      rw [n3, nI_0] at f1
      rw [show flz T n 3 0 q = (3, frW T n q.2.2, 0) from if_pos hb] at f2
      obtain ⟨b1, b2⟩ := cs_nx f2 (fun z => by cases z)
      have ez : knz T n c f m q = (3, frW T n q.2.2, 0) := if_pos ⟨hb, nmz_0.mpr h1, hg⟩
      rw [ez]
      refine ⟨-1, _, fun r => ?_, b1, cfTr f3 b2, (fun z => by cases z), Or.inl rfl⟩
      rw [em_29]
      simp only [x29_0, x29_1, x29_2, x29_3, x29_6, x29_9, x29_10, x29_13, x29_16, x29_19, x29_20, x29_21, x29_24, x29_27, x29_28, x29_29, x29_32, x29_33, x29_34, x29_35, x29_38, x29_39, x29_40, x29_43, x29_44, x29_45, x29_48, x29_49, sh_105, lq_105, sh_106, lq_106, sh_108, lq_108, sh_109, lq_109, sh_110, lq_110, sh_111, lq_111, rg_105_0, rg_106_1, rg_106_2, rg_106_3, rg_106_4, p_at (n := 179) (a := 108) (by decide) rfl, p_at (n := 179) (a := 109) (by decide) rfl, p_at (n := 179) (a := 110) (by decide) rfl, p_at (n := 179) (a := 111) (by decide) rfl, ex5, Option.toList_some, Option.toList_none, List.cons_append, List.nil_append, true_and, and_true, nI_1, p_at, p_set, p_isIn, p_max, p_min, p_abs, g2, a11, ixi, hg, if_true, a1, one_ne, if_false, f1]
    · have ez : knz T n c f m q = nxz q := by unfold knz; rw [if_neg (fun z => hg z.2.2), nmz_1, if_pos h1]
      obtain ⟨b1, b2⟩ := cs_nx h (fun _ => k1)
      have nm : (nI (ixF f (nxI T n q.2.2) m 0) = -1) = False := eq_false (fun y => absurd (show (0 : Int32) ≤ nI (ixF f (nxI T n q.2.2) m 0) from nI_pos' (by omega)) (by rw [y]; decide))
      rw [ez]
      rw [g2] at b1 b2
      refine ⟨nI (ixF f (nxI T n q.2.2) m 0), _, fun r => ?_, b1, b2, fun _ => ⟨rfl, by omega⟩, Or.inr (inb_nI' (by omega) (by omega))⟩
      rw [em_29]
      simp only [x29_0, x29_1, x29_2, x29_3, x29_6, x29_9, x29_10, x29_13, x29_16, x29_19, x29_20, x29_21, x29_24, x29_27, x29_28, x29_29, x29_32, x29_33, x29_34, x29_35, x29_38, x29_39, x29_40, x29_43, x29_44, x29_45, x29_48, x29_49, sh_105, lq_105, sh_106, lq_106, sh_108, lq_108, sh_109, lq_109, sh_110, lq_110, sh_111, lq_111, rg_105_0, rg_106_1, rg_106_2, rg_106_3, rg_106_4, p_at (n := 179) (a := 108) (by decide) rfl, p_at (n := 179) (a := 109) (by decide) rfl, p_at (n := 179) (a := 110) (by decide) rfl, p_at (n := 179) (a := 111) (by decide) rfl, ex5, Option.toList_some, Option.toList_none, List.cons_append, List.nil_append, true_and, and_true, nI_1, p_at, p_set, p_isIn, p_max, p_min, p_abs, g2, a11, ixi, hg, a1, one_ne, if_false, nm]
  · have ez : knz T n c f m q = nm1 T n c q := by unfold knz; rw [if_neg (fun z => h1 (nmz_0.mp z.2.1)), nmz_1, if_neg h1]
    obtain ⟨b1, b2⟩ := cs_nx a2 (fun z => (h1 z).elim)
    rw [show nxz (nm1 T n c q) = nm1 T n c q from if_neg h1] at b1
    rw [if_neg h1] at a1
    rw [ez]
    refine ⟨_, _, fun r => ?_, b1, cfTr a3 b2, fun z => (h1 z).elim, inn (atv I 111 (I 105 6))⟩
    rw [em_29]
    simp only [x29_0, x29_1, x29_2, x29_3, x29_6, x29_9, x29_10, x29_13, x29_16, x29_19, x29_20, x29_21, x29_24, x29_27, x29_28, x29_29, x29_32, x29_33, x29_34, x29_35, x29_38, x29_39, x29_40, x29_43, x29_44, x29_45, x29_48, x29_49, sh_105, lq_105, sh_106, lq_106, sh_108, lq_108, sh_109, lq_109, sh_110, lq_110, sh_111, lq_111, rg_105_0, rg_106_1, rg_106_2, rg_106_3, rg_106_4, p_at (n := 179) (a := 108) (by decide) rfl, p_at (n := 179) (a := 109) (by decide) rfl, p_at (n := 179) (a := 110) (by decide) rfl, p_at (n := 179) (a := 111) (by decide) rfl, ex5, Option.toList_some, Option.toList_none, List.cons_append, List.nil_append, true_and, and_true, nI_1, p_at, p_set, p_isIn, p_max, p_min, p_abs, ixi, a1, if_true]
theorem c_unpaired (ha : ai = 37 ∨ ai = 71) (hs1 : s = ai + 1) (hR : RdC I s V NS NH N M P) (hN : N ≤ 12) (hX : TX T n c) (hT : TKs I T n c) (h : CS I T n c q) : ∃ v J, (∀ r, Em L xs 30 [.ref 105, .int x] (179, I, Lm, RG nw sp s2 ai) r ↔ r = (some (.int v), 179, J, Lm, RG nw sp s2 ai)) ∧ CS J T n c (unz T n c V N x q) ∧ CF I J ∧ ((unz T n c V N x q).1 = 0 → v = nI (ixF (V 17) (nxI T n q.2.2) N 0) ∧ upF V N x (nxI T n q.2.2)) := by
  obtain ⟨hs, ho, s36, s73, hwd⟩ := rd_sc ha hs1
  obtain ⟨g1, g2, g3, g4, g5⟩ := rd_rg (nw := nw) (sp := sp) (s2 := s2) hs1
  obtain ⟨⟨c1, c2, c3, c4, c5⟩, d1, d2, d3, d4⟩ := hR
  have y19 : (shp (s + 19)).1 = 1 ∧ (shp (s + 19)).2 = 12 := by rw [sh_s19 hs]; exact ⟨rfl, hwd⟩
  have ixi := fun v r => c_indexOf (I := I) (n := N) (a := s + 19) (v := v) (f := V 17) (L := L) (xs := xs) (Lm := Lm) (nw := nw) (sp := sp) (s2 := s2) (ai := ai) (by omega) y19.1 (by rw [y19.2]; omega) (fun i hi => (d1 i hi).2.2.2.2) r
  obtain ⟨J1, a1, a2, a3, a4⟩ := c_nameNext (L := L) (xs := xs) (Lm := Lm) (nw := nw) (sp := sp) (s2 := s2) (ai := ai) hX hT h
  have n3 : nI 3 = 3 := rfl
  have nm : ∀ j, j < 100 → (nI j = -1) = False := fun j hj => eq_false (fun y => absurd (show (0 : Int32) ≤ nI j from nI_pos' (by omega)) (by rw [y]; decide))
  have m24 : ∀ j, j < N → atv I (s + 24) (nI j) = V 3 j := fun j hj => (atv_lt (by rw [sh_s24 hs]; show j < wd s; omega)).trans (d1 j hj).2.2.2.1
  -- the first half: who it is, and whether that fits
  have half : ∀ w : Int32, ∃ b : Int32, (b = 0 ∨ b = 1) ∧ (b = 1 ↔ upF V N x w) ∧ ∀ r, (atv I 111 (I 105 6) = w) → (Em L xs 30 [.ref 105, .int x] (179, I, Lm, RG nw sp s2 ai) r ↔ Ev L xs 3 30 63 [some (.ref 105), some (.int x), some (.int (if ixF (V 17) w N 0 = N then -1 else nI (ixF (V 17) w N 0))), some (.int b)] [] (179, I, Lm, RG nw sp s2 ai) r) := fun w => by
    have l := ixF_le (f := V 17) (v := w) N 0
    by_cases e : ixF (V 17) w N 0 = N
    · refine ⟨0, Or.inl rfl, ⟨fun z => absurd z (by decide), fun z => by have := z.1; omega⟩, fun r hw => ?_⟩
      rw [em_30, if_pos e]
      simp only [x30_0, x30_1, x30_4, x30_7, x30_8, x30_11, x30_14, x30_15, x30_18, x30_21, x30_22, x30_25, x30_28, x30_31, x30_32, x30_33, x30_34, x30_37, x30_38, x30_39, x30_42, x30_43, x30_46, x30_49, x30_50, x30_53, x30_54, x30_57, x30_58, x30_61, x30_62, x30_64, x30_67, x30_70, x30_71, x30_74, x30_75, x30_76, x30_77, x30_80, x30_81, x30_82, x30_85, x30_86, x30_87, x30_90, x30_91, sh_105, lq_105, sh_106, lq_106, sh_108, lq_108, sh_109, lq_109, sh_110, lq_110, sh_111, lq_111, rg_105_0, rg_106_1, rg_106_2, rg_106_3, rg_106_4, p_at (n := 179) (a := 108) (by decide) rfl, p_at (n := 179) (a := 109) (by decide) rfl, p_at (n := 179) (a := 110) (by decide) rfl, p_at (n := 179) (a := 111) (by decide) rfl, sh_s, lq_s, sh_s1, lq_s1, sh_s2, lq_s2, sh_s3, lq_s3, sh_s4, lq_s4, sh_s5, lq_s5, sh_s6, lq_s6, sh_s7, lq_s7, sh_s8, lq_s8, sh_s9, lq_s9, sh_s10, lq_s10, sh_s11, lq_s11, sh_s12, lq_s12, sh_s13, lq_s13, sh_s14, lq_s14, sh_s15, lq_s15, sh_s16, lq_s16, sh_s17, lq_s17, sh_s18, lq_s18, sh_s19, lq_s19, sh_s20, lq_s20, sh_s21, lq_s21, sh_s22, lq_s22, sh_s23, lq_s23, sh_s24, lq_s24, sh_s25, lq_s25, rg_s0_0, rg_s0_1, rg_s0_2, rg_s0_3, rg_s1_0, rg_s1_1, rg_s1_2, rg_s1_3, rg_s1_4, rg_s7_0, rg_s9_0, rg_s9_1, rg_s9_2, rg_s9_3, rg_s9_4, rg_s9_5, rg_s16_6, rg_s16_7, rg_s16_0, rg_s16_1, rg_s16_2, rg_s16_3, rg_s16_4, rg_s16_5, sh_o, lq_o, sh_o1, lq_o1, sh_o2, lq_o2, sh_o3, lq_o3, sh_o4, lq_o4, sh_o5, lq_o5, sh_o6, lq_o6, rg_o0, rg_o1, rg_o2, rg_o3, rg_o4, rg_o5, ex5, Option.toList_some, Option.toList_none, List.cons_append, List.nil_append, true_and, and_true, nI_1, p_at, p_set, p_isIn, p_max, p_min, p_abs, hs, g4, c1, hw, ixi, e, if_true]
    · have lt : ixF (V 17) w N 0 < N := by omega
      by_cases e2 : nI (ixF (V 17) w N 0) = x
      · refine ⟨0, Or.inl rfl, ⟨fun z => absurd z (by decide), fun z => (z.2.1 e2).elim⟩, fun r hw => ?_⟩
        have xm : (x = -1) = False := by rw [← e2]; exact nm _ (by omega)
        rw [em_30, if_neg e]
        simp only [x30_0, x30_1, x30_4, x30_7, x30_8, x30_11, x30_14, x30_15, x30_18, x30_21, x30_22, x30_25, x30_28, x30_31, x30_32, x30_33, x30_34, x30_37, x30_38, x30_39, x30_42, x30_43, x30_46, x30_49, x30_50, x30_53, x30_54, x30_57, x30_58, x30_61, x30_62, x30_64, x30_67, x30_70, x30_71, x30_74, x30_75, x30_76, x30_77, x30_80, x30_81, x30_82, x30_85, x30_86, x30_87, x30_90, x30_91, sh_105, lq_105, sh_106, lq_106, sh_108, lq_108, sh_109, lq_109, sh_110, lq_110, sh_111, lq_111, rg_105_0, rg_106_1, rg_106_2, rg_106_3, rg_106_4, p_at (n := 179) (a := 108) (by decide) rfl, p_at (n := 179) (a := 109) (by decide) rfl, p_at (n := 179) (a := 110) (by decide) rfl, p_at (n := 179) (a := 111) (by decide) rfl, sh_s, lq_s, sh_s1, lq_s1, sh_s2, lq_s2, sh_s3, lq_s3, sh_s4, lq_s4, sh_s5, lq_s5, sh_s6, lq_s6, sh_s7, lq_s7, sh_s8, lq_s8, sh_s9, lq_s9, sh_s10, lq_s10, sh_s11, lq_s11, sh_s12, lq_s12, sh_s13, lq_s13, sh_s14, lq_s14, sh_s15, lq_s15, sh_s16, lq_s16, sh_s17, lq_s17, sh_s18, lq_s18, sh_s19, lq_s19, sh_s20, lq_s20, sh_s21, lq_s21, sh_s22, lq_s22, sh_s23, lq_s23, sh_s24, lq_s24, sh_s25, lq_s25, rg_s0_0, rg_s0_1, rg_s0_2, rg_s0_3, rg_s1_0, rg_s1_1, rg_s1_2, rg_s1_3, rg_s1_4, rg_s7_0, rg_s9_0, rg_s9_1, rg_s9_2, rg_s9_3, rg_s9_4, rg_s9_5, rg_s16_6, rg_s16_7, rg_s16_0, rg_s16_1, rg_s16_2, rg_s16_3, rg_s16_4, rg_s16_5, sh_o, lq_o, sh_o1, lq_o1, sh_o2, lq_o2, sh_o3, lq_o3, sh_o4, lq_o4, sh_o5, lq_o5, sh_o6, lq_o6, rg_o0, rg_o1, rg_o2, rg_o3, rg_o4, rg_o5, ex5, Option.toList_some, Option.toList_none, List.cons_append, List.nil_append, true_and, and_true, nI_1, p_at, p_set, p_isIn, p_max, p_min, p_abs, hs, g4, c1, hw, ixi, e, if_false, nm (ixF (V 17) w N 0) (by omega), e2, xm, if_true]
      · by_cases e3 : V 3 (ixF (V 17) w N 0) = -1
        · refine ⟨1, Or.inr rfl, ⟨fun _ => ⟨lt, e2, e3⟩, fun _ => rfl⟩, fun r hw => ?_⟩
          rw [em_30, if_neg e]
          simp only [x30_0, x30_1, x30_4, x30_7, x30_8, x30_11, x30_14, x30_15, x30_18, x30_21, x30_22, x30_25, x30_28, x30_31, x30_32, x30_33, x30_34, x30_37, x30_38, x30_39, x30_42, x30_43, x30_46, x30_49, x30_50, x30_53, x30_54, x30_57, x30_58, x30_61, x30_62, x30_64, x30_67, x30_70, x30_71, x30_74, x30_75, x30_76, x30_77, x30_80, x30_81, x30_82, x30_85, x30_86, x30_87, x30_90, x30_91, sh_105, lq_105, sh_106, lq_106, sh_108, lq_108, sh_109, lq_109, sh_110, lq_110, sh_111, lq_111, rg_105_0, rg_106_1, rg_106_2, rg_106_3, rg_106_4, p_at (n := 179) (a := 108) (by decide) rfl, p_at (n := 179) (a := 109) (by decide) rfl, p_at (n := 179) (a := 110) (by decide) rfl, p_at (n := 179) (a := 111) (by decide) rfl, sh_s, lq_s, sh_s1, lq_s1, sh_s2, lq_s2, sh_s3, lq_s3, sh_s4, lq_s4, sh_s5, lq_s5, sh_s6, lq_s6, sh_s7, lq_s7, sh_s8, lq_s8, sh_s9, lq_s9, sh_s10, lq_s10, sh_s11, lq_s11, sh_s12, lq_s12, sh_s13, lq_s13, sh_s14, lq_s14, sh_s15, lq_s15, sh_s16, lq_s16, sh_s17, lq_s17, sh_s18, lq_s18, sh_s19, lq_s19, sh_s20, lq_s20, sh_s21, lq_s21, sh_s22, lq_s22, sh_s23, lq_s23, sh_s24, lq_s24, sh_s25, lq_s25, rg_s0_0, rg_s0_1, rg_s0_2, rg_s0_3, rg_s1_0, rg_s1_1, rg_s1_2, rg_s1_3, rg_s1_4, rg_s7_0, rg_s9_0, rg_s9_1, rg_s9_2, rg_s9_3, rg_s9_4, rg_s9_5, rg_s16_6, rg_s16_7, rg_s16_0, rg_s16_1, rg_s16_2, rg_s16_3, rg_s16_4, rg_s16_5, sh_o, lq_o, sh_o1, lq_o1, sh_o2, lq_o2, sh_o3, lq_o3, sh_o4, lq_o4, sh_o5, lq_o5, sh_o6, lq_o6, rg_o0, rg_o1, rg_o2, rg_o3, rg_o4, rg_o5, ex5, Option.toList_some, Option.toList_none, List.cons_append, List.nil_append, true_and, and_true, nI_1, p_at, p_set, p_isIn, p_max, p_min, p_abs, hs, g4, c1, hw, ixi, e, if_false, nm (ixF (V 17) w N 0) (by omega), e2, m24 _ lt, e3, if_true]
        · refine ⟨0, Or.inl rfl, ⟨fun z => absurd z (by decide), fun z => (e3 z.2.2).elim⟩, fun r hw => ?_⟩
          rw [em_30, if_neg e]
          simp only [x30_0, x30_1, x30_4, x30_7, x30_8, x30_11, x30_14, x30_15, x30_18, x30_21, x30_22, x30_25, x30_28, x30_31, x30_32, x30_33, x30_34, x30_37, x30_38, x30_39, x30_42, x30_43, x30_46, x30_49, x30_50, x30_53, x30_54, x30_57, x30_58, x30_61, x30_62, x30_64, x30_67, x30_70, x30_71, x30_74, x30_75, x30_76, x30_77, x30_80, x30_81, x30_82, x30_85, x30_86, x30_87, x30_90, x30_91, sh_105, lq_105, sh_106, lq_106, sh_108, lq_108, sh_109, lq_109, sh_110, lq_110, sh_111, lq_111, rg_105_0, rg_106_1, rg_106_2, rg_106_3, rg_106_4, p_at (n := 179) (a := 108) (by decide) rfl, p_at (n := 179) (a := 109) (by decide) rfl, p_at (n := 179) (a := 110) (by decide) rfl, p_at (n := 179) (a := 111) (by decide) rfl, sh_s, lq_s, sh_s1, lq_s1, sh_s2, lq_s2, sh_s3, lq_s3, sh_s4, lq_s4, sh_s5, lq_s5, sh_s6, lq_s6, sh_s7, lq_s7, sh_s8, lq_s8, sh_s9, lq_s9, sh_s10, lq_s10, sh_s11, lq_s11, sh_s12, lq_s12, sh_s13, lq_s13, sh_s14, lq_s14, sh_s15, lq_s15, sh_s16, lq_s16, sh_s17, lq_s17, sh_s18, lq_s18, sh_s19, lq_s19, sh_s20, lq_s20, sh_s21, lq_s21, sh_s22, lq_s22, sh_s23, lq_s23, sh_s24, lq_s24, sh_s25, lq_s25, rg_s0_0, rg_s0_1, rg_s0_2, rg_s0_3, rg_s1_0, rg_s1_1, rg_s1_2, rg_s1_3, rg_s1_4, rg_s7_0, rg_s9_0, rg_s9_1, rg_s9_2, rg_s9_3, rg_s9_4, rg_s9_5, rg_s16_6, rg_s16_7, rg_s16_0, rg_s16_1, rg_s16_2, rg_s16_3, rg_s16_4, rg_s16_5, sh_o, lq_o, sh_o1, lq_o1, sh_o2, lq_o2, sh_o3, lq_o3, sh_o4, lq_o4, sh_o5, lq_o5, sh_o6, lq_o6, rg_o0, rg_o1, rg_o2, rg_o3, rg_o4, rg_o5, ex5, Option.toList_some, Option.toList_none, List.cons_append, List.nil_append, true_and, and_true, nI_1, p_at, p_set, p_isIn, p_max, p_min, p_abs, hs, g4, c1, hw, ixi, e, if_false, nm (ixF (V 17) w N 0) (by omega), e2, m24 _ lt, e3]
  by_cases h1 : (nm1 T n c q).1 = 0
  · obtain ⟨hb, e1, e2, e3⟩ := nm1_0 h1
    have hJ := a4 h1
    subst hJ
    have k1 : q.2.2 < c := wq_c (by rw [e2]; decide)
    have k2 := ((wq_name hX).mp e2).2.1
    have hn := hX.1; have hcn := hX.2.1
    obtain ⟨q1, q2, q3⟩ := cs_good h hb
    have a11 : atv J1 111 (J1 105 6) = nxI T n q.2.2 := by rw [q2]; exact (atv_lt (show q.2.2 < 1601 by omega)).trans ((hT.1 _ k1).2.2.2.1 k2)
    obtain ⟨b, b1, b2, b3⟩ := half (nxI T n q.2.2)
    rw [if_pos h1] at a1
    by_cases hg : upF V N x (nxI T n q.2.2)
    · have eb : b = 1 := b2.mpr hg
      have ez : unz T n c V N x q = nxz q := by unfold unz; rw [if_neg (fun z => z.2.2 hg), nmz_1, if_pos h1]
      obtain ⟨f1, f2⟩ := cs_nx h (fun _ => k1)
      rw [ez]
      refine ⟨nI (ixF (V 17) (nxI T n q.2.2) N 0), _, fun r => ?_, f1, f2, fun _ => ⟨rfl, hg⟩⟩
      rw [b3 r a11, x30_63, if_neg (by have := hg.1; omega), eb]
      simp only [x30_0, x30_1, x30_4, x30_7, x30_8, x30_11, x30_14, x30_15, x30_18, x30_21, x30_22, x30_25, x30_28, x30_31, x30_32, x30_33, x30_34, x30_37, x30_38, x30_39, x30_42, x30_43, x30_46, x30_49, x30_50, x30_53, x30_54, x30_57, x30_58, x30_61, x30_62, x30_64, x30_67, x30_70, x30_71, x30_74, x30_75, x30_76, x30_77, x30_80, x30_81, x30_82, x30_85, x30_86, x30_87, x30_90, x30_91, sh_105, lq_105, sh_106, lq_106, sh_108, lq_108, sh_109, lq_109, sh_110, lq_110, sh_111, lq_111, rg_105_0, rg_106_1, rg_106_2, rg_106_3, rg_106_4, ex5, Option.toList_some, Option.toList_none, List.cons_append, List.nil_append, true_and, and_true, nI_1, p_at, p_set, p_isIn, p_max, p_min, p_abs, a1, one_ne, if_false]
    · have eb : b = 0 := b1.resolve_right (fun z => hg (b2.mp z))
      obtain ⟨J2, f1, f2, f3⟩ := c_fail (fu := 0) (kd := 3) (L := L) (xs := xs) (Lm := Lm) (nw := nw) (sp := sp) (s2 := s2) (ai := ai) (by decide) (by decide) hX hT h
      rw [n3, nI_0] at f1
      rw [show flz T n 3 0 q = (3, frW T n q.2.2, 0) from if_pos hb] at f2
      obtain ⟨p1, p2⟩ := cs_nx f2 (fun z => by cases z)
      have ez : unz T n c V N x q = (3, frW T n q.2.2, 0) := if_pos ⟨hb, nmz_0.mpr h1, hg⟩
      rw [ez]
      refine ⟨(if ixF (V 17) (nxI T n q.2.2) N 0 = N then -1 else nI (ixF (V 17) (nxI T n q.2.2) N 0)), _, fun r => ?_, p1, cfTr f3 p2, fun z => by cases z⟩
      rw [b3 r a11, x30_63, eb]
      simp only [x30_0, x30_1, x30_4, x30_7, x30_8, x30_11, x30_14, x30_15, x30_18, x30_21, x30_22, x30_25, x30_28, x30_31, x30_32, x30_33, x30_34, x30_37, x30_38, x30_39, x30_42, x30_43, x30_46, x30_49, x30_50, x30_53, x30_54, x30_57, x30_58, x30_61, x30_62, x30_64, x30_67, x30_70, x30_71, x30_74, x30_75, x30_76, x30_77, x30_80, x30_81, x30_82, x30_85, x30_86, x30_87, x30_90, x30_91, sh_105, lq_105, sh_106, lq_106, sh_108, lq_108, sh_109, lq_109, sh_110, lq_110, sh_111, lq_111, rg_105_0, rg_106_1, rg_106_2, rg_106_3, rg_106_4, ex5, Option.toList_some, Option.toList_none, List.cons_append, List.nil_append, true_and, and_true, nI_1, p_at, p_set, p_isIn, p_max, p_min, p_abs, a1, one_ne, if_false, if_true, f1]
  · have ez : unz T n c V N x q = nm1 T n c q := by unfold unz; rw [if_neg (fun z => h1 (nmz_0.mp z.2.1)), nmz_1, if_neg h1]
    obtain ⟨b, b1, b2, b3⟩ := half (atv I 111 (I 105 6))
    obtain ⟨p1, p2⟩ := cs_nx a2 (fun z => (h1 z).elim)
    rw [show nxz (nm1 T n c q) = nm1 T n c q from if_neg h1] at p1
    rw [if_neg h1] at a1
    rw [ez]
    refine ⟨(if ixF (V 17) (atv I 111 (I 105 6)) N 0 = N then -1 else nI (ixF (V 17) (atv I 111 (I 105 6)) N 0)), _, fun r => ?_, p1, cfTr a3 p2, fun z => (h1 z).elim⟩
    rw [b3 r rfl, x30_63]
    simp only [x30_0, x30_1, x30_4, x30_7, x30_8, x30_11, x30_14, x30_15, x30_18, x30_21, x30_22, x30_25, x30_28, x30_31, x30_32, x30_33, x30_34, x30_37, x30_38, x30_39, x30_42, x30_43, x30_46, x30_49, x30_50, x30_53, x30_54, x30_57, x30_58, x30_61, x30_62, x30_64, x30_67, x30_70, x30_71, x30_74, x30_75, x30_76, x30_77, x30_80, x30_81, x30_82, x30_85, x30_86, x30_87, x30_90, x30_91, sh_105, lq_105, sh_106, lq_106, sh_108, lq_108, sh_109, lq_109, sh_110, lq_110, sh_111, lq_111, rg_105_0, rg_106_1, rg_106_2, rg_106_3, rg_106_4, ex5, Option.toList_some, Option.toList_none, List.cons_append, List.nil_append, true_and, and_true, nI_1, p_at, p_set, p_isIn, p_max, p_min, p_abs, a1, if_true]
end
