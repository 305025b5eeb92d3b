/-! the class reads: hats, persons, who is in, pairs -/
def peQ0 (T : Nat → Nat) (n c : Nat) (V : Vw) (NS NH N : Nat) (q : Rz) : Rz := nnz T n c V NS NH N q
def peQ1 (T : Nat → Nat) (n c : Nat) (V : Vw) (NS NH N : Nat) (q : Rz) : Rz := asz T n c 1 (peQ0 T n c V NS NH N q)
def peQ2 (T : Nat → Nat) (n c : Nat) (V : Vw) (NS NH N : Nat) (q : Rz) : Rz := knz T n c (V 15) NS (peQ1 T n c V NS NH N q)
def peV (T : Nat → Nat) (n c : Nat) (V : Vw) (NS NH N : Nat) (q : Rz) : Vw := up2 (up2 (up2 (up2 V 17 N (nxI T n q.2.2)) 0 N (nI (ixF (V 15) (nxI T n (peQ1 T n c V NS NH N q).2.2) NS 0))) 1 N (-1)) 3 N (-1)
def inQ0 (T : Nat → Nat) (n c : Nat) (V : Vw) (N : Nat) (q : Rz) : Rz := knz T n c (V 17) N q
def inQ1 (T : Nat → Nat) (n c : Nat) (V : Vw) (NH N : Nat) (q : Rz) : Rz := knz T n c (V 16) NH (inQ0 T n c V N q)
def inP (T : Nat → Nat) (n : Nat) (V : Vw) (N : Nat) (q : Rz) : Nat := ixF (V 17) (nxI T n q.2.2) N 0
def inV (T : Nat → Nat) (n c : Nat) (V : Vw) (NH N : Nat) (q : Rz) : Vw := up2 V 1 (inP T n V N q) (nI (ixF (V 16) (nxI T n (inQ0 T n c V N q).2.2) NH 0))
def paQ0 (T : Nat → Nat) (n c : Nat) (V : Vw) (N : Nat) (q : Rz) : Rz := unz T n c V N (-1) q
def paQ1 (T : Nat → Nat) (n c : Nat) (V : Vw) (N : Nat) (q : Rz) : Rz := unz T n c V N (nI (inP T n V N q)) (paQ0 T n c V N q)
def paB (T : Nat → Nat) (n c : Nat) (V : Vw) (N : Nat) (q : Rz) : Nat := ixF (V 17) (nxI T n (paQ0 T n c V N q).2.2) N 0
def paV (T : Nat → Nat) (n c : Nat) (V : Vw) (N P : Nat) (q : Rz) : Vw := up2 (up2 (up2 (up2 V 3 (inP T n V N q) (nI (paB T n c V N q))) 3 (paB T n c V N q) (nI (inP T n V N q))) 13 P (nI (inP T n V N q))) 14 P (nI (paB T n c V N q))
theorem knz_0 {T : Nat → Nat} {n c m : Nat} {f : Nat → Int32} {q : Rz} (h : (knz T n c f m q).1 = 0) : q.1 = 0 ∧ (nmz T n c q).1 = 0 ∧ ixF f (nxI T n q.2.2) m 0 < m := by
  have l := ixF_le (f := f) (v := nxI T n q.2.2) m 0
  unfold knz at h
  by_cases z : q.1 = 0 ∧ (nmz T n c q).1 = 0 ∧ ixF f (nxI T n q.2.2) m 0 = m
  · rw [if_pos z] at h; cases h
  · rw [if_neg z] at h
    have hb := (nm1_0 (nmz_0.mp h)).1
    refine ⟨hb, h, ?_⟩
    by_cases y : ixF f (nxI T n q.2.2) m 0 = m
    · exact (z ⟨hb, h, y⟩).elim
    · omega
theorem unz_0 {T : Nat → Nat} {n c N : Nat} {V : Vw} {b : Int32} {q : Rz} (h : (unz T n c V N b q).1 = 0) : q.1 = 0 ∧ (nmz T n c q).1 = 0 ∧ upF V N b (nxI T n q.2.2) := by
  unfold unz at h
  by_cases z : q.1 = 0 ∧ (nmz T n c q).1 = 0 ∧ ¬ upF V N b (nxI T n q.2.2)
  · rw [if_pos z] at h; cases h
  · rw [if_neg z] at h
    have hb := (nm1_0 (nmz_0.mp h)).1
    refine ⟨hb, h, ?_⟩
    by_cases y : upF V N b (nxI T n q.2.2)
    · exact y
    · exact (z ⟨hb, h, y⟩).elim
theorem unz_b {T : Nat → Nat} {n c N : Nat} {V : Vw} {b : Int32} {q : Rz} (h : ¬ q.1 = 0) : unz T n c V N b q = q := by
  unfold unz
  rw [if_neg (fun z => h z.1)]
  unfold nmz
  rw [if_neg h]
section
variable {L : Nat} {xs : Nat → Int32} {σ : Mm} {r : Option Value × Mm} {I J K : Nat → Nat → Int32} {Lm : Nat → Nat → Int64} {Rm : Nat → Nat → Nat} {n s so t N NS NH m M P nw S U : Nat} {V W : Vw} {sp s2 ai p : Nat} {x y z h v : Int32} {k c w lo hi fu a : Nat} {T : Nat → Nat} {q : Rz} {f : Nat → Int32} {E E2 : Nat → Nat → Prop}
/-- what a hat changes -/
def EHa (s NH p k : Nat) : Prop := E0 p k ∨ (s + 2 ≤ p ∧ p ≤ s + 6 ∧ k = NH) ∨ (p = s + 1 ∧ k = 5)
theorem eHaB : EB s (EHa s NH) := fun p k h => by
  rcases h with h | ⟨h1, h2, -⟩ | ⟨h, -⟩
  · exact Or.inl h
  · exact Or.inr (by omega)
  · exact Or.inr (by omega)
/-- the kind of a hat: faults, and on -/
theorem c_kind (hX : TX T n c) (hT : TKs I T n c) (h : CS I T n c q) : ∃ J, CS J T n c (kdQ T n c q) ∧ CF I J ∧ (∀ r l1, Ev L xs 4 35 91 [some (.ref 105), l1, some (.int (nI (ahV T n c q) - 11))] [] (179, I, Lm, RG nw sp s2 ai) r ↔ Ev L xs 4 35 116 [some (.ref 105), l1, some (.int (nI (ahV T n c q) - 11))] [] (179, J, Lm, RG nw sp s2 ai) r) := by
  have n1 : nI 1 = 1 := rfl
  have b := wq_b hX q.2.2
  by_cases hk : q.1 = 0 ∧ 11 ≤ wq T n c q.2.2 ∧ wq T n c q.2.2 ≤ 14
  · have ea : ahV T n c q = wq T n c q.2.2 := if_pos hk.1
    have e2 : nI (wq T n c q.2.2) - 11 = nI (wq T n c q.2.2 - 11) := pk_sub (b := 11) hk.2.1
    have c1 : (nI (wq T n c q.2.2 - 11) < (0 : Int32)) = False := eq_false (nI_pos (by omega))
    have c2 : (nI (wq T n c q.2.2 - 11) ≤ (3 : Int32)) = True := eq_true (nI_le (b := 3) (by omega) (by decide))
    obtain ⟨f1, f2⟩ := cs_nx h (fun _ => wq_c (T := T) (n := n) (c := c) (k := q.2.2) (by omega))
    have ez : kdQ T n c q = nxz q := by unfold kdQ nxz; rw [if_pos hk.1, if_pos hk.2, if_pos hk.1]
    rw [ez]
    refine ⟨_, f1, f2, fun r l1 => ?_⟩
    rw [ea, e2, x35_91]
    simp only [x35_0, x35_1, x35_4, x35_7, x35_8, x35_9, x35_12, x35_15, x35_16, x35_17, x35_20, x35_23, x35_24, x35_27, x35_30, x35_31, x35_32, x35_34, x35_35, x35_37, x35_40, x35_43, x35_44, x35_47, x35_50, x35_51, x35_52, x35_54, x35_55, x35_57, x35_60, x35_63, x35_64, x35_67, x35_70, x35_71, x35_72, x35_74, x35_75, x35_77, x35_80, x35_83, x35_84, x35_87, x35_89, x35_90, x35_92, x35_95, x35_96, x35_97, x35_100, x35_101, x35_102, x35_103, x35_106, x35_107, x35_108, x35_111, x35_112, x35_113, x35_117, x35_120, x35_123, x35_124, x35_125, x35_128, x35_129, x35_132, x35_133, x35_136, x35_137, x35_138, x35_141, sh_105, lq_105, sh_106, lq_106, sh_108, lq_108, sh_109, lq_109, sh_110, lq_110, sh_111, lq_111, rg_105_0, rg_106_1, rg_106_2, rg_106_3, rg_106_4, ex5, Option.toList_some, Option.toList_none, List.cons_append, List.nil_append, true_and, and_true, nI_1, p_at, p_set, p_isIn, p_max, p_min, p_abs, c1, c2, if_true, if_false]
  · obtain ⟨J, f1, f2, f3⟩ := c_fail (fu := 0) (kd := 1) (L := L) (xs := xs) (Lm := Lm) (nw := nw) (sp := sp) (s2 := s2) (ai := ai) (by decide) (by decide) hX hT h
    rw [n1, nI_0] at f1
    have ez : kdQ T n c q = flz T n 1 0 q := by
      unfold kdQ flz
      by_cases hb : q.1 = 0
      · rw [if_pos hb, if_pos hb, if_neg (fun z => hk ⟨hb, z⟩)]; rfl
      · rw [if_neg hb, if_neg hb]
    have hq : ¬ (flz T n 1 0 q).1 = 0 := by
      unfold flz
      by_cases hb : q.1 = 0
      · rw [if_pos hb]; exact Nat.one_ne_zero
      · rw [if_neg hb]; exact hb
    obtain ⟨k1, k2⟩ := cs_nx f2 (fun z => (hq z).elim)
    rw [show nxz (flz T n 1 0 q) = flz T n 1 0 q from if_neg hq] at k1
    rw [ez]
    refine ⟨_, k1, cfTr f3 k2, fun r l1 => ?_⟩
    rw [x35_91]
    have ha : ahV T n c q < 512 := by
      unfold ahV
      by_cases hb : q.1 = 0
      · rw [if_pos hb]; exact b
      · rw [if_neg hb]; decide
    have hn : ahV T n c q < 11 ∨ 14 < ahV T n c q := by
      unfold ahV
      by_cases hb : q.1 = 0
      · rw [if_pos hb]
        by_cases z : wq T n c q.2.2 < 11
        · exact Or.inl z
        · by_cases y : 14 < wq T n c q.2.2
          · exact Or.inr y
          · exact (hk ⟨hb, by omega, by omega⟩).elim
      · rw [if_neg hb]; exact Or.inr (by decide)
    rcases hn with hn | hn
    · have c1 : (nI (ahV T n c q) - 11 < (0 : Int32)) = True := eq_true (pk_sneg (a := ahV T n c q) (b := 11) (by decide) hn)
      simp only [x35_0, x35_1, x35_4, x35_7, x35_8, x35_9, x35_12, x35_15, x35_16, x35_17, x35_20, x35_23, x35_24, x35_27, x35_30, x35_31, x35_32, x35_34, x35_35, x35_37, x35_40, x35_43, x35_44, x35_47, x35_50, x35_51, x35_52, x35_54, x35_55, x35_57, x35_60, x35_63, x35_64, x35_67, x35_70, x35_71, x35_72, x35_74, x35_75, x35_77, x35_80, x35_83, x35_84, x35_87, x35_89, x35_90, x35_92, x35_95, x35_96, x35_97, x35_100, x35_101, x35_102, x35_103, x35_106, x35_107, x35_108, x35_111, x35_112, x35_113, x35_117, x35_120, x35_123, x35_124, x35_125, x35_128, x35_129, x35_132, x35_133, x35_136, x35_137, x35_138, x35_141, sh_105, lq_105, sh_106, lq_106, sh_108, lq_108, sh_109, lq_109, sh_110, lq_110, sh_111, lq_111, rg_105_0, rg_106_1, rg_106_2, rg_106_3, rg_106_4, ex5, Option.toList_some, Option.toList_none, List.cons_append, List.nil_append, true_and, and_true, nI_1, p_at, p_set, p_isIn, p_max, p_min, p_abs, c1, if_true, f1]
    · have e2 : nI (ahV T n c q) - 11 = nI (ahV T n c q - 11) := pk_sub (b := 11) (by omega)
      have c1 : (nI (ahV T n c q - 11) < (0 : Int32)) = False := eq_false (nI_pos (by omega))
      have c2 : (nI (ahV T n c q - 11) ≤ (3 : Int32)) = False := eq_false (nI_ge (a := 3) (by omega) (by omega))
      rw [e2]
      simp only [x35_0, x35_1, x35_4, x35_7, x35_8, x35_9, x35_12, x35_15, x35_16, x35_17, x35_20, x35_23, x35_24, x35_27, x35_30, x35_31, x35_32, x35_34, x35_35, x35_37, x35_40, x35_43, x35_44, x35_47, x35_50, x35_51, x35_52, x35_54, x35_55, x35_57, x35_60, x35_63, x35_64, x35_67, x35_70, x35_71, x35_72, x35_74, x35_75, x35_77, x35_80, x35_83, x35_84, x35_87, x35_89, x35_90, x35_92, x35_95, x35_96, x35_97, x35_100, x35_101, x35_102, x35_103, x35_106, x35_107, x35_108, x35_111, x35_112, x35_113, x35_117, x35_120, x35_123, x35_124, x35_125, x35_128, x35_129, x35_132, x35_133, x35_136, x35_137, x35_138, x35_141, sh_105, lq_105, sh_106, lq_106, sh_108, lq_108, sh_109, lq_109, sh_110, lq_110, sh_111, lq_111, rg_105_0, rg_106_1, rg_106_2, rg_106_3, rg_106_4, ex5, Option.toList_some, Option.toList_none, List.cons_append, List.nil_append, true_and, and_true, nI_1, p_at, p_set, p_isIn, p_max, p_min, p_abs, c1, c2, if_false, f1]
theorem c_hat (ha : ai = 37 ∨ ai = 71) (hs1 : s = ai + 1) (hR : RdC I s V NS NH N M P) (hN : NS ≤ 6 ∧ NH < 4 ∧ N ≤ 12) (hX : TX T n c) (hT : TKs I T n c) (h : CS I T n c q) : ∃ J, (∀ r, Em L xs 35 [.ref 105] (179, I, Lm, RG nw sp s2 ai) r ↔ r = (none, 179, J, Lm, RG nw sp s2 ai)) ∧ CS J T n c (haQ4 T n c V NS NH N q) ∧ FX I J (EHa s NH) ∧ ((haQ4 T n c V NS NH N q).1 = 0 → RdC J s (haV T n c V NS NH N q) NS (NH + 1) N M P) := by
  obtain ⟨hs, ho, s36, s73, hwd⟩ := rd_sc ha hs1
  obtain ⟨g1, g2, g3, g4, g5⟩ := rd_rg (nw := nw) (sp := sp) (s2 := s2) hs1
  have hc := hR.1.2.2.1
  have e0 : ∀ p k, E0 p k → EHa s NH p k := fun p k z => Or.inl z
  have ea : ∀ a, 2 ≤ a → a ≤ 6 → EHa s NH (s + a) NH := fun a h1 h2 => Or.inr (Or.inl ⟨by omega, by omega, rfl⟩)
  obtain ⟨v0, J0, p0, q0, f0, u0⟩ := c_newName (L := L) (xs := xs) (Lm := Lm) (nw := nw) (sp := sp) (s2 := s2) ha hs1 hR ⟨hN.1, by omega, hN.2.2⟩ hX hT h
  have q0 : CS J0 T n c (haQ0 T n c V NS NH N q) := q0
  have u0 : (haQ0 T n c V NS NH N q).1 = 0 → v0 = nxI T n q.2.2 := u0
  have F0 : FX I J0 (EHa s NH) := fxCF f0 e0
  have F0u : FX I (up2 J0 (s + 2) NH v0) (EHa s NH) := fxTr F0 (fxUp (ea 2 (by decide) (by decide)))
  obtain ⟨v1, J1, p1, q1, f1, u1⟩ := c_numAfter (w := 8) (lo := 0) (hi := 100) (L := L) (xs := xs) (Lm := Lm) (nw := nw) (sp := sp) (s2 := s2) (ai := ai) (by decide) (by decide) (by decide) (by decide) hX (F0u.tks eHaB s73 hT) (csUp (p := s + 2) (k := NH) (v := v0) q0 (by omega))
  have q1 : CS J1 T n c (haQ1 T n c V NS NH N q) := q1
  have u1 : (haQ1 T n c V NS NH N q).1 = 0 → v1 = nbX T n c 8 (haQ0 T n c V NS NH N q) := u1
  have p1 : ∀ r, Em L xs 25 [.ref 105, .int 8, .int 0, .int 100] (179, up2 J0 (s + 2) NH v0, Lm, RG nw sp s2 ai) r ↔ r = (some (.int v1), 179, J1, Lm, RG nw sp s2 ai) := fun r => p1 r
  have F1 : FX I J1 (EHa s NH) := fxTr F0u (fxCF f1 e0)
  have F1u : FX I (up2 J1 (s + 3) NH v1) (EHa s NH) := fxTr F1 (fxUp (ea 3 (by decide) (by decide)))
  obtain ⟨v2, J2, p2, q2, f2, u2⟩ := c_numAfter (w := 9) (lo := 0) (hi := 60) (L := L) (xs := xs) (Lm := Lm) (nw := nw) (sp := sp) (s2 := s2) (ai := ai) (by decide) (by decide) (by decide) (by decide) hX (F1u.tks eHaB s73 hT) (csUp (p := s + 3) (k := NH) (v := v1) q1 (by omega))
  have q2 : CS J2 T n c (haQ2 T n c V NS NH N q) := q2
  have u2 : (haQ2 T n c V NS NH N q).1 = 0 → v2 = nbX T n c 9 (haQ1 T n c V NS NH N q) := u2
  have p2 : ∀ r, Em L xs 25 [.ref 105, .int 9, .int 0, .int 60] (179, up2 J1 (s + 3) NH v1, Lm, RG nw sp s2 ai) r ↔ r = (some (.int v2), 179, J2, Lm, RG nw sp s2 ai) := fun r => p2 r
  have F2 : FX I J2 (EHa s NH) := fxTr F1u (fxCF f2 e0)
  have F2u : FX I (up2 J2 (s + 4) NH v2) (EHa s NH) := fxTr F2 (fxUp (ea 4 (by decide) (by decide)))
  obtain ⟨v3, J3, p3, q3, f3, u3⟩ := c_numAfter (w := 10) (lo := 0) (hi := 100) (L := L) (xs := xs) (Lm := Lm) (nw := nw) (sp := sp) (s2 := s2) (ai := ai) (by decide) (by decide) (by decide) (by decide) hX (F2u.tks eHaB s73 hT) (csUp (p := s + 4) (k := NH) (v := v2) q2 (by omega))
  have q3 : CS J3 T n c (haQ3 T n c V NS NH N q) := q3
  have u3 : (haQ3 T n c V NS NH N q).1 = 0 → v3 = nbX T n c 10 (haQ2 T n c V NS NH N q) := u3
  have p3 : ∀ r, Em L xs 25 [.ref 105, .int 10, .int 0, .int 100] (179, up2 J2 (s + 4) NH v2, Lm, RG nw sp s2 ai) r ↔ r = (some (.int v3), 179, J3, Lm, RG nw sp s2 ai) := fun r => p3 r
  have F3 : FX I J3 (EHa s NH) := fxTr F2u (fxCF f3 e0)
  have F3u : FX I (up2 J3 (s + 5) NH v3) (EHa s NH) := fxTr F3 (fxUp (ea 5 (by decide) (by decide)))
  have q3u := csUp (p := s + 5) (k := NH) (v := v3) q3 (by omega)
  have ah := fun r => c_ahead (L := L) (xs := xs) (Lm := Lm) (nw := nw) (sp := sp) (s2 := s2) (ai := ai) hX (F3u.tks eHaB s73 hT) q3u r
  obtain ⟨J4, q4, f4, p4⟩ := c_kind (L := L) (xs := xs) (Lm := Lm) (nw := nw) (sp := sp) (s2 := s2) (ai := ai) hX (F3u.tks eHaB s73 hT) q3u
  obtain ⟨v4, hv4⟩ : ∃ v4, nI (ahV T n c (haQ3 T n c V NS NH N q)) - 11 = v4 := ⟨_, rfl⟩
  rw [hv4] at p4
  have q4 : CS J4 T n c (haQ4 T n c V NS NH N q) := q4
  have u4 : (haQ4 T n c V NS NH N q).1 = 0 → (haQ3 T n c V NS NH N q).1 = 0 ∧ v4 = kdX T n c (haQ3 T n c V NS NH N q) := fun z => by
    rw [← hv4]
    have z : (kdQ T n c (haQ3 T n c V NS NH N q)).1 = 0 := z
    unfold kdQ at z
    by_cases hb : (haQ3 T n c V NS NH N q).1 = 0
    · rw [if_pos hb] at z
      by_cases hk : 11 ≤ wq T n c (haQ3 T n c V NS NH N q).2.2 ∧ wq T n c (haQ3 T n c V NS NH N q).2.2 ≤ 14
      · refine ⟨hb, ?_⟩
        rw [show ahV T n c (haQ3 T n c V NS NH N q) = wq T n c (haQ3 T n c V NS NH N q).2.2 from if_pos hb]
        exact pk_sub (b := 11) hk.1
      · rw [if_neg hk] at z; cases z
    · rw [if_neg hb] at z; exact (hb z).elim
  have F4 : FX I J4 (EHa s NH) := fxTr F3u (fxCF f4 e0)
  have F4u : FX I (up2 J4 (s + 6) NH v4) (EHa s NH) := fxTr F4 (fxUp (ea 6 (by decide) (by decide)))
  have F5c : FX I (up2 J4 (s + 6) NH v4) (fun p k => E0 p k ∨ (s + 2 ≤ p ∧ p ≤ s + 6 ∧ k = NH)) := by
    have cf : ∀ {A B : Nat → Nat → Int32}, CF A B → FX A B (fun p k => E0 p k ∨ (s + 2 ≤ p ∧ p ≤ s + 6 ∧ k = NH)) := fun hh => fxCF hh (fun p k z => Or.inl z)
    have cu : ∀ {A : Nat → Nat → Int32} {x : Int32} a, 2 ≤ a → a ≤ 6 → FX A (up2 A (s + a) NH x) (fun p k => E0 p k ∨ (s + 2 ≤ p ∧ p ≤ s + 6 ∧ k = NH)) := fun a h1 h2 => fxUp (Or.inr ⟨by omega, by omega, rfl⟩)
    exact fxTr (fxTr (fxTr (fxTr (fxTr (fxTr (fxTr (fxTr (fxTr (cf f0) (cu 2 (by decide) (by decide))) (cf f1)) (cu 3 (by decide) (by decide))) (cf f2)) (cu 4 (by decide) (by decide))) (cf f3)) (cu 5 (by decide) (by decide))) (cf f4)) (cu 6 (by decide) (by decide))
  have hc5 : up2 J4 (s + 6) NH v4 (s + 1) 5 = nI NH := (F5c (s + 1) 5 (fun z => z.elim (fun y => by have := y.1; omega) (fun y => by omega))).trans hc
  have t0 : ∀ (J : Nat → Nat → Int32) v, setv J (s + 2) (nI NH) v = up2 J (s + 2) NH v := fun J v => setv_lt (by rw [sh_s2 hs]; show NH < 4; omega)
  have t1 : ∀ (J : Nat → Nat → Int32) v, setv J (s + 3) (nI NH) v = up2 J (s + 3) NH v := fun J v => setv_lt (by rw [sh_s3 hs]; show NH < 4; omega)
  have t2 : ∀ (J : Nat → Nat → Int32) v, setv J (s + 4) (nI NH) v = up2 J (s + 4) NH v := fun J v => setv_lt (by rw [sh_s4 hs]; show NH < 4; omega)
  have t3 : ∀ (J : Nat → Nat → Int32) v, setv J (s + 5) (nI NH) v = up2 J (s + 5) NH v := fun J v => setv_lt (by rw [sh_s5 hs]; show NH < 4; omega)
  have t4 : ∀ (J : Nat → Nat → Int32) v, setv J (s + 6) (nI NH) v = up2 J (s + 6) NH v := fun J v => setv_lt (by rw [sh_s6 hs]; show NH < 4; omega)
  refine ⟨up2 (up2 J4 (s + 6) NH v4) (s + 1) 5 (nI (NH + 1)), fun r => ?_, csUp (csUp q4 (by omega)) (by omega), fxTr F4u (fxUp (Or.inr (Or.inr ⟨rfl, rfl⟩))), fun hg => ?_⟩
  · have p4 := p4 r (some (.int (nI NH)))
    rw [em_35]
    simp only [x35_0, x35_1, x35_4, x35_7, x35_8, x35_9, x35_12, x35_15, x35_16, x35_17, x35_20, x35_23, x35_24, x35_27, x35_30, x35_31, x35_32, x35_34, x35_35, x35_37, x35_40, x35_43, x35_44, x35_47, x35_50, x35_51, x35_52, x35_54, x35_55, x35_57, x35_60, x35_63, x35_64, x35_67, x35_70, x35_71, x35_72, x35_74, x35_75, x35_77, x35_80, x35_83, x35_84, x35_87, x35_89, x35_90, x35_92, x35_95, x35_96, x35_97, x35_100, x35_101, x35_102, x35_103, x35_106, x35_107, x35_108, x35_111, x35_112, x35_113, x35_117, x35_120, x35_123, x35_124, x35_125, x35_128, x35_129, x35_132, x35_133, x35_136, x35_137, x35_138, x35_141, sh_105, lq_105, sh_106, lq_106, sh_108, lq_108, sh_109, lq_109, sh_110, lq_110, sh_111, lq_111, rg_105_0, rg_106_1, rg_106_2, rg_106_3, rg_106_4, sh_s, lq_s, sh_s1, lq_s1, sh_s2, lq_s2, sh_s3, lq_s3, sh_s4, lq_s4, sh_s5, lq_s5, sh_s6, lq_s6, sh_s7, lq_s7, sh_s8, lq_s8, sh_s9, lq_s9, sh_s10, lq_s10, sh_s11, lq_s11, sh_s12, lq_s12, sh_s13, lq_s13, sh_s14, lq_s14, sh_s15, lq_s15, sh_s16, lq_s16, sh_s17, lq_s17, sh_s18, lq_s18, sh_s19, lq_s19, sh_s20, lq_s20, sh_s21, lq_s21, sh_s22, lq_s22, sh_s23, lq_s23, sh_s24, lq_s24, sh_s25, lq_s25, rg_s0_0, rg_s0_1, rg_s0_2, rg_s0_3, rg_s1_0, rg_s1_1, rg_s1_2, rg_s1_3, rg_s1_4, rg_s7_0, rg_s9_0, rg_s9_1, rg_s9_2, rg_s9_3, rg_s9_4, rg_s9_5, rg_s16_6, rg_s16_7, rg_s16_0, rg_s16_1, rg_s16_2, rg_s16_3, rg_s16_4, rg_s16_5, sh_o, lq_o, sh_o1, lq_o1, sh_o2, lq_o2, sh_o3, lq_o3, sh_o4, lq_o4, sh_o5, lq_o5, sh_o6, lq_o6, rg_o0, rg_o1, rg_o2, rg_o3, rg_o4, rg_o5, ex5, Option.toList_some, Option.toList_none, List.cons_append, List.nil_append, true_and, and_true, nI_1, p_at, p_set, p_isIn, p_max, p_min, p_abs, hs, ho, g3, hc, p0, t0, p1, t1, p2, t2, p3, t3, ah, hv4]
    refine p4.trans ?_
    rw [x35_116]
    simp only [x35_0, x35_1, x35_4, x35_7, x35_8, x35_9, x35_12, x35_15, x35_16, x35_17, x35_20, x35_23, x35_24, x35_27, x35_30, x35_31, x35_32, x35_34, x35_35, x35_37, x35_40, x35_43, x35_44, x35_47, x35_50, x35_51, x35_52, x35_54, x35_55, x35_57, x35_60, x35_63, x35_64, x35_67, x35_70, x35_71, x35_72, x35_74, x35_75, x35_77, x35_80, x35_83, x35_84, x35_87, x35_89, x35_90, x35_92, x35_95, x35_96, x35_97, x35_100, x35_101, x35_102, x35_103, x35_106, x35_107, x35_108, x35_111, x35_112, x35_113, x35_117, x35_120, x35_123, x35_124, x35_125, x35_128, x35_129, x35_132, x35_133, x35_136, x35_137, x35_138, x35_141, sh_105, lq_105, sh_106, lq_106, sh_108, lq_108, sh_109, lq_109, sh_110, lq_110, sh_111, lq_111, rg_105_0, rg_106_1, rg_106_2, rg_106_3, rg_106_4, sh_s, lq_s, sh_s1, lq_s1, sh_s2, lq_s2, sh_s3, lq_s3, sh_s4, lq_s4, sh_s5, lq_s5, sh_s6, lq_s6, sh_s7, lq_s7, sh_s8, lq_s8, sh_s9, lq_s9, sh_s10, lq_s10, sh_s11, lq_s11, sh_s12, lq_s12, sh_s13, lq_s13, sh_s14, lq_s14, sh_s15, lq_s15, sh_s16, lq_s16, sh_s17, lq_s17, sh_s18, lq_s18, sh_s19, lq_s19, sh_s20, lq_s20, sh_s21, lq_s21, sh_s22, lq_s22, sh_s23, lq_s23, sh_s24, lq_s24, sh_s25, lq_s25, rg_s0_0, rg_s0_1, rg_s0_2, rg_s0_3, rg_s1_0, rg_s1_1, rg_s1_2, rg_s1_3, rg_s1_4, rg_s7_0, rg_s9_0, rg_s9_1, rg_s9_2, rg_s9_3, rg_s9_4, rg_s9_5, rg_s16_6, rg_s16_7, rg_s16_0, rg_s16_1, rg_s16_2, rg_s16_3, rg_s16_4, rg_s16_5, sh_o, lq_o, sh_o1, lq_o1, sh_o2, lq_o2, sh_o3, lq_o3, sh_o4, lq_o4, sh_o5, lq_o5, sh_o6, lq_o6, rg_o0, rg_o1, rg_o2, rg_o3, rg_o4, rg_o5, ex5, Option.toList_some, Option.toList_none, List.cons_append, List.nil_append, true_and, and_true, nI_1, p_at, p_set, p_isIn, p_max, p_min, p_abs, hs, ho, g3, t4, hc5]
  · obtain ⟨h4, w4⟩ := u4 hg
    have h3 : (haQ2 T n c V NS NH N q).1 = 0 := nbA_0 h4
    have h2 : (haQ1 T n c V NS NH N q).1 = 0 := nbA_0 h3
    have h1 : (haQ0 T n c V NS NH N q).1 = 0 := nbA_0 h2
    have w0 := u0 h1; have w1 := u1 h2; have w2 := u2 h3; have w3 := u3 h4
    have hRJ : RdC (up2 J4 (s + 6) NH v4) s V NS NH N M P := hR.fx F5c ⟨fun z => z.elim (fun y => by have := y.1; omega) (fun y => by omega), fun z => z.elim (fun y => by have := y.1; omega) (fun y => by omega), fun z => z.elim (fun y => by have := y.1; omega) (fun y => by omega), fun z => z.elim (fun y => by have := y.1; omega) (fun y => by omega), fun z => z.elim (fun y => by have := y.1; omega) (fun y => by omega)⟩ (fun k hk => ⟨fun z => z.elim (fun y => by have := y.1; omega) (fun y => by omega), fun z => z.elim (fun y => by have := y.1; omega) (fun y => by omega), fun z => z.elim (fun y => by have := y.1; omega) (fun y => by omega), fun z => z.elim (fun y => by have := y.1; omega) (fun y => by omega), fun z => z.elim (fun y => by have := y.1; omega) (fun y => by omega)⟩) (fun k hk a a1 a2 => fun z => z.elim (fun y => by have := y.1; omega) (fun y => by omega)) (fun k hk a a1 a2 => fun z => z.elim (fun y => by have := y.1; omega) (fun y => by omega)) (fun k hk => ⟨fun z => z.elim (fun y => by have := y.1; omega) (fun y => by omega), fun z => z.elim (fun y => by have := y.1; omega) (fun y => by omega)⟩)
    obtain ⟨⟨c1, c2, c3, c4, c5⟩, d1, d2, d3, d4⟩ := hRJ
    have sv : ∀ f k, f ≠ 16 → f ≠ 9 → f ≠ 10 → f ≠ 11 → f ≠ 12 → haV T n c V NS NH N q f k = V f k := fun f k a1 a2 a3 a4 a5 => by unfold haV; rw [up2_p a5, up2_p a4, up2_p a3, up2_p a2, up2_p a1]
    have ov : ∀ f k, k ≠ NH → haV T n c V NS NH N q f k = V f k := fun f k hk => by unfold haV up2; rw [if_neg (fun z => hk z.2), if_neg (fun z => hk z.2), if_neg (fun z => hk z.2), if_neg (fun z => hk z.2), if_neg (fun z => hk z.2)]
    have op : ∀ p, p ≠ s + 1 → ∀ k, up2 (up2 J4 (s + 6) NH v4) (s + 1) 5 (nI (NH + 1)) p k = up2 J4 (s + 6) NH v4 p k := fun p hp k => up2_p hp
    refine ⟨⟨by rw [op _ (by omega)]; exact c1, by rw [op _ (by omega)]; exact c2, up2_eq, by rw [op _ (by omega)]; exact c4, by rw [op _ (by omega)]; exact c5⟩, fun k hk => ?_, fun k hk => ?_, fun k hk => ?_, fun k hk => ?_⟩
    · rw [op _ (by omega), op _ (by omega), op _ (by omega), op _ (by omega), op _ (by omega), sv 0 k (by decide) (by decide) (by decide) (by decide) (by decide), sv 1 k (by decide) (by decide) (by decide) (by decide) (by decide), sv 3 k (by decide) (by decide) (by decide) (by decide) (by decide), sv 17 k (by decide) (by decide) (by decide) (by decide) (by decide)]
      exact d1 k hk
    · rw [op _ (by omega), op _ (by omega), op _ (by omega), op _ (by omega), op _ (by omega), op _ (by omega), sv 15 k (by decide) (by decide) (by decide) (by decide) (by decide), sv 4 k (by decide) (by decide) (by decide) (by decide) (by decide), sv 5 k (by decide) (by decide) (by decide) (by decide) (by decide), sv 6 k (by decide) (by decide) (by decide) (by decide) (by decide), sv 7 k (by decide) (by decide) (by decide) (by decide) (by decide), sv 8 k (by decide) (by decide) (by decide) (by decide) (by decide)]
      exact d2 k hk
    · rw [op _ (by omega), op _ (by omega), op _ (by omega), op _ (by omega), op _ (by omega)]
      by_cases e : k = NH
      · subst e
        have b : ∀ {A B : Nat → Nat → Int32} {p j : Nat}, CF A B → p ≠ 105 → B p j = A p j := fun hh hp => by rw [hh.1 _ hp]
        have y0 : up2 J4 (s + 6) k v4 (s + 2) k = v0 := by rw [up2_p (show s + 2 ≠ s + 6 by omega), b f4 (show s + 2 ≠ 105 by omega), up2_p (show s + 2 ≠ s + 5 by omega), b f3 (show s + 2 ≠ 105 by omega), up2_p (show s + 2 ≠ s + 4 by omega), b f2 (show s + 2 ≠ 105 by omega), up2_p (show s + 2 ≠ s + 3 by omega), b f1 (show s + 2 ≠ 105 by omega), up2_eq]
        have y1 : up2 J4 (s + 6) k v4 (s + 3) k = v1 := by rw [up2_p (show s + 3 ≠ s + 6 by omega), b f4 (show s + 3 ≠ 105 by omega), up2_p (show s + 3 ≠ s + 5 by omega), b f3 (show s + 3 ≠ 105 by omega), up2_p (show s + 3 ≠ s + 4 by omega), b f2 (show s + 3 ≠ 105 by omega), up2_eq]
        have y2 : up2 J4 (s + 6) k v4 (s + 4) k = v2 := by rw [up2_p (show s + 4 ≠ s + 6 by omega), b f4 (show s + 4 ≠ 105 by omega), up2_p (show s + 4 ≠ s + 5 by omega), b f3 (show s + 4 ≠ 105 by omega), up2_eq]
        have y3 : up2 J4 (s + 6) k v4 (s + 5) k = v3 := by rw [up2_p (show s + 5 ≠ s + 6 by omega), b f4 (show s + 5 ≠ 105 by omega), up2_eq]
        have y4 : up2 J4 (s + 6) k v4 (s + 6) k = v4 := by rw [up2_eq]
        rw [y0, y1, y2, y3, y4, w0, w1, w2, w3, w4]
        unfold haV
        refine ⟨?_, ?_, ?_, ?_, ?_⟩
        · rw [up2_p (by decide), up2_p (by decide), up2_p (by decide), up2_p (by decide), up2_eq]
        · rw [up2_p (by decide), up2_p (by decide), up2_p (by decide), up2_eq]
        · rw [up2_p (by decide), up2_p (by decide), up2_eq]
        · rw [up2_p (by decide), up2_eq]
        · rw [up2_eq]
      · rw [ov 16 k e, ov 9 k e, ov 10 k e, ov 11 k e, ov 12 k e]
        exact d3 k (by omega)
    · rw [op _ (by omega), op _ (by omega), sv 13 k (by decide) (by decide) (by decide) (by decide) (by decide), sv 14 k (by decide) (by decide) (by decide) (by decide) (by decide)]
      exact d4 k hk
end
