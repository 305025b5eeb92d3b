/-! the class reads: persons, who is in, pairs -/
section
variable {L : Nat} {xs : Nat → Int32} {σ : Mm} {r : Option Value × Mm} {I J K : Nat → Nat → Int32} {Lm : Nat → Nat → Int64} {Rm : Nat → Nat → Nat} {n s so t N NS NH m M P nw S U : Nat} {V W : Vw} {sp s2 ai p : Nat} {x y z h v : Int32} {k c w lo hi fu a : Nat} {T : Nat → Nat} {q : Rz} {f : Nat → Int32} {E E2 : Nat → Nat → Prop}

theorem up2_at {α : Type} {f : Nat → Nat → α} {p k j : Nat} {v : α} : up2 f p k v p j = if j = k then v else f p j := by
  by_cases e : j = k
  · rw [if_pos e, e, up2_eq]
  · rw [if_neg e, up2_k e]
theorem fxSet {p : Nat} (hE : ∀ k, E p k) : FX I (setv I p x v) E := by
  unfold setv
  by_cases e : inb x (shp p).2
  · rw [if_pos e]; exact fxUp (hE _)
  · rw [if_neg e]; exact fxRf
theorem csSet {p : Nat} (h : CS J T n c q) (hp : p ≠ 105) : CS (setv J p x v) T n c q := by
  unfold setv
  by_cases e : inb x (shp p).2
  · rw [if_pos e]; exact csUp h hp
  · rw [if_neg e]; exact h
theorem RdC.cf (h : RdC I s V NS NH N M P) (hC : CF I J) (hs : s < 73) : RdC J s V NS NH N M P := by
  have nE : ∀ a k, a ≤ 24 → ¬ E0 (s + a) k := fun a k ha z => by have := z.1; omega
  exact h.fx (fxCF hC (fun p k z => z)) ⟨nE 16 _ (by decide), nE 9 _ (by decide), nE 1 _ (by decide), nE 0 _ (by decide), nE 16 _ (by decide)⟩ (fun k hk => ⟨nE 20 _ (by decide), nE 21 _ (by decide), nE 22 _ (by decide), nE 24 _ (by decide), nE 19 _ (by decide)⟩) (fun k hk a a1 a2 => nE a _ (by omega)) (fun k hk a a1 a2 => nE a _ (by omega)) (fun k hk => ⟨nE 17 _ (by decide), nE 18 _ (by decide)⟩)
/-- what a person changes -/
def EPe (s N p k : Nat) : Prop := E0 p k ∨ (s + 19 ≤ p ∧ p ≤ s + 24 ∧ k = N) ∨ (p = s + 16 ∧ k = 8)
theorem ePeB : EB s (EPe s N) := fun p k h => by
  rcases h with h | ⟨h1, h2, -⟩ | ⟨h, -⟩
  · exact Or.inl h
  · exact Or.inr (by omega)
  · exact Or.inr (by omega)
theorem c_person (ha : ai = 37 ∨ ai = 71) (hs1 : s = ai + 1) (hR : RdC I s V NS NH N M P) (hN : NS ≤ 6 ∧ NH ≤ 4 ∧ N < 12) (hX : TX T n c) (hT : TKs I T n c) (h : CS I T n c q) : ∃ J, (∀ r, Em L xs 36 [.ref 105] (179, I, Lm, RG nw sp s2 ai) r ↔ r = (none, 179, J, Lm, RG nw sp s2 ai)) ∧ CS J T n c (peQ2 T n c V NS NH N q) ∧ FX I J (EPe s N) ∧ ((peQ2 T n c V NS NH N q).1 = 0 → RdC J s (peV T n c V NS NH N q) NS NH (N + 1) M P) := by
  obtain ⟨hs, ho, s36, s73, hwd⟩ := rd_sc ha hs1
  obtain ⟨g1, g2, g3, g4, g5⟩ := rd_rg (nw := nw) (sp := sp) (s2 := s2) hs1
  obtain ⟨hc, hcs, hch, -, -⟩ := hR.1
  have e0 : ∀ p k, E0 p k → EPe s N p k := fun p k z => Or.inl z
  have ea : ∀ a, 19 ≤ a → a ≤ 24 → EPe s N (s + a) N := fun a h1 h2 => Or.inr (Or.inl ⟨by omega, by omega, rfl⟩)
  obtain ⟨v0, J0, p0, q0, f0, u0⟩ := c_newName (L := L) (xs := xs) (Lm := Lm) (nw := nw) (sp := sp) (s2 := s2) ha hs1 hR ⟨hN.1, hN.2.1, by omega⟩ hX hT h
  have q0 : CS J0 T n c (peQ0 T n c V NS NH N q) := q0
  have u0 : (peQ0 T n c V NS NH N q).1 = 0 → v0 = nxI T n q.2.2 := u0
  have F0 : FX I J0 (EPe s N) := fxCF f0 e0
  have F0u : FX I (up2 J0 (s + 19) N v0) (EPe s N) := fxTr F0 (fxUp (ea 19 (by decide) (by decide)))
  obtain ⟨J1, p1, q1, f1⟩ := c_need (w := 1) (L := L) (xs := xs) (Lm := Lm) (nw := nw) (sp := sp) (s2 := s2) (ai := ai) (by decide) (by decide) hX (F0u.tks ePeB s73 hT) (csUp (p := s + 19) (k := N) (v := v0) q0 (by omega))
  have q1 : CS J1 T n c (peQ1 T n c V NS NH N q) := q1
  have p1 : ∀ r, Em L xs 23 [.ref 105, .int 1] (179, up2 J0 (s + 19) N v0, Lm, RG nw sp s2 ai) r ↔ r = (none, 179, J1, Lm, RG nw sp s2 ai) := fun r => p1 r
  have F1 : FX I J1 (EPe s N) := fxTr F0u (fxCF f1 e0)
  have yo : (shp (s + 9 + 1)).1 = 1 ∧ (shp (s + 9 + 1)).2 = 6 := by rw [sh_o1 ho]; exact ⟨rfl, rfl⟩
  obtain ⟨v1, J2, p2, q2, f2, u2, -⟩ := c_known (a := s + 9 + 1) (m := NS) (f := V 15) (L := L) (xs := xs) (Lm := Lm) (nw := nw) (sp := sp) (s2 := s2) (ai := ai) (by omega) yo.1 (by rw [yo.2]; omega) (fun i hi => (F1 (s + 9 + 1) i (fun z => z.elim (fun y => by have := y.1; omega) (fun y => by omega))).trans (hR.2.2.1 i hi).1) hX (F1.tks ePeB s73 hT) q1
  have q2 : CS J2 T n c (peQ2 T n c V NS NH N q) := q2
  have F2 : FX I J2 (EPe s N) := fxTr F1 (fxCF f2 e0)
  have ns1 : J1 (s + 9) 6 = nI NS := (F1 (s + 9) 6 (fun z => z.elim (fun y => by have := y.1; omega) (fun y => by omega))).trans hcs
  have b : ∀ {A B : Nat → Nat → Int32} {p j : Nat}, CF A B → p ≠ 105 → B p j = A p j := fun hh hp => by rw [hh.1 _ hp]
  have hc2 : J2 (s + 16) 8 = nI N := by rw [b f2 (by omega), b f1 (by omega), up2_p (by omega), b f0 (by omega)]; exact hc
  have t0 : ∀ (J : Nat → Nat → Int32) v, setv J (s + 19) (nI N) v = up2 J (s + 19) N v := fun J v => setv_lt (by rw [sh_s19 hs]; show N < wd s; omega)
  have t1 : ∀ (J : Nat → Nat → Int32) v, setv J (s + 20) (nI N) v = up2 J (s + 20) N v := fun J v => setv_lt (by rw [sh_s20 hs]; show N < wd s; omega)
  have t2 : ∀ (J : Nat → Nat → Int32) v, setv J (s + 21) (nI N) v = up2 J (s + 21) N v := fun J v => setv_lt (by rw [sh_s21 hs]; show N < wd s; omega)
  have t3 : ∀ (J : Nat → Nat → Int32) v, setv J (s + 22) (nI N) v = up2 J (s + 22) N v := fun J v => setv_lt (by rw [sh_s22 hs]; show N < wd s; omega)
  have t4 : ∀ (J : Nat → Nat → Int32) v, setv J (s + 24) (nI N) v = up2 J (s + 24) N v := fun J v => setv_lt (by rw [sh_s24 hs]; show N < wd s; omega)
  obtain ⟨K, hK⟩ : ∃ K, up2 (up2 (up2 (up2 J2 (s + 20) N v1) (s + 21) N (-1)) (s + 24) N (-1)) (s + 22) N 0 = K := ⟨_, rfl⟩
  have FK : FX J2 K (fun p k => E0 p k ∨ (s + 19 ≤ p ∧ p ≤ s + 24 ∧ k = N)) := by
    have cu : ∀ {A : Nat → Nat → Int32} {x : Int32} a, 19 ≤ a → a ≤ 24 → FX A (up2 A (s + a) N x) (fun p k => E0 p k ∨ (s + 19 ≤ p ∧ p ≤ s + 24 ∧ k = N)) := fun a h1 h2 => fxUp (Or.inr ⟨by omega, by omega, rfl⟩)
    rw [← hK]
    exact fxTr (fxTr (fxTr (cu 20 (by decide) (by decide)) (cu 21 (by decide) (by decide))) (cu 24 (by decide) (by decide))) (cu 22 (by decide) (by decide))
  have F2c : FX I J2 (fun p k => E0 p k ∨ (s + 19 ≤ p ∧ p ≤ s + 24 ∧ k = N)) := fxTr (fxTr (fxTr (fxCF f0 (fun p k z => Or.inl z)) (fxUp (Or.inr ⟨by omega, by omega, rfl⟩))) (fxCF f1 (fun p k z => Or.inl z))) (fxCF f2 (fun p k z => Or.inl z))
  have hcK : K (s + 16) 8 = nI N := (FK (s + 16) 8 (fun z => z.elim (fun y => by have := y.1; omega) (fun y => by omega))).trans hc2
  have qK : CS K T n c (peQ2 T n c V NS NH N q) := by rw [← hK]; exact csUp (csUp (csUp (csUp q2 (by omega)) (by omega)) (by omega)) (by omega)
  refine ⟨up2 K (s + 16) 8 (nI (N + 1)), fun r => ?_, csUp qK (by omega), fxTr (fxTr F2 (fxSub FK (fun p k z => z.elim Or.inl (fun y => Or.inr (Or.inl y))))) (fxUp (Or.inr (Or.inr ⟨rfl, rfl⟩))), fun hg => ?_⟩
  · rw [em_36]
    simp only [x36_0, x36_1, x36_4, x36_7, x36_8, x36_9, x36_12, x36_15, x36_16, x36_17, x36_20, x36_23, x36_24, x36_25, x36_28, x36_29, x36_32, x36_35, x36_36, x36_37, x36_38, x36_41, x36_44, x36_45, x36_48, x36_51, x36_54, x36_57, x36_58, x36_61, x36_64, x36_65, x36_66, x36_69, x36_70, x36_73, x36_76, x36_77, x36_78, x36_81, x36_82, x36_85, x36_88, x36_89, x36_90, x36_93, x36_94, x36_97, x36_98, x36_101, x36_102, x36_103, x36_106, sh_105, lq_105, sh_106, lq_106, sh_108, lq_108, sh_109, lq_109, sh_110, lq_110, sh_111, lq_111, rg_105_0, rg_106_1, rg_106_2, rg_106_3, rg_106_4, sh_s, lq_s, sh_s1, lq_s1, sh_s2, lq_s2, sh_s3, lq_s3, sh_s4, lq_s4, sh_s5, lq_s5, sh_s6, lq_s6, sh_s7, lq_s7, sh_s8, lq_s8, sh_s9, lq_s9, sh_s10, lq_s10, sh_s11, lq_s11, sh_s12, lq_s12, sh_s13, lq_s13, sh_s14, lq_s14, sh_s15, lq_s15, sh_s16, lq_s16, sh_s17, lq_s17, sh_s18, lq_s18, sh_s19, lq_s19, sh_s20, lq_s20, sh_s21, lq_s21, sh_s22, lq_s22, sh_s23, lq_s23, sh_s24, lq_s24, sh_s25, lq_s25, rg_s0_0, rg_s0_1, rg_s0_2, rg_s0_3, rg_s1_0, rg_s1_1, rg_s1_2, rg_s1_3, rg_s1_4, rg_s7_0, rg_s9_0, rg_s9_1, rg_s9_2, rg_s9_3, rg_s9_4, rg_s9_5, rg_s16_6, rg_s16_7, rg_s16_0, rg_s16_1, rg_s16_2, rg_s16_3, rg_s16_4, rg_s16_5, sh_o, lq_o, sh_o1, lq_o1, sh_o2, lq_o2, sh_o3, lq_o3, sh_o4, lq_o4, sh_o5, lq_o5, sh_o6, lq_o6, rg_o0, rg_o1, rg_o2, rg_o3, rg_o4, rg_o5, ex5, Option.toList_some, Option.toList_none, List.cons_append, List.nil_append, true_and, and_true, nI_1, p_at, p_set, p_isIn, p_max, p_min, p_abs, hs, ho, g2, g4, hc, p0, t0, p1, ns1, p2, t1, t2, t3, t4, hK, hcK]
  · obtain ⟨h1, h1n, h1l⟩ := knz_0 hg
    obtain ⟨w2, -⟩ := u2 hg
    have h0 : (peQ0 T n c V NS NH N q).1 = 0 := (asz_0 h1).1
    have w0 := u0 h0
    have hRJ : RdC K s V NS NH N M P := hR.fx (fxTr F2c FK) ⟨fun z => z.elim (fun y => by have := y.1; omega) (fun y => by omega), fun z => z.elim (fun y => by have := y.1; omega) (fun y => by omega), fun z => z.elim (fun y => by have := y.1; omega) (fun y => by omega), fun z => z.elim (fun y => by have := y.1; omega) (fun y => by omega), fun z => z.elim (fun y => by have := y.1; omega) (fun y => by omega)⟩ (fun k hk => ⟨fun z => z.elim (fun y => by have := y.1; omega) (fun y => by omega), fun z => z.elim (fun y => by have := y.1; omega) (fun y => by omega), fun z => z.elim (fun y => by have := y.1; omega) (fun y => by omega), fun z => z.elim (fun y => by have := y.1; omega) (fun y => by omega), fun z => z.elim (fun y => by have := y.1; omega) (fun y => by omega)⟩) (fun k hk a a1 a2 => fun z => z.elim (fun y => by have := y.1; omega) (fun y => by omega)) (fun k hk a a1 a2 => fun z => z.elim (fun y => by have := y.1; omega) (fun y => by omega)) (fun k hk => ⟨fun z => z.elim (fun y => by have := y.1; omega) (fun y => by omega), fun z => z.elim (fun y => by have := y.1; omega) (fun y => by omega)⟩)
    obtain ⟨⟨c1, c2, c3, c4, c5⟩, d1, d2, d3, d4⟩ := hRJ
    have sv : ∀ f k, f ≠ 17 → f ≠ 0 → f ≠ 1 → f ≠ 3 → peV T n c V NS NH N q f k = V f k := fun f k a1 a2 a3 a4 => by unfold peV; rw [up2_p a4, up2_p a3, up2_p a2, up2_p a1]
    have ov : ∀ f k, k ≠ N → peV T n c V NS NH N q f k = V f k := fun f k hk => by unfold peV up2; rw [if_neg (fun z => hk z.2), if_neg (fun z => hk z.2), if_neg (fun z => hk z.2), if_neg (fun z => hk z.2)]
    have op : ∀ p, p ≠ s + 16 → ∀ k, up2 K (s + 16) 8 (nI (N + 1)) p k = K p k := fun p hp k => up2_p hp
    refine ⟨⟨up2_eq, by rw [op _ (by omega)]; exact c2, by rw [op _ (by omega)]; exact c3, by rw [op _ (by omega)]; exact c4, by rw [up2_k (by decide)]; exact c5⟩, fun k hk => ?_, fun k hk => ?_, fun k hk => ?_, fun k hk => ?_⟩
    · rw [op _ (by omega), op _ (by omega), op _ (by omega), op _ (by omega), op _ (by omega)]
      by_cases e : k = N
      · subst e
        rw [← hK]
        have y0 : up2 (up2 (up2 (up2 J2 (s + 20) k v1) (s + 21) k (-1)) (s + 24) k (-1)) (s + 22) k 0 (s + 19) k = v0 := by rw [up2_p (by omega), up2_p (by omega), up2_p (by omega), up2_p (by omega), b f2 (by omega), b f1 (by omega), up2_eq]
        have y1 : up2 (up2 (up2 (up2 J2 (s + 20) k v1) (s + 21) k (-1)) (s + 24) k (-1)) (s + 22) k 0 (s + 20) k = v1 := by rw [up2_p (by omega), up2_p (by omega), up2_p (by omega), up2_eq]
        have y2 : up2 (up2 (up2 (up2 J2 (s + 20) k v1) (s + 21) k (-1)) (s + 24) k (-1)) (s + 22) k 0 (s + 21) k = -1 := by rw [up2_p (by omega), up2_p (by omega), up2_eq]
        have y3 : up2 (up2 (up2 (up2 J2 (s + 20) k v1) (s + 21) k (-1)) (s + 24) k (-1)) (s + 22) k 0 (s + 24) k = -1 := by rw [up2_p (by omega), up2_eq]
        rw [y0, y1, y2, y3, w0, w2, up2_eq]
        unfold peV
        refine ⟨?_, ?_, rfl, ?_, ?_⟩
        · rw [up2_p (by decide), up2_p (by decide), up2_eq]
        · rw [up2_p (by decide), up2_eq]
        · rw [up2_eq]
        · rw [up2_p (by decide), up2_p (by decide), up2_p (by decide), up2_eq]
      · rw [ov 0 k e, ov 1 k e, ov 3 k e, ov 17 k e]
        exact d1 k (by omega)
    · rw [op _ (by omega), op _ (by omega), op _ (by omega), op _ (by omega), op _ (by omega), op _ (by omega), sv 15 k (by decide) (by decide) (by decide) (by decide), sv 4 k (by decide) (by decide) (by decide) (by decide), sv 5 k (by decide) (by decide) (by decide) (by decide), sv 6 k (by decide) (by decide) (by decide) (by decide), sv 7 k (by decide) (by decide) (by decide) (by decide), sv 8 k (by decide) (by decide) (by decide) (by decide)]
      exact d2 k hk
    · rw [op _ (by omega), op _ (by omega), op _ (by omega), op _ (by omega), op _ (by omega), sv 16 k (by decide) (by decide) (by decide) (by decide), sv 9 k (by decide) (by decide) (by decide) (by decide), sv 10 k (by decide) (by decide) (by decide) (by decide), sv 11 k (by decide) (by decide) (by decide) (by decide), sv 12 k (by decide) (by decide) (by decide) (by decide)]
      exact d3 k hk
    · rw [op _ (by omega), op _ (by omega), sv 13 k (by decide) (by decide) (by decide) (by decide), sv 14 k (by decide) (by decide) (by decide) (by decide)]
      exact d4 k hk
/-- what a hat put on changes -/
def EIn (s p k : Nat) : Prop := E0 p k ∨ p = s + 21
theorem eInB : EB s (EIn s) := fun p k h => by
  rcases h with h | h
  · exact Or.inl h
  · exact Or.inr (by omega)
theorem c_in (ha : ai = 37 ∨ ai = 71) (hs1 : s = ai + 1) (hR : RdC I s V NS NH N M P) (hN : NS ≤ 6 ∧ NH ≤ 4 ∧ N ≤ 12) (hX : TX T n c) (hT : TKs I T n c) (h : CS I T n c q) : ∃ J, (∀ r, Em L xs 37 [.ref 105] (179, I, Lm, RG nw sp s2 ai) r ↔ r = (none, 179, J, Lm, RG nw sp s2 ai)) ∧ CS J T n c (inQ1 T n c V NH N q) ∧ FX I J (EIn s) ∧ ((inQ1 T n c V NH N q).1 = 0 → RdC J s (inV T n c V NH N q) NS NH N M P) := by
  obtain ⟨hs, ho, s36, s73, hwd⟩ := rd_sc ha hs1
  obtain ⟨g1, g2, g3, g4, g5⟩ := rd_rg (nw := nw) (sp := sp) (s2 := s2) hs1
  obtain ⟨hc, hcs, hch, -, -⟩ := hR.1
  have e0 : ∀ p k, E0 p k → EIn s p k := fun p k z => Or.inl z
  have y19 : (shp (s + 19)).1 = 1 ∧ (shp (s + 19)).2 = 12 := by rw [sh_s19 hs]; exact ⟨rfl, hwd⟩
  have y2 : (shp (s + 2)).1 = 1 ∧ (shp (s + 2)).2 = 4 := by rw [sh_s2 hs]; exact ⟨rfl, rfl⟩
  obtain ⟨v0, J0, p0, q0, f0, u0, -⟩ := c_known (a := s + 19) (m := N) (f := V 17) (L := L) (xs := xs) (Lm := Lm) (nw := nw) (sp := sp) (s2 := s2) (ai := ai) (by omega) y19.1 (by rw [y19.2]; omega) (fun i hi => (hR.2.1 i hi).2.2.2.2) hX hT h
  have q0 : CS J0 T n c (inQ0 T n c V N q) := q0
  have R0 := hR.cf f0 s73
  obtain ⟨v1, J1, p1, q1, f1, u1, -⟩ := c_known (a := s + 2) (m := NH) (f := V 16) (L := L) (xs := xs) (Lm := Lm) (nw := nw) (sp := sp) (s2 := s2) (ai := ai) (by omega) y2.1 (by rw [y2.2]; omega) (fun i hi => (R0.2.2.2.1 i hi).1) hX (f0.tks hT) q0
  have q1 : CS J1 T n c (inQ1 T n c V NH N q) := q1
  have R1 := R0.cf f1 s73
  have hc0 := R0.1.2.2.1
  refine ⟨setv J1 (s + 21) v0 v1, fun r => ?_, csSet q1 (by omega), fxTr (fxTr (fxCF f0 e0) (fxCF f1 e0)) (fxSet (fun k => Or.inr rfl)), fun hg => ?_⟩
  · rw [em_37]
    simp only [x37_0, x37_1, x37_2, x37_5, x37_8, x37_9, x37_12, x37_15, x37_18, x37_19, x37_20, x37_23, x37_26, x37_27, x37_28, x37_29, x37_32, x37_35, x37_36, x37_39, x37_42, x37_45, x37_48, sh_105, lq_105, sh_106, lq_106, sh_108, lq_108, sh_109, lq_109, sh_110, lq_110, sh_111, lq_111, rg_105_0, rg_106_1, rg_106_2, rg_106_3, rg_106_4, sh_s, lq_s, sh_s1, lq_s1, sh_s2, lq_s2, sh_s3, lq_s3, sh_s4, lq_s4, sh_s5, lq_s5, sh_s6, lq_s6, sh_s7, lq_s7, sh_s8, lq_s8, sh_s9, lq_s9, sh_s10, lq_s10, sh_s11, lq_s11, sh_s12, lq_s12, sh_s13, lq_s13, sh_s14, lq_s14, sh_s15, lq_s15, sh_s16, lq_s16, sh_s17, lq_s17, sh_s18, lq_s18, sh_s19, lq_s19, sh_s20, lq_s20, sh_s21, lq_s21, sh_s22, lq_s22, sh_s23, lq_s23, sh_s24, lq_s24, sh_s25, lq_s25, rg_s0_0, rg_s0_1, rg_s0_2, rg_s0_3, rg_s1_0, rg_s1_1, rg_s1_2, rg_s1_3, rg_s1_4, rg_s7_0, rg_s9_0, rg_s9_1, rg_s9_2, rg_s9_3, rg_s9_4, rg_s9_5, rg_s16_6, rg_s16_7, rg_s16_0, rg_s16_1, rg_s16_2, rg_s16_3, rg_s16_4, rg_s16_5, sh_o, lq_o, sh_o1, lq_o1, sh_o2, lq_o2, sh_o3, lq_o3, sh_o4, lq_o4, sh_o5, lq_o5, sh_o6, lq_o6, rg_o0, rg_o1, rg_o2, rg_o3, rg_o4, rg_o5, ex5, Option.toList_some, Option.toList_none, List.cons_append, List.nil_append, true_and, and_true, nI_1, p_at, p_set, p_isIn, p_max, p_min, p_abs, hs, ho, g3, g4, hc, hc0, p0, p1]
  · obtain ⟨h0, -, -⟩ := knz_0 (q := inQ0 T n c V N q) hg
    obtain ⟨w0, l0⟩ := u0 h0
    obtain ⟨w1, l1⟩ := u1 hg
    have t : setv J1 (s + 21) v0 v1 = up2 J1 (s + 21) (inP T n V N q) v1 := by rw [w0]; exact setv_lt (by rw [sh_s21 hs]; show _ < wd s; omega)
    rw [t, w1]
    obtain ⟨⟨c1, c2, c3, c4, c5⟩, d1, d2, d3, d4⟩ := R1
    have sv : ∀ f k, f ≠ 1 → inV T n c V NH N q f k = V f k := fun f k a1 => up2_p a1
    have op : ∀ p, p ≠ s + 21 → ∀ k, up2 J1 (s + 21) (inP T n V N q) (nI (ixF (V 16) (nxI T n (inQ0 T n c V N q).2.2) NH 0)) p k = J1 p k := fun p hp k => up2_p hp
    refine ⟨⟨by rw [op _ (by omega)]; exact c1, by rw [op _ (by omega)]; exact c2, by rw [op _ (by omega)]; exact c3, by rw [op _ (by omega)]; exact c4, by rw [op _ (by omega)]; exact c5⟩, fun k hk => ?_, fun k hk => ?_, fun k hk => ?_, fun k hk => ?_⟩
    · rw [op (s + 20) (by omega), op (s + 22) (by omega), op (s + 24) (by omega), op (s + 19) (by omega), sv 0 k (by decide), sv 3 k (by decide), sv 17 k (by decide)]
      obtain ⟨x1, x2, x3, x4, x5⟩ := d1 k hk
      refine ⟨x1, ?_, x3, x4, x5⟩
      unfold inV
      rw [up2_at, up2_at, x2]
    · rw [op _ (by omega), op _ (by omega), op _ (by omega), op _ (by omega), op _ (by omega), op _ (by omega), sv 15 k (by decide), sv 4 k (by decide), sv 5 k (by decide), sv 6 k (by decide), sv 7 k (by decide), sv 8 k (by decide)]
      exact d2 k hk
    · rw [op _ (by omega), op _ (by omega), op _ (by omega), op _ (by omega), op _ (by omega), sv 16 k (by decide), sv 9 k (by decide), sv 10 k (by decide), sv 11 k (by decide), sv 12 k (by decide)]
      exact d3 k hk
    · rw [op _ (by omega), op _ (by omega), sv 13 k (by decide), sv 14 k (by decide)]
      exact d4 k hk
/-- what a pair changes -/
def EPa (s p k : Nat) : Prop := E0 p k ∨ p = s + 24 ∨ p = s + 17 ∨ p = s + 18 ∨ (p = s + 16 ∧ k = 9)
theorem ePaB : EB s (EPa s) := fun p k h => by
  rcases h with h | h
  · exact Or.inl h
  · exact Or.inr (by omega)
theorem unz_r {b2 : Int32} {B : Int32} (hq : q.1 = 0 → b2 = B) : unz T n c V N b2 q = unz T n c V N B q := by
  by_cases e : q.1 = 0
  · rw [hq e]
  · rw [unz_b e, unz_b e]
theorem c_pair (ha : ai = 37 ∨ ai = 71) (hs1 : s = ai + 1) (hR : RdC I s V NS NH N M P) (hN : NS ≤ 6 ∧ NH ≤ 4 ∧ N ≤ 12) (hP : P < 12) (hX : TX T n c) (hT : TKs I T n c) (h : CS I T n c q) : ∃ J, (∀ r, Em L xs 38 [.ref 105] (179, I, Lm, RG nw sp s2 ai) r ↔ r = (none, 179, J, Lm, RG nw sp s2 ai)) ∧ CS J T n c (paQ1 T n c V N q) ∧ FX I J (EPa s) ∧ ((paQ1 T n c V N q).1 = 0 → RdC J s (paV T n c V N P q) NS NH N M (P + 1)) := by
  obtain ⟨hs, ho, s36, s73, hwd⟩ := rd_sc ha hs1
  obtain ⟨g1, g2, g3, g4, g5⟩ := rd_rg (nw := nw) (sp := sp) (s2 := s2) hs1
  obtain ⟨v0, J0, p0, q0, f0, u0⟩ := c_unpaired (x := -1) (L := L) (xs := xs) (Lm := Lm) (nw := nw) (sp := sp) (s2 := s2) ha hs1 hR hN.2.2 hX hT h
  have q0 : CS J0 T n c (paQ0 T n c V N q) := q0
  have R0 := hR.cf f0 s73
  obtain ⟨v1, J1, p1, q1, f1, u1⟩ := c_unpaired (x := v0) (L := L) (xs := xs) (Lm := Lm) (nw := nw) (sp := sp) (s2 := s2) ha hs1 R0 hN.2.2 hX (f0.tks hT) q0
  have hu : unz T n c V N v0 (paQ0 T n c V N q) = unz T n c V N (nI (inP T n V N q)) (paQ0 T n c V N q) := unz_r (fun z => (u0 z).1)
  rw [hu] at q1
  have u1 : (paQ1 T n c V N q).1 = 0 → v1 = nI (ixF (V 17) (nxI T n (paQ0 T n c V N q).2.2) N 0) ∧ upF V N v0 (nxI T n (paQ0 T n c V N q).2.2) := by rw [hu] at u1; exact u1
  have q1 : CS J1 T n c (paQ1 T n c V N q) := q1
  have R1 := R0.cf f1 s73
  obtain ⟨K, hK⟩ : ∃ K, setv (setv J1 (s + 24) v0 v1) (s + 24) v1 v0 = K := ⟨_, rfl⟩
  have qK : CS K T n c (paQ1 T n c V N q) := by rw [← hK]; exact csSet (csSet q1 (by omega)) (by omega)
  have FK0 : FX J1 K (fun p _ => p = s + 24) := by rw [← hK]; exact fxTr (fxSet (fun k => rfl)) (fxSet (fun k => rfl))
  have FK : FX J1 K (EPa s) := fxSub FK0 (fun p k z => Or.inr (Or.inl z))
  have c9 : K (s + 16) 9 = nI P := (FK0 (s + 16) 9 (fun z => by omega)).trans R1.1.2.2.2.2
  have t1 : ∀ (J : Nat → Nat → Int32) v, setv J (s + 17) (nI P) v = up2 J (s + 17) P v := fun J v => setv_lt (by rw [sh_s17 hs]; show P < 12; omega)
  have t2 : ∀ (J : Nat → Nat → Int32) v, setv J (s + 18) (nI P) v = up2 J (s + 18) P v := fun J v => setv_lt (by rw [sh_s18 hs]; show P < 12; omega)
  have c91 : up2 K (s + 17) P v0 (s + 16) 9 = nI P := by rw [up2_p (by omega)]; exact c9
  have c92 : up2 (up2 K (s + 17) P v0) (s + 18) P v1 (s + 16) 9 = nI P := by rw [up2_p (by omega)]; exact c91
  refine ⟨up2 (up2 (up2 K (s + 17) P v0) (s + 18) P v1) (s + 16) 9 (nI (P + 1)), fun r => ?_, csUp (csUp (csUp qK (by omega)) (by omega)) (by omega), fxTr (fxTr (fxTr (fxTr (fxTr (fxCF f0 (fun p k z => Or.inl z)) (fxCF f1 (fun p k z => Or.inl z))) FK) (fxUp (Or.inr (Or.inr (Or.inl rfl))))) (fxUp (Or.inr (Or.inr (Or.inr (Or.inl rfl)))))) (fxUp (Or.inr (Or.inr (Or.inr (Or.inr ⟨rfl, rfl⟩))))), fun hg => ?_⟩
  · rw [em_38]
    simp only [x38_0, x38_1, x38_2, x38_5, x38_6, x38_7, x38_8, x38_11, x38_12, x38_13, x38_16, x38_19, x38_20, x38_21, x38_24, x38_25, x38_28, x38_31, x38_32, x38_33, x38_36, x38_37, x38_40, x38_43, x38_44, x38_47, x38_50, x38_51, x38_54, x38_55, x38_58, x38_61, x38_62, x38_65, x38_68, x38_69, x38_72, x38_73, x38_76, x38_77, x38_80, x38_81, x38_82, x38_85, sh_105, lq_105, sh_106, lq_106, sh_108, lq_108, sh_109, lq_109, sh_110, lq_110, sh_111, lq_111, rg_105_0, rg_106_1, rg_106_2, rg_106_3, rg_106_4, sh_s, lq_s, sh_s1, lq_s1, sh_s2, lq_s2, sh_s3, lq_s3, sh_s4, lq_s4, sh_s5, lq_s5, sh_s6, lq_s6, sh_s7, lq_s7, sh_s8, lq_s8, sh_s9, lq_s9, sh_s10, lq_s10, sh_s11, lq_s11, sh_s12, lq_s12, sh_s13, lq_s13, sh_s14, lq_s14, sh_s15, lq_s15, sh_s16, lq_s16, sh_s17, lq_s17, sh_s18, lq_s18, sh_s19, lq_s19, sh_s20, lq_s20, sh_s21, lq_s21, sh_s22, lq_s22, sh_s23, lq_s23, sh_s24, lq_s24, sh_s25, lq_s25, rg_s0_0, rg_s0_1, rg_s0_2, rg_s0_3, rg_s1_0, rg_s1_1, rg_s1_2, rg_s1_3, rg_s1_4, rg_s7_0, rg_s9_0, rg_s9_1, rg_s9_2, rg_s9_3, rg_s9_4, rg_s9_5, rg_s16_6, rg_s16_7, rg_s16_0, rg_s16_1, rg_s16_2, rg_s16_3, rg_s16_4, rg_s16_5, sh_o, lq_o, sh_o1, lq_o1, sh_o2, lq_o2, sh_o3, lq_o3, sh_o4, lq_o4, sh_o5, lq_o5, sh_o6, lq_o6, rg_o0, rg_o1, rg_o2, rg_o3, rg_o4, rg_o5, ex5, Option.toList_some, Option.toList_none, List.cons_append, List.nil_append, true_and, and_true, nI_1, p_at, p_set, p_isIn, p_max, p_min, p_abs, hs, ho, g4, p0, p1, hK, c9, t1, c91, t2, c92]
  · obtain ⟨h0, -, -⟩ := unz_0 (q := paQ0 T n c V N q) hg
    obtain ⟨w0, m0⟩ := u0 h0
    obtain ⟨w1, m1⟩ := u1 hg
    have l0 : inP T n V N q < N := m0.1
    have l1 : paB T n c V N q < N := m1.1
    have w0 : v0 = nI (inP T n V N q) := w0
    have w1 : v1 = nI (paB T n c V N q) := w1
    have ek : K = up2 (up2 J1 (s + 24) (inP T n V N q) (nI (paB T n c V N q))) (s + 24) (paB T n c V N q) (nI (inP T n V N q)) := by
      rw [← hK, w0, w1, setv_lt (n := s + 24) (p := inP T n V N q) (by rw [sh_s24 hs]; show _ < wd s; omega), setv_lt (n := s + 24) (p := paB T n c V N q) (by rw [sh_s24 hs]; show _ < wd s; omega)]
    rw [w0, w1]
    obtain ⟨⟨c1, c2, c3, c4, c5⟩, d1, d2, d3, d4⟩ := R1
    have sv : ∀ f k, f ≠ 3 → f ≠ 13 → f ≠ 14 → paV T n c V N P q f k = V f k := fun f k a1 a2 a3 => by unfold paV; rw [up2_p a3, up2_p a2, up2_p a1, up2_p a1]
    have op : ∀ p, p ≠ s + 16 → p ≠ s + 17 → p ≠ s + 18 → p ≠ s + 24 → ∀ k, up2 (up2 (up2 K (s + 17) P (nI (inP T n V N q))) (s + 18) P (nI (paB T n c V N q))) (s + 16) 9 (nI (P + 1)) p k = J1 p k := fun p a1 a2 a3 a4 k => by rw [up2_p a1, up2_p a3, up2_p a2, ek, up2_p a4, up2_p a4]
    have oq : ∀ k, k ≠ 9 → up2 (up2 (up2 K (s + 17) P (nI (inP T n V N q))) (s + 18) P (nI (paB T n c V N q))) (s + 16) 9 (nI (P + 1)) (s + 16) k = J1 (s + 16) k := fun k hk => by rw [up2_k hk, up2_p (by omega), up2_p (by omega), ek, up2_p (by omega), up2_p (by omega)]
    refine ⟨⟨by rw [oq _ (by decide)]; exact c1, by rw [op _ (by omega) (by omega) (by omega) (by omega)]; exact c2, by rw [op _ (by omega) (by omega) (by omega) (by omega)]; exact c3, by rw [op _ (by omega) (by omega) (by omega) (by omega)]; exact c4, up2_eq⟩, fun k hk => ?_, fun k hk => ?_, fun k hk => ?_, fun k hk => ?_⟩
    · rw [op (s + 20) (by omega) (by omega) (by omega) (by omega), op (s + 21) (by omega) (by omega) (by omega) (by omega), op (s + 22) (by omega) (by omega) (by omega) (by omega), op (s + 19) (by omega) (by omega) (by omega) (by omega), sv 0 k (by decide) (by decide) (by decide), sv 1 k (by decide) (by decide) (by decide), sv 17 k (by decide) (by decide) (by decide)]
      obtain ⟨x1, x2, x3, x4, x5⟩ := d1 k hk
      refine ⟨x1, x2, x3, ?_, x5⟩
      rw [up2_p (by omega), up2_p (by omega), up2_p (by omega), ek, up2_at, up2_at, x4]
      unfold paV
      rw [up2_p (by decide), up2_p (by decide), up2_at, up2_at]
    · rw [op _ (by omega) (by omega) (by omega) (by omega), op _ (by omega) (by omega) (by omega) (by omega), op _ (by omega) (by omega) (by omega) (by omega), op _ (by omega) (by omega) (by omega) (by omega), op _ (by omega) (by omega) (by omega) (by omega), op _ (by omega) (by omega) (by omega) (by omega), sv 15 k (by decide) (by decide) (by decide), sv 4 k (by decide) (by decide) (by decide), sv 5 k (by decide) (by decide) (by decide), sv 6 k (by decide) (by decide) (by decide), sv 7 k (by decide) (by decide) (by decide), sv 8 k (by decide) (by decide) (by decide)]
      exact d2 k hk
    · rw [op _ (by omega) (by omega) (by omega) (by omega), op _ (by omega) (by omega) (by omega) (by omega), op _ (by omega) (by omega) (by omega) (by omega), op _ (by omega) (by omega) (by omega) (by omega), op _ (by omega) (by omega) (by omega) (by omega), sv 16 k (by decide) (by decide) (by decide), sv 9 k (by decide) (by decide) (by decide), sv 10 k (by decide) (by decide) (by decide), sv 11 k (by decide) (by decide) (by decide), sv 12 k (by decide) (by decide) (by decide)]
      exact d3 k hk
    · have y1 : up2 (up2 (up2 K (s + 17) P (nI (inP T n V N q))) (s + 18) P (nI (paB T n c V N q))) (s + 16) 9 (nI (P + 1)) (s + 17) k = if k = P then nI (inP T n V N q) else J1 (s + 17) k := by rw [up2_p (by omega), up2_p (by omega), up2_at, ek, up2_p (by omega), up2_p (by omega)]
      have y2 : up2 (up2 (up2 K (s + 17) P (nI (inP T n V N q))) (s + 18) P (nI (paB T n c V N q))) (s + 16) 9 (nI (P + 1)) (s + 18) k = if k = P then nI (paB T n c V N q) else J1 (s + 18) k := by rw [up2_p (by omega), up2_at, up2_p (by omega), ek, up2_p (by omega), up2_p (by omega)]
      have y3 : paV T n c V N P q 13 k = if k = P then nI (inP T n V N q) else V 13 k := by unfold paV; rw [up2_p (by decide), up2_at, up2_p (by decide), up2_p (by decide)]
      have y4 : paV T n c V N P q 14 k = if k = P then nI (paB T n c V N q) else V 14 k := by unfold paV; rw [up2_at, up2_p (by decide), up2_p (by decide), up2_p (by decide)]
      rw [y1, y2, y3, y4]
      by_cases e : k = P
      · rw [if_pos e, if_pos e, if_pos e, if_pos e]; exact ⟨rfl, rfl⟩
      · rw [if_neg e, if_neg e, if_neg e, if_neg e]; exact d4 k (by omega)
end
