/-! the class reads a rule -/
def wk0P (T : Nat → Nat) (n c : Nat) (V : Vw) (NS : Nat) (p : Pz) : Pz := qP (knz T n c (V 15) NS) p
def wk1P (T : Nat → Nat) (n c : Nat) (V : Vw) (NS : Nat) (p : Pz) : Pz := pSum T n c 6 (wk0P T n c V NS p)
def wk2P (T : Nat → Nat) (n c : Nat) (V : Vw) (NS : Nat) (p : Pz) : Pz := qP (asz T n c 19) (wk1P T n c V NS p)
def wk3P (T : Nat → Nat) (n c : Nat) (V : Vw) (NS : Nat) (p : Pz) : Pz := pTest T n c 6 (wk2P T n c V NS p)
def upG {α : Type} (f : Nat → α) (k : Nat) (v : α) : Nat → α := fun j => if j = k then v else f j
/-- the class's rules that are read -/
def RdU (J : Nat → Nat → Int32) (u C : Nat) (rs : Nat → Int32) (sf se te : Nat → Nat) : Prop := J u 6 = nI C ∧ ∀ k, k < C → J (u + 1) k = rs k ∧ J (u + 2) k = nI (sf k) ∧ J (u + 3) k = nI (se k) ∧ J (u + 4) k = nI (te k)
def EWk (u C p k : Nat) : Prop := E0 p k ∨ p = u + 5 ∨ (p = u ∧ (k = 6 ∨ k = 7)) ∨ (u + 1 ≤ p ∧ p ≤ u + 4 ∧ k = C)
section
variable {L : Nat} {xs : Nat → Int32} {σ : Mm} {r : Option Value × Mm} {I J K : Nat → Nat → Int32} {Lm : Nat → Nat → Int64} {Rm : Nat → Nat → Nat} {n s so t N NS NH m M P nw U : Nat} {V W : Vw} {sp s2 ai p : Nat} {x y z h v : Int32} {k c w lo hi a u o g C : Nat} {T : Nat → Nat} {q : Rz} {p p2 : Pz} {f : Nat → Int32} {rs : Nat → Int32} {sf se te : Nat → Nat} {E E2 : Nat → Nat → Prop}

theorem upG_eq {α : Type} {f : Nat → α} {k : Nat} {v : α} : upG f k v k = v := if_pos rfl
theorem upG_ne {α : Type} {f : Nat → α} {k j : Nat} {v : α} (h : j ≠ k) : upG f k v j = f j := if_neg h
theorem knz_g {m : Nat} (h : (knz T n c f m q).1 = 0) : q.1 = 0 ∧ (knz T n c f m q).2.2 = q.2.2 + 1 := by
  obtain ⟨h1, h2, h3⟩ := knz_0 h
  refine ⟨h1, ?_⟩
  unfold knz
  rw [if_neg (fun z => by have := z.2.2; omega), nmz_1, if_pos (nmz_0.mp h2)]
  unfold nxz
  rw [if_pos h1]
theorem cxUp {i j : Nat} (h : CDX I T n c u p) (h1 : i ≠ 105) (h2 : i ≠ u + 5) (h3 : i ≠ u ∨ j ≠ 7) : CDX (up2 I i j v) T n c u p := by
  obtain ⟨a, b, d⟩ := h
  have e7 : up2 I i j v u 7 = I u 7 := by
    unfold up2
    exact if_neg (fun z => by omega)
  refine ⟨csUp a h1, by rw [e7]; exact b, fun z => ?_⟩
  rw [e7]
  refine ⟨(d z).1, (d z).2.1, fun k hk => ?_⟩
  rw [up2_p (Ne.symm h2)]
  exact (d z).2.2 k hk
theorem FX.tksW (h : FX I J (EWk u C)) (hu : u = 64 ∨ u = 98) (hT : TKs I T n c) : TKs J T n c := by
  have rw_ : ∀ p, p = 108 ∨ p = 109 ∨ p = 110 ∨ p = 111 → J p = I p := fun p hp => h.row (fun k z => by
    rcases z with z | z | z | z
    · have := z.1; omega
    · omega
    · omega
    · omega)
  obtain ⟨a, b, d⟩ := hT
  refine ⟨fun j hj => ?_, by rw [rw_ 108 (by omega)]; exact b, by rw [rw_ 109 (by omega)]; exact d⟩
  rw [rw_ 108 (by omega), rw_ 109 (by omega), rw_ 110 (by omega), rw_ 111 (by omega)]
  exact a j hj
theorem c_works (ha : ai = 37 ∨ ai = 71) (hs1 : s = ai + 1) (hua : u = ai + 27) (hR : RdC I s V NS NH N M P) (hN : NS ≤ 6) (hC : C < 12) (hX : TX T n c) (hT : TKs I T n c) (hU : RdU I u C rs sf se te) (h : CDX I T n c u p) : ∃ J, (∀ r, Em L xs 39 [.ref 105] (179, I, Lm, RG nw sp s2 ai) r ↔ r = (none, 179, J, Lm, RG nw sp s2 ai)) ∧ CDX J T n c u (wk3P T n c V NS p) ∧ FX I J (EWk u C) ∧ ((wk3P T n c V NS p).1.1 = 0 → RdU J u (C + 1) (upG rs C (nI (ixF (V 15) (nxI T n p.1.2.2) NS 0))) (upG sf C p.2.length) (upG se C (wk1P T n c V NS p).2.length) (upG te C (wk3P T n c V NS p).2.length)) := by
  obtain ⟨hs, ho, s36, s73, hwd⟩ := rd_sc ha hs1
  obtain ⟨g1, g2, g3, g4, g5'⟩ := rd_rg (nw := nw) (sp := sp) (s2 := s2) hs1
  have g5 : rfv (RG nw sp s2 ai 105 5) = .ref u := g5'.trans (congrArg Value.ref (show s + 26 = u by omega))
  have hu : u = 64 ∨ u = 98 := by omega
  obtain ⟨y1, y2, y3, -⟩ := ru_sh hu
  obtain ⟨z0, z1, z2, z3, -⟩ := ru_rg (nw := nw) (sp := sp) (s2 := s2) (ai := ai) hu
  have k45 : (rka 45 [.ref 105, .int 0] < 77) = True := eq_true (by decide)
  have k40 : (rka 40 [.ref 105, .int 0] < 77) = True := eq_true (by decide)
  have e0 : ∀ p k, EX u p k → EWk u C p k := fun p k z => by
    rcases z with z | z | z
    · exact Or.inl z
    · exact Or.inr (Or.inl z)
    · exact Or.inr (Or.inr (Or.inl ⟨z.1, Or.inr z.2⟩))
  have ec : ∀ p k, E0 p k → EWk u C p k := fun p k z => Or.inl z
  have eu : ∀ a, 1 ≤ a → a ≤ 4 → EWk u C (u + a) C := fun a h1 h2 => Or.inr (Or.inr (Or.inr ⟨by omega, by omega, rfl⟩))
  have ts : ∀ a (J : Nat → Nat → Int32) v, 1 ≤ a → a ≤ 4 → setv J (u + a) (nI C) v = up2 J (u + a) C v := fun a J v h1 h2 => setv_lt (by
    have := (y3 (a - 1) (by omega)).2
    rw [show a - 1 + 1 = a by omega] at this
    rw [this]; exact hC)
  have t1 : ∀ (J : Nat → Nat → Int32) v, setv J (u + 1) (nI C) v = up2 J (u + 1) C v := fun J v => ts 1 J v (by decide) (by decide)
  have t2 : ∀ (J : Nat → Nat → Int32) v, setv J (u + 2) (nI C) v = up2 J (u + 2) C v := fun J v => ts 2 J v (by decide) (by decide)
  have t3 : ∀ (J : Nat → Nat → Int32) v, setv J (u + 3) (nI C) v = up2 J (u + 3) C v := fun J v => ts 3 J v (by decide) (by decide)
  have t4 : ∀ (J : Nat → Nat → Int32) v, setv J (u + 4) (nI C) v = up2 J (u + 4) C v := fun J v => ts 4 J v (by decide) (by decide)
  have kd : ∀ a, 1 ≤ a → a ≤ 4 → (shp (u + a)).1 = 1 := fun a h1 h2 => by
    have := (y3 (a - 1) (by omega)).2
    rw [show a - 1 + 1 = a by omega] at this
    rw [this]
  have k1 := kd 1 (by decide) (by decide)
  have k2 := kd 2 (by decide) (by decide)
  have k3 := kd 3 (by decide) (by decide)
  have k4 := kd 4 (by decide) (by decide)
  have hc := hU.1
  have hcs := hR.1.2.1
  have yo : (shp (s + 9 + 1)).1 = 1 ∧ (shp (s + 9 + 1)).2 = 6 := by rw [sh_o1 ho]; exact ⟨rfl, rfl⟩
  obtain ⟨v0, J0, p0, q0, f0, u0, -⟩ := c_known (a := s + 9 + 1) (m := NS) (f := V 15) (L := L) (xs := xs) (Lm := Lm) (nw := nw) (sp := sp) (s2 := s2) (ai := ai) (by omega) yo.1 (by rw [yo.2]; omega) (fun i hi => (hR.2.2.1 i hi).1) hX hT h.1
  have x0 : CDX J0 T n c u (wk0P T n c V NS p) := cxCF h hu f0 q0 (fun z => ⟨(knz_g z).1, by rw [(knz_g z).2]; exact Nat.le_succ _⟩)
  have F0 : FX I J0 (EWk u C) := fxCF f0 ec
  have l0 : up2 J0 (u + 1) C v0 u 7 = J0 u 7 := up2_p (by omega)
  have F0a : FX I (up2 (up2 J0 (u + 1) C v0) (u + 2) C (J0 u 7)) (EWk u C) := fxTr (fxTr F0 (fxUp (eu 1 (by decide) (by decide)))) (fxUp (eu 2 (by decide) (by decide)))
  have x0a : CDX (up2 (up2 J0 (u + 1) C v0) (u + 2) C (J0 u 7)) T n c u (wk0P T n c V NS p) := cxUp (cxUp x0 (by omega) (by omega) (Or.inl (by omega))) (by omega) (by omega) (Or.inl (by omega))
  obtain ⟨J1, p1, x1, f1⟩ := c_sumAll (L := L) (xs := xs) (Lm := Lm) (nw := nw) (sp := sp) (s2 := s2) (ai := ai) hu hua hX 6 0 rfl _ _ (F0a.tksW hu hT) x0a
  have p1 : ∀ r, Em L xs 45 [.ref 105, .int 0] (179, up2 (up2 J0 (u + 1) C v0) (u + 2) C (J0 u 7), Lm, RG nw sp s2 ai) r ↔ r = (none, 179, J1, Lm, RG nw sp s2 ai) := fun r => p1 r
  have x1 : CDX J1 T n c u (wk1P T n c V NS p) := x1
  have F1 : FX I J1 (EWk u C) := fxTr F0a (fxSub f1 e0)
  obtain ⟨J2, p2, q2, f2⟩ := c_need (w := 19) (L := L) (xs := xs) (Lm := Lm) (nw := nw) (sp := sp) (s2 := s2) (ai := ai) (by decide) (by decide) hX (F1.tksW hu hT) x1.1
  have p2 : ∀ r, Em L xs 23 [.ref 105, .int 19] (179, J1, Lm, RG nw sp s2 ai) r ↔ r = (none, 179, J2, Lm, RG nw sp s2 ai) := fun r => p2 r
  have x2 : CDX J2 T n c u (wk2P T n c V NS p) := cxCF x1 hu f2 q2 (fun z => ⟨(asz_g z).1, by rw [(asz_g z).2]; exact Nat.le_succ _⟩)
  have F2a : FX I (up2 J2 (u + 3) C (J2 u 7)) (EWk u C) := fxTr (fxTr F1 (fxCF f2 ec)) (fxUp (eu 3 (by decide) (by decide)))
  have x2a : CDX (up2 J2 (u + 3) C (J2 u 7)) T n c u (wk2P T n c V NS p) := cxUp x2 (by omega) (by omega) (Or.inl (by omega))
  obtain ⟨J3, p3, x3, f3⟩ := c_testAll (L := L) (xs := xs) (Lm := Lm) (nw := nw) (sp := sp) (s2 := s2) (ai := ai) hu hua hX 6 0 rfl _ _ (F2a.tksW hu hT) x2a
  have p3 : ∀ r, Em L xs 40 [.ref 105, .int 0] (179, up2 J2 (u + 3) C (J2 u 7), Lm, RG nw sp s2 ai) r ↔ r = (none, 179, J3, Lm, RG nw sp s2 ai) := fun r => p3 r
  have x3 : CDX J3 T n c u (wk3P T n c V NS p) := x3
  have nx : ∀ a k, a ≤ 4 → a = 0 → k = 6 → ¬ EX u (u + a) k := fun a k h1 h2 h3 z => by unfold EX E0 at z; omega
  have nr : ∀ a k, 1 ≤ a → a ≤ 4 → ¬ EX u (u + a) k := fun a k h1 h2 z => by unfold EX E0 at z; omega
  have b : ∀ {A B : Nat → Nat → Int32} {p j : Nat}, CF A B → p ≠ 105 → B p j = A p j := fun hh hp => by rw [hh.1 _ hp]
  have c3 : J3 u 6 = nI C := by rw [f3 u 6 (nx 0 6 (by decide) rfl rfl), up2_p (by omega), b f2 (by omega), f1 u 6 (nx 0 6 (by decide) rfl rfl), up2_p (by omega), up2_p (by omega), b f0 (by omega)]; exact hc
  have c4 : up2 J3 (u + 4) C (J3 u 7) u 6 = nI C := by rw [up2_p (by omega)]; exact c3
  refine ⟨up2 (up2 J3 (u + 4) C (J3 u 7)) u 6 (nI (C + 1)), fun r => ?_, cxUp (cxUp x3 (by omega) (by omega) (Or.inl (by omega))) (by omega) (by omega) (Or.inr (by decide)), fxTr (fxTr (fxTr F2a (fxSub f3 e0)) (fxUp (eu 4 (by decide) (by decide)))) (fxUp (Or.inr (Or.inr (Or.inl ⟨rfl, Or.inl rfl⟩)))), fun hg => ⟨up2_eq, fun k hk => ?_⟩⟩
  · rw [em_39]
    simp only [x39_0, x39_1, x39_4, x39_7, x39_8, x39_9, x39_12, x39_15, x39_16, x39_17, x39_18, x39_21, x39_24, x39_25, x39_28, x39_31, x39_34, x39_37, x39_38, x39_41, x39_44, x39_45, x39_46, x39_49, x39_52, x39_55, x39_56, x39_57, x39_60, x39_61, x39_63, x39_66, x39_67, x39_70, x39_73, x39_74, x39_75, x39_78, x39_81, x39_84, x39_85, x39_86, x39_89, x39_90, x39_93, x39_96, x39_97, x39_98, x39_101, x39_104, x39_107, x39_108, x39_111, x39_112, x39_115, x39_116, x39_117, x39_120, sh_105, lq_105, sh_106, lq_106, sh_108, lq_108, sh_109, lq_109, sh_110, lq_110, sh_111, lq_111, rg_105_0, rg_106_1, rg_106_2, rg_106_3, rg_106_4, sh_s, lq_s, sh_s1, lq_s1, sh_s2, lq_s2, sh_s3, lq_s3, sh_s4, lq_s4, sh_s5, lq_s5, sh_s6, lq_s6, sh_s7, lq_s7, sh_s8, lq_s8, sh_s9, lq_s9, sh_s10, lq_s10, sh_s11, lq_s11, sh_s12, lq_s12, sh_s13, lq_s13, sh_s14, lq_s14, sh_s15, lq_s15, sh_s16, lq_s16, sh_s17, lq_s17, sh_s18, lq_s18, sh_s19, lq_s19, sh_s20, lq_s20, sh_s21, lq_s21, sh_s22, lq_s22, sh_s23, lq_s23, sh_s24, lq_s24, sh_s25, lq_s25, rg_s0_0, rg_s0_1, rg_s0_2, rg_s0_3, rg_s1_0, rg_s1_1, rg_s1_2, rg_s1_3, rg_s1_4, rg_s7_0, rg_s9_0, rg_s9_1, rg_s9_2, rg_s9_3, rg_s9_4, rg_s9_5, rg_s16_6, rg_s16_7, rg_s16_0, rg_s16_1, rg_s16_2, rg_s16_3, rg_s16_4, rg_s16_5, sh_o, lq_o, sh_o1, lq_o1, sh_o2, lq_o2, sh_o3, lq_o3, sh_o4, lq_o4, sh_o5, lq_o5, sh_o6, lq_o6, rg_o0, rg_o1, rg_o2, rg_o3, rg_o4, rg_o5, ex5, Option.toList_some, Option.toList_none, List.cons_append, List.nil_append, true_and, and_true, nI_1, p_at, p_set, p_isIn, p_max, p_min, p_abs, p_set (n := 179) (a := u + 1) (by omega) k1, p_set (n := 179) (a := u + 2) (by omega) k2, p_set (n := 179) (a := u + 3) (by omega) k3, p_set (n := 179) (a := u + 4) (by omega) k4, hs, ho, g2, g5, y1, y2, z0, z1, z2, z3, k45, k40, hc, hcs, p0, t1, l0, t2, p1, p2, t3, p3, t4, c4]
  · have m3 : (wk2P T n c V NS p).1.1 = 0 := (sm_run (sm_run (sm_pFact 6)) _ hg).1
    obtain ⟨m2, -⟩ := asz_g (show (asz T n c 19 (wk1P T n c V NS p).1).1 = 0 from m3)
    have m1 : (wk0P T n c V NS p).1.1 = 0 := (sm_sum 6 _ m2).1
    have w0 := (u0 m1).1
    by_cases e : k = C
    · subst e
      rw [upG_eq, upG_eq, upG_eq, upG_eq]
      refine ⟨?_, ?_, ?_, ?_⟩
      · rw [up2_p (by omega), up2_p (by omega), f3 _ _ (nr 1 k (by decide) (by decide)), up2_p (by omega), b f2 (by omega), f1 _ _ (nr 1 k (by decide) (by decide)), up2_p (by omega), up2_eq]
        exact w0
      · rw [up2_p (by omega), up2_p (by omega), f3 _ _ (nr 2 k (by decide) (by decide)), up2_p (by omega), b f2 (by omega), f1 _ _ (nr 2 k (by decide) (by decide)), up2_eq]
        exact (x0.2.2 m1).1
      · rw [up2_p (by omega), up2_p (by omega), f3 _ _ (nr 3 k (by decide) (by decide)), up2_eq]
        exact (x2.2.2 m3).1
      · rw [up2_p (by omega), up2_eq]
        exact (x3.2.2 hg).1
    · rw [upG_ne e, upG_ne e, upG_ne e, upG_ne e]
      have old : ∀ a, 1 ≤ a → a ≤ 4 → up2 (up2 J3 (u + 4) C (J3 u 7)) u 6 (nI (C + 1)) (u + a) k = I (u + a) k := fun a h1 h2 => by
        rw [up2_p (by omega), up2_j e, f3 _ _ (nr a k h1 h2), up2_j e, b f2 (by omega), f1 _ _ (nr a k h1 h2), up2_j e, up2_j e, b f0 (by omega)]
      rw [old 1 (by decide) (by decide), old 2 (by decide) (by decide), old 3 (by decide) (by decide), old 4 (by decide) (by decide)]
      exact hU.2 k (by omega)
end
