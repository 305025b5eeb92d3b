/-! a statement is read: what stays -/
/-- the rules that are read are in order -/
def RuL (C : Nat) (sf se te : Nat → Nat) (cs : List Nat) : Prop := ∀ k, k < C → sf k ≤ se k ∧ se k ≤ te k ∧ te k ≤ cs.length ∧ tyRun (fun i => cs.getD i 0) (sf k) (se k - sf k) [] = some [false] ∧ tyRun (fun i => cs.getD i 0) (se k) (te k - se k) [] = some [true]
def PI (p : Pz) (V : Vw) (NS NH N M P C : Nat) (sf se te : Nat → Nat) (j : Nat) : Prop := RdW V NS NH N M P ∧ C ≤ 12 ∧ j ≤ 100 ∧ p.2.length ≤ p.1.2.2 ∧ RuL C sf se te p.2
def PIt (t : Rt) : Prop := t.1.1.1 = 0 → PI t.1 t.2.1 t.2.2.1.1 t.2.2.1.2.1 t.2.2.1.2.2.1 t.2.2.1.2.2.2.1 t.2.2.1.2.2.2.2.1 t.2.2.1.2.2.2.2.2 t.2.2.2.1.2.1 t.2.2.2.1.2.2.1 t.2.2.2.1.2.2.2 t.2.2.2.2
theorem tyRun_cg {cd cd2 : Nat → Nat} : ∀ (k j : Nat) (ts : List Bool), (∀ i, j ≤ i → i < j + k → cd i = cd2 i) → tyRun cd j k ts = tyRun cd2 j k ts
  | 0, _, _, _ => rfl
  | k + 1, j, ts, h => by
    show (tyS (cd j) ts).bind (tyRun cd (j + 1) k) = (tyS (cd2 j) ts).bind (tyRun cd2 (j + 1) k)
    rw [h j (Nat.le_refl j) (by omega)]
    have e : tyRun cd (j + 1) k = tyRun cd2 (j + 1) k := funext fun us => tyRun_cg k (j + 1) us (fun i a b => h i (by omega) (by omega))
    rw [e]
theorem gd_r {a l : List Nat} {i : Nat} : (a ++ l).getD (a.length + i) 0 = l.getD i 0 := by
  rw [List.getD_eq_getElem?_getD, List.getD_eq_getElem?_getD, List.getElem?_append_right (Nat.le_add_right _ _), Nat.add_sub_cancel_left]
theorem gd_l {a l : List Nat} {i : Nat} (h : i < a.length) : (a ++ l).getD i 0 = a.getD i 0 := by
  rw [List.getD_eq_getElem?_getD, List.getD_eq_getElem?_getD, List.getElem?_append_left h]
section
variable {T : Nat → Nat} {n c NS NH N M P C j : Nat} {p p2 : Pz} {q : Rz} {V : Vw} {cs l l2 : List Nat} {rs : Nat → Int32} {sf se te : Nat → Nat}
theorem RuL.app (h : RuL C sf se te cs) : RuL C sf se te (cs ++ l) := fun k hk => by
  obtain ⟨a, b, d, e, f⟩ := h k hk
  refine ⟨a, b, by rw [List.length_append]; omega, ?_, ?_⟩
  · rw [tyRun_cg (cd2 := fun i => cs.getD i 0) _ _ _ (fun i a1 a2 => gd_l (by omega))]; exact e
  · rw [tyRun_cg (cd2 := fun i => cs.getD i 0) _ _ _ (fun i a1 a2 => gd_l (by omega))]; exact f
theorem RuL.new (h : RuL C sf se te cs) (h1 : tyL l [] = some [false]) (h2 : tyL l2 [] = some [true]) : RuL (C + 1) (upG sf C cs.length) (upG se C (cs ++ l).length) (upG te C (cs ++ l ++ l2).length) (cs ++ l ++ l2) := fun k hk => by
  by_cases e : k = C
  · subst e
    rw [upG_eq, upG_eq, upG_eq]
    have la : (cs ++ l).length = cs.length + l.length := List.length_append
    have lb : (cs ++ l ++ l2).length = (cs ++ l).length + l2.length := List.length_append
    refine ⟨by omega, by omega, Nat.le_refl _, ?_, ?_⟩
    · rw [show (cs ++ l).length - cs.length = l.length by omega, tyR_L (l := l) (fun i hi => ?_)]
      · exact h1
      · show (cs ++ l ++ l2).getD (cs.length + i) 0 = _
        rw [gd_l (by omega)]; exact gd_r
    · rw [show (cs ++ l ++ l2).length - (cs ++ l).length = l2.length by omega, tyR_L (l := l2) (fun i hi => ?_)]
      · exact h2
      · exact gd_r
  · rw [upG_ne e, upG_ne e, upG_ne e]
    exact (h.app.app) k (by omega)
theorem sm_tst (h : (pTest T n c 6 p).1.1 = 0) : p.1.1 = 0 ∧ (pTest T n c 6 p).2.length + p.1.2.2 ≤ (pTest T n c 6 p).1.2.2 + p.2.length := ⟨(sm_run (sm_run (sm_pFact 6)) p h).1, (sm_run (sm_run (sm_pFact 6)) p h).2.1⟩
theorem wk_gen {p0 p1 p2 p3 : Pz} {k : Nat} (e1 : p1 = pSum T n c 6 p0) (e2 : p2 = qP (asz T n c 19) p1) (e3 : p3 = pTest T n c 6 p2) (h0 : p0.1.1 = 0 → p0.1.2.2 = k + 2) (hl : p0.2.length ≤ k) (h : RuL C sf se te p0.2) (hg : p3.1.1 = 0) : p3.2.length ≤ p3.1.2.2 ∧ RuL (C + 1) (upG sf C p0.2.length) (upG se C p1.2.length) (upG te C p3.2.length) p3.2 := by
  have hg3 : (pTest T n c 6 p2).1.1 = 0 := by rw [← e3]; exact hg
  obtain ⟨m2, s3⟩ := sm_tst hg3
  have m2' : (asz T n c 19 p1.1).1 = 0 := by rw [e2] at m2; exact m2
  obtain ⟨m1, n2⟩ := asz_g (w := 19) (q := p1.1) m2'
  have m1' : (pSum T n c 6 p0).1.1 = 0 := by rw [← e1]; exact m1
  obtain ⟨m0, s1, -⟩ := sm_sum 6 p0 m1'
  have n0 := h0 m0
  obtain ⟨l, f1, t1⟩ := ty_sum 6 p0 m1'
  obtain ⟨l2, f2, t2⟩ := ty_test 6 p2 hg3
  have c2 : p2.2 = p1.2 := by rw [e2]; rfl
  have d2 : p2.1.2.2 = p1.1.2.2 + 1 := by rw [e2]; exact n2
  rw [← e1] at f1 s1
  rw [← e3] at f2 s3
  rw [c2] at f2 s3
  refine ⟨by omega, ?_⟩
  rw [f2, f1]
  exact h.new (t1 [] (by decide)) (t2 [] (by decide))
/-- the rule that is read -/
theorem wk_new (hp : p.1.1 = 0) (hl : p.2.length ≤ p.1.2.2) (h : RuL C sf se te p.2) (hg : (wk3P T n c V NS (nxP p)).1.1 = 0) : (wk3P T n c V NS (nxP p)).2.length ≤ (wk3P T n c V NS (nxP p)).1.2.2 ∧ RuL (C + 1) (upG sf C p.2.length) (upG se C (wk1P T n c V NS (nxP p)).2.length) (upG te C (wk3P T n c V NS (nxP p)).2.length) (wk3P T n c V NS (nxP p)).2 :=
  wk_gen (p0 := wk0P T n c V NS (nxP p)) (p1 := wk1P T n c V NS (nxP p)) (p2 := wk2P T n c V NS (nxP p)) (p3 := wk3P T n c V NS (nxP p)) (k := p.1.2.2) rfl rfl rfl (fun z => (knz_g (q := (nxP p).1) z).2) hl h hg
theorem pi_semi {t : Rt} (hj : t.2.2.2.2 ≤ 99) (h : PIt t) : PIt (seZ T n c t) := fun z => by
  obtain ⟨z1, z2⟩ := asz_g (w := 315) (q := t.1.1) z
  obtain ⟨h1, h2, h3, h4, h5⟩ := h z1
  have z2 : (asz T n c 315 t.1.1).2.2 = t.1.1.2.2 + 1 := z2
  refine ⟨h1, h2, ?_, ?_, h5⟩
  · show t.2.2.2.2 + 1 ≤ 100
    omega
  · show t.1.2.length ≤ (asz T n c 315 t.1.1).2.2
    rw [z2]
    exact Nat.le_succ_of_le h4
theorem pi_step (hp : p.1.1 = 0) (h : PI p V NS NH N M P C sf se te j) : PIt (stZ T n c (p, V, (NS, NH, N, M, P, C), (rs, sf, se, te), j)) := by
  obtain ⟨h1, h2, h3, h4, h5⟩ := h
  by_cases hf : fulZ (wq T n c p.1.2.2) NS NH N C ∨ j = 100
  · have ez : stZ T n c (p, V, (NS, NH, N, M, P, C), (rs, sf, se, te), j) = (((5, frW T n p.1.2.2, 0), p.2), V, (NS, NH, N, M, P, C), (rs, sf, se, te), j) := if_pos hf
    rw [ez]
    exact fun z => by cases z
  have hj : j ≤ 99 := by
    have : ¬ j = 100 := fun z => hf (Or.inr z)
    omega
  have hfw : ¬ fulZ (wq T n c p.1.2.2) NS NH N C := fun z => hf (Or.inl z)
  obtain ⟨b1, b2, b3, -, -⟩ := h1.1
  by_cases e0 : wq T n c p.1.2.2 = 0
  · have ez : stZ T n c (p, V, (NS, NH, N, M, P, C), (rs, sf, se, te), j) = seZ T n c ((nbz T n c 0 60 (0, 0, p.1.2.2 + 1), p.2), V, (NS, NH, N, nbW T n (p.1.2.2 + 1), P, C), (rs, sf, se, te), j) := (if_neg hf).trans (if_pos e0)
    have gz := nbz_0 (T := T) (n := n) (c := c) (lo := 0) (hi := 60) (q := (0, 0, p.1.2.2 + 1))
    have g2 := nbz_g (T := T) (n := n) (c := c) (lo := 0) (hi := 60) (q := (0, 0, p.1.2.2 + 1))
    obtain ⟨zq, hzq⟩ : ∃ y, nbz T n c 0 60 (0, 0, p.1.2.2 + 1) = y := ⟨_, rfl⟩
    rw [hzq] at ez gz g2
    rw [ez]
    refine pi_semi hj (fun z => ?_)
    obtain ⟨z0, z1, z2, z3, z4, z5⟩ := gz z
    have e2 : zq.2.2 = p.1.2.2 + 1 + 1 := (g2 z).2
    refine ⟨rdwHo h1 z4, h2, h3, ?_, h5⟩
    show p.2.length ≤ zq.2.2
    rw [e2]; omega
  by_cases e1 : wq T n c p.1.2.2 = 1
  · have ez : stZ T n c (p, V, (NS, NH, N, M, P, C), (rs, sf, se, te), j) = seZ T n c ((soQ5 T n c V NS NH N (0, 0, p.1.2.2 + 1), p.2), soV T n c V NS NH N (0, 0, p.1.2.2 + 1), (NS + 1, NH, N, M, P, C), (rs, sf, se, te), j) := (if_neg hf).trans ((if_neg e0).trans (if_pos e1))
    have gz := soQ_g (T := T) (n := n) (c := c) (V := V) (NS := NS) (NH := NH) (N := N) (q := (0, 0, p.1.2.2 + 1))
    have rd := rdwSo (T := T) (n := n) (c := c) (q := (0, 0, p.1.2.2 + 1)) h1 (by unfold fulZ at hfw; omega)
    obtain ⟨zq, hzq⟩ : ∃ y, soQ5 T n c V NS NH N (0, 0, p.1.2.2 + 1) = y := ⟨_, rfl⟩
    rw [hzq] at ez gz rd
    rw [ez]
    refine pi_semi hj (fun z => ?_)
    exact ⟨rd z, h2, h3, Nat.le_trans h4 (Nat.le_trans (Nat.le_succ _) (gz z).2), h5⟩
  by_cases e7 : wq T n c p.1.2.2 = 7
  · have ez : stZ T n c (p, V, (NS, NH, N, M, P, C), (rs, sf, se, te), j) = seZ T n c ((haQ4 T n c V NS NH N (0, 0, p.1.2.2 + 1), p.2), haV T n c V NS NH N (0, 0, p.1.2.2 + 1), (NS, NH + 1, N, M, P, C), (rs, sf, se, te), j) := (if_neg hf).trans ((if_neg e0).trans ((if_neg e1).trans (if_pos e7)))
    have gz := haQ_g (T := T) (n := n) (c := c) (V := V) (NS := NS) (NH := NH) (N := N) (q := (0, 0, p.1.2.2 + 1))
    have rd := rdwHa (T := T) (n := n) (c := c) (q := (0, 0, p.1.2.2 + 1)) h1 (by unfold fulZ at hfw; omega)
    obtain ⟨zq, hzq⟩ : ∃ y, haQ4 T n c V NS NH N (0, 0, p.1.2.2 + 1) = y := ⟨_, rfl⟩
    rw [hzq] at ez gz rd
    rw [ez]
    refine pi_semi hj (fun z => ?_)
    exact ⟨rd z, h2, h3, Nat.le_trans h4 (Nat.le_trans (Nat.le_succ _) (gz z).2), h5⟩
  by_cases e15 : wq T n c p.1.2.2 = 15
  · have ez : stZ T n c (p, V, (NS, NH, N, M, P, C), (rs, sf, se, te), j) = seZ T n c ((peQ2 T n c V NS NH N (0, 0, p.1.2.2 + 1), p.2), peV T n c V NS NH N (0, 0, p.1.2.2 + 1), (NS, NH, N + 1, M, P, C), (rs, sf, se, te), j) := (if_neg hf).trans ((if_neg e0).trans ((if_neg e1).trans ((if_neg e7).trans (if_pos e15))))
    have gz := peQ_g (T := T) (n := n) (c := c) (V := V) (NS := NS) (NH := NH) (N := N) (q := (0, 0, p.1.2.2 + 1))
    have rd := rdwPe (T := T) (n := n) (c := c) (q := (0, 0, p.1.2.2 + 1)) h1 (by unfold fulZ at hfw; omega)
    obtain ⟨zq, hzq⟩ : ∃ y, peQ2 T n c V NS NH N (0, 0, p.1.2.2 + 1) = y := ⟨_, rfl⟩
    rw [hzq] at ez gz rd
    rw [ez]
    refine pi_semi hj (fun z => ?_)
    exact ⟨rd z, h2, h3, Nat.le_trans h4 (Nat.le_trans (Nat.le_succ _) (gz z).2), h5⟩
  by_cases e16 : wq T n c p.1.2.2 = 16
  · have ez : stZ T n c (p, V, (NS, NH, N, M, P, C), (rs, sf, se, te), j) = seZ T n c ((inQ1 T n c V NH N (0, 0, p.1.2.2 + 1), p.2), inV T n c V NH N (0, 0, p.1.2.2 + 1), (NS, NH, N, M, P, C), (rs, sf, se, te), j) := (if_neg hf).trans ((if_neg e0).trans ((if_neg e1).trans ((if_neg e7).trans ((if_neg e15).trans (if_pos e16)))))
    have gz := inQ_g (T := T) (n := n) (c := c) (V := V) (NH := NH) (N := N) (q := (0, 0, p.1.2.2 + 1))
    have rd := rdwIn (T := T) (n := n) (c := c) (q := (0, 0, p.1.2.2 + 1)) h1 
    obtain ⟨zq, hzq⟩ : ∃ y, inQ1 T n c V NH N (0, 0, p.1.2.2 + 1) = y := ⟨_, rfl⟩
    rw [hzq] at ez gz rd
    rw [ez]
    refine pi_semi hj (fun z => ?_)
    exact ⟨rd z, h2, h3, Nat.le_trans h4 (Nat.le_trans (Nat.le_succ _) (gz z).2), h5⟩
  by_cases e17 : wq T n c p.1.2.2 = 17
  · have ez : stZ T n c (p, V, (NS, NH, N, M, P, C), (rs, sf, se, te), j) = seZ T n c ((paQ1 T n c V N (0, 0, p.1.2.2 + 1), p.2), paV T n c V N P (0, 0, p.1.2.2 + 1), (NS, NH, N, M, P + 1, C), (rs, sf, se, te), j) := (if_neg hf).trans ((if_neg e0).trans ((if_neg e1).trans ((if_neg e7).trans ((if_neg e15).trans ((if_neg e16).trans (if_pos e17))))))
    have gz := paQ_g (T := T) (n := n) (c := c) (V := V) (N := N) (q := (0, 0, p.1.2.2 + 1))
    have rd := rdwPa (T := T) (n := n) (c := c) (q := (0, 0, p.1.2.2 + 1)) h1 
    obtain ⟨zq, hzq⟩ : ∃ y, paQ1 T n c V N (0, 0, p.1.2.2 + 1) = y := ⟨_, rfl⟩
    rw [hzq] at ez gz rd
    rw [ez]
    refine pi_semi hj (fun z => ?_)
    exact ⟨rd z, h2, h3, Nat.le_trans h4 (Nat.le_trans (Nat.le_succ _) (gz z).2), h5⟩
  by_cases e18 : wq T n c p.1.2.2 = 18
  · have ez : stZ T n c (p, V, (NS, NH, N, M, P, C), (rs, sf, se, te), j) = seZ T n c (wk3P T n c V NS (nxP p), V, (NS, NH, N, M, P, C + 1), (upG rs C (nI (ixF (V 15) (nxI T n (p.1.2.2 + 1)) NS 0)), upG sf C p.2.length, upG se C (wk1P T n c V NS (nxP p)).2.length, upG te C (wk3P T n c V NS (nxP p)).2.length), j) := (if_neg hf).trans ((if_neg e0).trans ((if_neg e1).trans ((if_neg e7).trans ((if_neg e15).trans ((if_neg e16).trans ((if_neg e17).trans (if_pos e18)))))))
    have gz := wk_new (T := T) (n := n) (c := c) (V := V) (NS := NS) hp h4 h5
    obtain ⟨zz, hz⟩ : ∃ y, wk3P T n c V NS (nxP p) = y := ⟨_, rfl⟩
    obtain ⟨z1, hz1⟩ : ∃ y, (wk1P T n c V NS (nxP p)).2.length = y := ⟨_, rfl⟩
    rw [hz, hz1] at gz ez
    rw [ez]
    refine pi_semi hj (fun z => ?_)
    obtain ⟨w1, w2⟩ := gz z
    exact ⟨h1, by show C + 1 ≤ 12; unfold fulZ at hfw; omega, h3, w1, w2⟩
  have ez : stZ T n c (p, V, (NS, NH, N, M, P, C), (rs, sf, se, te), j) = (((1, frW T n p.1.2.2, 0), p.2), V, (NS, NH, N, M, P, C), (rs, sf, se, te), j) := (if_neg hf).trans ((if_neg e0).trans ((if_neg e1).trans ((if_neg e7).trans ((if_neg e15).trans ((if_neg e16).trans ((if_neg e17).trans (if_neg e18)))))))
  rw [ez]
  exact fun z => by cases z
/-- statements are counted; a good one goes on -/
theorem st_cnt {t : Rt} (hg : (stZ T n c t).1.1.1 = 0) : t.2.2.2.2 < 100 ∨ 100 < t.2.2.2.2 := by
  obtain ⟨p, V, ⟨NS, NH, N, M, P, C⟩, ⟨rs, sf, se, te⟩, j⟩ := t
  show j < 100 ∨ 100 < j
  by_cases e : j = 100
  · have ez : stZ T n c (p, V, (NS, NH, N, M, P, C), (rs, sf, se, te), j) = (((5, frW T n p.1.2.2, 0), p.2), V, (NS, NH, N, M, P, C), (rs, sf, se, te), j) := if_pos (Or.inr e)
    rw [ez] at hg
    cases hg
  · omega
theorem st_one {t : Rt} (hg : (stZ T n c t).1.1.1 = 0) : (stZ T n c t).2.2.2.2 = t.2.2.2.2 + 1 := by
  obtain ⟨p, V, ⟨NS, NH, N, M, P, C⟩, ⟨rs, sf, se, te⟩, j⟩ := t
  by_cases hf : fulZ (wq T n c p.1.2.2) NS NH N C ∨ j = 100
  · have ez : stZ T n c (p, V, (NS, NH, N, M, P, C), (rs, sf, se, te), j) = (((5, frW T n p.1.2.2, 0), p.2), V, (NS, NH, N, M, P, C), (rs, sf, se, te), j) := if_pos hf
    rw [ez] at hg
    cases hg
  by_cases e0 : wq T n c p.1.2.2 = 0
  · have ez : stZ T n c (p, V, (NS, NH, N, M, P, C), (rs, sf, se, te), j) = seZ T n c (qP (nbz T n c 0 60) (nxP p), V, (NS, NH, N, nbW T n (p.1.2.2 + 1), P, C), (rs, sf, se, te), j) := (if_neg hf).trans (if_pos e0)
    rw [ez]; rfl
  by_cases e1 : wq T n c p.1.2.2 = 1
  · have ez : stZ T n c (p, V, (NS, NH, N, M, P, C), (rs, sf, se, te), j) = seZ T n c (qP (soQ5 T n c V NS NH N) (nxP p), soV T n c V NS NH N (0, 0, p.1.2.2 + 1), (NS + 1, NH, N, M, P, C), (rs, sf, se, te), j) := (if_neg hf).trans ((if_neg e0).trans (if_pos e1))
    rw [ez]; rfl
  by_cases e7 : wq T n c p.1.2.2 = 7
  · have ez : stZ T n c (p, V, (NS, NH, N, M, P, C), (rs, sf, se, te), j) = seZ T n c (qP (haQ4 T n c V NS NH N) (nxP p), haV T n c V NS NH N (0, 0, p.1.2.2 + 1), (NS, NH + 1, N, M, P, C), (rs, sf, se, te), j) := (if_neg hf).trans ((if_neg e0).trans ((if_neg e1).trans (if_pos e7)))
    rw [ez]; rfl
  by_cases e15 : wq T n c p.1.2.2 = 15
  · have ez : stZ T n c (p, V, (NS, NH, N, M, P, C), (rs, sf, se, te), j) = seZ T n c (qP (peQ2 T n c V NS NH N) (nxP p), peV T n c V NS NH N (0, 0, p.1.2.2 + 1), (NS, NH, N + 1, M, P, C), (rs, sf, se, te), j) := (if_neg hf).trans ((if_neg e0).trans ((if_neg e1).trans ((if_neg e7).trans (if_pos e15))))
    rw [ez]; rfl
  by_cases e16 : wq T n c p.1.2.2 = 16
  · have ez : stZ T n c (p, V, (NS, NH, N, M, P, C), (rs, sf, se, te), j) = seZ T n c (qP (inQ1 T n c V NH N) (nxP p), inV T n c V NH N (0, 0, p.1.2.2 + 1), (NS, NH, N, M, P, C), (rs, sf, se, te), j) := (if_neg hf).trans ((if_neg e0).trans ((if_neg e1).trans ((if_neg e7).trans ((if_neg e15).trans (if_pos e16)))))
    rw [ez]; rfl
  by_cases e17 : wq T n c p.1.2.2 = 17
  · have ez : stZ T n c (p, V, (NS, NH, N, M, P, C), (rs, sf, se, te), j) = seZ T n c (qP (paQ1 T n c V N) (nxP p), paV T n c V N P (0, 0, p.1.2.2 + 1), (NS, NH, N, M, P + 1, C), (rs, sf, se, te), j) := (if_neg hf).trans ((if_neg e0).trans ((if_neg e1).trans ((if_neg e7).trans ((if_neg e15).trans ((if_neg e16).trans (if_pos e17))))))
    rw [ez]; rfl
  by_cases e18 : wq T n c p.1.2.2 = 18
  · have ez : stZ T n c (p, V, (NS, NH, N, M, P, C), (rs, sf, se, te), j) = seZ T n c (wk3P T n c V NS (nxP p), V, (NS, NH, N, M, P, C + 1), (upG rs C (nI (ixF (V 15) (nxI T n (p.1.2.2 + 1)) NS 0)), upG sf C p.2.length, upG se C (wk1P T n c V NS (nxP p)).2.length, upG te C (wk3P T n c V NS (nxP p)).2.length), j) := (if_neg hf).trans ((if_neg e0).trans ((if_neg e1).trans ((if_neg e7).trans ((if_neg e15).trans ((if_neg e16).trans ((if_neg e17).trans (if_pos e18)))))))
    rw [ez]; rfl
  have ez : stZ T n c (p, V, (NS, NH, N, M, P, C), (rs, sf, se, te), j) = (((1, frW T n p.1.2.2, 0), p.2), V, (NS, NH, N, M, P, C), (rs, sf, se, te), j) := (if_neg hf).trans ((if_neg e0).trans ((if_neg e1).trans ((if_neg e7).trans ((if_neg e15).trans ((if_neg e16).trans ((if_neg e17).trans (if_neg e18)))))))
  rw [ez] at hg
  cases hg
end
