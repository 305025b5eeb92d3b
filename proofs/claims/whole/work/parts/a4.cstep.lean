/-! the class reads a statement -/
section
variable {T : Nat → Nat} {n c w lo hi NS NH N m : Nat} {q : Rz} {V : Vw} {b : Int32} {f : Nat → Int32}
theorem nmz_g (h : (nmz T n c q).1 = 0) : q.1 = 0 ∧ (nmz T n c q).2.2 = q.2.2 + 1 := by
  unfold nmz at h ⊢
  by_cases h0 : q.1 = 0
  · rw [if_pos h0] at h ⊢
    by_cases h1 : wq T n c q.2.2 = 40
    · rw [if_pos h1] at h ⊢
      by_cases h2 : 6 < snW T n q.2.2
      · rw [if_pos h2] at h
        have h : 1 = 0 := h
        omega
      · rw [if_neg h2]
        exact ⟨h0, rfl⟩
    · rw [if_neg h1] at h
      have h : 1 = 0 := h
      omega
  · rw [if_neg h0] at h
    exact (h0 h).elim
theorem nnz_g (h : (nnz T n c V NS NH N q).1 = 0) : q.1 = 0 ∧ (nnz T n c V NS NH N q).2.2 = q.2.2 + 1 := by
  unfold nnz at h ⊢
  by_cases h0 : q.1 = 0 ∧ (nmz T n c q).1 = 0 ∧ gvn V NS NH N (nxI T n q.2.2)
  · rw [if_pos h0] at h
    have h : 3 = 0 := h
    omega
  · rw [if_neg h0] at h ⊢
    exact nmz_g h
theorem unz_g (h : (unz T n c V N b q).1 = 0) : q.1 = 0 ∧ (unz T n c V N b q).2.2 = q.2.2 + 1 := by
  unfold unz at h ⊢
  by_cases h0 : q.1 = 0 ∧ (nmz T n c q).1 = 0 ∧ ¬ upF V N b (nxI T n q.2.2)
  · rw [if_pos h0] at h
    have h : 3 = 0 := h
    omega
  · rw [if_neg h0] at h ⊢
    exact nmz_g h
theorem kdQ_g (h : (kdQ T n c q).1 = 0) : q.1 = 0 ∧ (kdQ T n c q).2.2 = q.2.2 + 1 := by
  unfold kdQ at h ⊢
  by_cases h0 : q.1 = 0
  · rw [if_pos h0] at h ⊢
    by_cases h1 : 11 ≤ wq T n c q.2.2 ∧ wq T n c q.2.2 ≤ 14
    · rw [if_pos h1]
      exact ⟨h0, rfl⟩
    · rw [if_neg h1] at h
      have h : 1 = 0 := h
      omega
  · rw [if_neg h0] at h
    exact (h0 h).elim
theorem nbA_g (h : (nbA T n c w lo hi q).1 = 0) : q.1 = 0 ∧ q.2.2 ≤ (nbA T n c w lo hi q).2.2 := by
  obtain ⟨h1, h2⟩ := nbz_g (q := asz T n c w q) h
  obtain ⟨h3, h4⟩ := asz_g h1
  refine ⟨h3, ?_⟩
  show q.2.2 ≤ (nbz T n c lo hi (asz T n c w q)).2.2
  omega
theorem nbA_ch {q2 : Rz} (e : q2 = nbA T n c w lo hi q) (h : q2.1 = 0) : q.1 = 0 ∧ q.2.2 ≤ q2.2.2 := by
  subst e
  exact nbA_g h
theorem nnz_ch {q2 : Rz} (e : q2 = nnz T n c V NS NH N q) (h : q2.1 = 0) : q.1 = 0 ∧ q.2.2 ≤ q2.2.2 := by
  subst e
  obtain ⟨h1, h2⟩ := nnz_g h
  exact ⟨h1, by rw [h2]; exact Nat.le_succ _⟩
theorem knz_ch {q2 : Rz} (e : q2 = knz T n c f m q) (h : q2.1 = 0) : q.1 = 0 ∧ q.2.2 ≤ q2.2.2 := by
  subst e
  obtain ⟨h1, h2⟩ := knz_g h
  exact ⟨h1, by rw [h2]; exact Nat.le_succ _⟩
theorem asz_ch {q2 : Rz} (e : q2 = asz T n c w q) (h : q2.1 = 0) : q.1 = 0 ∧ q.2.2 ≤ q2.2.2 := by
  subst e
  obtain ⟨h1, h2⟩ := asz_g h
  exact ⟨h1, by rw [h2]; exact Nat.le_succ _⟩
theorem kdQ_ch {q2 : Rz} (e : q2 = kdQ T n c q) (h : q2.1 = 0) : q.1 = 0 ∧ q.2.2 ≤ q2.2.2 := by
  subst e
  obtain ⟨h1, h2⟩ := kdQ_g h
  exact ⟨h1, by rw [h2]; exact Nat.le_succ _⟩
theorem unz_ch {q2 : Rz} (e : q2 = unz T n c V N b q) (h : q2.1 = 0) : q.1 = 0 ∧ q.2.2 ≤ q2.2.2 := by
  subst e
  obtain ⟨h1, h2⟩ := unz_g h
  exact ⟨h1, by rw [h2]; exact Nat.le_succ _⟩
theorem soQ_g (h : (soQ5 T n c V NS NH N q).1 = 0) : q.1 = 0 ∧ q.2.2 ≤ (soQ5 T n c V NS NH N q).2.2 := by
  obtain ⟨a5, b5⟩ := nbA_ch (q2 := soQ5 T n c V NS NH N q) (q := soQ4 T n c V NS NH N q) rfl h
  obtain ⟨a4, b4⟩ := nbA_ch (q2 := soQ4 T n c V NS NH N q) (q := soQ3 T n c V NS NH N q) rfl a5
  obtain ⟨a3, b3⟩ := nbA_ch (q2 := soQ3 T n c V NS NH N q) (q := soQ2 T n c V NS NH N q) rfl a4
  obtain ⟨a2, b2⟩ := nbA_ch (q2 := soQ2 T n c V NS NH N q) (q := soQ1 T n c V NS NH N q) rfl a3
  obtain ⟨a1, b1⟩ := nbA_ch (q2 := soQ1 T n c V NS NH N q) (q := soQ0 T n c V NS NH N q) rfl a2
  obtain ⟨a0, b0⟩ := nnz_ch (q2 := soQ0 T n c V NS NH N q) (q := q) rfl a1
  exact ⟨a0, (Nat.le_trans b0 (Nat.le_trans b1 (Nat.le_trans b2 (Nat.le_trans b3 (Nat.le_trans b4 b5)))))⟩
theorem haQ_g (h : (haQ4 T n c V NS NH N q).1 = 0) : q.1 = 0 ∧ q.2.2 ≤ (haQ4 T n c V NS NH N q).2.2 := by
  obtain ⟨a4, b4⟩ := kdQ_ch (q2 := haQ4 T n c V NS NH N q) (q := haQ3 T n c V NS NH N q) rfl h
  obtain ⟨a3, b3⟩ := nbA_ch (q2 := haQ3 T n c V NS NH N q) (q := haQ2 T n c V NS NH N q) rfl a4
  obtain ⟨a2, b2⟩ := nbA_ch (q2 := haQ2 T n c V NS NH N q) (q := haQ1 T n c V NS NH N q) rfl a3
  obtain ⟨a1, b1⟩ := nbA_ch (q2 := haQ1 T n c V NS NH N q) (q := haQ0 T n c V NS NH N q) rfl a2
  obtain ⟨a0, b0⟩ := nnz_ch (q2 := haQ0 T n c V NS NH N q) (q := q) rfl a1
  exact ⟨a0, (Nat.le_trans b0 (Nat.le_trans b1 (Nat.le_trans b2 (Nat.le_trans b3 b4))))⟩
theorem peQ_g (h : (peQ2 T n c V NS NH N q).1 = 0) : q.1 = 0 ∧ q.2.2 ≤ (peQ2 T n c V NS NH N q).2.2 := by
  obtain ⟨a2, b2⟩ := knz_ch (q2 := peQ2 T n c V NS NH N q) (q := peQ1 T n c V NS NH N q) rfl h
  obtain ⟨a1, b1⟩ := asz_ch (q2 := peQ1 T n c V NS NH N q) (q := peQ0 T n c V NS NH N q) rfl a2
  obtain ⟨a0, b0⟩ := nnz_ch (q2 := peQ0 T n c V NS NH N q) (q := q) rfl a1
  exact ⟨a0, (Nat.le_trans b0 (Nat.le_trans b1 b2))⟩
theorem inQ_g (h : (inQ1 T n c V NH N q).1 = 0) : q.1 = 0 ∧ q.2.2 ≤ (inQ1 T n c V NH N q).2.2 := by
  obtain ⟨a1, b1⟩ := knz_ch (q2 := inQ1 T n c V NH N q) (q := inQ0 T n c V N q) rfl h
  obtain ⟨a0, b0⟩ := knz_ch (q2 := inQ0 T n c V N q) (q := q) rfl a1
  exact ⟨a0, (Nat.le_trans b0 b1)⟩
theorem paQ_g (h : (paQ1 T n c V N q).1 = 0) : q.1 = 0 ∧ q.2.2 ≤ (paQ1 T n c V N q).2.2 := by
  obtain ⟨a1, b1⟩ := unz_ch (q2 := paQ1 T n c V N q) (q := paQ0 T n c V N q) rfl h
  obtain ⟨a0, b0⟩ := unz_ch (q2 := paQ0 T n c V N q) (q := q) rfl a1
  exact ⟨a0, (Nat.le_trans b0 b1)⟩
end
section
variable {L : Nat} {xs : Nat → Int32} {σ : Mm} {r : Option Value × Mm} {I J K : Nat → Nat → Int32} {Lm : Nat → Nat → Int64} {Rm : Nat → Nat → Nat} {n s so t N NS NH M P nw S U : Nat} {V W : Vw} {sp s2 ai : Nat} {x y z h v : Int32} {k c w lo hi kd pl g m C j u : Nat} {T : Nat → Nat} {q q2 : Rz} {p p2 : Pz} {E E2 : Nat → Nat → Prop} {cs : List Nat} {rs : Nat → Int32} {sf se te : Nat → Nat}

/-- what a statement about the scene leaves -/
theorem c_mid (ha : ai = 37 ∨ ai = 71) (hs1 : s = ai + 1) (hua : u = ai + 27) (hp : p.1.1 = 0) (h : CI I T n c s u p V NS NH N M P C rs sf se te j) (hF0 : CF I J) (hB : EB s E) (hF : FX J K E) (hq : CS K T n c q) (hg : q.1 = 0 → p.1.2.2 ≤ q.2.2) {V2 : Vw} {NS2 NH2 N2 M2 P2 : Nat} (hR : q.1 = 0 → RdC K s V2 NS2 NH2 N2 M2 P2) : CI K T n c s u (q, p.2) V2 NS2 NH2 N2 M2 P2 C rs sf se te j := by
  obtain ⟨h1, h2, ⟨l, l1, l2⟩, h4⟩ := h
  obtain ⟨y1, y2, y3, y4⟩ := h4 hp
  have e : ∀ a, u ≤ a → a ≤ u + 6 → K a = I a := fun a b1 b2 => (hF.out hB (by omega) (by omega)).trans (hF0.1 a (by omega))
  have e7 : K 105 7 = I 105 7 := (hF 105 7 (fun z => (hB _ _ z).elim (fun y => by unfold E0 at y; omega) (fun y => by omega))).trans (hF0.2 7 (by decide) (by decide) (by decide))
  exact ⟨hq, hF.tks hB (by omega) (hF0.tks h2), ⟨l, (congrFun (e u (by omega) (by omega)) 7).trans l1, l2⟩, fun z => ⟨hR z, cxFX y2 hq (congrFun (e u (by omega) (by omega)) 7) (e (u + 5) (by omega) (by omega)) (fun z => ⟨hp, hg z⟩), y3.fx (congrFun (e u (by omega) (by omega)) 6) (fun a a1 a2 => e (u + a) (by omega) (by omega)), e7.trans y4⟩⟩
theorem c_step (ha : ai = 37 ∨ ai = 71) (hs1 : s = ai + 1) (hua : u = ai + 27) (hW : RdW V NS NH N M P) (hC : C ≤ 12) (hj : j ≤ 100) (hX : TX T n c) (hp : p.1.1 = 0) (hk : p.1.2.2 < c) (h : CI I T n c s u p V NS NH N M P C rs sf se te j) : ∃ J, (∀ r, Em L xs 31 [.ref 105] (179, I, Lm, RG nw sp s2 ai) r ↔ r = (none, 179, J, Lm, RG nw sp s2 ai)) ∧ CIt J T n c s u (stZ T n c (p, V, (NS, NH, N, M, P, C), (rs, sf, se, te), j)) ∧ FX I J (ECl ai) := by
  obtain ⟨hs, ho, s36, s73, hwd⟩ := rd_sc ha hs1
  obtain ⟨g1, g2, g3, g4, -⟩ := rd_rg (nw := nw) (sp := sp) (s2 := s2) hs1
  obtain ⟨h1, h2, h3, h4⟩ := id h
  obtain ⟨y1, y2, y3, y4⟩ := h4 hp
  have hN := hW.1
  have hP6 := rdw_P hW
  have wb := wq_b hX p.1.2.2
  obtain ⟨w, hw⟩ : ∃ w, wq T n c p.1.2.2 = w := ⟨_, rfl⟩
  rw [hw] at wb
  have ah : ahV T n c p.1 = w := (if_pos hp).trans hw
  have a1 := fun r => c_ahead (Lm := Lm) (L := L) (xs := xs) (nw := nw) (sp := sp) (s2 := s2) (ai := ai) hX h2 h1 r
  rw [ah] at a1
  have fl := fun r => c_full (Lm := Lm) (L := L) (xs := xs) (nw := nw) (sp := sp) (s2 := s2) (ai := ai) ha hs1 hua y1 y3 ⟨hN.1, hN.2.1, hN.2.2.1⟩ hC wb r
  have sz := fun r => c_starts (L := L) (xs := xs) (σ := (179, I, Lm, RG nw sp s2 ai)) wb r
  obtain ⟨q8, q6, qk⟩ := cs_good h1 hp
  -- a fault
  have bad : ∀ kd, kd ≠ 0 → kd ≤ 5 → ∃ J, (∀ r, Em L xs 21 [.ref 105, .int (nI kd), .int 0] (179, I, Lm, RG nw sp s2 ai) r ↔ r = (none, 179, J, Lm, RG nw sp s2 ai)) ∧ (∀ r, Em L xs 18 [.ref 105] (179, J, Lm, RG nw sp s2 ai) r ↔ r = (some (.int 0), 179, J, Lm, RG nw sp s2 ai)) ∧ CI J T n c s u ((kd, frW T n p.1.2.2, 0), p.2) V NS NH N M P C rs sf se te j ∧ FX I J (ECl ai) := fun kd k0 k5 => by
    obtain ⟨J, b1, b2, b3⟩ := c_fail (kd := kd) (fu := 0) (Lm := Lm) (L := L) (xs := xs) (nw := nw) (sp := sp) (s2 := s2) (ai := ai) k0 k5 hX h2 h1
    have ef : flz T n kd 0 p.1 = (kd, frW T n p.1.2.2, 0) := if_pos hp
    rw [ef] at b2
    have b4 := fun r => c_isGood (Lm := Lm) (L := L) (xs := xs) (nw := nw) (sp := sp) (s2 := s2) (ai := ai) b2 r
    rw [if_neg (show ¬ (kd, frW T n p.1.2.2, 0).1 = 0 from k0)] at b4
    obtain ⟨l, l1, l2⟩ := h3
    exact ⟨J, b1, b4, ⟨b2, b3.tks h2, ⟨l, (congrFun (b3.1 u (by omega)) 7).trans l1, l2⟩, fun z => (k0 z).elim⟩, fxCF b3 eCl0⟩
  by_cases hf : fulZ w NS NH N C ∨ j = 100
  · have ez : stZ T n c (p, V, (NS, NH, N, M, P, C), (rs, sf, se, te), j) = (((5, frW T n p.1.2.2, 0), p.2), V, (NS, NH, N, M, P, C), (rs, sf, se, te), j) := if_pos (by rw [hw]; exact hf)
    obtain ⟨J, b1, b2, b3, b4⟩ := bad 5 (by decide) (by decide)
    have b1 : ∀ r, Em L xs 21 [.ref 105, .int 5, .int 0] (179, I, Lm, RG nw sp s2 ai) r ↔ r = (none, 179, J, Lm, RG nw sp s2 ai) := fun r => b1 r
    rw [ez]
    refine ⟨J, fun r => ?_, b3, b4⟩
    rw [em_31]
    by_cases e : j = 100
    · have c1 : (100 ≤ nI j) = True := eq_true (by rw [e]; decide)
      simp only [x31_0, x31_1, x31_4, x31_5, x31_6, x31_9, x31_11, x31_14, x31_15, x31_16, x31_19, x31_22, x31_23, x31_24, x31_25, x31_28, x31_31, x31_32, x31_35, x31_38, x31_39, x31_40, x31_41, x31_44, x31_45, x31_48, x31_51, x31_52, x31_53, x31_54, x31_57, x31_58, x31_59, x31_62, x31_149, x31_152, x31_153, x31_154, x31_156, x31_159, x31_162, x31_166, x31_169, x31_173, x31_176, x31_180, x31_183, x31_187, x31_190, x31_194, x31_197, x31_201, x31_205, x31_208, x31_211, x31_212, x31_213, x31_216, x31_217, x31_218, x31_221, sh_105, lq_105, ex5, Option.toList_some, Option.toList_none, List.cons_append, List.nil_append, true_and, and_true, nI_1, p_at, p_set, p_isIn, p_max, p_min, p_abs, a1, y4, c1, if_true, b1, b2]
    · have c1 : (100 ≤ nI j) = False := eq_false (nI_ge (b := 100) (by omega) (by decide))
      rw [if_pos (hf.resolve_right e)] at fl
      simp only [x31_0, x31_1, x31_4, x31_5, x31_6, x31_9, x31_11, x31_14, x31_15, x31_16, x31_19, x31_22, x31_23, x31_24, x31_25, x31_28, x31_31, x31_32, x31_35, x31_38, x31_39, x31_40, x31_41, x31_44, x31_45, x31_48, x31_51, x31_52, x31_53, x31_54, x31_57, x31_58, x31_59, x31_62, x31_149, x31_152, x31_153, x31_154, x31_156, x31_159, x31_162, x31_166, x31_169, x31_173, x31_176, x31_180, x31_183, x31_187, x31_190, x31_194, x31_197, x31_201, x31_205, x31_208, x31_211, x31_212, x31_213, x31_216, x31_217, x31_218, x31_221, sh_105, lq_105, ex5, Option.toList_some, Option.toList_none, List.cons_append, List.nil_append, true_and, and_true, nI_1, p_at, p_set, p_isIn, p_max, p_min, p_abs, a1, y4, c1, if_true, if_false, fl, one_ne, b1, b2]
  have hfw : ¬ fulZ w NS NH N C := fun z => hf (Or.inl z)
  have hj2 : j < 100 := by
    have : ¬ j = 100 := fun z => hf (Or.inr z)
    omega
  have c1 : (100 ≤ nI j) = False := eq_false (nI_ge (b := 100) hj2 (by decide))
  rw [if_neg hfw] at fl
  have hf' : ¬ (fulZ (wq T n c p.1.2.2) NS NH N C ∨ j = 100) := by rw [hw]; exact hf
  by_cases hst : staZ w
  case neg =>
    rw [if_neg hst] at sz
    have nw_ : ∀ v, staZ v → ¬ wq T n c p.1.2.2 = v := fun v hv z => hst (by rw [← hw, z]; exact hv)
    have ez : stZ T n c (p, V, (NS, NH, N, M, P, C), (rs, sf, se, te), j) = (((1, frW T n p.1.2.2, 0), p.2), V, (NS, NH, N, M, P, C), (rs, sf, se, te), j) := (if_neg hf').trans ((if_neg (nw_ 0 (by unfold staZ; omega))).trans ((if_neg (nw_ 1 (by unfold staZ; omega))).trans ((if_neg (nw_ 7 (by unfold staZ; omega))).trans ((if_neg (nw_ 15 (by unfold staZ; omega))).trans ((if_neg (nw_ 16 (by unfold staZ; omega))).trans ((if_neg (nw_ 17 (by unfold staZ; omega))).trans (if_neg (nw_ 18 (by unfold staZ; omega)))))))))
    obtain ⟨J, b1, b2, b3, b4⟩ := bad 1 (by decide) (by decide)
    have b1 : ∀ r, Em L xs 21 [.ref 105, .int 1, .int 0] (179, I, Lm, RG nw sp s2 ai) r ↔ r = (none, 179, J, Lm, RG nw sp s2 ai) := fun r => b1 r
    rw [ez]
    refine ⟨J, fun r => ?_, b3, b4⟩
    rw [em_31]
    simp only [x31_0, x31_1, x31_4, x31_5, x31_6, x31_9, x31_11, x31_14, x31_15, x31_16, x31_19, x31_22, x31_23, x31_24, x31_25, x31_28, x31_31, x31_32, x31_35, x31_38, x31_39, x31_40, x31_41, x31_44, x31_45, x31_48, x31_51, x31_52, x31_53, x31_54, x31_57, x31_58, x31_59, x31_62, x31_149, x31_152, x31_153, x31_154, x31_156, x31_159, x31_162, x31_166, x31_169, x31_173, x31_176, x31_180, x31_183, x31_187, x31_190, x31_194, x31_197, x31_201, x31_205, x31_208, x31_211, x31_212, x31_213, x31_216, x31_217, x31_218, x31_221, sh_105, lq_105, ex5, Option.toList_some, Option.toList_none, List.cons_append, List.nil_append, true_and, and_true, nI_1, p_at, p_set, p_isIn, p_max, p_min, p_abs, a1, y4, c1, if_true, if_false, fl, sz, b1, b2]
  rw [if_pos hst] at sz
  have gd := fun r => c_isGood (Lm := Lm) (L := L) (xs := xs) (nw := nw) (sp := sp) (s2 := s2) (ai := ai) h1 r
  rw [if_pos hp] at gd
  -- the word is passed
  obtain ⟨S1, F1⟩ := cs_nx h1 (fun _ => hk)
  rw [q6, nI_1] at S1 F1
  rw [show nxz p.1 = (0, 0, p.1.2.2 + 1) from if_pos hp] at S1
  have T1 := F1.tks h2
  have R1 := y1.cf F1 s73
  have go : ∀ r, Em L xs 31 [.ref 105] (179, I, Lm, RG nw sp s2 ai) r ↔ Ev L xs 78 31 63 [some (.ref 105), some (.int (nI w))] [.int (nI w)] (179, (up2 I 105 6 (nI (p.1.2.2 + 1))), Lm, RG nw sp s2 ai) r := fun r => by
    rw [em_31]
    simp only [x31_0, x31_1, x31_4, x31_5, x31_6, x31_9, x31_11, x31_14, x31_15, x31_16, x31_19, x31_22, x31_23, x31_24, x31_25, x31_28, x31_31, x31_32, x31_35, x31_38, x31_39, x31_40, x31_41, x31_44, x31_45, x31_48, x31_51, x31_52, x31_53, x31_54, x31_57, x31_58, x31_59, x31_62, x31_149, x31_152, x31_153, x31_154, x31_156, x31_159, x31_162, x31_166, x31_169, x31_173, x31_176, x31_180, x31_183, x31_187, x31_190, x31_194, x31_197, x31_201, x31_205, x31_208, x31_211, x31_212, x31_213, x31_216, x31_217, x31_218, x31_221, sh_105, lq_105, ex5, Option.toList_some, Option.toList_none, List.cons_append, List.nil_append, true_and, and_true, nI_1, p_at, p_set, p_isIn, p_max, p_min, p_abs, a1, y4, c1, if_false, fl, if_true, sz, one_ne, gd, q6]
  have fin : ∀ (B : Nat → Nat → Int32) (t : Rt), stZ T n c (p, V, (NS, NH, N, M, P, C), (rs, sf, se, te), j) = seZ T n c t → CIt B T n c s u t → FX I B (ECl ai) → (∀ r, Em L xs 31 [.ref 105] (179, I, Lm, RG nw sp s2 ai) r ↔ Ev L xs 78 31 204 [some (.ref 105), some (.int (nI w))] [] (179, B, Lm, RG nw sp s2 ai) r) → ∃ J, (∀ r, Em L xs 31 [.ref 105] (179, I, Lm, RG nw sp s2 ai) r ↔ r = (none, 179, J, Lm, RG nw sp s2 ai)) ∧ CIt J T n c s u (stZ T n c (p, V, (NS, NH, N, M, P, C), (rs, sf, se, te), j)) ∧ FX I J (ECl ai) := fun B t ez hB FB hB2 => by
    obtain ⟨J, d1, d2, d3⟩ := c_semi (Lm := Lm) (L := L) (xs := xs) (nw := nw) (sp := sp) (s2 := s2) (ai := ai) ha hs1 hua hX hB
    rw [ez]
    exact ⟨J, fun r => (hB2 r).trans (d1 r _), d2, fxTr FB d3⟩
  by_cases e0 : w = 0
  · subst e0
    have ez : stZ T n c (p, V, (NS, NH, N, M, P, C), (rs, sf, se, te), j) = seZ T n c (qP (nbz T n c 0 60) (nxP p), V, (NS, NH, N, nbW T n (p.1.2.2 + 1), P, C), (rs, sf, se, te), j) := (if_neg hf').trans (if_pos hw)
    obtain ⟨v, J1, d1, d2, d3, d4⟩ := c_number (lo := 0) (hi := 60) (Lm := Lm) (L := L) (xs := xs) (nw := nw) (sp := sp) (s2 := s2) (ai := ai) (by decide) (by decide) hX T1 S1
    have d1 : ∀ r, Em L xs 24 [.ref 105, .int 0, .int 60] (179, (up2 I 105 6 (nI (p.1.2.2 + 1))), Lm, RG nw sp s2 ai) r ↔ r = (some (.int v), 179, J1, Lm, RG nw sp s2 ai) := fun r => d1 r
    have hB : EB s (fun p k => E0 p k ∨ p = s) := fun p k z => z.elim Or.inl (fun y => Or.inr (by omega))
    have F2 : FX (up2 I 105 6 (nI (p.1.2.2 + 1))) (up2 J1 s 6 v) (fun p k => E0 p k ∨ p = s) := fxTr (fxCF d3 (fun _ _ z => Or.inl z)) (fxUp (Or.inr rfl))
    have m : CI (up2 J1 s 6 v) T n c s u (nbz T n c 0 60 (0, 0, p.1.2.2 + 1), p.2) V NS NH N (nbW T n (p.1.2.2 + 1)) P C rs sf se te j := by
      refine c_mid ha hs1 hua hp h F1 hB F2 (csUp d2 (by omega)) (fun z => by have := (nbz_g z).2; show p.1.2.2 ≤ _; rw [this]; show p.1.2.2 ≤ p.1.2.2 + 1 + 1; omega) (fun z => ?_)
      obtain ⟨⟨x1, x2, x3, x4, x5⟩, x6⟩ := R1.cf d3 s73
      have e : ∀ a, a ≠ s → up2 J1 s 6 v a = J1 a := fun a z => funext fun k => up2_p z
      refine ⟨⟨by rw [e _ (by omega)]; exact x1, by rw [e _ (by omega)]; exact x2, by rw [e _ (by omega)]; exact x3, by rw [up2_eq, d4 z], by rw [e _ (by omega)]; exact x5⟩, ?_⟩
      rw [e _ (by omega), e _ (by omega), e _ (by omega), e _ (by omega), e _ (by omega), e _ (by omega), e _ (by omega), e _ (by omega), e _ (by omega), e _ (by omega), e _ (by omega), e _ (by omega), e _ (by omega), e _ (by omega), e _ (by omega), e _ (by omega), e _ (by omega), e _ (by omega)]
      exact x6
    refine fin _ _ ez m (fxTr (fxCF F1 eCl0) (fxSub F2 (eClB hs1 hB))) (fun r => ?_)
    rw [go]
    rw [show nI 0 = 0 from rfl, x31_63k0]
    rw [x31_148]
    simp only [x31_0, x31_1, x31_4, x31_5, x31_6, x31_9, x31_11, x31_14, x31_15, x31_16, x31_19, x31_22, x31_23, x31_24, x31_25, x31_28, x31_31, x31_32, x31_35, x31_38, x31_39, x31_40, x31_41, x31_44, x31_45, x31_48, x31_51, x31_52, x31_53, x31_54, x31_57, x31_58, x31_59, x31_62, x31_149, x31_152, x31_153, x31_154, x31_156, x31_159, x31_162, x31_166, x31_169, x31_173, x31_176, x31_180, x31_183, x31_187, x31_190, x31_194, x31_197, x31_201, x31_205, x31_208, x31_211, x31_212, x31_213, x31_216, x31_217, x31_218, x31_221, sh_105, lq_105, ex5, Option.toList_some, Option.toList_none, List.cons_append, List.nil_append, true_and, and_true, nI_1, p_at, p_set, p_isIn, p_max, p_min, p_abs, sh_s, lq_s, sh_s1, lq_s1, sh_s2, lq_s2, sh_s3, lq_s3, sh_s4, lq_s4, sh_s5, lq_s5, sh_s6, lq_s6, sh_s7, lq_s7, sh_s8, lq_s8, sh_s9, lq_s9, sh_s10, lq_s10, sh_s11, lq_s11, sh_s12, lq_s12, sh_s13, lq_s13, sh_s14, lq_s14, sh_s15, lq_s15, sh_s16, lq_s16, sh_s17, lq_s17, sh_s18, lq_s18, sh_s19, lq_s19, sh_s20, lq_s20, sh_s21, lq_s21, sh_s22, lq_s22, sh_s23, lq_s23, sh_s24, lq_s24, sh_s25, lq_s25, rg_s0_0, rg_s0_1, rg_s0_2, rg_s0_3, rg_s1_0, rg_s1_1, rg_s1_2, rg_s1_3, rg_s1_4, rg_s7_0, rg_s9_0, rg_s9_1, rg_s9_2, rg_s9_3, rg_s9_4, rg_s9_5, rg_s16_6, rg_s16_7, rg_s16_0, rg_s16_1, rg_s16_2, rg_s16_3, rg_s16_4, rg_s16_5, sh_o, lq_o, sh_o1, lq_o1, sh_o2, lq_o2, sh_o3, lq_o3, sh_o4, lq_o4, sh_o5, lq_o5, sh_o6, lq_o6, rg_o0, rg_o1, rg_o2, rg_o3, rg_o4, rg_o5, hs, g1, d1]
  by_cases e1 : w = 1
  · subst e1
    have ez : stZ T n c (p, V, (NS, NH, N, M, P, C), (rs, sf, se, te), j) = seZ T n c (qP (soQ5 T n c V NS NH N) (nxP p), soV T n c V NS NH N (0, 0, p.1.2.2 + 1), (NS + 1, NH, N, M, P, C), (rs, sf, se, te), j) := (if_neg hf').trans ((if_neg (show ¬ wq T n c p.1.2.2 = 0 by omega)).trans (if_pos hw))
    obtain ⟨J1, d1, d2, d3, d4⟩ := c_sort (Lm := Lm) (L := L) (xs := xs) (nw := nw) (sp := sp) (s2 := s2) (ai := ai) ha hs1 R1 ⟨by unfold fulZ at hfw; omega, hN.2.1, hN.2.2.1⟩ hX T1 S1
    have m : CIt J1 T n c s u (qP (soQ5 T n c V NS NH N) (nxP p), soV T n c V NS NH N (0, 0, p.1.2.2 + 1), (NS + 1, NH, N, M, P, C), (rs, sf, se, te), j) := c_mid ha hs1 hua hp h F1 eSoB d3 d2 (fun z => Nat.le_trans (Nat.le_succ p.1.2.2) (soQ_g z).2) d4.2
    refine fin _ _ ez m (fxTr (fxCF F1 eCl0) (fxSub d3 (eClB hs1 eSoB))) (fun r => ?_)
    rw [go]
    rw [show nI 1 = 1 from rfl, x31_63k1]
    rw [x31_165]
    simp only [x31_0, x31_1, x31_4, x31_5, x31_6, x31_9, x31_11, x31_14, x31_15, x31_16, x31_19, x31_22, x31_23, x31_24, x31_25, x31_28, x31_31, x31_32, x31_35, x31_38, x31_39, x31_40, x31_41, x31_44, x31_45, x31_48, x31_51, x31_52, x31_53, x31_54, x31_57, x31_58, x31_59, x31_62, x31_149, x31_152, x31_153, x31_154, x31_156, x31_159, x31_162, x31_166, x31_169, x31_173, x31_176, x31_180, x31_183, x31_187, x31_190, x31_194, x31_197, x31_201, x31_205, x31_208, x31_211, x31_212, x31_213, x31_216, x31_217, x31_218, x31_221, sh_105, lq_105, ex5, Option.toList_some, Option.toList_none, List.cons_append, List.nil_append, true_and, and_true, nI_1, p_at, p_set, p_isIn, p_max, p_min, p_abs, d1]
  by_cases e7 : w = 7
  · subst e7
    have ez : stZ T n c (p, V, (NS, NH, N, M, P, C), (rs, sf, se, te), j) = seZ T n c (qP (haQ4 T n c V NS NH N) (nxP p), haV T n c V NS NH N (0, 0, p.1.2.2 + 1), (NS, NH + 1, N, M, P, C), (rs, sf, se, te), j) := (if_neg hf').trans ((if_neg (show ¬ wq T n c p.1.2.2 = 0 by omega)).trans ((if_neg (show ¬ wq T n c p.1.2.2 = 1 by omega)).trans (if_pos hw)))
    obtain ⟨J1, d1, d2, d3, d4⟩ := c_hat (Lm := Lm) (L := L) (xs := xs) (nw := nw) (sp := sp) (s2 := s2) (ai := ai) ha hs1 R1 ⟨hN.1, by unfold fulZ at hfw; omega, hN.2.2.1⟩ hX T1 S1
    have m : CIt J1 T n c s u (qP (haQ4 T n c V NS NH N) (nxP p), haV T n c V NS NH N (0, 0, p.1.2.2 + 1), (NS, NH + 1, N, M, P, C), (rs, sf, se, te), j) := c_mid ha hs1 hua hp h F1 eHaB d3 d2 (fun z => Nat.le_trans (Nat.le_succ p.1.2.2) (haQ_g z).2) d4
    refine fin _ _ ez m (fxTr (fxCF F1 eCl0) (fxSub d3 (eClB hs1 eHaB))) (fun r => ?_)
    rw [go]
    rw [show nI 7 = 7 from rfl, x31_63k7]
    rw [x31_172]
    simp only [x31_0, x31_1, x31_4, x31_5, x31_6, x31_9, x31_11, x31_14, x31_15, x31_16, x31_19, x31_22, x31_23, x31_24, x31_25, x31_28, x31_31, x31_32, x31_35, x31_38, x31_39, x31_40, x31_41, x31_44, x31_45, x31_48, x31_51, x31_52, x31_53, x31_54, x31_57, x31_58, x31_59, x31_62, x31_149, x31_152, x31_153, x31_154, x31_156, x31_159, x31_162, x31_166, x31_169, x31_173, x31_176, x31_180, x31_183, x31_187, x31_190, x31_194, x31_197, x31_201, x31_205, x31_208, x31_211, x31_212, x31_213, x31_216, x31_217, x31_218, x31_221, sh_105, lq_105, ex5, Option.toList_some, Option.toList_none, List.cons_append, List.nil_append, true_and, and_true, nI_1, p_at, p_set, p_isIn, p_max, p_min, p_abs, d1]
  by_cases e15 : w = 15
  · subst e15
    have ez : stZ T n c (p, V, (NS, NH, N, M, P, C), (rs, sf, se, te), j) = seZ T n c (qP (peQ2 T n c V NS NH N) (nxP p), peV T n c V NS NH N (0, 0, p.1.2.2 + 1), (NS, NH, N + 1, M, P, C), (rs, sf, se, te), j) := (if_neg hf').trans ((if_neg (show ¬ wq T n c p.1.2.2 = 0 by omega)).trans ((if_neg (show ¬ wq T n c p.1.2.2 = 1 by omega)).trans ((if_neg (show ¬ wq T n c p.1.2.2 = 7 by omega)).trans (if_pos hw))))
    obtain ⟨J1, d1, d2, d3, d4⟩ := c_person (Lm := Lm) (L := L) (xs := xs) (nw := nw) (sp := sp) (s2 := s2) (ai := ai) ha hs1 R1 ⟨hN.1, hN.2.1, by unfold fulZ at hfw; omega⟩ hX T1 S1
    have m : CIt J1 T n c s u (qP (peQ2 T n c V NS NH N) (nxP p), peV T n c V NS NH N (0, 0, p.1.2.2 + 1), (NS, NH, N + 1, M, P, C), (rs, sf, se, te), j) := c_mid ha hs1 hua hp h F1 ePeB d3 d2 (fun z => Nat.le_trans (Nat.le_succ p.1.2.2) (peQ_g z).2) d4
    refine fin _ _ ez m (fxTr (fxCF F1 eCl0) (fxSub d3 (eClB hs1 ePeB))) (fun r => ?_)
    rw [go]
    rw [show nI 15 = 15 from rfl, x31_63k15]
    rw [x31_179]
    simp only [x31_0, x31_1, x31_4, x31_5, x31_6, x31_9, x31_11, x31_14, x31_15, x31_16, x31_19, x31_22, x31_23, x31_24, x31_25, x31_28, x31_31, x31_32, x31_35, x31_38, x31_39, x31_40, x31_41, x31_44, x31_45, x31_48, x31_51, x31_52, x31_53, x31_54, x31_57, x31_58, x31_59, x31_62, x31_149, x31_152, x31_153, x31_154, x31_156, x31_159, x31_162, x31_166, x31_169, x31_173, x31_176, x31_180, x31_183, x31_187, x31_190, x31_194, x31_197, x31_201, x31_205, x31_208, x31_211, x31_212, x31_213, x31_216, x31_217, x31_218, x31_221, sh_105, lq_105, ex5, Option.toList_some, Option.toList_none, List.cons_append, List.nil_append, true_and, and_true, nI_1, p_at, p_set, p_isIn, p_max, p_min, p_abs, d1]
  by_cases e16 : w = 16
  · subst e16
    have ez : stZ T n c (p, V, (NS, NH, N, M, P, C), (rs, sf, se, te), j) = seZ T n c (qP (inQ1 T n c V NH N) (nxP p), inV T n c V NH N (0, 0, p.1.2.2 + 1), (NS, NH, N, M, P, C), (rs, sf, se, te), j) := (if_neg hf').trans ((if_neg (show ¬ wq T n c p.1.2.2 = 0 by omega)).trans ((if_neg (show ¬ wq T n c p.1.2.2 = 1 by omega)).trans ((if_neg (show ¬ wq T n c p.1.2.2 = 7 by omega)).trans ((if_neg (show ¬ wq T n c p.1.2.2 = 15 by omega)).trans (if_pos hw)))))
    obtain ⟨J1, d1, d2, d3, d4⟩ := c_in (Lm := Lm) (L := L) (xs := xs) (nw := nw) (sp := sp) (s2 := s2) (ai := ai) ha hs1 R1 ⟨hN.1, hN.2.1, hN.2.2.1⟩ hX T1 S1
    have m : CIt J1 T n c s u (qP (inQ1 T n c V NH N) (nxP p), inV T n c V NH N (0, 0, p.1.2.2 + 1), (NS, NH, N, M, P, C), (rs, sf, se, te), j) := c_mid ha hs1 hua hp h F1 eInB d3 d2 (fun z => Nat.le_trans (Nat.le_succ p.1.2.2) (inQ_g z).2) d4
    refine fin _ _ ez m (fxTr (fxCF F1 eCl0) (fxSub d3 (eClB hs1 eInB))) (fun r => ?_)
    rw [go]
    rw [show nI 16 = 16 from rfl, x31_63k16]
    rw [x31_186]
    simp only [x31_0, x31_1, x31_4, x31_5, x31_6, x31_9, x31_11, x31_14, x31_15, x31_16, x31_19, x31_22, x31_23, x31_24, x31_25, x31_28, x31_31, x31_32, x31_35, x31_38, x31_39, x31_40, x31_41, x31_44, x31_45, x31_48, x31_51, x31_52, x31_53, x31_54, x31_57, x31_58, x31_59, x31_62, x31_149, x31_152, x31_153, x31_154, x31_156, x31_159, x31_162, x31_166, x31_169, x31_173, x31_176, x31_180, x31_183, x31_187, x31_190, x31_194, x31_197, x31_201, x31_205, x31_208, x31_211, x31_212, x31_213, x31_216, x31_217, x31_218, x31_221, sh_105, lq_105, ex5, Option.toList_some, Option.toList_none, List.cons_append, List.nil_append, true_and, and_true, nI_1, p_at, p_set, p_isIn, p_max, p_min, p_abs, d1]
  by_cases e17 : w = 17
  · subst e17
    have ez : stZ T n c (p, V, (NS, NH, N, M, P, C), (rs, sf, se, te), j) = seZ T n c (qP (paQ1 T n c V N) (nxP p), paV T n c V N P (0, 0, p.1.2.2 + 1), (NS, NH, N, M, P + 1, C), (rs, sf, se, te), j) := (if_neg hf').trans ((if_neg (show ¬ wq T n c p.1.2.2 = 0 by omega)).trans ((if_neg (show ¬ wq T n c p.1.2.2 = 1 by omega)).trans ((if_neg (show ¬ wq T n c p.1.2.2 = 7 by omega)).trans ((if_neg (show ¬ wq T n c p.1.2.2 = 15 by omega)).trans ((if_neg (show ¬ wq T n c p.1.2.2 = 16 by omega)).trans (if_pos hw))))))
    obtain ⟨J1, d1, d2, d3, d4⟩ := c_pair (Lm := Lm) (L := L) (xs := xs) (nw := nw) (sp := sp) (s2 := s2) (ai := ai) ha hs1 R1 ⟨hN.1, hN.2.1, hN.2.2.1⟩ (by omega) hX T1 S1
    have m : CIt J1 T n c s u (qP (paQ1 T n c V N) (nxP p), paV T n c V N P (0, 0, p.1.2.2 + 1), (NS, NH, N, M, P + 1, C), (rs, sf, se, te), j) := c_mid ha hs1 hua hp h F1 ePaB d3 d2 (fun z => Nat.le_trans (Nat.le_succ p.1.2.2) (paQ_g z).2) d4
    refine fin _ _ ez m (fxTr (fxCF F1 eCl0) (fxSub d3 (eClB hs1 ePaB))) (fun r => ?_)
    rw [go]
    rw [show nI 17 = 17 from rfl, x31_63k17]
    rw [x31_193]
    simp only [x31_0, x31_1, x31_4, x31_5, x31_6, x31_9, x31_11, x31_14, x31_15, x31_16, x31_19, x31_22, x31_23, x31_24, x31_25, x31_28, x31_31, x31_32, x31_35, x31_38, x31_39, x31_40, x31_41, x31_44, x31_45, x31_48, x31_51, x31_52, x31_53, x31_54, x31_57, x31_58, x31_59, x31_62, x31_149, x31_152, x31_153, x31_154, x31_156, x31_159, x31_162, x31_166, x31_169, x31_173, x31_176, x31_180, x31_183, x31_187, x31_190, x31_194, x31_197, x31_201, x31_205, x31_208, x31_211, x31_212, x31_213, x31_216, x31_217, x31_218, x31_221, sh_105, lq_105, ex5, Option.toList_some, Option.toList_none, List.cons_append, List.nil_append, true_and, and_true, nI_1, p_at, p_set, p_isIn, p_max, p_min, p_abs, d1]
  have e18 : w = 18 := by unfold staZ at hst; omega
  · subst e18
    have ez : stZ T n c (p, V, (NS, NH, N, M, P, C), (rs, sf, se, te), j) = seZ T n c (wk3P T n c V NS (nxP p), V, (NS, NH, N, M, P, C + 1), (upG rs C (nI (ixF (V 15) (nxI T n (p.1.2.2 + 1)) NS 0)), upG sf C p.2.length, upG se C (wk1P T n c V NS (nxP p)).2.length, upG te C (wk3P T n c V NS (nxP p)).2.length), j) := (if_neg hf').trans ((if_neg (show ¬ wq T n c p.1.2.2 = 0 by omega)).trans ((if_neg (show ¬ wq T n c p.1.2.2 = 1 by omega)).trans ((if_neg (show ¬ wq T n c p.1.2.2 = 7 by omega)).trans ((if_neg (show ¬ wq T n c p.1.2.2 = 15 by omega)).trans ((if_neg (show ¬ wq T n c p.1.2.2 = 16 by omega)).trans ((if_neg (show ¬ wq T n c p.1.2.2 = 17 by omega)).trans (if_pos hw)))))))
    have hu : u = 64 ∨ u = 98 := by omega
    have X1 : CDX (up2 I 105 6 (nI (p.1.2.2 + 1))) T n c u (nxP p) := cxCF y2 hu F1 S1 (fun _ => ⟨hp, by show p.1.2.2 ≤ p.1.2.2 + 1; omega⟩)
    have U1 : RdU (up2 I 105 6 (nI (p.1.2.2 + 1))) u C rs sf se te := y3.fx (congrFun (F1.1 u (by omega)) 6) (fun a a1 a2 => F1.1 (u + a) (by omega))
    obtain ⟨J1, d1, d2, d3, d4⟩ := c_works (Lm := Lm) (L := L) (xs := xs) (nw := nw) (sp := sp) (s2 := s2) (ai := ai) ha hs1 hua R1 hN.1 (show C < 12 by unfold fulZ at hfw; omega) hX T1 U1 X1
    have EW : ∀ p k, EWk u C p k → ECl ai p k := fun p k z => by
      rcases z with z | z | z | z
      · exact eCl0 p k z
      · exact Or.inr (by omega)
      · exact Or.inr (by omega)
      · exact Or.inr (by omega)
    have nE : ∀ a b, a < u → a ≠ 105 → ¬ EWk u C a b := fun a b a1 a2 z => by
      rcases z with z | z | z | z
      · exact a2 z.1
      · omega
      · omega
      · omega
    have e7 : J1 105 7 = nI j := by
      rw [d3 105 7 (fun z => by unfold EWk E0 at z; omega), up2_k (by decide)]
      exact y4
    obtain ⟨zz, hz⟩ : ∃ y, wk3P T n c V NS (nxP p) = y := ⟨_, rfl⟩
    obtain ⟨z1, hz1⟩ : ∃ y, (wk1P T n c V NS (nxP p)).2.length = y := ⟨_, rfl⟩
    rw [hz] at d2
    rw [hz, hz1] at d4 ez
    have RR : RdC J1 s V NS NH N M P := R1.fx d3 ⟨nE _ _ (by omega) (by omega), nE _ _ (by omega) (by omega), nE _ _ (by omega) (by omega), nE _ _ (by omega) (by omega), nE _ _ (by omega) (by omega)⟩ (fun k _ => ⟨nE _ _ (by omega) (by omega), nE _ _ (by omega) (by omega), nE _ _ (by omega) (by omega), nE _ _ (by omega) (by omega), nE _ _ (by omega) (by omega)⟩) (fun k _ a _ _ => nE _ _ (by omega) (by omega)) (fun k _ a _ _ => nE _ _ (by omega) (by omega)) (fun k _ => ⟨nE _ _ (by omega) (by omega), nE _ _ (by omega) (by omega)⟩)
    have TT := d3.tksW hu T1
    have m : CI J1 T n c s u zz V NS NH N M P (C + 1) (upG rs C (nI (ixF (V 15) (nxI T n (p.1.2.2 + 1)) NS 0))) (upG sf C p.2.length) (upG se C z1) (upG te C zz.2.length) j := ⟨d2.1, TT, d2.2.1, fun z => ⟨RR, d2, d4 z, e7⟩⟩
    refine fin _ _ ez m (fxTr (fxCF F1 eCl0) (fxSub d3 EW)) (fun r => ?_)
    rw [go]
    rw [x31_63d (Or.inr (by decide))]
    rw [x31_200]
    simp only [x31_0, x31_1, x31_4, x31_5, x31_6, x31_9, x31_11, x31_14, x31_15, x31_16, x31_19, x31_22, x31_23, x31_24, x31_25, x31_28, x31_31, x31_32, x31_35, x31_38, x31_39, x31_40, x31_41, x31_44, x31_45, x31_48, x31_51, x31_52, x31_53, x31_54, x31_57, x31_58, x31_59, x31_62, x31_149, x31_152, x31_153, x31_154, x31_156, x31_159, x31_162, x31_166, x31_169, x31_173, x31_176, x31_180, x31_183, x31_187, x31_190, x31_194, x31_197, x31_201, x31_205, x31_208, x31_211, x31_212, x31_213, x31_216, x31_217, x31_218, x31_221, sh_105, lq_105, ex5, Option.toList_some, Option.toList_none, List.cons_append, List.nil_append, true_and, and_true, nI_1, p_at, p_set, p_isIn, p_max, p_min, p_abs, d1]
end
