/-! town -/
theorem ePrB : ∀ p k, Epr p k → p = 112 ∨ 147 ≤ p := fun p k h => by unfold Epr at h; omega
theorem eRtB : ∀ p k, ERt p k → p = 112 ∨ 147 ≤ p := fun p k h => h.elim (eRfB p k) (fun z => z.elim (ePrB p k) (fun y => by omega))
theorem eRwB : ∀ p k, ERw p k → p = 112 ∨ 147 ≤ p := fun p k h => h.elim (eRtB p k) (fun z => by unfold Est at z; omega)
section
variable {L : Nat} {xs : Nat → Int32} {σ : Mm} {r : Option Value × Mm} {I J : Nat → Nat → Int32} {Lm : Nat → Nat → Int64} {Rm : Nat → Nat → Nat} {n s so N NS NH M P nw S U : Nat} {V W : Vw} {sp s2 ai : Nat} {x y z h v sd : Int32} {k c w lo hi kd pl g m C j u a b d F K l : Nat} {T : Nat → Nat} {q q2 : Rz} {p p2 : Pz} {E E2 : Nat → Nat → Prop} {cs : List Nat} {rs : Nat → Int32} {sf se te : Nat → Nat} {G : Nat → Nat → Int32} {Lk : Nat → Nat → Int64} {t : Rt} {Q : Ru}

/-- up to the town's end -/
theorem r_read (hTB : TB I T) (hKT : KT I) (hX : TX T F c) (h1 : I 112 1 = nI F) : ∃ G Lk, (∀ r, Em L xs 194 [.ref 112] (179, I, Lm, RG nw sp s2 ai) r ↔ Ev L xs 10 194 64 [some (.ref 112), some (.int 3)] [] (179, G, Lk, RG nw sp s2 ai) r) ∧ RIt G Lk T F c (runZ T F c 101 t0Z) ∧ G 112 1 = 0 ∧ FX I G ERt ∧ (∀ p k, p ≠ 147 ∨ 36 ≤ k → Lk p k = Lm p k) := by
  obtain ⟨G1, a1, a2, a3, a4⟩ := r_pre (Lm := Lm) (L := L) (xs := xs) (nw := nw) (sp := sp) (s2 := s2) (ai := ai) h1 hX
  obtain ⟨G2, Lk, b1, b2, b3, b4⟩ := r_loop (L := L) (xs := xs) (nw := nw) (sp := sp) (s2 := s2) (ai := ai) hX 101 t0Z G1 Lm (run_stop 101 t0Z pi_0 (fun _ => rfl)) pi_0 (a3.tbG ePrB hTB) (a3.ktG ePrB hKT) a2
  refine ⟨G2, Lk, fun r => ?_, b2, (b3 112 1 (fun z => by unfold ERf EQ R0 EY at z; omega)).trans a4, fxTr (fxSub a3 (fun _ _ z => Or.inr (Or.inl z))) (fxSub b3 (fun _ _ z => Or.inl z)), b4⟩
  rw [a1, b1]
theorem r_townB (hTB : TB I T) (hKT : KT I) (hX : TX T F c) (h1 : I 112 1 = nI F) (hb : ¬ (runZ T F c 101 t0Z).1.1.1 = 0) : ∃ G Lk, (∀ r, Em L xs 194 [.ref 112] (179, I, Lm, RG nw sp s2 ai) r ↔ r = (some (.int (-1)), 179, G, Lk, RG nw sp s2 ai)) ∧ G 112 7 = nI (runZ T F c 101 t0Z).1.1.1 ∧ G 112 8 = plc (runZ T F c 101 t0Z).1.1 ∧ G 112 1 = 0 ∧ FX I G ERt ∧ (∀ p k, p ≠ 147 ∨ 36 ≤ k → Lk p k = Lm p k) := by
  obtain ⟨G, Lk, a1, a2, a3, a4, a5⟩ := r_read (Lm := Lm) (L := L) (xs := xs) (nw := nw) (sp := sp) (s2 := s2) (ai := ai) hTB hKT hX h1
  obtain ⟨t, ht⟩ : ∃ t, (runZ T F c 101 t0Z) = t := ⟨_, rfl⟩
  rw [ht] at a2 hb ⊢
  have h5 : G 112 5 = nI t.1.1.1 := a2.1.1
  have h6 : G 112 6 = plc t.1.1 := a2.1.2.2.2
  have nb := (rs_bad a2.1 hb).2
  have u6 : up2 G 112 7 (nI t.1.1.1) 112 6 = plc t.1.1 := (up2_k (by decide)).trans h6
  have u5 : up2 (up2 G 112 7 (nI t.1.1.1)) 112 8 (plc t.1.1) 112 5 = nI t.1.1.1 := (up2_k (by decide)).trans ((up2_k (by decide)).trans h5)
  refine ⟨up2 (up2 G 112 7 (nI t.1.1.1)) 112 8 (plc t.1.1), Lk, fun r => ?_, (up2_k (by decide)).trans up2_eq, up2_eq, (up2_k (by decide)).trans ((up2_k (by decide)).trans a3), fxTr (fxTr a4 (fxUp (Or.inr (Or.inr ⟨rfl, by omega⟩)))) (fxUp (Or.inr (Or.inr ⟨rfl, by omega⟩))), a5⟩
  rw [a1, x194_64]
  simp only [x194_0, x194_1, x194_4, x194_5, x194_7, x194_8, x194_11, x194_12, x194_15, x194_16, x194_17, x194_18, x194_21, x194_24, x194_25, x194_26, x194_29, x194_30, x194_33, x194_34, x194_35, x194_36, x194_37, x194_39, x194_43, x194_46, x194_49, x194_50, x194_53, x194_54, x194_57, x194_58, x194_61, x194_65, x194_66, x194_69, x194_72, x194_73, x194_74, x194_77, x194_80, x194_81, x194_84, x194_87, x194_88, x194_89, x194_90, x194_93, x194_94, x194_97, sh_112, sh_113, sh_114, sh_115, sh_116, sh_117, sh_118, sh_119, sh_120, sh_121, sh_122, sh_123, sh_124, sh_125, sh_126, sh_127, sh_128, sh_129, sh_130, sh_131, sh_132, sh_133, sh_134, sh_135, sh_136, sh_137, sh_138, sh_139, sh_140, sh_141, sh_142, sh_143, sh_144, sh_145, sh_146, sh_147, sh_148, sh_149, sh_150, sh_151, sh_152, sh_153, sh_154, sh_155, sh_156, sh_157, sh_158, sh_159, sh_160, sh_161, sh_162, sh_163, sh_164, sh_165, sh_166, sh_167, sh_168, sh_169, sh_170, sh_171, sh_172, sh_173, sh_174, sh_175, sh_176, sh_177, sh_178, lq_112, lq_113, lq_114, lq_115, lq_116, lq_117, lq_118, lq_119, lq_120, lq_121, lq_122, lq_123, lq_124, lq_125, lq_126, lq_127, lq_128, lq_129, lq_130, lq_131, lq_132, lq_133, lq_134, lq_135, lq_136, lq_137, lq_138, lq_139, lq_140, lq_141, lq_142, lq_143, lq_144, lq_145, lq_146, lq_147, lq_148, lq_149, lq_150, lq_151, lq_152, lq_153, lq_154, lq_155, lq_156, lq_157, lq_158, lq_159, lq_160, lq_161, lq_162, lq_163, lq_164, lq_165, lq_166, lq_167, lq_168, lq_169, lq_170, lq_171, lq_172, lq_173, lq_174, lq_175, lq_176, lq_177, lq_178, rg_112_0, rg_112_9, rg_112_10, rg_112_11, rg_112_12, rg_112_13, rg_112_14, rg_112_15, rg_112_16, rg_112_17, rg_112_18, rg_112_19, rg_112_20, rg_112_21, rg_112_22, rg_112_23, rg_112_24, rg_112_25, rg_112_26, rg_112_27, rg_112_28, rg_112_29, rg_112_30, rg_112_31, rg_112_32, rg_112_33, rg_112_34, rg_112_35, rg_112_36, rg_112_37, rg_112_38, rg_112_39, rg_112_40, rg_112_41, rg_112_43, rg_112_44, rg_112_45, rg_112_46, rg_112_47, rg_112_48, rg_112_49, rg_112_51, rg_112_55, rg_112_57, rg_112_60, rg_112_61, rg_112_62, rg_112_63, rg_112_64, rg_112_66, rg_112_67, rg_112_68, rg_112_69, rg_112_70, rg_112_71, rg_112_72, rg_112_73, rg_112_74, rg_112_80, rg_112_83, rg_112_84, rg_112_85, rg_112_86, rg_112_90, rg_112_91, rg_112_92, ex5, Option.toList_some, Option.toList_none, List.cons_append, List.nil_append, true_and, and_true, nI_1, p_at, p_set, p_isIn, p_max, p_min, p_abs, h5, u6, u5, nb, if_false]
theorem r_townG (hTB : TB I T) (hKT : KT I) (hX : TX T F c) (h1 : I 112 1 = nI F) (hs : Lm 112 89 = sd.toInt64) (ht : (runZ T F c 101 t0Z) = (p, V, (NS, NH, N, M, P, C), (rs, sf, se, te), j)) (hg : p.1.1 = 0) : ∃ G Lk, (∀ r, Em L xs 194 [.ref 112] (179, I, Lm, RG nw sp s2 ai) r ↔ r = (some (.int (nI j)), 179, G, Lk, RG nw sp s2 ai)) ∧ G 112 7 = 0 ∧ G 112 8 = -1 ∧ G 112 1 = 0 ∧ FX I G ERw ∧ GM G Lk N NS NH M P (finV V sd) ∧ RuM G C rs sf se te (fun i => p.2.getD i 0) := by
  obtain ⟨G, Lk, a1, a2, a3, a4, a5⟩ := r_read (Lm := Lm) (L := L) (xs := xs) (nw := nw) (sp := sp) (s2 := s2) (ai := ai) hTB hKT hX h1
  have hPI := run_pi (T := T) (n := F) (c := c) 101 t0Z pi_0
  rw [ht] at a2 hPI
  obtain ⟨w1, w2, w3, w4, w5⟩ := hPI hg
  have hk : p.1.2.2 ≤ c := rs_k a2.1 hg
  have hcn := hX.2.1
  have hn := hX.1
  have w4 : p.2.length ≤ p.1.2.2 := w4
  obtain ⟨b1, b2, b3, b4⟩ := a2.2 hg
  have h5 : G 112 5 = 0 := (rs_good a2.1 hg).1
  have h6 : G 112 6 = -1 := a2.1.2.2.2.trans (plc_0 hg)
  have u6 : up2 G 112 7 0 112 6 = -1 := (up2_k (by decide)).trans h6
  have u5 : up2 (up2 G 112 7 0) 112 8 (-1) 112 5 = 0 := (up2_k (by decide)).trans ((up2_k (by decide)).trans h5)
  obtain ⟨H, hH⟩ : ∃ y, y = up2 (up2 G 112 7 0) 112 8 (-1) := ⟨_, rfl⟩
  rw [← hH] at u5
  have eH : ∀ a b, a ≠ 112 ∨ (b ≠ 7 ∧ b ≠ 8) → H a b = G a b := fun a b z => by
    rw [hH]
    by_cases y : a = 112
    · subst y
      obtain ⟨z1, z2⟩ := z.resolve_left (fun x => x rfl)
      rw [up2_k z2, up2_k z1]
    · rw [up2_p y, up2_p y]
  have c1 : RdM H Lk V NS NH N M P := b1.fx (fun p k z => eH p k (by omega))
  have c2 : CDV H p.2 := b2.fx (eH 112 56 (by decide)) (fun i => eH 155 i (Or.inl (by decide)))
  have c3 : RdV H C rs sf se te := b3.fx (fun p k x y => eH p k (by omega))
  have c4 : H 112 53 = nI j := (eH 112 53 (by decide)).trans b4
  obtain ⟨J, Lk2, d1, d2, d3, d4, d5, d6, d7, d8, d9, d10, d11⟩ := r_stands (I := H) (Lm := Lk) (L := L) (xs := xs) (nw := nw) (sp := sp) (s2 := s2) (ai := ai) (l := p.2.length) w1.1.2.2.1 (rdw_P w1) w2 (show p.2.length ≤ 1600 by omega) ((c1.1 2 (by decide)).1) c1.2.1.2 c1.2.1.1 c3.1 c2.1
  have n12 : ∀ b, b ≠ 52 → b < 75 → J 112 b = H 112 b := fun b z1 z2 => d11 112 b (fun y => by unfold Est at y; omega)
  have FH : FX I H ERw := by
    rw [hH]
    exact fxTr (fxTr (fxSub a4 (fun _ _ z => Or.inl z)) (fxUp (Or.inl (Or.inr (Or.inr ⟨rfl, by omega⟩))))) (fxUp (Or.inl (Or.inr (Or.inr ⟨rfl, by omega⟩))))
  refine ⟨J, Lk2, fun r => ?_, ?_, ?_, ?_, fxTr FH (fxSub d11 (fun _ _ z => Or.inr z)), gm_new w1 c1 d2 d3 d4 d5 d6 d7 d8.1 d10 ?_, ⟨d8.2.1, fun k hk => ⟨?_, ?_, ?_, ?_⟩, fun k i hk h1 h2 => ?_⟩⟩
  · have c5 : J 112 53 = nI j := (n12 53 (by decide) (by decide)).trans c4
    rw [a1, x194_64]
    simp only [x194_0, x194_1, x194_4, x194_5, x194_7, x194_8, x194_11, x194_12, x194_15, x194_16, x194_17, x194_18, x194_21, x194_24, x194_25, x194_26, x194_29, x194_30, x194_33, x194_34, x194_35, x194_36, x194_37, x194_39, x194_43, x194_46, x194_49, x194_50, x194_53, x194_54, x194_57, x194_58, x194_61, x194_65, x194_66, x194_69, x194_72, x194_73, x194_74, x194_77, x194_80, x194_81, x194_84, x194_87, x194_88, x194_89, x194_90, x194_93, x194_94, x194_97, sh_112, sh_113, sh_114, sh_115, sh_116, sh_117, sh_118, sh_119, sh_120, sh_121, sh_122, sh_123, sh_124, sh_125, sh_126, sh_127, sh_128, sh_129, sh_130, sh_131, sh_132, sh_133, sh_134, sh_135, sh_136, sh_137, sh_138, sh_139, sh_140, sh_141, sh_142, sh_143, sh_144, sh_145, sh_146, sh_147, sh_148, sh_149, sh_150, sh_151, sh_152, sh_153, sh_154, sh_155, sh_156, sh_157, sh_158, sh_159, sh_160, sh_161, sh_162, sh_163, sh_164, sh_165, sh_166, sh_167, sh_168, sh_169, sh_170, sh_171, sh_172, sh_173, sh_174, sh_175, sh_176, sh_177, sh_178, lq_112, lq_113, lq_114, lq_115, lq_116, lq_117, lq_118, lq_119, lq_120, lq_121, lq_122, lq_123, lq_124, lq_125, lq_126, lq_127, lq_128, lq_129, lq_130, lq_131, lq_132, lq_133, lq_134, lq_135, lq_136, lq_137, lq_138, lq_139, lq_140, lq_141, lq_142, lq_143, lq_144, lq_145, lq_146, lq_147, lq_148, lq_149, lq_150, lq_151, lq_152, lq_153, lq_154, lq_155, lq_156, lq_157, lq_158, lq_159, lq_160, lq_161, lq_162, lq_163, lq_164, lq_165, lq_166, lq_167, lq_168, lq_169, lq_170, lq_171, lq_172, lq_173, lq_174, lq_175, lq_176, lq_177, lq_178, rg_112_0, rg_112_9, rg_112_10, rg_112_11, rg_112_12, rg_112_13, rg_112_14, rg_112_15, rg_112_16, rg_112_17, rg_112_18, rg_112_19, rg_112_20, rg_112_21, rg_112_22, rg_112_23, rg_112_24, rg_112_25, rg_112_26, rg_112_27, rg_112_28, rg_112_29, rg_112_30, rg_112_31, rg_112_32, rg_112_33, rg_112_34, rg_112_35, rg_112_36, rg_112_37, rg_112_38, rg_112_39, rg_112_40, rg_112_41, rg_112_43, rg_112_44, rg_112_45, rg_112_46, rg_112_47, rg_112_48, rg_112_49, rg_112_51, rg_112_55, rg_112_57, rg_112_60, rg_112_61, rg_112_62, rg_112_63, rg_112_64, rg_112_66, rg_112_67, rg_112_68, rg_112_69, rg_112_70, rg_112_71, rg_112_72, rg_112_73, rg_112_74, rg_112_80, rg_112_83, rg_112_84, rg_112_85, rg_112_86, rg_112_90, rg_112_91, rg_112_92, ex5, Option.toList_some, Option.toList_none, List.cons_append, List.nil_append, true_and, and_true, nI_1, p_at, p_set, p_isIn, p_max, p_min, p_abs, h5, u6, ← hH, u5, if_true, d1, c5]
  · rw [n12 7 (by decide) (by decide), hH, up2_k (by decide), up2_eq]
  · rw [n12 8 (by decide) (by decide), hH, up2_eq]
  · rw [n12 1 (by decide) (by decide), eH 112 1 (by decide)]; exact a3
  · rw [a5 112 89 (by decide)]; exact hs
  · rw [d8.2.2 k 158 hk (by decide) (by decide)]; exact (c3.2 k hk).1
  · rw [d8.2.2 k 159 hk (by decide) (by decide)]; exact (c3.2 k hk).2.1
  · rw [d8.2.2 k 160 hk (by decide) (by decide)]; exact (c3.2 k hk).2.2.1
  · rw [d8.2.2 k 161 hk (by decide) (by decide)]; exact (c3.2 k hk).2.2.2
  · have h3 := (w5 k hk).2.2.1
    have hi : i < p.2.length := by have : te k ≤ p.2.length := h3; omega
    rw [d9 i hi]
    exact c2.2 i hi
/-- the town that stands, where the other is read -/
theorem gcTown (hT : Tw nw S U) (hA : (nw = 37 ∧ sp = 71) ∨ (nw = 71 ∧ sp = 37)) (h : GC I S (S + 9) N NS NH M P V) (e : ∀ p k, p < 112 → ¬ ECt sp p k → J p k = I p k) : GC J S (S + 9) N NS NH M P V := by
  have f : ∀ p, (3 ≤ p ∧ p ≤ 11) ∨ (S ≤ p ∧ p ≤ S + 33) → p < S + 27 → J p = I p := fun p h1 h2 => funext fun k => e p k (by
    have := tw_S hT; omega) (fun z => by
    unfold ECt ECb ECl at z
    unfold Tw at hT
    omega)
  obtain ⟨h1, h2, ⟨h3, h4⟩, ⟨h5, h6, h7⟩, ⟨h8, h9, h10⟩, h11, h12⟩ := h
  refine ⟨crFr h1 (fun i a b c _ => f _ (by omega) (by omega)) (fun i a => f _ (by omega) (by omega)), ?_, ⟨?_, fun k hk => ?_⟩, ⟨fun k hk => ?_, fun k hk => ?_, fun k hk => ?_⟩, ⟨?_, ?_, ?_⟩, fun k hk => ?_, ?_⟩
  · rw [f S (by omega) (by omega)]; exact h2
  · rw [f (S + 16) (by omega) (by omega)]; exact h3
  · rw [f (S + 17) (by omega) (by omega), f (S + 18) (by omega) (by omega)]; exact h4 k hk
  · rw [f (S + 9 + 1) (by omega) (by omega)]; exact h5 k hk
  · rw [f (S + 2) (by omega) (by omega)]; exact h6 k hk
  · rw [f (S + 19) (by omega) (by omega)]; exact h7 k hk
  · rw [f 3 (by omega) (by have := tw_S hT; omega)]; exact h8
  · rw [f 3 (by omega) (by have := tw_S hT; omega)]; exact h9
  · rw [f 3 (by omega) (by have := tw_S hT; omega)]; exact h10
  · rw [f 4 (by omega) (by have := tw_S hT; omega), f 5 (by omega) (by have := tw_S hT; omega), f 6 (by omega) (by have := tw_S hT; omega), f 7 (by omega) (by have := tw_S hT; omega)]; exact h11 k hk
  · rw [f 11 (by omega) (by have := tw_S hT; omega)]; exact h12
theorem gmTown (hN : NS ≤ 6 ∧ NH ≤ 4 ∧ N ≤ 12) (h : GM I Lm N NS NH M P V) (e : ∀ p k, 112 ≤ p → ¬ ERt p k → J p k = I p k) (eL : ∀ p k, p ≠ 147 ∨ 36 ≤ k → Lk p k = Lm p k) : GM J Lk N NS NH M P V := by
  have f : ∀ p k, (p = 148 ∧ 3 ≤ k) ∨ (p = 149 ∧ 30 ≤ k) ∨ (p = 150 ∧ 16 ≤ k) ∨ (162 ≤ p ∧ p ≤ 170) ∨ (p = 112 ∧ (k = 52 ∨ 75 ≤ k)) → J p k = I p k := fun p k h1 => e p k (by omega) (fun z => by
    unfold ERt ERf Epr EQ R0 EY at z
    omega)
  obtain ⟨⟨⟨q1, q2⟩, q3, q4, q5, q6⟩, ⟨h2, h2b, h2c⟩, h3, ⟨h4, h5⟩, ⟨n1, n2, n3⟩, ⟨h7, h8, h9⟩, h10⟩ := h
  refine ⟨⟨⟨?_, ?_⟩, q3, fun k hk => ?_, fun k hk w hw => ?_, fun k hk w hw => ?_⟩, ⟨?_, ?_, ?_⟩, ?_, ⟨?_, fun k hk => ?_⟩, ⟨fun k hk => ?_, fun k hk => ?_, fun k hk => ?_⟩, ⟨?_, ?_, ?_⟩, fun k hk => ?_⟩
  · rw [f 112 78 (by omega)]; exact q1
  · rw [f 112 79 (by omega)]; exact q2
  · rw [f 162 _ (by omega), f 163 _ (by omega), f 164 _ (by omega), f 165 _ (by omega)]; exact q4 k hk
  · rw [f 149 _ (by omega)]; exact q5 k hk w hw
  · rw [f 150 _ (by omega)]; exact q6 k hk w hw
  · rw [f 148 3 (by omega)]; exact h2
  · rw [f 148 4 (by omega)]; exact h2b
  · rw [f 148 5 (by omega)]; exact h2c
  · rw [f 112 52 (by omega)]; exact h3
  · rw [f 112 75 (by omega)]; exact h4
  · rw [f 170 _ (by omega)]; exact h5 k hk
  · rw [eL 147 _ (Or.inr (by omega))]; exact n1 k hk
  · rw [eL 147 _ (Or.inr (by omega))]; exact n2 k hk
  · rw [eL 147 _ (Or.inr (by omega))]; exact n3 k hk
  · rw [f 112 76 (by omega)]; exact h7
  · rw [f 112 77 (by omega)]; exact h8
  · rw [eL 112 89 (Or.inl (by decide))]; exact h9
  · rw [f 166 _ (by omega), f 167 _ (by omega), f 168 _ (by omega), f 169 _ (by omega)]; exact h10 k hk
theorem tt_town (h : Inv I Lm nw sp s2 ai) : StT L xs I Lm nw sp s2 ai 116 [.ref 0] 194 [.ref 112] := by
  obtain ⟨S, U, N, NS, NH, M, P, V, Q, F, K, hT, hG, hM, hW, hQ, hF, hA⟩ := id h
  obtain ⟨⟨a1, a2, a3⟩, a4, ⟨a5, a6, a7, a8⟩, ⟨a9, b1⟩, b2⟩ := id hF
  obtain ⟨T, hTB⟩ := tbOf a4
  have hsp : sp = 37 ∨ sp = 71 := by have := hA.1; omega
  obtain ⟨hN, hNS, hNH, hM6, hP6⟩ := hW.2.2.1
  obtain ⟨c, hX, cB, cG⟩ := c_town (Lm := Lm) (L := L) (xs := xs) (nw := nw) (sp := sp) (s2 := s2) (ai := ai) (s := sp + 1) (u := sp + 27) hsp rfl rfl hTB b2 a3 a1
  have nSU : ∀ p, (U ≤ p ∧ p ≤ U + 6) → ∀ k, ¬ ECt sp p k := fun p h1 k z => by
    have hA1 := hA.1
    unfold ECt ECb ECl at z
    unfold Tw at hT
    omega
  by_cases hg : (runZ T F c 101 t0Z).1.1.1 = 0
  · obtain ⟨J, p1, p2, p3, p4, p5, p6, p7, p8⟩ := cG hg
    obtain ⟨t, ht⟩ : ∃ t, (runZ T F c 101 t0Z) = t := ⟨_, rfl⟩
    rw [ht] at p1 p2 hg
    obtain ⟨p, V2, ⟨NS2, NH2, N2, M2, P2, C⟩, ⟨rs, sf, se, te⟩, j⟩ := t
    have hPI := run_pi (T := T) (n := F) (c := c) 101 t0Z pi_0
    rw [ht] at hPI
    obtain ⟨w1, w2, w3, w4, w5⟩ := hPI hg
    have eJ : ∀ a, 112 ≤ a → J a = I a := fun a ha => funext fun k => p8 a k (fun z => by unfold ECw ECt ECb ECl at z; omega)
    have tb1 : TB J T := fun i hi => by
      rw [eJ 113 (by decide), p8.row (p := 1) (fun k z => by unfold ECw ECt ECb ECl at z; omega)]
      exact hTB i hi
    have kt1 : KT J := ktFr b2 (p8.row (fun k z => by unfold ECw ECt ECb ECl at z; omega)) (fun p h1 h2 => eJ p (by omega))
    obtain ⟨-, -, -, -, ⟨-, -, v9⟩, -, v11⟩ := id hG
    obtain ⟨-, -, -, -, -, ⟨-, -, m9⟩, -⟩ := id hM
    obtain ⟨G, Lk, q1, q2, q3, q4, q5, q6, q7⟩ := r_townG (I := J) (Lm := Lm) (L := L) (xs := xs) (nw := sp) (sp := nw) (s2 := s2) (ai := sp) (sd := V 22 2) tb1 kt1 hX (by rw [eJ 112 (by decide)]; exact a2) m9 ht hg
    obtain ⟨⟨z1, -, z3, z4⟩, -, -, z5⟩ := p2
    obtain ⟨y1, ⟨-, -, y2⟩, y3, y4⟩ := z5 hg
    obtain ⟨-, x2, x3⟩ := y2 hg
    have hT2 : Tw sp (sp + 1) (sp + 27) := by unfold Tw; omega
    have hwd : wd (sp + 1) = 12 := (rd_sc hsp rfl).2.2.2.2
    have eG : ∀ a, a < 112 → G a = J a := fun a ha => q5.row (fun k z => by have := eRwB _ _ z; omega)
    have eN : ∀ a, 112 < a → a < 147 → G a = J a := fun a h1 h2 => q5.row (fun k z => by have := eRwB _ _ z; omega)
    have lc : p.2.length ≤ 1600 := by
      have e1 : p.2.length ≤ p.1.2.2 := w4
      have e2 : p.1.2.2 ≤ c := (z3 hg).2
      have e3 := hX.2.1
      have e4 := hX.1
      omega
    have gcJ : GC J (sp + 1) (sp + 1 + 9) N2 NS2 NH2 M2 P2 (finV V2 (V 22 2)) := gc_new hwd w1 y1 p4 ⟨p5, p6, p7.trans v9⟩ (by rw [p8 11 4 (fun z => by unfold ECw ECt ECb ECl at z; omega)]; exact v11)
    have e8 : ∀ k, k ≠ 7 → G 0 k = I 0 k := fun k hk => (congrFun (eG 0 (by decide)) k).trans (p8 0 k (fun z => by unfold ECw ECt ECb ECl at z; omega))
    refine ⟨nI j, J, G, Lm, Lk, sp, nw, s2, sp, p1, q1, sp + 1, sp + 27, N2, NS2, NH2, M2, P2, finV V2 (V 22 2), (rs, sf, se, te, fun i => p.2.getD i 0, C), 0, K, hT2, gcSame hT2 rfl gcJ eG, q6, gw_new w1 hW.2.2.2.2.1.2.2, ⟨⟨w2, fun k hk => ?_⟩, ruC_fr (I := J) ⟨y3.1, y3.2, fun k i hk h1 h2 => ?_⟩ (fun i hi => eG _ (by omega)), q7⟩, ⟨⟨(congrFun (eG 0 (by decide)) 7).trans p3, q4, Nat.zero_le _⟩, fun i hi => ?_, ⟨(e8 8 (by decide)).trans a5, ?_, a7, fun i hi => ?_⟩, ⟨?_, ?_⟩, ktFr kt1 (eG 107 (by decide)) (fun p h1 h2 => eN p (by omega) (by omega))⟩, ⟨by have := hA.1; omega, hsp⟩⟩
    · obtain ⟨u1, u2, u3, u4, u5⟩ := w5 k hk
      have u3 : te k ≤ p.2.length := u3
      exact ⟨u1, u2, by show te k ≤ 1600; omega, u4, u5⟩
    · have u3 : te k ≤ p.2.length := (w5 k hk).2.2.1
      have h2 : i < te k := h2
      exact x3 i (by show i < p.2.length; omega)
    · rw [eG 1 (by decide), eN 113 (by decide) (by decide), p8.row (p := 1) (fun k z => by unfold ECw ECt ECb ECl at z; omega), eJ 113 (by decide)]
      exact a4 i hi
    · rw [q5 112 93 (fun z => by unfold ERw ERt ERf Epr Est EQ R0 EY at z; omega), eJ 112 (by decide)]; exact a6
    · rw [eG 2 (by decide), p8.row (p := 2) (fun k z => by unfold ECw ECt ECb ECl at z; omega), q5.row (p := 178) (fun k z => by unfold ERw ERt ERf Epr Est EQ R0 EY at z; omega), eJ 178 (by decide)]
      exact a8 i hi
    · rw [eG 105 (by decide), q2, z1]
      show nI p.1.1 = 0
      rw [hg]; rfl
    · rw [eG 105 (by decide), q3, z4]
      exact plc_0 hg
  · obtain ⟨J, p1, p2, p3, p4⟩ := cB hg
    have eJ : ∀ a, 112 ≤ a → J a = I a := fun a ha => funext fun k => p4 a k (fun z => by unfold ECt ECb ECl at z; omega)
    have tb1 : TB J T := fun i hi => by
      rw [eJ 113 (by decide), p4.row (p := 1) (fun k z => by unfold ECt ECb ECl at z; omega)]
      exact hTB i hi
    have kt1 : KT J := ktFr b2 (p4.row (fun k z => by unfold ECt ECb ECl at z; omega)) (fun p h1 h2 => eJ p (by omega))
    obtain ⟨G, Lk, q1, q2, q3, q4, q5, q6⟩ := r_townB (I := J) (Lm := Lm) (L := L) (xs := xs) (nw := nw) (sp := sp) (s2 := s2) (ai := sp) tb1 kt1 hX (by rw [eJ 112 (by decide)]; exact a2) hg
    obtain ⟨⟨z1, -, -, z4⟩, -⟩ := p2
    have eG : ∀ a, a < 112 → G a = J a := fun a ha => q5.row (fun k z => by have := eRtB _ _ z; omega)
    have eN : ∀ a, 112 < a → a < 147 → G a = J a := fun a h1 h2 => q5.row (fun k z => by have := eRtB _ _ z; omega)
    have eL : ∀ a k, a < 112 → ¬ ECt sp a k → G a k = I a k := fun a k ha hn => (congrFun (eG a ha) k).trans (p4 a k hn)
    have eH : ∀ a k, 112 ≤ a → ¬ ERt a k → G a k = I a k := fun a k ha hn => (q5 a k hn).trans (congrFun (eJ a ha) k)
    obtain ⟨k1, k2, k3⟩ := hQ
    refine ⟨-1, J, G, Lm, Lk, nw, sp, s2, sp, p1, q1, S, U, N, NS, NH, M, P, V, Q, 0, K, hT, gcTown hT hA.1 hG eL, gmTown ⟨hNS, hNH, hN⟩ hM eH q6, hW, ⟨k1, ruC_fr k2 (fun i hi => funext fun k => eL _ k (by have := tw_S hT; unfold Tw at hT; omega) (nSU _ (by omega) k)), ?_⟩, ⟨⟨(congrFun (eG 0 (by decide)) 7).trans p3, q4, Nat.zero_le _⟩, fun i hi => ?_, ⟨(eL 0 8 (by decide) (fun z => by unfold ECt ECb ECl at z; omega)).trans a5, ?_, a7, fun i hi => ?_⟩, ⟨?_, ?_⟩, ktFr kt1 (eG 107 (by decide)) (fun p h1 h2 => eN p (by omega) (by omega))⟩, ⟨hA.1, hsp⟩⟩
    · have f : ∀ a k, (a = 157 ∧ k = 0) ∨ (158 ≤ a ∧ a ≤ 161 ∧ k < 12) ∨ (a = 155 ∧ k < 1600) → G a k = I a k := fun a k z => eH a k (by omega) (fun y => by unfold ERt ERf Epr EQ R0 EY at y; omega)
      obtain ⟨r1, r2, r3⟩ := k3
      have kc : Q.2.2.2.2.2 ≤ 12 := k1.1
      refine ⟨by rw [f 157 0 (by omega)]; exact r1, fun k hk => ?_, fun k i hk h1 h2 => ?_⟩
      · have hk2 : k < 12 := by omega
        rw [f 158 k (by omega), f 159 k (by omega), f 160 k (by omega), f 161 k (by omega)]
        exact r2 k hk
      · have h3 := (k1.2 k hk).2.2.1
        rw [f 155 i (by omega)]
        exact r3 k i hk h1 h2
    · rw [eG 1 (by decide), eN 113 (by decide) (by decide), p4.row (p := 1) (fun k z => by unfold ECt ECb ECl at z; omega), eJ 113 (by decide)]
      exact a4 i hi
    · rw [eH 112 93 (by decide) (fun z => by unfold ERt ERf Epr EQ R0 EY at z; omega)]; exact a6
    · rw [eL 2 i (by decide) (fun z => by unfold ECt ECb ECl at z; omega), eH 178 i (by decide) (fun z => by unfold ERt ERf Epr EQ R0 EY at z; omega)]
      exact a8 i hi
    · rw [eG 105 (by decide), q2, z1]
    · rw [eG 105 (by decide), q3, z4]
end
