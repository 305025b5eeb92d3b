/-! the class begins to read, and stands anew -/
def ECb (b p k : Nat) : Prop := ECl b p k ∨ (p = 106 ∧ k = 5) ∨ (108 ≤ p ∧ p ≤ 111)
def t0Z : Rt := (((0, 0, 0), []), fun _ _ => 0, (0, 0, 0, 40, 0, 0), (fun _ => 0, fun _ => 0, fun _ => 0, fun _ => 0), 0)
section
variable {L : Nat} {xs : Nat → Int32} {σ : Mm} {r : Option Value × Mm} {I J K : Nat → Nat → Int32} {Lm : Nat → Nat → Int64} {Rm : Nat → Nat → Nat} {n s so N NS NH M P nw S U : Nat} {V W : Vw} {sp s2 ai : Nat} {x y z h v : Int32} {k c w lo hi kd pl g m C j u b F : Nat} {T : Nat → Nat} {q q2 : Rz} {p p2 : Pz} {E E2 : Nat → Nat → Prop} {cs : List Nat} {rs : Nat → Int32} {sf se te : Nat → Nat} {G : Nat → Nat → Int32} {Lk : Nat → Nat → Int64} {t : Rt}

theorem c_aim (hb : b = 37 ∨ b = 71) (r : Option Value × Mm) : Em L xs 16 [.ref 105, .ref b] (179, I, Lm, RG nw sp s2 ai) r ↔ r = (none, 179, I, Lm, RG nw sp s2 b) := by
  have h8 : shp b = (0, 8) := by rcases hb with rfl | rfl <;> rfl
  have l8 : (b < 179) = True := by rcases hb with rfl | rfl <;> exact eq_true (by decide)
  have h5 : shp (b + 1) = (0, 5) := by rcases hb with rfl | rfl <;> rfl
  have l5 : (b + 1 < 179) = True := by rcases hb with rfl | rfl <;> exact eq_true (by decide)
  have t0 : rfv ((RG nw sp s2 ai) b 0) = .ref (b + 1) := by rcases hb with rfl | rfl <;> rfl
  have f1 : rfv ((up2 (RG nw sp s2 ai) 105 1 (b + 1 + 1)) 105 1) = .ref (b + 1) := by rw [up2_eq]; rfl
  have f2 : rfv ((up2 (RG nw sp s2 ai) 105 1 (b + 1 + 1)) (b + 1) 5) = .ref (b + 10) := by rw [up2_p (by omega)]; rcases hb with rfl | rfl <;> rfl
  have f3 : rfv ((up2 (up2 (RG nw sp s2 ai) 105 1 (b + 1 + 1)) 105 2 (b + 10 + 1)) 105 1) = .ref (b + 1) := by rw [up2_k (by decide)]; exact f1
  have f4 : rfv ((up2 (up2 (RG nw sp s2 ai) 105 1 (b + 1 + 1)) 105 2 (b + 10 + 1)) (b + 1) 0) = .ref (b + 2) := by rw [up2_p (by omega), up2_p (by omega)]; rcases hb with rfl | rfl <;> rfl
  have f5 : rfv ((up2 (up2 (up2 (RG nw sp s2 ai) 105 1 (b + 1 + 1)) 105 2 (b + 10 + 1)) 105 3 (b + 2 + 1)) 105 1) = .ref (b + 1) := by rw [up2_k (by decide)]; exact f3
  have f6 : rfv ((up2 (up2 (up2 (RG nw sp s2 ai) 105 1 (b + 1 + 1)) 105 2 (b + 10 + 1)) 105 3 (b + 2 + 1)) (b + 1) 1) = .ref (b + 17) := by rw [up2_p (by omega), up2_p (by omega), up2_p (by omega)]; rcases hb with rfl | rfl <;> rfl
  have f7 : rfv ((up2 (up2 (up2 (up2 (RG nw sp s2 ai) 105 1 (b + 1 + 1)) 105 2 (b + 10 + 1)) 105 3 (b + 2 + 1)) 105 4 (b + 17 + 1)) b 1) = .ref (b + 27) := by rw [up2_p (by omega), up2_p (by omega), up2_p (by omega), up2_p (by omega)]; rcases hb with rfl | rfl <;> rfl
  have e5 : (up2 (up2 (up2 (up2 (up2 (RG nw sp s2 ai) 105 1 (b + 1 + 1)) 105 2 (b + 10 + 1)) 105 3 (b + 2 + 1)) 105 4 (b + 17 + 1)) 105 5 (b + 27 + 1)) = RG nw sp s2 b := funext fun p => funext fun k => by
    by_cases hp : p = 105
    · subst hp
      by_cases k5 : k = 5
      · subst k5; rw [up2_eq]; rfl
      by_cases k4 : k = 4
      · subst k4; rw [up2_k (by decide), up2_eq]; rfl
      by_cases k3 : k = 3
      · subst k3; rw [up2_k (by decide), up2_k (by decide), up2_eq]; rfl
      by_cases k2 : k = 2
      · subst k2; rw [up2_k (by decide), up2_k (by decide), up2_k (by decide), up2_eq]; rfl
      by_cases k1 : k = 1
      · subst k1; rw [up2_k (by decide), up2_k (by decide), up2_k (by decide), up2_k (by decide), up2_eq]; rfl
      rw [up2_k k5, up2_k k4, up2_k k3, up2_k k2, up2_k k1]
      unfold RG
      rw [if_neg (by omega), if_neg (by omega), if_neg (by omega), if_neg (by omega), if_neg (by omega), if_neg (by omega), if_neg (by omega), if_neg (by omega), if_neg (by omega), if_neg (by omega), if_neg (by omega), if_neg (by omega), if_neg (by omega), if_neg (by omega), if_neg (by omega), if_neg (by omega)]
    · rw [up2_p hp, up2_p hp, up2_p hp, up2_p hp, up2_p hp]
      unfold RG
      have n : ∀ j, ¬ (p = 105 ∧ k = j) := fun j z => hp z.1
      rw [if_neg (n 1), if_neg (n 2), if_neg (n 3), if_neg (n 4), if_neg (n 5), if_neg (n 1), if_neg (n 2), if_neg (n 3), if_neg (n 4), if_neg (n 5)]
  rw [em_16]
  simp only [x16_0, x16_1, x16_2, x16_5, x16_8, x16_9, x16_10, x16_13, x16_16, x16_19, x16_20, x16_21, x16_24, x16_27, x16_30, x16_31, x16_32, x16_35, x16_38, x16_41, x16_42, x16_43, x16_46, x16_49, sh_105, lq_105, h8, l8, h5, l5, t0, f1, f2, f3, f4, f5, f6, f7, e5, ex5, Option.toList_some, Option.toList_none, List.cons_append, List.nil_append, true_and, and_true, nI_1, p_at, p_set, p_isIn, p_max, p_min, p_abs]
theorem c_sclear (hs : Sc s) (hq : rfv (RG nw sp s2 ai s 5) = .ref (s + 9)) (ho : So (s + 9)) : ∃ J, (∀ r, Em L xs 59 [.ref s] (179, I, Lm, RG nw sp s2 ai) r ↔ r = (none, 179, J, Lm, RG nw sp s2 ai)) ∧ J (s + 9) 6 = 0 ∧ J (s + 1) 5 = 0 ∧ J (s + 16) 8 = 0 ∧ J (s + 16) 9 = 0 ∧ J s 6 = 40 ∧ FX I J (fun p _ => s ≤ p ∧ p ≤ s + 16) := by
  refine ⟨up2 (up2 (up2 (up2 (up2 I (s + 9) 6 0) (s + 1) 5 0) (s + 16) 8 0) (s + 16) 9 0) s 6 40, fun r => ?_, ?_, ?_, ?_, ?_, up2_eq, fxTr (fxTr (fxTr (fxTr (fxUp ⟨by omega, by omega⟩) (fxUp ⟨by omega, by omega⟩)) (fxUp ⟨by omega, by omega⟩)) (fxUp ⟨by omega, by omega⟩)) (fxUp ⟨by omega, by omega⟩)⟩
  · rw [em_59]
    simp only [x59_0, x59_1, x59_4, x59_5, x59_8, x59_9, x59_12, x59_13, x59_16, x59_17, x59_20, x59_21, x59_24, x59_25, x59_28, x59_29, x59_32, x59_33, x59_35, x59_38, sh_s, lq_s, sh_s1, lq_s1, sh_s2, lq_s2, sh_s3, lq_s3, sh_s4, lq_s4, sh_s5, lq_s5, sh_s6, lq_s6, sh_s7, lq_s7, sh_s8, lq_s8, sh_s9, lq_s9, sh_s10, lq_s10, sh_s11, lq_s11, sh_s12, lq_s12, sh_s13, lq_s13, sh_s14, lq_s14, sh_s15, lq_s15, sh_s16, lq_s16, sh_s17, lq_s17, sh_s18, lq_s18, sh_s19, lq_s19, sh_s20, lq_s20, sh_s21, lq_s21, sh_s22, lq_s22, sh_s23, lq_s23, sh_s24, lq_s24, sh_s25, lq_s25, rg_s0_0, rg_s0_1, rg_s0_2, rg_s0_3, rg_s1_0, rg_s1_1, rg_s1_2, rg_s1_3, rg_s1_4, rg_s7_0, rg_s9_0, rg_s9_1, rg_s9_2, rg_s9_3, rg_s9_4, rg_s9_5, rg_s16_6, rg_s16_7, rg_s16_0, rg_s16_1, rg_s16_2, rg_s16_3, rg_s16_4, rg_s16_5, sh_o, lq_o, sh_o1, lq_o1, sh_o2, lq_o2, sh_o3, lq_o3, sh_o4, lq_o4, sh_o5, lq_o5, sh_o6, lq_o6, rg_o0, rg_o1, rg_o2, rg_o3, rg_o4, rg_o5, ex5, Option.toList_some, Option.toList_none, List.cons_append, List.nil_append, true_and, and_true, nI_1, p_at, p_set, p_isIn, p_max, p_min, p_abs, hs, ho, hq]
  · rw [up2_p (by omega), up2_p (by omega), up2_p (by omega), up2_p (by omega), up2_eq]
  · rw [up2_p (by omega), up2_p (by omega), up2_p (by omega), up2_eq]
  · rw [up2_p (by omega), up2_k (by decide), up2_eq]
  · rw [up2_p (by omega), up2_eq]
theorem c_rclear (hu : u = 64 ∨ u = 98) (r : Option Value × Mm) : Em L xs 51 [.ref u] (179, I, Lm, RG nw sp s2 ai) r ↔ r = (none, 179, up2 (up2 I u 6 0) u 7 0, Lm, RG nw sp s2 ai) := by
  obtain ⟨y1, y2, -⟩ := ru_sh hu
  rw [em_51]
  simp only [x51_0, x51_1, x51_2, x51_5, x51_6, x51_7, x51_10, y1, y2, ex5, Option.toList_some, Option.toList_none, List.cons_append, List.nil_append, true_and, and_true, nI_1, p_at, p_set, p_isIn, p_max, p_min, p_abs]
/-- the weeks begin anew -/
theorem c_anew : ∃ J, (∀ r, Em L xs 99 [.ref 3] (179, I, Lm, RG nw sp s2 ai) r ↔ r = (none, 179, J, Lm, RG nw sp s2 ai)) ∧ (∀ k, k < 12 → J 4 k = 0 ∧ J 5 k = 0 ∧ J 6 k = -1 ∧ J 7 k = -1) ∧ J 3 7 = 0 ∧ J 3 8 = 0 ∧ J 3 9 = I 3 9 ∧ (∀ p, p ≠ 3 → p ≠ 4 → p ≠ 5 → p ≠ 6 → p ≠ 7 → J p = I p) := by
  obtain ⟨J1, a1, a2, a3⟩ := c_fill (I := I) (v := 0) (Lm := Lm) (L := L) (xs := xs) (nw := nw) (sp := sp) (s2 := s2) (ai := ai) lz_4 ly_4
  obtain ⟨J2, b1, b2, b3⟩ := c_fill (I := J1) (v := 0) (Lm := Lm) (L := L) (xs := xs) (nw := nw) (sp := sp) (s2 := s2) (ai := ai) lz_5 ly_5
  obtain ⟨J3, c1, c2, c3⟩ := c_fill (I := J2) (v := -1) (Lm := Lm) (L := L) (xs := xs) (nw := nw) (sp := sp) (s2 := s2) (ai := ai) lz_7 ly_7
  obtain ⟨J4, d1, d2, d3⟩ := c_forget (I := J3) (Lm := Lm) (L := L) (xs := xs) (nw := nw) (sp := sp) (s2 := s2) (ai := ai)
  have d1 : ∀ r, Em L xs 100 [.ref 3] (179, J3, Lm, RG nw sp s2 ai) r ↔ r = (none, 179, J4, Lm, RG nw sp s2 ai) := d1
  refine ⟨up2 (up2 J4 3 7 0) 3 8 0, fun r => ?_, fun k hk => ⟨?_, ?_, ?_, ?_⟩, ?_, up2_eq, ?_, fun p h3 h4 h5 h6 h7 => funext fun k => ?_⟩
  · rw [em_99]
    simp only [x99_0, x99_1, x99_4, x99_5, x99_8, x99_9, x99_12, x99_13, x99_16, x99_17, x99_20, x99_21, x99_24, x99_25, x99_28, x99_29, x99_30, x99_33, x99_34, x99_35, x99_38, rg_3_0, rg_3_1, rg_3_2, rg_3_3, rg_3_4, rg_3_5, rg_3_6, sh_3, lq_3, sh_4, lq_4, sh_5, lq_5, sh_7, lq_7, ex5, Option.toList_some, Option.toList_none, List.cons_append, List.nil_append, true_and, and_true, nI_1, p_at, p_set, p_isIn, p_max, p_min, p_abs, a1, b1, c1, d1]
  · rw [up2_p (by decide), up2_p (by decide), d3 4 (by decide), c3 4 (by decide), b3 4 (by decide)]; exact a2 k hk
  · rw [up2_p (by decide), up2_p (by decide), d3 5 (by decide), c3 5 (by decide)]; exact b2 k hk
  · rw [up2_p (by decide), up2_p (by decide)]; exact d2 k hk
  · rw [up2_p (by decide), up2_p (by decide), d3 7 (by decide)]; exact c2 k hk
  · rw [up2_k (by decide), up2_eq]
  · rw [up2_k (by decide), up2_k (by decide), d3 3 (by decide), c3 3 (by decide), b3 3 (by decide), a3 3 (by decide)]
  · rw [up2_p h3, up2_p h3, d3 p h6, c3 p h7, b3 p h5, a3 p h4]
theorem c_begin (hb : b = 37 ∨ b = 71) (hs1 : s = b + 1) (hua : u = b + 27) (hTB : TB I T) (hKT : KT I) (hn : F ≤ 1600) : ∃ c J, TX T F c ∧ (∀ r, Em L xs 17 [.ref 105, .ref 1, .int (nI F), .ref b] (179, I, Lm, RG nw sp s2 ai) r ↔ r = (none, 179, J, Lm, RG nw sp s2 b)) ∧ CIt J T F c s u t0Z ∧ FX I J (ECb b) := by
  obtain ⟨hs, ho, s36, s73, hwd⟩ := rd_sc hb hs1
  obtain ⟨g1, g2, g3, g4, g5'⟩ := rd_rg (nw := nw) (sp := sp) (s2 := s2) hs1
  have g5 : rfv (RG nw sp s2 b 105 5) = .ref u := g5'.trans (congrArg Value.ref (show s + 26 = u by omega))
  have hu : u = 64 ∨ u = 98 := by omega
  have hq : rfv (RG nw sp s2 b s 5) = .ref (s + 9) := by subst hs1; rcases hb with rfl | rfl <;> rfl
  obtain ⟨J1, a1, a2, a3, a4, a5, a6, a7⟩ := c_sclear (I := I) (L := L) (xs := xs) (Lm := Lm) (nw := nw) (sp := sp) (s2 := s2) (ai := b) hs hq ho
  obtain ⟨y1, y2, -⟩ := ru_sh hu
  have b1 := fun r => c_rclear (I := J1) (L := L) (xs := xs) (Lm := Lm) (nw := nw) (sp := sp) (s2 := s2) (ai := b) hu r
  have e2 : ∀ p, p ≠ u → (p < s ∨ s + 16 < p) → up2 (up2 J1 u 6 0) u 7 0 p = I p := fun p h1 h2 => funext fun k => by rw [up2_p h1, up2_p h1]; exact a7 p k (fun z => by omega)
  have tb2 : TB (up2 (up2 J1 u 6 0) u 7 0) T := fun i hi => by rw [e2 1 (by omega) (by omega), e2 113 (by omega) (by omega)]; exact hTB i hi
  have kt2 : KT (up2 (up2 J1 u 6 0) u 7 0) := ktFr hKT (e2 107 (by omega) (by omega)) (fun p h1 h2 => e2 p (by omega) (by omega))
  obtain ⟨c, J, c1, c2, c3, d1, d2, d3, d4, d5, d6⟩ := c_cut (I := up2 (up2 J1 u 6 0) u 7 0) (L := L) (xs := xs) (Lm := Lm) (nw := nw) (sp := sp) (s2 := s2) (ai := b) tb2 kt2 hn
  have hX : TX T F c := ⟨hn, c1, c2, c3, fun i hi => (hTB i hi).2.2⟩
  have e : ∀ a, a < 105 → up2 (up2 (up2 (up2 J 105 6 0) 105 7 0) 105 8 0) 105 9 (-1) a = up2 (up2 J1 u 6 0) u 7 0 a := fun a ha => funext fun k => by rw [up2_p (by omega), up2_p (by omega), up2_p (by omega), up2_p (by omega), d5 a (by omega) (by omega) (by omega) (by omega) (by omega)]
  have e1 : ∀ a k, 105 < a → up2 (up2 (up2 (up2 J 105 6 0) 105 7 0) 105 8 0) 105 9 (-1) a k = J a k := fun a k ha => by rw [up2_p (by omega), up2_p (by omega), up2_p (by omega), up2_p (by omega)]
  have es : ∀ a k, s ≤ a → a ≤ s + 25 → up2 (up2 (up2 (up2 J 105 6 0) 105 7 0) 105 8 0) 105 9 (-1) a k = J1 a k := fun a k h1 h2 => by rw [e a (by omega), up2_p (by omega), up2_p (by omega)]
  have CS0 : CS (up2 (up2 (up2 (up2 J 105 6 0) 105 7 0) 105 8 0) 105 9 (-1)) T F c (0, 0, 0) := ⟨by rw [up2_k (by decide), up2_eq]; rfl, Nat.zero_le _, fun _ => ⟨by rw [up2_k (by decide), up2_k (by decide), up2_k (by decide), up2_eq]; rfl, Nat.zero_le _⟩, up2_eq⟩
  have u7 : up2 (up2 (up2 (up2 J 105 6 0) 105 7 0) 105 8 0) 105 9 (-1) u 7 = 0 := by rw [e u (by omega), up2_eq]
  refine ⟨c, up2 (up2 (up2 (up2 J 105 6 0) 105 7 0) 105 8 0) 105 9 (-1), hX, fun r => ?_, ⟨CS0, ⟨fun i hi => ?_, ?_, ?_⟩, ⟨0, u7, Nat.zero_le _⟩, fun _ => ⟨⟨⟨?_, ?_, ?_, ?_, ?_⟩, fun k hk => absurd hk (Nat.not_lt_zero k), fun k hk => absurd hk (Nat.not_lt_zero k), fun k hk => absurd hk (Nat.not_lt_zero k), fun k hk => absurd hk (Nat.not_lt_zero k)⟩, ⟨CS0, ⟨0, u7, Nat.zero_le _⟩, fun _ => ⟨u7, Nat.zero_le _, fun i hi => absurd hi (Nat.not_lt_zero i)⟩⟩, ⟨?_, fun k hk => absurd hk (Nat.not_lt_zero k)⟩, ?_⟩⟩, fun p k hn => ?_⟩
  · rw [em_17]
    simp only [x17_0, x17_1, x17_2, x17_5, x17_6, x17_9, x17_12, x17_13, x17_16, x17_19, x17_20, x17_23, x17_24, x17_25, x17_28, x17_29, x17_30, x17_33, x17_34, x17_35, x17_38, x17_39, x17_40, x17_43, x17_44, x17_45, x17_48, sh_105, lq_105, sh_106, lq_106, rg_105_0, sh_s, lq_s, sh_s1, lq_s1, sh_s2, lq_s2, sh_s3, lq_s3, sh_s4, lq_s4, sh_s5, lq_s5, sh_s6, lq_s6, sh_s7, lq_s7, sh_s8, lq_s8, sh_s9, lq_s9, sh_s10, lq_s10, sh_s11, lq_s11, sh_s12, lq_s12, sh_s13, lq_s13, sh_s14, lq_s14, sh_s15, lq_s15, sh_s16, lq_s16, sh_s17, lq_s17, sh_s18, lq_s18, sh_s19, lq_s19, sh_s20, lq_s20, sh_s21, lq_s21, sh_s22, lq_s22, sh_s23, lq_s23, sh_s24, lq_s24, sh_s25, lq_s25, rg_s0_0, rg_s0_1, rg_s0_2, rg_s0_3, rg_s1_0, rg_s1_1, rg_s1_2, rg_s1_3, rg_s1_4, rg_s7_0, rg_s9_0, rg_s9_1, rg_s9_2, rg_s9_3, rg_s9_4, rg_s9_5, rg_s16_6, rg_s16_7, rg_s16_0, rg_s16_1, rg_s16_2, rg_s16_3, rg_s16_4, rg_s16_5, sh_o, lq_o, sh_o1, lq_o1, sh_o2, lq_o2, sh_o3, lq_o3, sh_o4, lq_o4, sh_o5, lq_o5, sh_o6, lq_o6, rg_o0, rg_o1, rg_o2, rg_o3, rg_o4, rg_o5, ex5, Option.toList_some, Option.toList_none, List.cons_append, List.nil_append, true_and, and_true, nI_1, p_at, p_set, p_isIn, p_max, p_min, p_abs, hs, ho, c_aim hb, g1, g5, a1, b1, y1, y2, d1]
  · rw [e1 108 _ (by decide), e1 109 _ (by decide), e1 110 _ (by decide), e1 111 _ (by decide)]; exact d2 i hi
  · rw [e1 108 _ (by decide)]; exact d3
  · rw [e1 109 _ (by decide)]; exact d4
  · rw [es (s + 16) 8 (by omega) (by omega)]; exact a4
  · rw [es (s + 9) 6 (by omega) (by omega)]; exact a2
  · rw [es (s + 1) 5 (by omega) (by omega)]; exact a3
  · rw [es s 6 (by omega) (by omega)]; exact a6
  · rw [es (s + 16) 9 (by omega) (by omega)]; exact a5
  · rw [e u (by omega), up2_k (by decide), up2_eq]; rfl
  · rw [up2_k (by decide), up2_k (by decide), up2_eq]; rfl
  · unfold ECb ECl at hn
    by_cases h105 : p = 105
    · subst h105
      rw [up2_k (by omega), up2_k (by omega), up2_k (by omega), up2_k (by omega), d5 105 (by omega) (by omega) (by omega) (by omega) (by omega), e2 105 (by omega) (by omega)]
    · rw [up2_p h105, up2_p h105, up2_p h105, up2_p h105]
      by_cases h106 : p = 106
      · subst h106
        rw [d6 k (by omega), e2 106 (by omega) (by omega)]
      · rw [d5 p h106 (by omega) (by omega) (by omega) (by omega), e2 p (by omega) (by omega)]
end
