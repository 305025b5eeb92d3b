/-! rules: what a row of codes says: the class's walk -/
theorem tyTwo_ok {x y z : Bool} {ts ts' : List Bool} (h : tyTwo x y z ts = some ts') : ∃ u, ts = x :: y :: u ∧ ts' = z :: u := by
  match ts with
  | [] => cases h
  | [_] => cases h
  | a :: b :: u =>
    by_cases c : a = x ∧ b = y
    · rw [show tyTwo x y z (a :: b :: u) = some (z :: u) from if_pos c] at h
      exact ⟨u, by rw [c.1, c.2], (Option.some.inj h).symm⟩
    · rw [show tyTwo x y z (a :: b :: u) = none from if_neg c] at h
      cases h
theorem okT_two {x y : Bool} {u : List Bool} {s : List Int} (h : okT (x :: y :: u) s) : ∃ b a s0, s = b :: a :: s0 ∧ (b20 b ∧ (x = true → b = 0 ∨ b = 1)) ∧ (b20 a ∧ (y = true → a = 0 ∨ a = 1)) ∧ okT u s0 := by
  match s, h with
  | [], h => exact h.elim
  | [_], h => exact h.2.elim
  | b :: a :: s0, h => exact ⟨b, a, s0, rfl, h.1, h.2.1, h.2.2⟩
/-- the five shapes of a step -/
def stepS (ask : Nat → Int) (m : Nat) (s s' : List Int) : Prop :=
  (1000 ≤ m ∧ m ≤ 10999 ∧ s.length < 64 ∧ s' = ((m - 1000 : Nat) : Int) :: s) ∨ (m = 17 ∧ s.length < 64 ∧ s' = 1 :: s) ∨ (isAsk m ∧ s.length < 64 ∧ s' = ask m :: s) ∨ (m = 16 ∧ ∃ x s0, s = x :: s0 ∧ (x = 0 ∨ x = 1) ∧ s' = (1 - x) :: s0) ∨ ∃ b a s0, s = b :: a :: s0 ∧ okJ m a b ∧ b20 a ∧ b20 b ∧ s' = jnI m a b :: s0
theorem vaS_jn {ask : Nat → Int} {m : Nat} {b a : Int} {s0 : List Int} (h : okJ m a b) : vaS ask m (b :: a :: s0) = jnI m a b :: s0 := by
  have h1 : ¬ 1000 ≤ m ∧ ¬ m = 17 ∧ ¬ isAsk m ∧ ¬ m = 16 := by unfold okJ at h; unfold isAsk; omega
  unfold vaS
  rw [if_neg h1.1, if_neg h1.2.1, if_neg h1.2.2.1, if_neg h1.2.2.2]
  rfl
theorem jn_test {m : Nat} {a b : Int} (h : m = 11 ∨ m = 12 ∨ m = 13) : jnI m a b = 0 ∨ jnI m a b = 1 := by
  rcases h with rfl | rfl | rfl
  · show (if a < b then (1 : Int) else 0) = 0 ∨ (if a < b then (1 : Int) else 0) = 1
    by_cases c : a < b
    · rw [if_pos c]; exact Or.inr rfl
    · rw [if_neg c]; exact Or.inl rfl
  · show (if b < a then (1 : Int) else 0) = 0 ∨ (if b < a then (1 : Int) else 0) = 1
    by_cases c : b < a
    · rw [if_pos c]; exact Or.inr rfl
    · rw [if_neg c]; exact Or.inl rfl
  · show (if a = b then (1 : Int) else 0) = 0 ∨ (if a = b then (1 : Int) else 0) = 1
    by_cases c : a = b
    · rw [if_pos c]; exact Or.inr rfl
    · rw [if_neg c]; exact Or.inl rfl
theorem jn_test2 {m : Nat} {a b : Int} (h : m = 14 ∨ m = 15) (ha : a = 0 ∨ a = 1) (hb : b = 0 ∨ b = 1) : jnI m a b = 0 ∨ jnI m a b = 1 := by
  rcases h with rfl | rfl <;> rcases ha with rfl | rfl <;> rcases hb with rfl | rfl <;> first | exact Or.inl rfl | exact Or.inr rfl
theorem ty_step {ask : Nat → Int} {m : Nat} {ts ts' : List Bool} {s : List Int} (h : tyS m ts = some ts') (ok : okT ts s) (hb : isAsk m → b20 (ask m)) (hl : ts.length ≤ 64) : okT ts' (vaS ask m s) ∧ ts'.length ≤ 64 ∧ stepS ask m s (vaS ask m s) := by
  have el := okT_len ok
  unfold tyS at h
  by_cases c1 : 1000 ≤ m ∧ m ≤ 10999 ∧ ts.length < 64
  · rw [if_pos c1] at h
    cases h
    have e : vaS ask m s = ((m - 1000 : Nat) : Int) :: s := if_pos c1.1
    refine ⟨?_, by simp only [List.length_cons]; omega, ?_⟩
    · rw [e]; exact ⟨⟨by unfold b20; omega, fun k => by cases k⟩, ok⟩
    · exact Or.inl ⟨c1.1, c1.2.1, by omega, e⟩
  rw [if_neg c1] at h
  by_cases c2 : m = 17 ∧ ts.length < 64
  · rw [if_pos c2] at h
    cases h
    have e : vaS ask m s = 1 :: s := by unfold vaS; rw [if_neg (by omega), if_pos c2.1]
    refine ⟨?_, by simp only [List.length_cons]; omega, ?_⟩
    · rw [e]; exact ⟨⟨b20_1, fun _ => Or.inr rfl⟩, ok⟩
    · exact Or.inr (Or.inl ⟨c2.1, by omega, e⟩)
  rw [if_neg c2] at h
  by_cases c3 : isAsk m ∧ ts.length < 64
  · rw [if_pos c3] at h
    cases h
    have e : vaS ask m s = ask m :: s := by
      have := c3.1
      unfold vaS
      rw [if_neg (by unfold isAsk at this; omega), if_neg (by unfold isAsk at this; omega), if_pos c3.1]
    refine ⟨?_, by simp only [List.length_cons]; omega, ?_⟩
    · rw [e]; exact ⟨⟨hb c3.1, fun k => by cases k⟩, ok⟩
    · exact Or.inr (Or.inr (Or.inl ⟨c3.1, by omega, e⟩))
  rw [if_neg c3] at h
  by_cases c4 : m = 16 ∧ ts.head? = some true
  · rw [if_pos c4] at h
    cases h
    obtain ⟨c5, c6⟩ := c4
    match ts, s, ok, c6 with
    | t :: u, x :: s0, ok, c6 =>
      have ht : t = true := Option.some.inj c6
      subst ht
      have hx := ok.1.2 rfl
      have e : vaS ask m (x :: s0) = (1 - x) :: s0 := by
        rw [c5]
        rfl
      refine ⟨?_, hl, ?_⟩
      · rw [e]
        exact ⟨⟨by unfold b20; omega, fun _ => by omega⟩, ok.2⟩
      · exact Or.inr (Or.inr (Or.inr (Or.inl ⟨c5, x, s0, rfl, hx, e⟩)))
  rw [if_neg c4] at h
  by_cases c5 : 1 ≤ m ∧ m ≤ 6
  · rw [if_pos c5] at h
    obtain ⟨u, rfl, rfl⟩ := tyTwo_ok h
    obtain ⟨b, a, s0, rfl, ⟨b1, b2⟩, ⟨a1, a2⟩, k⟩ := okT_two ok
    have hj : okJ m a b := Or.inl (by omega)
    rw [vaS_jn hj]
    refine ⟨⟨⟨b20_jn a1 b1 hj, fun k => by cases k⟩, k⟩, ?_, Or.inr (Or.inr (Or.inr (Or.inr ⟨b, a, s0, rfl, hj, a1, b1, rfl⟩)))⟩
    simp only [List.length_cons] at hl ⊢; omega
  rw [if_neg c5] at h
  by_cases c6 : 11 ≤ m ∧ m ≤ 13
  · rw [if_pos c6] at h
    obtain ⟨u, rfl, rfl⟩ := tyTwo_ok h
    obtain ⟨b, a, s0, rfl, ⟨b1, b2⟩, ⟨a1, a2⟩, k⟩ := okT_two ok
    have hj : okJ m a b := Or.inl (by omega)
    rw [vaS_jn hj]
    refine ⟨⟨⟨b20_jn a1 b1 hj, fun _ => jn_test (by omega)⟩, k⟩, ?_, Or.inr (Or.inr (Or.inr (Or.inr ⟨b, a, s0, rfl, hj, a1, b1, rfl⟩)))⟩
    simp only [List.length_cons] at hl ⊢; omega
  rw [if_neg c6] at h
  by_cases c7 : m = 14 ∨ m = 15
  · rw [if_pos c7] at h
    obtain ⟨u, rfl, rfl⟩ := tyTwo_ok h
    obtain ⟨b, a, s0, rfl, ⟨b1, b2⟩, ⟨a1, a2⟩, k⟩ := okT_two ok
    have hj : okJ m a b := Or.inr ⟨c7, a2 rfl, b2 rfl⟩
    rw [vaS_jn hj]
    refine ⟨⟨⟨b20_jn a1 b1 hj, fun _ => jn_test2 c7 (a2 rfl) (b2 rfl)⟩, k⟩, ?_, Or.inr (Or.inr (Or.inr (Or.inr ⟨b, a, s0, rfl, hj, a1, b1, rfl⟩)))⟩
    simp only [List.length_cons] at hl ⊢; omega
  rw [if_neg c7] at h
  cases h
/-- places of the rules -/
theorem ru_sh {U : Nat} (h : U = 64 ∨ U = 98) : (U < 179) = True ∧ shp U = (0, 4) ∧ (∀ k, k < 4 → (U + (k + 1) < 179) = True ∧ shp (U + (k + 1)) = (1, 12)) ∧ (U + 5 < 179) = True ∧ shp (U + 5) = (1, 1600) ∧ (U + 6 < 179) = True ∧ shp (U + 6) = (1, 64) := by
  rcases h with rfl | rfl
  · exact ⟨eq_true (by decide), rfl, fun k hk => ⟨eq_true (by omega), by rcases (show k = 0 ∨ k = 1 ∨ k = 2 ∨ k = 3 by omega) with rfl | rfl | rfl | rfl <;> rfl⟩, eq_true (by decide), rfl, eq_true (by decide), rfl⟩
  · exact ⟨eq_true (by decide), rfl, fun k hk => ⟨eq_true (by omega), by rcases (show k = 0 ∨ k = 1 ∨ k = 2 ∨ k = 3 by omega) with rfl | rfl | rfl | rfl <;> rfl⟩, eq_true (by decide), rfl, eq_true (by decide), rfl⟩
theorem ru_rg {nw sp s2 ai U : Nat} (h : U = 64 ∨ U = 98) : rfv (RG nw sp s2 ai U 0) = .ref (U + 1) ∧ rfv (RG nw sp s2 ai U 1) = .ref (U + 2) ∧ rfv (RG nw sp s2 ai U 2) = .ref (U + 3) ∧ rfv (RG nw sp s2 ai U 3) = .ref (U + 4) ∧ rfv (RG nw sp s2 ai U 4) = .ref (U + 5) ∧ rfv (RG nw sp s2 ai U 5) = .ref (U + 6) := by
  rcases h with rfl | rfl <;> exact ⟨rfl, rfl, rfl, rfl, rfl, rfl⟩
theorem cdN_ask {m : Nat} (h : isAsk m) : 10000 ≤ cdN m ∧ cdN m < 10008 := by
  rcases (show m = 7 ∨ m = 8 ∨ m = 9 ∨ m = 10 ∨ m = 18 ∨ m = 30 ∨ m = 31 ∨ m = 32 by unfold isAsk at h; omega) with rfl | rfl | rfl | rfl | rfl | rfl | rfl | rfl <;> decide
theorem cdN_jn {m : Nat} {a b : Int} (h : okJ m a b) : 10011 ≤ cdN m ∧ cdN m < 10020 := by
  rcases (show m = 1 ∨ m = 2 ∨ m = 3 ∨ m = 4 ∨ m = 5 ∨ m = 6 ∨ m = 11 ∨ m = 12 ∨ m = 13 ∨ m = 14 ∨ m = 15 by unfold okJ at h; omega) with rfl | rfl | rfl | rfl | rfl | rfl | rfl | rfl | rfl | rfl | rfl <;> decide
section
variable {L : Nat} {xs : Nat → Int32} {r : Option Value × Mm} {I : Nat → Nat → Int32} {Lm : Nat → Nat → Int64} {Rm : Nat → Nat → Nat} {n nw sp s2 ai k m U f t : Nat} {a b : Int} {u : Int64} {ask : Nat → Int} {cd : Nat → Nat} {ft : Bool}
theorem c_vlp (hU : U = 64 ∨ U = 98) (hf : ∀ m, isAsk m → I 10 (cdN m - 10000) = iZ (ask m)) (hb : ∀ m, isAsk m → b20 (ask m)) (ht : t ≤ 1600) :
    ∀ k j, j + k = t → ∀ ts s J w, (∀ i, j ≤ i → i < t → I (U + 5) i = cOf (cd i)) → (∀ p, p ≠ U + 6 → J p = I p) → tyRun cd j k ts = some [ft] → okT ts s → ts.length ≤ 64 → stI (J (U + 6)) s →
    ∃ J', (∀ r, Ev L xs 3 55 10 [some (.ref U), some (.int (nI f)), some (.int (nI t)), some (.ref 10), some (.int (nI s.length)), some (.int (nI j)), w] [] (179, J, Lm, RG nw sp s2 ai) r ↔ r = (some (.int (iZ ((vaRun ask cd j k s).headD 0))), 179, J', Lm, RG nw sp s2 ai)) ∧ (∀ p, p ≠ U + 6 → J' p = I p) ∧ okT [ft] (vaRun ask cd j k s) := by
  obtain ⟨u0, u1, u2, u3, u4, u5, u6⟩ := ru_sh hU
  obtain ⟨-, -, -, -, g4, g5⟩ := ru_rg (nw := nw) (sp := sp) (s2 := s2) (ai := ai) hU
  have y5 : (shp (U + 5)).1 = 1 := by rw [u4]
  have y6 : (shp (U + 6)).1 = 1 := by rw [u6]
  have l6 : U + 6 < 179 := of_eq_true u5
  have a6 := fun {J : Nat → Nat → Int32} x r => p_at (n := 179) (a := U + 6) (L := L) (xs := xs) (Lm := Lm) (Rm := RG nw sp s2 ai) (I := J) (k := x) (r := r) l6 y6
  have t6 := fun {J : Nat → Nat → Int32} x v r => p_set (n := 179) (a := U + 6) (L := L) (xs := xs) (Lm := Lm) (Rm := RG nw sp s2 ai) (I := J) (k := x) (v := v) (r := r) l6 y6
  have n6 : ∀ {J : Nat → Nat → Int32} q, q < 64 → atv J (U + 6) (nI q) = J (U + 6) q := fun q hq => atv_lt (by rw [u6]; exact hq)
  have m6 : ∀ {J : Nat → Nat → Int32} {v : Int32} q, q < 64 → setv J (U + 6) (nI q) v = up2 J (U + 6) q v := fun q hq => setv_lt (by rw [u6]; exact hq)
  intro k
  induction k with
  | zero =>
    intro j hj ts s J w hcd hJ hty ok hl hst
    have e : ts = [ft] := Option.some.inj hty
    subst e
    refine ⟨J, fun r => ?_, hJ, ok⟩
    match s, ok, hst with
    | [v], ok, hst =>
      have e0 : atv J (U + 6) 0 = iZ v := (n6 0 (by omega)).trans hst.1
      have ej : (nI t ≤ nI j) = True := eq_true (by rw [show j = t by omega]; exact Int32.le_refl _)
      rw [x55_10]
      simp only [x55_0, x55_1, x55_3, x55_4, x55_5, x55_8, x55_12, x55_13, x55_16, x55_18, x55_19, x55_22, x55_23, x55_26, x55_27, x55_30, x55_32, x55_33, x55_35, x55_37, x55_40, x55_43, x55_44, x55_47, x55_49, x55_51, x55_54, x55_57, x55_59, x55_62, x55_63, x55_65, x55_68, x55_69, x55_72, x55_75, x55_78, x55_81, x55_83, x55_86, x55_89, x55_90, x55_93, x55_95, x55_96, x55_97, x55_98, x55_99, x55_102, x55_104, x55_105, x55_106, x55_109, x55_110, x55_113, x55_116, x55_119, x55_120, x55_123, x55_125, x55_126, x55_127, x55_129, x55_130, x55_133, x55_135, x55_136, x55_137, x55_140, x55_141, x55_144, x55_146, x55_149, x55_152, x55_155, x55_158, x55_161, x55_162, x55_165, x55_166, x55_169, ex5, Option.toList_some, Option.toList_none, List.cons_append, List.nil_append, true_and, and_true, nI_1, p_at, p_set, p_isIn, p_max, p_min, p_abs, u0, u1, u5, y6, g5, ej, if_true, a6, e0]
      exact Iff.rfl
  | succ k ih =>
    intro j hj ts s J w hcd hJ hty ok hl hst
    have hst0 : (tyS (cd j) ts).bind (tyRun cd (j + 1) k) = some [ft] := hty
    obtain ⟨ts', h1, h2⟩ := Option.bind_eq_some_iff.mp hst0
    obtain ⟨q1, q2, q3⟩ := ty_step (ask := ask) h1 ok (fun z => hb _ z) hl
    have el := okT_len ok
    have ej : (nI t ≤ nI j) = False := eq_false (nI_ge (by omega) (by omega))
    have eL : (Int32.ofNat 1600 ≤ nI j) = False := eq_false (nI_ge (show j < 1600 by omega) (by decide))
    have n10 : ((1 : Nat) = 0) = False := eq_false Nat.one_ne_zero
    have i1 : inb (nI j) 1600 = True := inb_i (by omega) (by decide)
    have i2 : ixn (nI j) = j := ixn_nI (by omega)
    have ec : J (U + 5) j = cOf (cd j) := by rw [hJ _ (by omega)]; exact hcd j (Nat.le_refl j) (by omega)
    have hcd' : ∀ i, j + 1 ≤ i → i < t → I (U + 5) i = cOf (cd i) := fun i c d => hcd i (by omega) d
    have ej1 : nI j + 1 = nI (j + 1) := nI_1 j
    have hu2 : ∀ {q : Nat} {v : Int32} p, p ≠ U + 6 → up2 J (U + 6) q v p = I p := fun p hp => ((funext fun k => up2_p hp : up2 J (U + 6) _ _ p = J p).trans (hJ p hp))
    rcases q3 with ⟨c1, c2, c3, c4⟩ | ⟨c1, c3, c4⟩ | ⟨c1, c3, c4⟩ | ⟨c1, x, s0, c3, c5, c4⟩ | ⟨b, a, s0, c3, c5, c6, c7, c4⟩
    · have k1 : cOf (cd j) = nI (cd j - 1000) := congrArg nI (cdN_big c1)
      have k2 : ((10008 : Int32) ≤ nI (cd j - 1000)) = False := eq_false (nI_ge (show cd j - 1000 < 10008 by omega) (by decide))
      have k3 : ((10000 : Int32) ≤ nI (cd j - 1000)) = False := eq_false (nI_ge (show cd j - 1000 < 10000 by omega) (by decide))
      obtain ⟨J', r1, r2, r3⟩ := ih (j + 1) (by omega) ts' (vaS ask (cd j) s) (up2 J (U + 6) s.length (nI (cd j - 1000))) (some (.int (nI (cd j - 1000)))) hcd' hu2 h2 q1 q2 (by rw [c4]; exact ⟨by rw [up2_eq]; exact iZ_nI.symm, stI_of (fun q hq => up2_k (by omega)) hst⟩)
      refine ⟨J', fun r => ?_, r2, r3⟩
      have el1 : (vaS ask (cd j) s).length = s.length + 1 := by rw [c4]; rfl
      rw [el1] at r1
      rw [x55_10]
      simp only [x55_0, x55_1, x55_3, x55_4, x55_5, x55_8, x55_12, x55_13, x55_16, x55_18, x55_19, x55_22, x55_23, x55_26, x55_27, x55_30, x55_32, x55_33, x55_35, x55_37, x55_40, x55_43, x55_44, x55_47, x55_49, x55_51, x55_54, x55_57, x55_59, x55_62, x55_63, x55_65, x55_68, x55_69, x55_72, x55_75, x55_78, x55_81, x55_83, x55_86, x55_89, x55_90, x55_93, x55_95, x55_96, x55_97, x55_98, x55_99, x55_102, x55_104, x55_105, x55_106, x55_109, x55_110, x55_113, x55_116, x55_119, x55_120, x55_123, x55_125, x55_126, x55_127, x55_129, x55_130, x55_133, x55_135, x55_136, x55_137, x55_140, x55_141, x55_144, x55_146, x55_149, x55_152, x55_155, x55_158, x55_161, x55_162, x55_165, x55_166, x55_169, ex5, Option.toList_some, Option.toList_none, List.cons_append, List.nil_append, true_and, and_true, nI_1, p_at, p_set, p_isIn, p_max, p_min, p_abs, u0, u1, u3, u4, u5, y5, y6, g4, g5, ej, eL, i1, i2, ec, k1, k2, k3, if_false, ne_eq, one_ne, n10, not_false_eq_true, t6, m6 _ c3]
      exact r1 r
    · have k1 : cOf (cd j) = 1 := by rw [c1]; rfl
      have k2 : ((10008 : Int32) ≤ 1) = False := eq_false (by decide)
      have k3 : ((10000 : Int32) ≤ 1) = False := eq_false (by decide)
      obtain ⟨J', r1, r2, r3⟩ := ih (j + 1) (by omega) ts' (vaS ask (cd j) s) (up2 J (U + 6) s.length 1) (some (.int 1)) hcd' hu2 h2 q1 q2 (by rw [c4]; exact ⟨by rw [up2_eq]; rfl, stI_of (fun q hq => up2_k (by omega)) hst⟩)
      refine ⟨J', fun r => ?_, r2, r3⟩
      have el1 : (vaS ask (cd j) s).length = s.length + 1 := by rw [c4]; rfl
      rw [el1] at r1
      rw [x55_10]
      simp only [x55_0, x55_1, x55_3, x55_4, x55_5, x55_8, x55_12, x55_13, x55_16, x55_18, x55_19, x55_22, x55_23, x55_26, x55_27, x55_30, x55_32, x55_33, x55_35, x55_37, x55_40, x55_43, x55_44, x55_47, x55_49, x55_51, x55_54, x55_57, x55_59, x55_62, x55_63, x55_65, x55_68, x55_69, x55_72, x55_75, x55_78, x55_81, x55_83, x55_86, x55_89, x55_90, x55_93, x55_95, x55_96, x55_97, x55_98, x55_99, x55_102, x55_104, x55_105, x55_106, x55_109, x55_110, x55_113, x55_116, x55_119, x55_120, x55_123, x55_125, x55_126, x55_127, x55_129, x55_130, x55_133, x55_135, x55_136, x55_137, x55_140, x55_141, x55_144, x55_146, x55_149, x55_152, x55_155, x55_158, x55_161, x55_162, x55_165, x55_166, x55_169, ex5, Option.toList_some, Option.toList_none, List.cons_append, List.nil_append, true_and, and_true, nI_1, p_at, p_set, p_isIn, p_max, p_min, p_abs, u0, u1, u3, u4, u5, y5, y6, g4, g5, ej, eL, i1, i2, ec, k1, k2, k3, if_false, ne_eq, one_ne, n10, not_false_eq_true, t6, m6 _ c3]
      exact r1 r
    · obtain ⟨z1, z2⟩ := cdN_ask c1
      have k2 : ((10008 : Int32) ≤ cOf (cd j)) = False := eq_false (nI_ge (show cdN (cd j) < 10008 by omega) (by decide))
      have k3 : ((10000 : Int32) ≤ cOf (cd j)) = True := eq_true (nI_le (show 10000 ≤ cdN (cd j) by omega) (by omega))
      have k4 : cOf (cd j) - 10000 = nI (cdN (cd j) - 10000) := pk_sub (b := 10000) (by omega)
      have k5 : atv J 10 (nI (cdN (cd j) - 10000)) = iZ (ask (cd j)) := by rw [atv_lt (show cdN (cd j) - 10000 < 8 by omega), hJ 10 (by omega)]; exact hf _ c1
      obtain ⟨J', r1, r2, r3⟩ := ih (j + 1) (by omega) ts' (vaS ask (cd j) s) (up2 J (U + 6) s.length (iZ (ask (cd j)))) (some (.int (cOf (cd j)))) hcd' hu2 h2 q1 q2 (by rw [c4]; exact ⟨up2_eq, stI_of (fun q hq => up2_k (by omega)) hst⟩)
      refine ⟨J', fun r => ?_, r2, r3⟩
      have el1 : (vaS ask (cd j) s).length = s.length + 1 := by rw [c4]; rfl
      rw [el1] at r1
      rw [x55_10]
      simp only [x55_0, x55_1, x55_3, x55_4, x55_5, x55_8, x55_12, x55_13, x55_16, x55_18, x55_19, x55_22, x55_23, x55_26, x55_27, x55_30, x55_32, x55_33, x55_35, x55_37, x55_40, x55_43, x55_44, x55_47, x55_49, x55_51, x55_54, x55_57, x55_59, x55_62, x55_63, x55_65, x55_68, x55_69, x55_72, x55_75, x55_78, x55_81, x55_83, x55_86, x55_89, x55_90, x55_93, x55_95, x55_96, x55_97, x55_98, x55_99, x55_102, x55_104, x55_105, x55_106, x55_109, x55_110, x55_113, x55_116, x55_119, x55_120, x55_123, x55_125, x55_126, x55_127, x55_129, x55_130, x55_133, x55_135, x55_136, x55_137, x55_140, x55_141, x55_144, x55_146, x55_149, x55_152, x55_155, x55_158, x55_161, x55_162, x55_165, x55_166, x55_169, ex5, Option.toList_some, Option.toList_none, List.cons_append, List.nil_append, true_and, and_true, nI_1, p_at, p_set, p_isIn, p_max, p_min, p_abs, u0, u1, u3, u4, u5, y5, y6, g4, g5, ej, eL, i1, i2, ec, k2, k3, k4, k5, if_false, if_true, ne_eq, one_ne, n10, not_false_eq_true, p_at (n := 179) lz_10 ly_10, t6, m6 _ c3]
      exact r1 r
    · have k1 : cOf (cd j) = 10010 := by rw [c1]; rfl
      have k2 : ((10008 : Int32) ≤ 10010) = True := eq_true (by decide)
      subst c3
      have hsl : s0.length + 1 ≤ 64 := by simp only [List.length_cons] at el; omega
      have k4 : nI (x :: s0).length - 1 = nI s0.length := pk_sub (b := 1) (by simp only [List.length_cons]; omega)
      have k5 : J (U + 6) s0.length = iZ x := hst.1
      have k6 : 1 - iZ x = iZ (1 - x) := by rw [iZ_1, iZ_sub]
      obtain ⟨J', r1, r2, r3⟩ := ih (j + 1) (by omega) ts' (vaS ask (cd j) (x :: s0)) (up2 J (U + 6) s0.length (iZ (1 - x))) (some (.int 10010)) hcd' hu2 h2 q1 q2 (by rw [c4]; exact ⟨up2_eq, stI_of (fun q hq => up2_k (by omega)) hst.2⟩)
      refine ⟨J', fun r => ?_, r2, r3⟩
      have el1 : (vaS ask (cd j) (x :: s0)).length = (x :: s0).length := by rw [c4]; rfl
      rw [el1] at r1
      rw [x55_10]
      simp only [x55_0, x55_1, x55_3, x55_4, x55_5, x55_8, x55_12, x55_13, x55_16, x55_18, x55_19, x55_22, x55_23, x55_26, x55_27, x55_30, x55_32, x55_33, x55_35, x55_37, x55_40, x55_43, x55_44, x55_47, x55_49, x55_51, x55_54, x55_57, x55_59, x55_62, x55_63, x55_65, x55_68, x55_69, x55_72, x55_75, x55_78, x55_81, x55_83, x55_86, x55_89, x55_90, x55_93, x55_95, x55_96, x55_97, x55_98, x55_99, x55_102, x55_104, x55_105, x55_106, x55_109, x55_110, x55_113, x55_116, x55_119, x55_120, x55_123, x55_125, x55_126, x55_127, x55_129, x55_130, x55_133, x55_135, x55_136, x55_137, x55_140, x55_141, x55_144, x55_146, x55_149, x55_152, x55_155, x55_158, x55_161, x55_162, x55_165, x55_166, x55_169, ex5, Option.toList_some, Option.toList_none, List.cons_append, List.nil_append, true_and, and_true, nI_1, p_at, p_set, p_isIn, p_max, p_min, p_abs, u0, u1, u3, u4, u5, y5, y6, g4, g5, ej, eL, i1, i2, ec, k1, k2, if_false, if_true, ne_eq, one_ne, n10, not_false_eq_true, a6, t6, k4, n6 _ (show s0.length < 64 by omega), m6 _ (show s0.length < 64 by omega), k5, k6]
      exact r1 r
    · obtain ⟨z1, z2⟩ := cdN_jn c5
      have k2 : ((10008 : Int32) ≤ cOf (cd j)) = True := eq_true (nI_le (show 10008 ≤ cdN (cd j) by omega) (by omega))
      have k3 : (cOf (cd j) = 10010) = False := eq_false (fun z => by have z9 := congrArg Int32.toInt (show nI (cdN (cd j)) = nI 10010 from z); rw [nI_toInt (by omega), nI_toInt (by decide)] at z9; omega)
      subst c3
      have hsl : s0.length + 2 ≤ 64 := by simp only [List.length_cons] at el; omega
      have k4 : nI (b :: a :: s0).length + -1 = nI (s0.length + 1) := pk_m1 (s0.length + 1)
      have k4b : nI (s0.length + 1) - 1 = nI s0.length := pk_sub (b := 1) (by omega)
      have k5 : J (U + 6) (s0.length + 1) = iZ b := hst.1
      have k6 : J (U + 6) s0.length = iZ a := hst.2.1
      obtain ⟨J', r1, r2, r3⟩ := ih (j + 1) (by omega) ts' (vaS ask (cd j) (b :: a :: s0)) (up2 J (U + 6) s0.length (iZ (jnI (cd j) a b))) (some (.int (cOf (cd j)))) hcd' hu2 h2 q1 q2 (by rw [c4]; exact ⟨up2_eq, stI_of (fun q hq => up2_k (by omega)) hst.2.2⟩)
      refine ⟨J', fun r => ?_, r2, r3⟩
      have el1 : (vaS ask (cd j) (b :: a :: s0)).length = s0.length + 1 := by rw [c4]; rfl
      rw [el1] at r1
      have hjn := fun r => c_joined (L := L) (xs := xs) (n := 179) (I := J) (Lm := Lm) (Rm := RG nw sp s2 ai) (r := r) c6 c7 c5
      rw [x55_10]
      simp only [x55_0, x55_1, x55_3, x55_4, x55_5, x55_8, x55_12, x55_13, x55_16, x55_18, x55_19, x55_22, x55_23, x55_26, x55_27, x55_30, x55_32, x55_33, x55_35, x55_37, x55_40, x55_43, x55_44, x55_47, x55_49, x55_51, x55_54, x55_57, x55_59, x55_62, x55_63, x55_65, x55_68, x55_69, x55_72, x55_75, x55_78, x55_81, x55_83, x55_86, x55_89, x55_90, x55_93, x55_95, x55_96, x55_97, x55_98, x55_99, x55_102, x55_104, x55_105, x55_106, x55_109, x55_110, x55_113, x55_116, x55_119, x55_120, x55_123, x55_125, x55_126, x55_127, x55_129, x55_130, x55_133, x55_135, x55_136, x55_137, x55_140, x55_141, x55_144, x55_146, x55_149, x55_152, x55_155, x55_158, x55_161, x55_162, x55_165, x55_166, x55_169, ex5, Option.toList_some, Option.toList_none, List.cons_append, List.nil_append, true_and, and_true, nI_1, p_at, p_set, p_isIn, p_max, p_min, p_abs, u0, u1, u3, u4, u5, y5, y6, g4, g5, ej, eL, i1, i2, ec, k2, k3, if_false, if_true, ne_eq, one_ne, n10, not_false_eq_true, a6, t6, k4, k4b, n6 _ (show s0.length < 64 by omega), n6 _ (show s0.length + 1 < 64 by omega), m6 _ (show s0.length < 64 by omega), k5, k6, hjn]
      exact r1 r
/-- the class's value of a row of codes -/
theorem c_valueOf (hU : U = 64 ∨ U = 98) (hf : ∀ m, isAsk m → I 10 (cdN m - 10000) = iZ (ask m)) (hb : ∀ m, isAsk m → b20 (ask m)) (ht : t ≤ 1600) (hk : f + k = t) (hcd : ∀ i, f ≤ i → i < t → I (U + 5) i = cOf (cd i)) (hty : tyRun cd f k [] = some [ft]) :
    ∃ J', (∀ r, Em L xs 55 [.ref U, .int (nI f), .int (nI t), .ref 10] (179, I, Lm, RG nw sp s2 ai) r ↔ r = (some (.int (iZ ((vaRun ask cd f k []).headD 0))), 179, J', Lm, RG nw sp s2 ai)) ∧ (∀ p, p ≠ U + 6 → J' p = I p) ∧ okT [ft] (vaRun ask cd f k []) := by
  obtain ⟨J', r1, r2, r3⟩ := c_vlp (L := L) (xs := xs) (Lm := Lm) (nw := nw) (sp := sp) (s2 := s2) (ai := ai) (f := f) (ft := ft) hU hf hb ht k f hk [] [] I none hcd (fun _ _ => rfl) hty trivial (by decide) trivial
  refine ⟨J', fun r => ?_, r2, r3⟩
  have e0 : (if (0 : Int32) < nI f then nI f else 0) = nI f := by
    by_cases c : f = 0
    · subst c; rfl
    · exact if_pos (nI_lt (show 0 < f by omega) (by omega))
  rw [em_55]
  simp only [x55_0, x55_1, x55_3, x55_4, x55_5, x55_8, x55_12, x55_13, x55_16, x55_18, x55_19, x55_22, x55_23, x55_26, x55_27, x55_30, x55_32, x55_33, x55_35, x55_37, x55_40, x55_43, x55_44, x55_47, x55_49, x55_51, x55_54, x55_57, x55_59, x55_62, x55_63, x55_65, x55_68, x55_69, x55_72, x55_75, x55_78, x55_81, x55_83, x55_86, x55_89, x55_90, x55_93, x55_95, x55_96, x55_97, x55_98, x55_99, x55_102, x55_104, x55_105, x55_106, x55_109, x55_110, x55_113, x55_116, x55_119, x55_120, x55_123, x55_125, x55_126, x55_127, x55_129, x55_130, x55_133, x55_135, x55_136, x55_137, x55_140, x55_141, x55_144, x55_146, x55_149, x55_152, x55_155, x55_158, x55_161, x55_162, x55_165, x55_166, x55_169, ex5, Option.toList_some, Option.toList_none, List.cons_append, List.nil_append, true_and, and_true, nI_1, p_at, p_set, p_isIn, p_max, p_min, p_abs, e0]
  exact r1 r
end
