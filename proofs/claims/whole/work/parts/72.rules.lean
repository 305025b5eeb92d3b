/-! rules: whom they fit, what hours they say -/
def seV (ask : Nat → Int) (cd : Nat → Nat) (a b : Nat) : Int := (vaRun ask cd a (b - a) []).headD 0
/-- the first rule from k on, c of them, that fits: or their end -/
def rfN (rs : Nat → Int32) (x : Int32) (T : Nat → Int) : Nat → Nat → Nat
  | 0, k => k
  | c + 1, k => if rs k = x ∧ T k = 1 then k else rfN rs x T c (k + 1)
def hrV (rs : Nat → Int32) (x : Int32) (T Sm : Nat → Int) (M : Nat) (h0 : Int32) (C : Nat) : Int32 := if rfN rs x T C 0 = C then h0 else iZ (max 0 (min (M : Int) (Sm (rfN rs x T C 0))))
def hoV (N M : Nat) (V : Vw) (D rs : Nat → Int32) (sf se te cd : Nat → Nat) (C p : Nat) : Int32 := hrV rs (V 0 p) (fun k => seV (askZ N V D p) cd (se k) (te k)) (fun k => seV (askZ N V D p) cd (sf k) (se k)) M (V 2 p) C
def RuK (C : Nat) (sf se te cd : Nat → Nat) : Prop := C ≤ 12 ∧ ∀ k, k < C → sf k ≤ se k ∧ se k ≤ te k ∧ te k ≤ 1600 ∧ tyRun cd (sf k) (se k - sf k) [] = some [false] ∧ tyRun cd (se k) (te k - se k) [] = some [true]
def RuC (I : Nat → Nat → Int32) (U C : Nat) (rs : Nat → Int32) (sf se te cd : Nat → Nat) : Prop := I U 6 = nI C ∧ (∀ k, k < C → I (U + 1) k = rs k ∧ I (U + 2) k = nI (sf k) ∧ I (U + 3) k = nI (se k) ∧ I (U + 4) k = nI (te k)) ∧ (∀ k i, k < C → sf k ≤ i → i < te k → I (U + 5) i = cOf (cd i))
def RuM (I : Nat → Nat → Int32) (C : Nat) (rs : Nat → Int32) (sf se te cd : Nat → Nat) : Prop := I 157 0 = nI C ∧ (∀ k, k < C → I 158 k = rs k ∧ I 159 k = nI (sf k) ∧ I 160 k = nI (se k) ∧ I 161 k = nI (te k)) ∧ (∀ k i, k < C → sf k ≤ i → i < te k → I 155 i = nI (cd i))
theorem okT_one {ft : Bool} {s : List Int} (h : okT [ft] s) : b20 (s.headD 0) ∧ (ft = true → s.headD 0 = 0 ∨ s.headD 0 = 1) := by
  match s, h with
  | [v], h => exact h.1
theorem rfN_le {rs : Nat → Int32} {x : Int32} {T : Nat → Int} : ∀ c k, rfN rs x T c k ≤ k + c
  | 0, k => Nat.le_refl k
  | c + 1, k => by
    show (if rs k = x ∧ T k = 1 then k else rfN rs x T c (k + 1)) ≤ k + (c + 1)
    by_cases d : rs k = x ∧ T k = 1
    · rw [if_pos d]; omega
    · rw [if_neg d]; have := rfN_le (rs := rs) (x := x) (T := T) c (k + 1); omega
theorem cl_cls {s : Int} {M : Nat} (hs : b20 s) (hM : M ≤ 60) : (if (0 : Int32) < (if iZ s < nI M then iZ s else nI M) then (if iZ s < nI M then iZ s else nI M) else 0) = iZ (max 0 (min (M : Int) s)) := by
  have hb : b20 (M : Int) := by unfold b20; omega
  rw [← iZ_nI]
  by_cases c : s < (M : Int)
  · rw [if_pos ((iZ_lt hs hb).mpr c), Int.min_eq_right (Int.le_of_lt c)]
    by_cases d : 0 < s
    · rw [if_pos (show (0 : Int32) < iZ s from (iZ_lt b20_0 hs).mpr d), Int.max_eq_right (Int.le_of_lt d)]
    · rw [if_neg (show ¬ (0 : Int32) < iZ s from fun z => d ((iZ_lt b20_0 hs).mp z)), Int.max_eq_left (Int.not_lt.mp d)]; rfl
  · rw [if_neg (fun z => c ((iZ_lt hs hb).mp z)), Int.min_eq_left (Int.not_lt.mp c)]
    by_cases d : 0 < (M : Int)
    · rw [if_pos (show (0 : Int32) < iZ (M : Int) from (iZ_lt b20_0 hb).mpr d), Int.max_eq_right (Int.le_of_lt d)]
    · rw [if_neg (show ¬ (0 : Int32) < iZ (M : Int) from fun z => d ((iZ_lt b20_0 hb).mp z)), Int.max_eq_left (Int.not_lt.mp d)]; rfl
theorem cl_hrs {h : Int32} {M : Nat} (h0 : 0 ≤ h.toInt) (h1 : h.toInt ≤ (M : Int)) (hM : M ≤ 60) : (if (0 : Int32) < (if h < nI M then h else nI M) then (if h < nI M then h else nI M) else 0) = h := by
  have k := cl_cls (s := h.toInt) (M := M) (by unfold b20; omega) hM
  have e : iZ h.toInt = h := Int32.ofInt_toInt h
  rw [e] at k
  rw [k, Int.min_eq_right h1, Int.max_eq_right h0, e]
theorem tw_uu {nw S U : Nat} (h : Tw nw S U) : U = 64 ∨ U = 98 := by rcases h with ⟨-, -, h⟩ | ⟨-, -, h⟩ <;> omega
section
variable {L : Nat} {xs : Nat → Int32} {σ : Mm} {r : Option Value × Mm} {I J K : Nat → Nat → Int32} {Lm : Nat → Nat → Int64} {Rm : Nat → Nat → Nat} {n s so t N NS NH m M P nw S U : Nat} {V W : Vw} {sp s2 ai p : Nat} {x y z h v : Int32} {D rs : Nat → Int32} {ask : Nat → Int} {sf se te cd : Nat → Nat} {C : Nat} {T Sm : Nat → Int}
theorem c_ruleFor (hU : U = 64 ∨ U = 98) (hf : ∀ m, isAsk m → I 10 (cdN m - 10000) = iZ (ask m)) (hb : ∀ m, isAsk m → b20 (ask m)) (hK : RuK C sf se te cd) (hRu : RuC I U C rs sf se te cd) (hT : ∀ k, T k = seV ask cd (se k) (te k)) : ∃ J, (∀ r, Em L xs 53 [.ref U, .int x, .ref 10] (179, I, Lm, RG nw sp s2 ai) r ↔ r = (some (.int (if rfN rs x T C 0 = C then -1 else nI (rfN rs x T C 0))), 179, J, Lm, RG nw sp s2 ai)) ∧ (∀ q, q ≠ U + 6 → J q = I q) := by
  obtain ⟨hC, hK⟩ := hK
  obtain ⟨a1, a2, a3⟩ := hRu
  obtain ⟨u0, u1, u2, u3, u4, u5, u6⟩ := ru_sh hU
  obtain ⟨g0, g1, g2, g3, g4, g5⟩ := ru_rg (nw := nw) (sp := sp) (s2 := s2) (ai := ai) hU
  have v1 := (u2 0 (by decide)).1; have v3 := (u2 2 (by decide)).1; have v4 := (u2 3 (by decide)).1
  have w1 := (u2 0 (by decide)).2; have w3 := (u2 2 (by decide)).2; have w4 := (u2 3 (by decide)).2
  have y1 : (shp (U + 1)).1 = 1 := by rw [w1]
  have y3 : (shp (U + 3)).1 = 1 := by rw [w3]
  have y4 : (shp (U + 4)).1 = 1 := by rw [w4]
  have key : ∀ c k J, k + c = C → (∀ q, q ≠ U + 6 → J q = I q) → ∃ J', (∀ r, Ev L xs 4 53 2 [some (.ref U), some (.int x), some (.ref 10), some (.int (nI k))] [] (179, J, Lm, RG nw sp s2 ai) r ↔ r = (some (.int (if rfN rs x T c k = C then -1 else nI (rfN rs x T c k))), 179, J', Lm, RG nw sp s2 ai)) ∧ (∀ q, q ≠ U + 6 → J' q = I q) := by
    intro c
    induction c with
    | zero =>
      intro k J hk hJ
      have hc : J U 6 = nI C := by rw [hJ _ (by omega)]; exact a1
      have e : rfN rs x T 0 k = C := hk
      refine ⟨J, fun r => ?_, hJ⟩
      rw [x53_2, if_pos e]
      simp only [x53_0, x53_1, x53_3, x53_4, x53_7, x53_10, x53_11, x53_14, x53_15, x53_18, x53_19, x53_22, x53_23, x53_24, x53_27, x53_28, x53_31, x53_32, x53_35, x53_36, x53_39, x53_40, x53_43, x53_46, x53_47, x53_48, x53_51, x53_54, x53_55, ex5, Option.toList_some, Option.toList_none, List.cons_append, List.nil_append, true_and, and_true, nI_1, p_at, p_set, p_isIn, p_max, p_min, p_abs, u0, u1, hc, nI_le (show C ≤ k by omega) (show k < 2 ^ 31 by omega), if_true]
    | succ c ih =>
      intro k J hk hJ
      have hkC : k < C := by omega
      obtain ⟨b1, b2, b3, b4⟩ := a2 k hkC
      obtain ⟨k1, k2, k3, k4, k5⟩ := hK k hkC
      have hc : J U 6 = nI C := by rw [hJ _ (by omega)]; exact a1
      have e1 : atv J (U + 1) (nI k) = rs k := by rw [atv_lt (by rw [w1]; show k < 12; omega), hJ _ (by omega)]; exact b1
      have e3 : atv J (U + 3) (nI k) = nI (se k) := by rw [atv_lt (by rw [w3]; show k < 12; omega), hJ _ (by omega)]; exact b3
      have e4 : atv J (U + 4) (nI k) = nI (te k) := by rw [atv_lt (by rw [w4]; show k < 12; omega), hJ _ (by omega)]; exact b4
      by_cases d : rs k = x
      · obtain ⟨J1, c1, c2, c3⟩ := c_valueOf (I := J) (L := L) (xs := xs) (Lm := Lm) (nw := nw) (sp := sp) (s2 := s2) (ai := ai) (k := te k - se k) (cd := cd) (ask := ask) (ft := true) hU (fun m hm => by rw [hJ 10 (by omega)]; exact hf m hm) hb k3 (show se k + (te k - se k) = te k by omega) (fun i hi hi2 => by rw [hJ _ (by omega)]; exact a3 k i hkC (by omega) hi2) k5
        obtain ⟨o1, o2⟩ := okT_one c3
        have o2 := o2 rfl
        have hTk : T k = (vaRun ask cd (se k) (te k - se k) []).headD 0 := hT k
        rw [← hTk] at c1 o1 o2
        by_cases f : T k = 1
        · have e : rfN rs x T (c + 1) k = k := if_pos ⟨d, f⟩
          have n0 : (iZ (T k) = 0) = False := by rw [f]; exact eq_false (by decide)
          refine ⟨J1, fun r => ?_, fun q hq => (c2 q hq).trans (hJ q hq)⟩
          rw [x53_2, e, if_neg (show ¬ k = C by omega)]
          simp only [x53_0, x53_1, x53_3, x53_4, x53_7, x53_10, x53_11, x53_14, x53_15, x53_18, x53_19, x53_22, x53_23, x53_24, x53_27, x53_28, x53_31, x53_32, x53_35, x53_36, x53_39, x53_40, x53_43, x53_46, x53_47, x53_48, x53_51, x53_54, x53_55, ex5, Option.toList_some, Option.toList_none, List.cons_append, List.nil_append, true_and, and_true, nI_1, p_at, p_set, p_isIn, p_max, p_min, p_abs, u0, u1, v1, v3, v4, y1, y3, y4, g0, g2, g3, hc, nI_ge hkC (show C < 2 ^ 31 by omega), if_false, if_true, e1, e3, e4, d, c1, n0]
        · have e : rfN rs x T (c + 1) k = rfN rs x T c (k + 1) := if_neg (fun z => f z.2)
          have n0 : (iZ (T k) = 0) = True := by rw [o2.resolve_right f]; exact eq_true rfl
          obtain ⟨J2, r1, r2⟩ := ih (k + 1) J1 (by omega) (fun q hq => (c2 q hq).trans (hJ q hq))
          refine ⟨J2, fun r => ?_, r2⟩
          rw [x53_2, e]
          simp only [x53_0, x53_1, x53_3, x53_4, x53_7, x53_10, x53_11, x53_14, x53_15, x53_18, x53_19, x53_22, x53_23, x53_24, x53_27, x53_28, x53_31, x53_32, x53_35, x53_36, x53_39, x53_40, x53_43, x53_46, x53_47, x53_48, x53_51, x53_54, x53_55, ex5, Option.toList_some, Option.toList_none, List.cons_append, List.nil_append, true_and, and_true, nI_1, p_at, p_set, p_isIn, p_max, p_min, p_abs, u0, u1, v1, v3, v4, y1, y3, y4, g0, g2, g3, hc, nI_ge hkC (show C < 2 ^ 31 by omega), if_false, if_true, e1, e3, e4, d, c1, n0]
          exact r1 r
      · have e : rfN rs x T (c + 1) k = rfN rs x T c (k + 1) := if_neg (fun z => d z.1)
        obtain ⟨J2, r1, r2⟩ := ih (k + 1) J (by omega) hJ
        refine ⟨J2, fun r => ?_, r2⟩
        rw [x53_2, e]
        simp only [x53_0, x53_1, x53_3, x53_4, x53_7, x53_10, x53_11, x53_14, x53_15, x53_18, x53_19, x53_22, x53_23, x53_24, x53_27, x53_28, x53_31, x53_32, x53_35, x53_36, x53_39, x53_40, x53_43, x53_46, x53_47, x53_48, x53_51, x53_54, x53_55, ex5, Option.toList_some, Option.toList_none, List.cons_append, List.nil_append, true_and, and_true, nI_1, p_at, p_set, p_isIn, p_max, p_min, p_abs, u0, u1, v1, v3, v4, y1, y3, y4, g0, g2, g3, hc, nI_ge hkC (show C < 2 ^ 31 by omega), if_false, e1, d]
        exact r1 r
  obtain ⟨J, r1, r2⟩ := key C 0 I (Nat.zero_add C) (fun _ _ => rfl)
  refine ⟨J, fun r => ?_, r2⟩
  rw [em_53]
  simp only [x53_0, x53_1, x53_3, x53_4, x53_7, x53_10, x53_11, x53_14, x53_15, x53_18, x53_19, x53_22, x53_23, x53_24, x53_27, x53_28, x53_31, x53_32, x53_35, x53_36, x53_39, x53_40, x53_43, x53_46, x53_47, x53_48, x53_51, x53_54, x53_55]
  exact r1 r
theorem c_hoursOf (hU : U = 64 ∨ U = 98) (hf : ∀ m, isAsk m → I 10 (cdN m - 10000) = iZ (ask m)) (hb : ∀ m, isAsk m → b20 (ask m)) (hK : RuK C sf se te cd) (hRu : RuC I U C rs sf se te cd) {k : Nat} (hk : k < C) : ∃ J, (∀ r, Em L xs 54 [.ref U, .int (nI k), .ref 10] (179, I, Lm, RG nw sp s2 ai) r ↔ r = (some (.int (iZ (seV ask cd (sf k) (se k)))), 179, J, Lm, RG nw sp s2 ai)) ∧ (∀ q, q ≠ U + 6 → J q = I q) ∧ b20 (seV ask cd (sf k) (se k)) := by
  obtain ⟨hC, hK⟩ := hK
  obtain ⟨a1, a2, a3⟩ := hRu
  obtain ⟨u0, u1, u2, u3, u4, u5, u6⟩ := ru_sh hU
  obtain ⟨g0, g1, g2, g3, g4, g5⟩ := ru_rg (nw := nw) (sp := sp) (s2 := s2) (ai := ai) hU
  have v2 := (u2 1 (by decide)).1; have v3 := (u2 2 (by decide)).1
  have w2 := (u2 1 (by decide)).2; have w3 := (u2 2 (by decide)).2
  have y2 : (shp (U + 2)).1 = 1 := by rw [w2]
  have y3 : (shp (U + 3)).1 = 1 := by rw [w3]
  obtain ⟨b1, b2, b3, b4⟩ := a2 k hk
  obtain ⟨k1, k2, k3, k4, k5⟩ := hK k hk
  have e2 : atv I (U + 2) (nI k) = nI (sf k) := by rw [atv_lt (by rw [w2]; show k < 12; omega)]; exact b2
  have e3 : atv I (U + 3) (nI k) = nI (se k) := by rw [atv_lt (by rw [w3]; show k < 12; omega)]; exact b3
  obtain ⟨J1, c1, c2, c3⟩ := c_valueOf (I := I) (L := L) (xs := xs) (Lm := Lm) (nw := nw) (sp := sp) (s2 := s2) (ai := ai) (k := se k - sf k) (cd := cd) (ask := ask) (ft := false) hU hf hb (show se k ≤ 1600 by omega) (show sf k + (se k - sf k) = se k by omega) (fun i hi hi2 => a3 k i hk hi (by omega)) k4
  refine ⟨J1, fun r => ?_, c2, (okT_one c3).1⟩
  rw [em_54]
  simp only [x54_0, x54_1, x54_2, x54_5, x54_6, x54_9, x54_10, x54_13, x54_14, x54_17, x54_18, x54_21, ex5, Option.toList_some, Option.toList_none, List.cons_append, List.nil_append, true_and, and_true, nI_1, p_at, p_set, p_isIn, p_max, p_min, p_abs, u0, u1, v2, v3, y2, y3, g1, g2, e2, e3, c1]
  exact Iff.rfl
theorem r_ruled (hR : MR I 0 N NS NH V) (hW : WV V N NS NH) (hN : N ≤ 12) (hM6 : M ≤ 60) (hp : p < N) (h52 : I 112 52 = nI M) (h76 : I 112 76 = V 22 0) (hKW : rng (V 22 0) 0 9999) (h18 : rng (V 18 p) 0 80000) (h166 : I 166 p = V 18 p) (h169 : I 169 p = D p) (hK : RuK C sf se te cd) (hRu : RuM I C rs sf se te cd) : ∃ G Lk, (∀ r, Em L xs 278 [.ref 112, .int (nI p)] (179, I, Lm, RG nw sp s2 ai) r ↔ r = (some (.int (hoV N M V D rs sf se te cd C p)), 179, G, Lk, RG nw sp s2 ai)) ∧ (∀ q, q ≠ 112 → G q = I q) ∧ (∀ q, q ≠ 87 → q ≠ 88 → G 112 q = I 112 q) ∧ (∀ q, q ≠ 175 → Lk q = Lm q) := by
  obtain ⟨hC, hK⟩ := hK
  obtain ⟨a1, a2, a3⟩ := hRu
  have hb : ∀ m, isAsk m → b20 (askZ N V D p m) := fun m hm => ask_b hW hN hKW h18 hp hm
  have z := hR.2.2.1 p hp
  rw [Nat.zero_add] at z
  obtain ⟨z0, z1, z2, z3⟩ := z
  have j1 : inb (nI p) 32 = True := inb_i (by omega) (by decide)
  have j2 : ixn (nI p) = p := ixn_nI (by omega)
  have i0 : inb (0 : Int32) 2 = True := inb_i (k := 0) (by decide) (by decide)
  have i00 : ixn (0 : Int32) = 0 := rfl
  let T : Nat → Int := fun k => seV (askZ N V D p) cd (se k) (te k)
  let Sm : Nat → Int := fun k => seV (askZ N V D p) cd (sf k) (se k)
  have key : ∀ c k G Lk, k + c = C → (∀ q, q ≠ 112 → G q = I q) → (∀ q, q ≠ 87 → q ≠ 88 → G 112 q = I 112 q) → G 112 88 = nI p → (∀ q, q ≠ 175 → Lk q = Lm q) → ∃ G' Lk', (∀ r, Ev L xs 3 278 7 [some (.ref 112), some (.int (nI p)), some (.int (nI k)), none, none] [] (179, G, Lk, RG nw sp s2 ai) r ↔ r = (some (.int (if rfN rs (V 0 p) T c k = C then V 2 p else iZ (max 0 (min (M : Int) (Sm (rfN rs (V 0 p) T c k)))))), 179, G', Lk', RG nw sp s2 ai)) ∧ (∀ q, q ≠ 112 → G' q = I q) ∧ (∀ q, q ≠ 87 → q ≠ 88 → G' 112 q = I 112 q) ∧ (∀ q, q ≠ 175 → Lk' q = Lm q) := by
    intro c
    induction c with
    | zero =>
      intro k G Lk hk q1 q2 q3 q4
      have hc : G 157 0 = nI C := by rw [q1 157 (by decide)]; exact a1
      have h2 : G 165 p = V 2 p := by rw [q1 165 (by decide)]; exact z2
      have e : rfN rs (V 0 p) T 0 k = C := hk
      refine ⟨G, Lk, fun r => ?_, q1, q2, q4⟩
      rw [x278_7, if_pos e]
      simp only [x278_0, x278_1, x278_2, x278_5, x278_6, x278_8, x278_9, x278_12, x278_13, x278_14, x278_17, x278_18, x278_21, x278_22, x278_23, x278_24, x278_27, x278_28, x278_29, x278_32, x278_33, x278_34, x278_37, x278_38, x278_39, x278_40, x278_43, x278_44, x278_45, x278_48, x278_49, x278_50, x278_53, x278_56, x278_57, x278_58, x278_61, x278_62, x278_63, x278_64, x278_67, x278_68, x278_69, x278_72, x278_73, x278_74, x278_75, x278_76, x278_79, x278_80, x278_83, x278_84, x278_85, x278_88, x278_89, x278_90, x278_93, x278_94, x278_97, x278_100, x278_101, x278_102, x278_103, x278_106, x278_109, x278_110, x278_113, x278_114, x278_115, sh_112, sh_113, sh_114, sh_115, sh_116, sh_117, sh_118, sh_119, sh_120, sh_121, sh_122, sh_123, sh_124, sh_125, sh_126, sh_127, sh_128, sh_129, sh_130, sh_131, sh_132, sh_133, sh_134, sh_135, sh_136, sh_137, sh_138, sh_139, sh_140, sh_141, sh_142, sh_143, sh_144, sh_145, sh_146, sh_147, sh_148, sh_149, sh_150, sh_151, sh_152, sh_153, sh_154, sh_155, sh_156, sh_157, sh_158, sh_159, sh_160, sh_161, sh_162, sh_163, sh_164, sh_165, sh_166, sh_167, sh_168, sh_169, sh_170, sh_171, sh_172, sh_173, sh_174, sh_175, sh_176, sh_177, sh_178, lq_112, lq_113, lq_114, lq_115, lq_116, lq_117, lq_118, lq_119, lq_120, lq_121, lq_122, lq_123, lq_124, lq_125, lq_126, lq_127, lq_128, lq_129, lq_130, lq_131, lq_132, lq_133, lq_134, lq_135, lq_136, lq_137, lq_138, lq_139, lq_140, lq_141, lq_142, lq_143, lq_144, lq_145, lq_146, lq_147, lq_148, lq_149, lq_150, lq_151, lq_152, lq_153, lq_154, lq_155, lq_156, lq_157, lq_158, lq_159, lq_160, lq_161, lq_162, lq_163, lq_164, lq_165, lq_166, lq_167, lq_168, lq_169, lq_170, lq_171, lq_172, lq_173, lq_174, lq_175, lq_176, lq_177, lq_178, rg_112_0, rg_112_9, rg_112_10, rg_112_11, rg_112_12, rg_112_13, rg_112_14, rg_112_15, rg_112_16, rg_112_17, rg_112_18, rg_112_19, rg_112_20, rg_112_21, rg_112_22, rg_112_23, rg_112_24, rg_112_25, rg_112_26, rg_112_27, rg_112_28, rg_112_29, rg_112_30, rg_112_31, rg_112_32, rg_112_33, rg_112_34, rg_112_35, rg_112_36, rg_112_37, rg_112_38, rg_112_39, rg_112_40, rg_112_41, rg_112_43, rg_112_44, rg_112_45, rg_112_46, rg_112_47, rg_112_48, rg_112_49, rg_112_51, rg_112_55, rg_112_57, rg_112_60, rg_112_61, rg_112_62, rg_112_63, rg_112_64, rg_112_66, rg_112_67, rg_112_68, rg_112_69, rg_112_70, rg_112_71, rg_112_72, rg_112_73, rg_112_74, rg_112_80, rg_112_83, rg_112_84, rg_112_85, rg_112_86, rg_112_90, rg_112_91, rg_112_92, ex5, Option.toList_some, Option.toList_none, List.cons_append, List.nil_append, true_and, and_true, nI_1, p_at, p_set, p_isIn, p_max, p_min, p_abs, i0, i00, hc, nI_le (show C ≤ k by omega) (show k < 2 ^ 31 by omega), if_true, j1, j2, h2]
    | succ c ih =>
      intro k G Lk hk q1 q2 q3 q4
      have hkC : k < C := by omega
      obtain ⟨b1, b2, b3, b4⟩ := a2 k hkC
      obtain ⟨k1, k2, k3, k4, k5⟩ := hK k hkC
      have hc : G 157 0 = nI C := by rw [q1 157 (by decide)]; exact a1
      have h0 : G 162 p = V 0 p := by rw [q1 162 (by decide)]; exact z0
      have e1 : G 158 k = rs k := by rw [q1 158 (by decide)]; exact b1
      have e2 : G 159 k = nI (sf k) := by rw [q1 159 (by decide)]; exact b2
      have e3 : G 160 k = nI (se k) := by rw [q1 160 (by decide)]; exact b3
      have e4 : G 161 k = nI (te k) := by rw [q1 161 (by decide)]; exact b4
      have i1 : inb (nI k) 24 = True := inb_i (by omega) (by decide)
      have i2 : ixn (nI k) = k := ixn_nI (by omega)
      have hA : ∀ {G : Nat → Nat → Int32}, (∀ q, q ≠ 112 → G q = I q) → (∀ q, q ≠ 87 → q ≠ 88 → G 112 q = I 112 q) → G 112 88 = nI p → ∀ m, isAsk m → ∀ G2 Lk r, (∀ q, q ≠ 112 → G2 q = G q) → (∀ q, q ≠ 87 → G2 112 q = G 112 q) → (Em L xs 273 [.ref 112, .int (nI m)] (179, G2, Lk, RG nw sp s2 ai) r ↔ r = (some (.int (iZ (askZ N V D p m))), 179, G2, Lk, RG nw sp s2 ai)) := fun {G} q1 q2 q3 m hm G2 Lk r f1 f2 => by
        rw [iZ_ask]
        have hq : ∀ q, q ≠ 112 → G2 q = I q := fun q hq => (f1 q hq).trans (q1 q hq)
        exact r_asked (hR.ofMS ⟨by rw [f2 78 (by decide)]; exact q2 78 (by decide) (by decide), by rw [f2 79 (by decide)]; exact q2 79 (by decide) (by decide), fun q hh => hq q (by omega)⟩) hW hN hp (by rw [f2 88 (by decide)]; exact q3) (by rw [f2 76 (by decide), q2 76 (by decide) (by decide)]; exact h76) (by rw [hq 166 (by decide)]; exact h166) (by rw [hq 169 (by decide)]; exact h169) hm
      by_cases d : rs k = V 0 p
      · obtain ⟨G1, L1, c1, c2, c3, c4, c5⟩ := r_told (I := G) (Lm := Lk) (L := L) (xs := xs) (nw := nw) (sp := sp) (s2 := s2) (ai := ai) (k := te k - se k) (cd := cd) (ask := askZ N V D p) (ft := true) (hA q1 q2 q3) hb (show te k ≤ 3200 by omega) (show se k + (te k - se k) = te k by omega) (fun i hi hi2 => by rw [q1 155 (by decide)]; exact a3 k i hkC (by omega) hi2) k5
        obtain ⟨o1, o2⟩ := okT_one c5
        have o2 := o2 rfl
        have hTk : T k = (vaRun (askZ N V D p) cd (se k) (te k - se k) []).headD 0 := rfl
        rw [← hTk] at c1 o1 o2
        have p1 : ∀ q, q ≠ 112 → G1 q = I q := fun q hq => (c2 q hq).trans (q1 q hq)
        have p2 : ∀ q, q ≠ 87 → q ≠ 88 → G1 112 q = I 112 q := fun q hq hq2 => (c3 q hq).trans (q2 q hq hq2)
        have p3 : G1 112 88 = nI p := (c3 88 (by decide)).trans q3
        have p4 : ∀ q, q ≠ 175 → L1 q = Lm q := fun q hq => (c4 q hq).trans (q4 q hq)
        by_cases f : T k = 1
        · have e : rfN rs (V 0 p) T (c + 1) k = k := if_pos ⟨d, f⟩
          have n0 : (lZ (T k) = 1) = True := by rw [f]; exact eq_true rfl
          have f2 : G1 159 k = nI (sf k) := by rw [p1 159 (by decide)]; exact b2
          have f3 : G1 160 k = nI (se k) := by rw [p1 160 (by decide)]; exact b3
          obtain ⟨G3, L3, d1, d2, d3, d4, d5⟩ := r_told (I := G1) (Lm := L1) (L := L) (xs := xs) (nw := nw) (sp := sp) (s2 := s2) (ai := ai) (k := se k - sf k) (cd := cd) (ask := askZ N V D p) (ft := false) (hA p1 p2 p3) hb (show se k ≤ 3200 by omega) (show sf k + (se k - sf k) = se k by omega) (fun i hi hi2 => by rw [p1 155 (by decide)]; exact a3 k i hkC hi (by omega)) k4
          have hSk : Sm k = (vaRun (askZ N V D p) cd (sf k) (se k - sf k) []).headD 0 := rfl
          have o3 := (okT_one d5).1
          rw [← hSk] at d1 o3
          have hM2 : G3 112 52 = nI M := by rw [d3 52 (by decide), p2 52 (by decide) (by decide)]; exact h52
          have hMl : (nI M).toInt64 = lZ (M : Int) := lZ_nI (by omega)
          have bM : b62 (M : Int) := by unfold b62; omega
          refine ⟨G3, L3, fun r => ?_, fun q hq => (d2 q hq).trans (p1 q hq), fun q hq hq2 => (d3 q hq).trans (p2 q hq hq2), fun q hq => (d4 q hq).trans (p4 q hq)⟩
          rw [x278_7, e, if_neg (show ¬ k = C by omega)]
          by_cases g : 0 ≤ Sm k
          · have g1 : (0 ≤ lZ (Sm k)) = True := eq_true ((lZ_le (b62_of b20_0) (b62_of o3)).mpr g)
            by_cases h : Sm k ≤ (M : Int)
            · have h1 : (lZ (Sm k) ≤ lZ (M : Int)) = True := eq_true ((lZ_le (b62_of o3) bM).mpr h)
              rw [Int.min_eq_right h, Int.max_eq_right g]
              simp only [x278_0, x278_1, x278_2, x278_5, x278_6, x278_8, x278_9, x278_12, x278_13, x278_14, x278_17, x278_18, x278_21, x278_22, x278_23, x278_24, x278_27, x278_28, x278_29, x278_32, x278_33, x278_34, x278_37, x278_38, x278_39, x278_40, x278_43, x278_44, x278_45, x278_48, x278_49, x278_50, x278_53, x278_56, x278_57, x278_58, x278_61, x278_62, x278_63, x278_64, x278_67, x278_68, x278_69, x278_72, x278_73, x278_74, x278_75, x278_76, x278_79, x278_80, x278_83, x278_84, x278_85, x278_88, x278_89, x278_90, x278_93, x278_94, x278_97, x278_100, x278_101, x278_102, x278_103, x278_106, x278_109, x278_110, x278_113, x278_114, x278_115, sh_112, sh_113, sh_114, sh_115, sh_116, sh_117, sh_118, sh_119, sh_120, sh_121, sh_122, sh_123, sh_124, sh_125, sh_126, sh_127, sh_128, sh_129, sh_130, sh_131, sh_132, sh_133, sh_134, sh_135, sh_136, sh_137, sh_138, sh_139, sh_140, sh_141, sh_142, sh_143, sh_144, sh_145, sh_146, sh_147, sh_148, sh_149, sh_150, sh_151, sh_152, sh_153, sh_154, sh_155, sh_156, sh_157, sh_158, sh_159, sh_160, sh_161, sh_162, sh_163, sh_164, sh_165, sh_166, sh_167, sh_168, sh_169, sh_170, sh_171, sh_172, sh_173, sh_174, sh_175, sh_176, sh_177, sh_178, lq_112, lq_113, lq_114, lq_115, lq_116, lq_117, lq_118, lq_119, lq_120, lq_121, lq_122, lq_123, lq_124, lq_125, lq_126, lq_127, lq_128, lq_129, lq_130, lq_131, lq_132, lq_133, lq_134, lq_135, lq_136, lq_137, lq_138, lq_139, lq_140, lq_141, lq_142, lq_143, lq_144, lq_145, lq_146, lq_147, lq_148, lq_149, lq_150, lq_151, lq_152, lq_153, lq_154, lq_155, lq_156, lq_157, lq_158, lq_159, lq_160, lq_161, lq_162, lq_163, lq_164, lq_165, lq_166, lq_167, lq_168, lq_169, lq_170, lq_171, lq_172, lq_173, lq_174, lq_175, lq_176, lq_177, lq_178, rg_112_0, rg_112_9, rg_112_10, rg_112_11, rg_112_12, rg_112_13, rg_112_14, rg_112_15, rg_112_16, rg_112_17, rg_112_18, rg_112_19, rg_112_20, rg_112_21, rg_112_22, rg_112_23, rg_112_24, rg_112_25, rg_112_26, rg_112_27, rg_112_28, rg_112_29, rg_112_30, rg_112_31, rg_112_32, rg_112_33, rg_112_34, rg_112_35, rg_112_36, rg_112_37, rg_112_38, rg_112_39, rg_112_40, rg_112_41, rg_112_43, rg_112_44, rg_112_45, rg_112_46, rg_112_47, rg_112_48, rg_112_49, rg_112_51, rg_112_55, rg_112_57, rg_112_60, rg_112_61, rg_112_62, rg_112_63, rg_112_64, rg_112_66, rg_112_67, rg_112_68, rg_112_69, rg_112_70, rg_112_71, rg_112_72, rg_112_73, rg_112_74, rg_112_80, rg_112_83, rg_112_84, rg_112_85, rg_112_86, rg_112_90, rg_112_91, rg_112_92, ex5, Option.toList_some, Option.toList_none, List.cons_append, List.nil_append, true_and, and_true, nI_1, p_at, p_set, p_isIn, p_max, p_min, p_abs, i0, i00, i1, i2, hc, nI_ge hkC (show C < 2 ^ 31 by omega), if_false, if_true, j1, j2, h0, e1, e3, e4, d, c1, lg_cmp_eq, lg_cmp_ge, lg_cmp_le, n0, f2, f3, d1, hM2, hMl, g1, h1, lZ_i]
            · have h1 : (lZ (Sm k) ≤ lZ (M : Int)) = False := eq_false (fun z => h ((lZ_le (b62_of o3) bM).mp z))
              have e9 : iZ (M : Int) = nI M := iZ_nI
              rw [Int.min_eq_left (by omega), Int.max_eq_right (by omega), e9]
              simp only [x278_0, x278_1, x278_2, x278_5, x278_6, x278_8, x278_9, x278_12, x278_13, x278_14, x278_17, x278_18, x278_21, x278_22, x278_23, x278_24, x278_27, x278_28, x278_29, x278_32, x278_33, x278_34, x278_37, x278_38, x278_39, x278_40, x278_43, x278_44, x278_45, x278_48, x278_49, x278_50, x278_53, x278_56, x278_57, x278_58, x278_61, x278_62, x278_63, x278_64, x278_67, x278_68, x278_69, x278_72, x278_73, x278_74, x278_75, x278_76, x278_79, x278_80, x278_83, x278_84, x278_85, x278_88, x278_89, x278_90, x278_93, x278_94, x278_97, x278_100, x278_101, x278_102, x278_103, x278_106, x278_109, x278_110, x278_113, x278_114, x278_115, sh_112, sh_113, sh_114, sh_115, sh_116, sh_117, sh_118, sh_119, sh_120, sh_121, sh_122, sh_123, sh_124, sh_125, sh_126, sh_127, sh_128, sh_129, sh_130, sh_131, sh_132, sh_133, sh_134, sh_135, sh_136, sh_137, sh_138, sh_139, sh_140, sh_141, sh_142, sh_143, sh_144, sh_145, sh_146, sh_147, sh_148, sh_149, sh_150, sh_151, sh_152, sh_153, sh_154, sh_155, sh_156, sh_157, sh_158, sh_159, sh_160, sh_161, sh_162, sh_163, sh_164, sh_165, sh_166, sh_167, sh_168, sh_169, sh_170, sh_171, sh_172, sh_173, sh_174, sh_175, sh_176, sh_177, sh_178, lq_112, lq_113, lq_114, lq_115, lq_116, lq_117, lq_118, lq_119, lq_120, lq_121, lq_122, lq_123, lq_124, lq_125, lq_126, lq_127, lq_128, lq_129, lq_130, lq_131, lq_132, lq_133, lq_134, lq_135, lq_136, lq_137, lq_138, lq_139, lq_140, lq_141, lq_142, lq_143, lq_144, lq_145, lq_146, lq_147, lq_148, lq_149, lq_150, lq_151, lq_152, lq_153, lq_154, lq_155, lq_156, lq_157, lq_158, lq_159, lq_160, lq_161, lq_162, lq_163, lq_164, lq_165, lq_166, lq_167, lq_168, lq_169, lq_170, lq_171, lq_172, lq_173, lq_174, lq_175, lq_176, lq_177, lq_178, rg_112_0, rg_112_9, rg_112_10, rg_112_11, rg_112_12, rg_112_13, rg_112_14, rg_112_15, rg_112_16, rg_112_17, rg_112_18, rg_112_19, rg_112_20, rg_112_21, rg_112_22, rg_112_23, rg_112_24, rg_112_25, rg_112_26, rg_112_27, rg_112_28, rg_112_29, rg_112_30, rg_112_31, rg_112_32, rg_112_33, rg_112_34, rg_112_35, rg_112_36, rg_112_37, rg_112_38, rg_112_39, rg_112_40, rg_112_41, rg_112_43, rg_112_44, rg_112_45, rg_112_46, rg_112_47, rg_112_48, rg_112_49, rg_112_51, rg_112_55, rg_112_57, rg_112_60, rg_112_61, rg_112_62, rg_112_63, rg_112_64, rg_112_66, rg_112_67, rg_112_68, rg_112_69, rg_112_70, rg_112_71, rg_112_72, rg_112_73, rg_112_74, rg_112_80, rg_112_83, rg_112_84, rg_112_85, rg_112_86, rg_112_90, rg_112_91, rg_112_92, ex5, Option.toList_some, Option.toList_none, List.cons_append, List.nil_append, true_and, and_true, nI_1, p_at, p_set, p_isIn, p_max, p_min, p_abs, i0, i00, i1, i2, hc, nI_ge hkC (show C < 2 ^ 31 by omega), if_false, if_true, j1, j2, h0, e1, e3, e4, d, c1, lg_cmp_eq, lg_cmp_ge, lg_cmp_le, n0, f2, f3, d1, hM2, hMl, g1, h1]
          · have g1 : (0 ≤ lZ (Sm k)) = False := eq_false (fun z => g ((lZ_le (b62_of b20_0) (b62_of o3)).mp z))
            rw [show max 0 (min (M : Int) (Sm k)) = 0 by omega]
            simp only [x278_0, x278_1, x278_2, x278_5, x278_6, x278_8, x278_9, x278_12, x278_13, x278_14, x278_17, x278_18, x278_21, x278_22, x278_23, x278_24, x278_27, x278_28, x278_29, x278_32, x278_33, x278_34, x278_37, x278_38, x278_39, x278_40, x278_43, x278_44, x278_45, x278_48, x278_49, x278_50, x278_53, x278_56, x278_57, x278_58, x278_61, x278_62, x278_63, x278_64, x278_67, x278_68, x278_69, x278_72, x278_73, x278_74, x278_75, x278_76, x278_79, x278_80, x278_83, x278_84, x278_85, x278_88, x278_89, x278_90, x278_93, x278_94, x278_97, x278_100, x278_101, x278_102, x278_103, x278_106, x278_109, x278_110, x278_113, x278_114, x278_115, sh_112, sh_113, sh_114, sh_115, sh_116, sh_117, sh_118, sh_119, sh_120, sh_121, sh_122, sh_123, sh_124, sh_125, sh_126, sh_127, sh_128, sh_129, sh_130, sh_131, sh_132, sh_133, sh_134, sh_135, sh_136, sh_137, sh_138, sh_139, sh_140, sh_141, sh_142, sh_143, sh_144, sh_145, sh_146, sh_147, sh_148, sh_149, sh_150, sh_151, sh_152, sh_153, sh_154, sh_155, sh_156, sh_157, sh_158, sh_159, sh_160, sh_161, sh_162, sh_163, sh_164, sh_165, sh_166, sh_167, sh_168, sh_169, sh_170, sh_171, sh_172, sh_173, sh_174, sh_175, sh_176, sh_177, sh_178, lq_112, lq_113, lq_114, lq_115, lq_116, lq_117, lq_118, lq_119, lq_120, lq_121, lq_122, lq_123, lq_124, lq_125, lq_126, lq_127, lq_128, lq_129, lq_130, lq_131, lq_132, lq_133, lq_134, lq_135, lq_136, lq_137, lq_138, lq_139, lq_140, lq_141, lq_142, lq_143, lq_144, lq_145, lq_146, lq_147, lq_148, lq_149, lq_150, lq_151, lq_152, lq_153, lq_154, lq_155, lq_156, lq_157, lq_158, lq_159, lq_160, lq_161, lq_162, lq_163, lq_164, lq_165, lq_166, lq_167, lq_168, lq_169, lq_170, lq_171, lq_172, lq_173, lq_174, lq_175, lq_176, lq_177, lq_178, rg_112_0, rg_112_9, rg_112_10, rg_112_11, rg_112_12, rg_112_13, rg_112_14, rg_112_15, rg_112_16, rg_112_17, rg_112_18, rg_112_19, rg_112_20, rg_112_21, rg_112_22, rg_112_23, rg_112_24, rg_112_25, rg_112_26, rg_112_27, rg_112_28, rg_112_29, rg_112_30, rg_112_31, rg_112_32, rg_112_33, rg_112_34, rg_112_35, rg_112_36, rg_112_37, rg_112_38, rg_112_39, rg_112_40, rg_112_41, rg_112_43, rg_112_44, rg_112_45, rg_112_46, rg_112_47, rg_112_48, rg_112_49, rg_112_51, rg_112_55, rg_112_57, rg_112_60, rg_112_61, rg_112_62, rg_112_63, rg_112_64, rg_112_66, rg_112_67, rg_112_68, rg_112_69, rg_112_70, rg_112_71, rg_112_72, rg_112_73, rg_112_74, rg_112_80, rg_112_83, rg_112_84, rg_112_85, rg_112_86, rg_112_90, rg_112_91, rg_112_92, ex5, Option.toList_some, Option.toList_none, List.cons_append, List.nil_append, true_and, and_true, nI_1, p_at, p_set, p_isIn, p_max, p_min, p_abs, i0, i00, i1, i2, hc, nI_ge hkC (show C < 2 ^ 31 by omega), if_false, if_true, j1, j2, h0, e1, e3, e4, d, c1, lg_cmp_eq, lg_cmp_ge, lg_cmp_le, n0, f2, f3, d1, hM2, hMl, g1]
            exact Iff.rfl
        · have e : rfN rs (V 0 p) T (c + 1) k = rfN rs (V 0 p) T c (k + 1) := if_neg (fun z => f z.2)
          have n0 : (lZ (T k) = 1) = False := by rw [o2.resolve_right f]; exact eq_false (by decide)
          obtain ⟨G2, L2, r1, r2⟩ := ih (k + 1) G1 L1 (by omega) p1 p2 p3 p4
          refine ⟨G2, L2, fun r => ?_, r2⟩
          rw [x278_7, e]
          simp only [x278_0, x278_1, x278_2, x278_5, x278_6, x278_8, x278_9, x278_12, x278_13, x278_14, x278_17, x278_18, x278_21, x278_22, x278_23, x278_24, x278_27, x278_28, x278_29, x278_32, x278_33, x278_34, x278_37, x278_38, x278_39, x278_40, x278_43, x278_44, x278_45, x278_48, x278_49, x278_50, x278_53, x278_56, x278_57, x278_58, x278_61, x278_62, x278_63, x278_64, x278_67, x278_68, x278_69, x278_72, x278_73, x278_74, x278_75, x278_76, x278_79, x278_80, x278_83, x278_84, x278_85, x278_88, x278_89, x278_90, x278_93, x278_94, x278_97, x278_100, x278_101, x278_102, x278_103, x278_106, x278_109, x278_110, x278_113, x278_114, x278_115, sh_112, sh_113, sh_114, sh_115, sh_116, sh_117, sh_118, sh_119, sh_120, sh_121, sh_122, sh_123, sh_124, sh_125, sh_126, sh_127, sh_128, sh_129, sh_130, sh_131, sh_132, sh_133, sh_134, sh_135, sh_136, sh_137, sh_138, sh_139, sh_140, sh_141, sh_142, sh_143, sh_144, sh_145, sh_146, sh_147, sh_148, sh_149, sh_150, sh_151, sh_152, sh_153, sh_154, sh_155, sh_156, sh_157, sh_158, sh_159, sh_160, sh_161, sh_162, sh_163, sh_164, sh_165, sh_166, sh_167, sh_168, sh_169, sh_170, sh_171, sh_172, sh_173, sh_174, sh_175, sh_176, sh_177, sh_178, lq_112, lq_113, lq_114, lq_115, lq_116, lq_117, lq_118, lq_119, lq_120, lq_121, lq_122, lq_123, lq_124, lq_125, lq_126, lq_127, lq_128, lq_129, lq_130, lq_131, lq_132, lq_133, lq_134, lq_135, lq_136, lq_137, lq_138, lq_139, lq_140, lq_141, lq_142, lq_143, lq_144, lq_145, lq_146, lq_147, lq_148, lq_149, lq_150, lq_151, lq_152, lq_153, lq_154, lq_155, lq_156, lq_157, lq_158, lq_159, lq_160, lq_161, lq_162, lq_163, lq_164, lq_165, lq_166, lq_167, lq_168, lq_169, lq_170, lq_171, lq_172, lq_173, lq_174, lq_175, lq_176, lq_177, lq_178, rg_112_0, rg_112_9, rg_112_10, rg_112_11, rg_112_12, rg_112_13, rg_112_14, rg_112_15, rg_112_16, rg_112_17, rg_112_18, rg_112_19, rg_112_20, rg_112_21, rg_112_22, rg_112_23, rg_112_24, rg_112_25, rg_112_26, rg_112_27, rg_112_28, rg_112_29, rg_112_30, rg_112_31, rg_112_32, rg_112_33, rg_112_34, rg_112_35, rg_112_36, rg_112_37, rg_112_38, rg_112_39, rg_112_40, rg_112_41, rg_112_43, rg_112_44, rg_112_45, rg_112_46, rg_112_47, rg_112_48, rg_112_49, rg_112_51, rg_112_55, rg_112_57, rg_112_60, rg_112_61, rg_112_62, rg_112_63, rg_112_64, rg_112_66, rg_112_67, rg_112_68, rg_112_69, rg_112_70, rg_112_71, rg_112_72, rg_112_73, rg_112_74, rg_112_80, rg_112_83, rg_112_84, rg_112_85, rg_112_86, rg_112_90, rg_112_91, rg_112_92, ex5, Option.toList_some, Option.toList_none, List.cons_append, List.nil_append, true_and, and_true, nI_1, p_at, p_set, p_isIn, p_max, p_min, p_abs, i0, i00, i1, i2, hc, nI_ge hkC (show C < 2 ^ 31 by omega), if_false, if_true, j1, j2, h0, e1, e3, e4, d, c1, lg_cmp_eq, n0]
          exact r1 r
      · have e : rfN rs (V 0 p) T (c + 1) k = rfN rs (V 0 p) T c (k + 1) := if_neg (fun z => d z.1)
        obtain ⟨G2, L2, r1, r2⟩ := ih (k + 1) G Lk (by omega) q1 q2 q3 q4
        refine ⟨G2, L2, fun r => ?_, r2⟩
        rw [x278_7, e]
        simp only [x278_0, x278_1, x278_2, x278_5, x278_6, x278_8, x278_9, x278_12, x278_13, x278_14, x278_17, x278_18, x278_21, x278_22, x278_23, x278_24, x278_27, x278_28, x278_29, x278_32, x278_33, x278_34, x278_37, x278_38, x278_39, x278_40, x278_43, x278_44, x278_45, x278_48, x278_49, x278_50, x278_53, x278_56, x278_57, x278_58, x278_61, x278_62, x278_63, x278_64, x278_67, x278_68, x278_69, x278_72, x278_73, x278_74, x278_75, x278_76, x278_79, x278_80, x278_83, x278_84, x278_85, x278_88, x278_89, x278_90, x278_93, x278_94, x278_97, x278_100, x278_101, x278_102, x278_103, x278_106, x278_109, x278_110, x278_113, x278_114, x278_115, sh_112, sh_113, sh_114, sh_115, sh_116, sh_117, sh_118, sh_119, sh_120, sh_121, sh_122, sh_123, sh_124, sh_125, sh_126, sh_127, sh_128, sh_129, sh_130, sh_131, sh_132, sh_133, sh_134, sh_135, sh_136, sh_137, sh_138, sh_139, sh_140, sh_141, sh_142, sh_143, sh_144, sh_145, sh_146, sh_147, sh_148, sh_149, sh_150, sh_151, sh_152, sh_153, sh_154, sh_155, sh_156, sh_157, sh_158, sh_159, sh_160, sh_161, sh_162, sh_163, sh_164, sh_165, sh_166, sh_167, sh_168, sh_169, sh_170, sh_171, sh_172, sh_173, sh_174, sh_175, sh_176, sh_177, sh_178, lq_112, lq_113, lq_114, lq_115, lq_116, lq_117, lq_118, lq_119, lq_120, lq_121, lq_122, lq_123, lq_124, lq_125, lq_126, lq_127, lq_128, lq_129, lq_130, lq_131, lq_132, lq_133, lq_134, lq_135, lq_136, lq_137, lq_138, lq_139, lq_140, lq_141, lq_142, lq_143, lq_144, lq_145, lq_146, lq_147, lq_148, lq_149, lq_150, lq_151, lq_152, lq_153, lq_154, lq_155, lq_156, lq_157, lq_158, lq_159, lq_160, lq_161, lq_162, lq_163, lq_164, lq_165, lq_166, lq_167, lq_168, lq_169, lq_170, lq_171, lq_172, lq_173, lq_174, lq_175, lq_176, lq_177, lq_178, rg_112_0, rg_112_9, rg_112_10, rg_112_11, rg_112_12, rg_112_13, rg_112_14, rg_112_15, rg_112_16, rg_112_17, rg_112_18, rg_112_19, rg_112_20, rg_112_21, rg_112_22, rg_112_23, rg_112_24, rg_112_25, rg_112_26, rg_112_27, rg_112_28, rg_112_29, rg_112_30, rg_112_31, rg_112_32, rg_112_33, rg_112_34, rg_112_35, rg_112_36, rg_112_37, rg_112_38, rg_112_39, rg_112_40, rg_112_41, rg_112_43, rg_112_44, rg_112_45, rg_112_46, rg_112_47, rg_112_48, rg_112_49, rg_112_51, rg_112_55, rg_112_57, rg_112_60, rg_112_61, rg_112_62, rg_112_63, rg_112_64, rg_112_66, rg_112_67, rg_112_68, rg_112_69, rg_112_70, rg_112_71, rg_112_72, rg_112_73, rg_112_74, rg_112_80, rg_112_83, rg_112_84, rg_112_85, rg_112_86, rg_112_90, rg_112_91, rg_112_92, ex5, Option.toList_some, Option.toList_none, List.cons_append, List.nil_append, true_and, and_true, nI_1, p_at, p_set, p_isIn, p_max, p_min, p_abs, i0, i00, i1, i2, hc, nI_ge hkC (show C < 2 ^ 31 by omega), if_false, j1, j2, h0, e1, d]
        exact r1 r
  obtain ⟨G, Lk, r1, r2⟩ := key C 0 (up2 I 112 88 (nI p)) Lm (Nat.zero_add C) (fun q hq => funext fun k => up2_p hq) (fun q _ hq => up2_k hq) up2_eq (fun _ _ => rfl)
  refine ⟨G, Lk, fun r => ?_, r2⟩
  rw [em_278]
  simp only [x278_0, x278_1, x278_2, x278_5, x278_6, x278_8, x278_9, x278_12, x278_13, x278_14, x278_17, x278_18, x278_21, x278_22, x278_23, x278_24, x278_27, x278_28, x278_29, x278_32, x278_33, x278_34, x278_37, x278_38, x278_39, x278_40, x278_43, x278_44, x278_45, x278_48, x278_49, x278_50, x278_53, x278_56, x278_57, x278_58, x278_61, x278_62, x278_63, x278_64, x278_67, x278_68, x278_69, x278_72, x278_73, x278_74, x278_75, x278_76, x278_79, x278_80, x278_83, x278_84, x278_85, x278_88, x278_89, x278_90, x278_93, x278_94, x278_97, x278_100, x278_101, x278_102, x278_103, x278_106, x278_109, x278_110, x278_113, x278_114, x278_115, sh_112, sh_113, sh_114, sh_115, sh_116, sh_117, sh_118, sh_119, sh_120, sh_121, sh_122, sh_123, sh_124, sh_125, sh_126, sh_127, sh_128, sh_129, sh_130, sh_131, sh_132, sh_133, sh_134, sh_135, sh_136, sh_137, sh_138, sh_139, sh_140, sh_141, sh_142, sh_143, sh_144, sh_145, sh_146, sh_147, sh_148, sh_149, sh_150, sh_151, sh_152, sh_153, sh_154, sh_155, sh_156, sh_157, sh_158, sh_159, sh_160, sh_161, sh_162, sh_163, sh_164, sh_165, sh_166, sh_167, sh_168, sh_169, sh_170, sh_171, sh_172, sh_173, sh_174, sh_175, sh_176, sh_177, sh_178, lq_112, lq_113, lq_114, lq_115, lq_116, lq_117, lq_118, lq_119, lq_120, lq_121, lq_122, lq_123, lq_124, lq_125, lq_126, lq_127, lq_128, lq_129, lq_130, lq_131, lq_132, lq_133, lq_134, lq_135, lq_136, lq_137, lq_138, lq_139, lq_140, lq_141, lq_142, lq_143, lq_144, lq_145, lq_146, lq_147, lq_148, lq_149, lq_150, lq_151, lq_152, lq_153, lq_154, lq_155, lq_156, lq_157, lq_158, lq_159, lq_160, lq_161, lq_162, lq_163, lq_164, lq_165, lq_166, lq_167, lq_168, lq_169, lq_170, lq_171, lq_172, lq_173, lq_174, lq_175, lq_176, lq_177, lq_178, rg_112_0, rg_112_9, rg_112_10, rg_112_11, rg_112_12, rg_112_13, rg_112_14, rg_112_15, rg_112_16, rg_112_17, rg_112_18, rg_112_19, rg_112_20, rg_112_21, rg_112_22, rg_112_23, rg_112_24, rg_112_25, rg_112_26, rg_112_27, rg_112_28, rg_112_29, rg_112_30, rg_112_31, rg_112_32, rg_112_33, rg_112_34, rg_112_35, rg_112_36, rg_112_37, rg_112_38, rg_112_39, rg_112_40, rg_112_41, rg_112_43, rg_112_44, rg_112_45, rg_112_46, rg_112_47, rg_112_48, rg_112_49, rg_112_51, rg_112_55, rg_112_57, rg_112_60, rg_112_61, rg_112_62, rg_112_63, rg_112_64, rg_112_66, rg_112_67, rg_112_68, rg_112_69, rg_112_70, rg_112_71, rg_112_72, rg_112_73, rg_112_74, rg_112_80, rg_112_83, rg_112_84, rg_112_85, rg_112_86, rg_112_90, rg_112_91, rg_112_92, ex5, Option.toList_some, Option.toList_none, List.cons_append, List.nil_append, true_and, and_true, nI_1, p_at, p_set, p_isIn, p_max, p_min, p_abs]
  exact r1 r
end
