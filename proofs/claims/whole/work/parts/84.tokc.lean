/-! tokens: the class's -/
/-- the k-th token stands right behind a word or a number -/
def stB (T : Nat → Nat) (n : Nat) : Nat → Bool
  | 0 => false
  | k + 1 => (pL (T (frW T n k)) || pD (T (frW T n k))) && decide (teW T n (frW T n k) = frW T n (k + 1))
/-- the first k at which f is v: or n -/
def ixF (f : Nat → Int32) (v : Int32) : Nat → Nat → Nat
  | 0, k => k
  | c + 1, k => if f k = v then k else ixF f v c (k + 1)
def nmN (T : Nat → Nat) (p s : Nat) : Nat → Nat
  | 0 => 0
  | i + 1 => 27 * nmN T p s i + (if i < s then T (p + i) - 96 else 0)
def nbN (T : Nat → Nat) (p : Nat) : Nat → Nat
  | 0 => 0
  | i + 1 => 10 * nbN T p i + (T (p + i) - 48)
def owK (k : Nat) : Int32 := nI (wnm (wdN k))
/-- what a word is: own, or a name -/
def owW (T : Nat → Nat) (p s : Nat) : Nat := if 6 < s then 40 else if ixF owK (nI (nmN T p s 6)) 33 0 = 33 then 40 else ixF owK (nI (nmN T p s 6)) 33 0
def snW (T : Nat → Nat) (n k : Nat) : Nat := teW T n (frW T n k) - frW T n k
/-- what the k-th token is -/
def whW (T : Nat → Nat) (n k : Nat) : Nat := if pL (T (frW T n k)) = true then (if stB T n k = true then 42 else owW T (frW T n k) (snW T n k)) else if pD (T (frW T n k)) = true then (if stB T n k = true then 42 else 41) else 256 + T (frW T n k)
theorem ixF_le {f : Nat → Int32} {v : Int32} : ∀ c k, ixF f v c k ≤ k + c
  | 0, k => Nat.le_refl k
  | c + 1, k => by
    show (if f k = v then k else ixF f v c (k + 1)) ≤ k + (c + 1)
    by_cases d : f k = v
    · rw [if_pos d]; omega
    · rw [if_neg d]; have := ixF_le (f := f) (v := v) c (k + 1); omega
theorem owW_lt {T : Nat → Nat} {p s : Nat} : owW T p s < 41 := by
  unfold owW
  have h := ixF_le (f := owK) (v := nI (nmN T p s 6)) 33 0
  split
  · decide
  · split <;> omega
theorem pL_iff {c : Nat} : pL c = true ↔ 97 ≤ c ∧ c ≤ 122 := decide_eq_true_iff
theorem pD_iff {c : Nat} : pD c = true ↔ 48 ≤ c ∧ c ≤ 57 := decide_eq_true_iff
theorem pL_D {c : Nat} (h : pL c = true) : pD c = false := by
  rw [pL_iff] at h
  exact decide_eq_false (by omega)
theorem pW_iff {c : Nat} : pW c = true ↔ c = 10 ∨ c = 32 := decide_eq_true_iff
/-- the class's tokens: k of them -/
def TK (I : Nat → Nat → Int32) (T : Nat → Nat) (n k : Nat) : Prop := ∀ j, j < k → I 108 j = nI (whW T n j) ∧ I 109 j = nI (frW T n j) ∧ I 110 j = nI (snW T n j) ∧ (pL (T (frW T n j)) = true → I 111 j = nI (nmN T (frW T n j) (snW T n j) 6)) ∧ (pD (T (frW T n j)) = true → I 111 j = nI (nbN T (frW T n j) (min (snW T n j) 4)))
section
variable {L : Nat} {xs : Nat → Int32} {σ : Mm} {r : Option Value × Mm} {I J K : Nat → Nat → Int32} {Lm : Nat → Nat → Int64} {Rm : Nat → Nat → Nat} {n s so t N NS NH m M P nw S U : Nat} {V W : Vw} {sp s2 ai p : Nat} {x y z h v : Int32} {F K : Nat} {T : Nat → Nat} {f : Nat → Int32}
theorem c_isL {c : Nat} (hc : c < 2 ^ 31) (r : Option Value × Mm) : Em L xs 90 [.int (nI c)] σ r ↔ r = (some (.int (if pL c = true then 1 else 0)), σ) := by
  have f1 : (nI c < 97) = (c < 97) := propext (nI_ltI (b := 97) hc (by decide))
  have f2 : (122 < nI c) = (122 < c) := propext (nI_ltI (a := 122) (by decide) hc)
  rw [em_90]
  by_cases a : c < 97
  · rw [if_neg (show ¬ pL c = true from fun z => by have := pL_iff.mp z; omega)]
    simp only [x90_0, x90_1, x90_3, x90_6, x90_7, x90_9, x90_12, x90_13, x90_16, x90_17, f1, f2, a, if_true, true_or, true_and]
  · by_cases b : 122 < c
    · rw [if_neg (show ¬ pL c = true from fun z => by have := pL_iff.mp z; omega)]
      simp only [x90_0, x90_1, x90_3, x90_6, x90_7, x90_9, x90_12, x90_13, x90_16, x90_17, f1, f2, a, b, if_true, if_false, true_or, true_and]
    · rw [if_pos (pL_iff.mpr ⟨by omega, by omega⟩)]
      simp only [x90_0, x90_1, x90_3, x90_6, x90_7, x90_9, x90_12, x90_13, x90_16, x90_17, f1, f2, a, b, if_false, or_true, true_and]
theorem c_isD {c : Nat} (hc : c < 2 ^ 31) (r : Option Value × Mm) : Em L xs 91 [.int (nI c)] σ r ↔ r = (some (.int (if pD c = true then 1 else 0)), σ) := by
  have f1 : (nI c < 48) = (c < 48) := propext (nI_ltI (b := 48) hc (by decide))
  have f2 : (57 < nI c) = (57 < c) := propext (nI_ltI (a := 57) (by decide) hc)
  rw [em_91]
  by_cases a : c < 48
  · rw [if_neg (show ¬ pD c = true from fun z => by have := pD_iff.mp z; omega)]
    simp only [x91_0, x91_1, x91_3, x91_6, x91_7, x91_9, x91_12, x91_13, x91_16, x91_17, f1, f2, a, if_true, true_or, true_and]
  · by_cases b : 57 < c
    · rw [if_neg (show ¬ pD c = true from fun z => by have := pD_iff.mp z; omega)]
      simp only [x91_0, x91_1, x91_3, x91_6, x91_7, x91_9, x91_12, x91_13, x91_16, x91_17, f1, f2, a, b, if_true, if_false, true_or, true_and]
    · rw [if_pos (pD_iff.mpr ⟨by omega, by omega⟩)]
      simp only [x91_0, x91_1, x91_3, x91_6, x91_7, x91_9, x91_12, x91_13, x91_16, x91_17, f1, f2, a, b, if_false, or_true, true_and]
theorem tb_at (hTB : TB I T) {i : Nat} (hi : i < 1600) : atv I 1 (nI i) = nI (T i) := (atv_lt (show i < 1600 from hi)).trans (hTB i hi).1
theorem c_span (hTB : TB I T) {i : Nat} (hn : n ≤ 1600) (hi : i < n) (r : Option Value × Mm) : Em L xs 92 [.ref 1, .int (nI n), .int (nI i)] (179, I, Lm, RG nw sp s2 ai) r ↔ r = (some (.int (nI (teW T n i - i))), 179, I, Lm, RG nw sp s2 ai) := by
  have bT : ∀ j, j < 1600 → T j < 2 ^ 31 := fun j hj => by have := (hTB j hj).2.2; omega
  have aT := fun {j : Nat} hj => tb_at hTB (i := j) hj
  have tg := te_gt (T := T) hi
  have key : ∀ (b1 b2 : Int32) (e : Nat), i < e → e ≤ n → (∀ j, i < j → j < e → (b1 = 1 ∧ pL (T j) = true) ∨ (b1 = 0 ∧ b2 = 1 ∧ pD (T j) = true)) → (e < n → (b1 = 0 ∨ (b1 = 1 ∧ pL (T e) = false)) ∧ (b2 = 0 ∨ (b2 = 1 ∧ pD (T e) = false))) → ∀ d j w, j + d = e → i < j → (Ev L xs 1 92 24 [some (.ref 1), some (.int (nI n)), some (.int (nI i)), some (.int b1), some (.int b2), some (.int (nI j)), w] [] (179, I, Lm, RG nw sp s2 ai) r ↔ r = (some (.int (nI (e - i))), 179, I, Lm, RG nw sp s2 ai)) := by
    intro b1 b2 e h1 h2 h3 h4 d
    induction d with
    | zero =>
      intro j w hj hij
      have ej : j = e := hj
      subst ej
      have es : nI j - nI i = nI (j - i) := pk_sub (by omega)
      by_cases c : j < n
      · obtain ⟨g1, g2⟩ := h4 c
        have cn : (nI n ≤ nI j) = False := eq_false (nI_ge c (by omega))
        have kL := fun r => c_isL (L := L) (xs := xs) (σ := (179, I, Lm, RG nw sp s2 ai)) (bT j (by omega)) r
        have kD := fun r => c_isD (L := L) (xs := xs) (σ := (179, I, Lm, RG nw sp s2 ai)) (bT j (by omega)) r
        rw [x92_24]
        rcases g1 with g1 | ⟨g1, g1b⟩
        · rcases g2 with g2 | ⟨g2, g2b⟩
          · simp only [x92_0, x92_1, x92_2, x92_5, x92_8, x92_9, x92_10, x92_11, x92_14, x92_17, x92_19, x92_20, x92_21, x92_22, x92_26, x92_27, x92_30, x92_31, x92_33, x92_36, x92_38, x92_39, x92_42, x92_44, x92_47, x92_50, x92_52, x92_55, x92_57, x92_60, x92_63, x92_65, x92_66, x92_67, x92_68, x92_71, x92_74, x92_75, x92_76, x92_77, p_at (n := 179) lz_1 ly_1, ex5, Option.toList_some, Option.toList_none, List.cons_append, List.nil_append, true_and, and_true, nI_1, p_at, p_set, p_isIn, p_max, p_min, p_abs, cn, if_false, if_true, aT (show j < 1600 by omega), g1, g2, es]
          · have kF : (pD (T j) = true) = False := eq_false (by rw [g2b]; decide)
            simp only [x92_0, x92_1, x92_2, x92_5, x92_8, x92_9, x92_10, x92_11, x92_14, x92_17, x92_19, x92_20, x92_21, x92_22, x92_26, x92_27, x92_30, x92_31, x92_33, x92_36, x92_38, x92_39, x92_42, x92_44, x92_47, x92_50, x92_52, x92_55, x92_57, x92_60, x92_63, x92_65, x92_66, x92_67, x92_68, x92_71, x92_74, x92_75, x92_76, x92_77, p_at (n := 179) lz_1 ly_1, ex5, Option.toList_some, Option.toList_none, List.cons_append, List.nil_append, true_and, and_true, nI_1, p_at, p_set, p_isIn, p_max, p_min, p_abs, cn, if_false, if_true, aT (show j < 1600 by omega), g1, g2, one_ne, kD, kF, es]
        · have kF1 : (pL (T j) = true) = False := eq_false (by rw [g1b]; decide)
          rcases g2 with g2 | ⟨g2, g2b⟩
          · simp only [x92_0, x92_1, x92_2, x92_5, x92_8, x92_9, x92_10, x92_11, x92_14, x92_17, x92_19, x92_20, x92_21, x92_22, x92_26, x92_27, x92_30, x92_31, x92_33, x92_36, x92_38, x92_39, x92_42, x92_44, x92_47, x92_50, x92_52, x92_55, x92_57, x92_60, x92_63, x92_65, x92_66, x92_67, x92_68, x92_71, x92_74, x92_75, x92_76, x92_77, p_at (n := 179) lz_1 ly_1, ex5, Option.toList_some, Option.toList_none, List.cons_append, List.nil_append, true_and, and_true, nI_1, p_at, p_set, p_isIn, p_max, p_min, p_abs, cn, if_false, if_true, aT (show j < 1600 by omega), g1, g2, one_ne, kL, kF1, es]
          · have kF : (pD (T j) = true) = False := eq_false (by rw [g2b]; decide)
            simp only [x92_0, x92_1, x92_2, x92_5, x92_8, x92_9, x92_10, x92_11, x92_14, x92_17, x92_19, x92_20, x92_21, x92_22, x92_26, x92_27, x92_30, x92_31, x92_33, x92_36, x92_38, x92_39, x92_42, x92_44, x92_47, x92_50, x92_52, x92_55, x92_57, x92_60, x92_63, x92_65, x92_66, x92_67, x92_68, x92_71, x92_74, x92_75, x92_76, x92_77, p_at (n := 179) lz_1 ly_1, ex5, Option.toList_some, Option.toList_none, List.cons_append, List.nil_append, true_and, and_true, nI_1, p_at, p_set, p_isIn, p_max, p_min, p_abs, cn, if_false, if_true, aT (show j < 1600 by omega), g1, g2, one_ne, kL, kF1, kD, kF, es]
      · have ej : j = n := by omega
        have cn : (nI n ≤ nI j) = True := eq_true (nI_le (by omega) (by omega))
        have es2 : nI n - nI i = nI (j - i) := by rw [← ej]; exact es
        rw [x92_24]
        simp only [x92_0, x92_1, x92_2, x92_5, x92_8, x92_9, x92_10, x92_11, x92_14, x92_17, x92_19, x92_20, x92_21, x92_22, x92_26, x92_27, x92_30, x92_31, x92_33, x92_36, x92_38, x92_39, x92_42, x92_44, x92_47, x92_50, x92_52, x92_55, x92_57, x92_60, x92_63, x92_65, x92_66, x92_67, x92_68, x92_71, x92_74, x92_75, x92_76, x92_77, cn, if_true, es2]
    | succ d ih =>
      intro j w hj hij
      have cn : (nI n ≤ nI j) = False := eq_false (nI_ge (by omega) (by omega))
      have kL := fun r => c_isL (L := L) (xs := xs) (σ := (179, I, Lm, RG nw sp s2 ai)) (bT j (by omega)) r
      have kD := fun r => c_isD (L := L) (xs := xs) (σ := (179, I, Lm, RG nw sp s2 ai)) (bT j (by omega)) r
      have k := ih (j + 1) (some (.int (nI (T j)))) (by omega) (by omega)
      rw [x92_24]
      rcases h3 j hij (by omega) with ⟨g1, g2⟩ | ⟨g1, g2, g3⟩
      · have kT : (pL (T j) = true) = True := eq_true g2
        simp only [x92_0, x92_1, x92_2, x92_5, x92_8, x92_9, x92_10, x92_11, x92_14, x92_17, x92_19, x92_20, x92_21, x92_22, x92_26, x92_27, x92_30, x92_31, x92_33, x92_36, x92_38, x92_39, x92_42, x92_44, x92_47, x92_50, x92_52, x92_55, x92_57, x92_60, x92_63, x92_65, x92_66, x92_67, x92_68, x92_71, x92_74, x92_75, x92_76, x92_77, p_at (n := 179) lz_1 ly_1, ex5, Option.toList_some, Option.toList_none, List.cons_append, List.nil_append, true_and, and_true, nI_1, p_at, p_set, p_isIn, p_max, p_min, p_abs, cn, if_false, if_true, aT (show j < 1600 by omega), g1, one_ne, kL, kT]
        rw [g1] at k
        exact k
      · have kT : (pD (T j) = true) = True := eq_true g3
        simp only [x92_0, x92_1, x92_2, x92_5, x92_8, x92_9, x92_10, x92_11, x92_14, x92_17, x92_19, x92_20, x92_21, x92_22, x92_26, x92_27, x92_30, x92_31, x92_33, x92_36, x92_38, x92_39, x92_42, x92_44, x92_47, x92_50, x92_52, x92_55, x92_57, x92_60, x92_63, x92_65, x92_66, x92_67, x92_68, x92_71, x92_74, x92_75, x92_76, x92_77, p_at (n := 179) lz_1 ly_1, ex5, Option.toList_some, Option.toList_none, List.cons_append, List.nil_append, true_and, and_true, nI_1, p_at, p_set, p_isIn, p_max, p_min, p_abs, cn, if_false, if_true, aT (show j < 1600 by omega), g1, g2, one_ne, kD, kT]
        rw [g1, g2] at k
        exact k
  have kL := fun r => c_isL (L := L) (xs := xs) (σ := (179, I, Lm, RG nw sp s2 ai)) (bT i (by omega)) r
  have kD := fun r => c_isD (L := L) (xs := xs) (σ := (179, I, Lm, RG nw sp s2 ai)) (bT i (by omega)) r
  have tl := te_le (T := T) hi
  rw [em_92]
  by_cases c : pL (T i) = true
  · have e : teW T n i = rnN pL T n i := if_pos c
    have cD : ¬ pD (T i) = true := by rw [pL_D c]; decide
    have k := key 1 0 (teW T n i) tg tl (fun j a b => Or.inl ⟨rfl, en_in (Nat.le_of_lt a) (by rw [← e]; exact b)⟩) (fun z => ⟨Or.inr ⟨rfl, by rw [e] at z ⊢; exact en_at z⟩, Or.inl rfl⟩) (teW T n i - (i + 1)) (i + 1) none (by omega) (by omega)
    simp only [x92_0, x92_1, x92_2, x92_5, x92_8, x92_9, x92_10, x92_11, x92_14, x92_17, x92_19, x92_20, x92_21, x92_22, x92_26, x92_27, x92_30, x92_31, x92_33, x92_36, x92_38, x92_39, x92_42, x92_44, x92_47, x92_50, x92_52, x92_55, x92_57, x92_60, x92_63, x92_65, x92_66, x92_67, x92_68, x92_71, x92_74, x92_75, x92_76, x92_77, p_at (n := 179) lz_1 ly_1, ex5, Option.toList_some, Option.toList_none, List.cons_append, List.nil_append, true_and, and_true, nI_1, p_at, p_set, p_isIn, p_max, p_min, p_abs, aT (show i < 1600 by omega), kL, kD, c, cD, if_true, if_false]
    exact k
  · by_cases d : pD (T i) = true
    · have e : teW T n i = rnN pD T n i := by unfold teW; rw [if_neg c, if_pos d]
      have k := key 0 1 (teW T n i) tg tl (fun j a b => Or.inr ⟨rfl, rfl, en_in (Nat.le_of_lt a) (by rw [← e]; exact b)⟩) (fun z => ⟨Or.inl rfl, Or.inr ⟨rfl, by rw [e] at z ⊢; exact en_at z⟩⟩) (teW T n i - (i + 1)) (i + 1) none (by omega) (by omega)
      simp only [x92_0, x92_1, x92_2, x92_5, x92_8, x92_9, x92_10, x92_11, x92_14, x92_17, x92_19, x92_20, x92_21, x92_22, x92_26, x92_27, x92_30, x92_31, x92_33, x92_36, x92_38, x92_39, x92_42, x92_44, x92_47, x92_50, x92_52, x92_55, x92_57, x92_60, x92_63, x92_65, x92_66, x92_67, x92_68, x92_71, x92_74, x92_75, x92_76, x92_77, p_at (n := 179) lz_1 ly_1, ex5, Option.toList_some, Option.toList_none, List.cons_append, List.nil_append, true_and, and_true, nI_1, p_at, p_set, p_isIn, p_max, p_min, p_abs, aT (show i < 1600 by omega), kL, kD, c, d, if_true, if_false]
      exact k
    · have e : teW T n i = i + 1 := by unfold teW; rw [if_neg c, if_neg d]
      have k := key 0 0 (teW T n i) tg tl (fun j a b => by omega) (fun _ => ⟨Or.inl rfl, Or.inl rfl⟩) (teW T n i - (i + 1)) (i + 1) none (by omega) (by omega)
      simp only [x92_0, x92_1, x92_2, x92_5, x92_8, x92_9, x92_10, x92_11, x92_14, x92_17, x92_19, x92_20, x92_21, x92_22, x92_26, x92_27, x92_30, x92_31, x92_33, x92_36, x92_38, x92_39, x92_42, x92_44, x92_47, x92_50, x92_52, x92_55, x92_57, x92_60, x92_63, x92_65, x92_66, x92_67, x92_68, x92_71, x92_74, x92_75, x92_76, x92_77, p_at (n := 179) lz_1 ly_1, ex5, Option.toList_some, Option.toList_none, List.cons_append, List.nil_append, true_and, and_true, nI_1, p_at, p_set, p_isIn, p_max, p_min, p_abs, aT (show i < 1600 by omega), kL, kD, c, d, if_false]
      exact k
theorem c_nameAt (hTB : TB I T) {p s : Nat} (hp : p + s ≤ 1600) (hl : ∀ j, j < s → pL (T (p + j)) = true) (r : Option Value × Mm) : Em L xs 95 [.ref 1, .int (nI p), .int (nI s)] (179, I, Lm, RG nw sp s2 ai) r ↔ r = (some (.int (nI (nmN T p s 6))), 179, I, Lm, RG nw sp s2 ai) := by
  have key : ∀ i, i ≤ 6 → (Ev L xs 1 95 5 [some (.ref 1), some (.int (nI p)), some (.int (nI s)), some (.int (nI (nmN T p s i))), some (.int (nI i))] [] (179, I, Lm, RG nw sp s2 ai) r ↔ r = (some (.int (nI (nmN T p s 6))), 179, I, Lm, RG nw sp s2 ai)) := by
    refine up_ind ?_ ?_
    · have e : ((6 : Int32) ≤ nI 6) = True := eq_true (by decide)
      rw [x95_5]
      simp only [x95_0, x95_1, x95_2, x95_3, x95_7, x95_9, x95_12, x95_13, x95_15, x95_16, x95_18, x95_19, x95_22, x95_23, x95_24, x95_26, x95_27, x95_30, x95_32, x95_33, x95_34, x95_35, x95_38, x95_39, x95_40, x95_41, x95_44, x95_47, x95_48, e, if_true]
    · intro i hi ih
      have e : ((6 : Int32) ≤ nI i) = False := eq_false (nI_ge (b := 6) hi (by decide))
      have e2 : nI (nmN T p s i) * 27 = nI (27 * nmN T p s i) := by rw [show nI (nmN T p s i) * 27 = nI (nmN T p s i * 27) from pk_mul _ 27, Nat.mul_comm]
      have es : nmN T p s (i + 1) = 27 * nmN T p s i + (if i < s then T (p + i) - 96 else 0) := rfl
      rw [es] at ih
      by_cases c : i < s
      · have c1 : (nI s ≤ nI i) = False := eq_false (nI_ge c (by omega))
        have hb := pL_iff.mp (hl i c)
        have e3 : nI p + nI i = nI (p + i) := nI_add p i
        have e4 : nI (T (p + i)) - 97 + 1 = nI (T (p + i) - 96) := by
          rw [show nI (T (p + i)) - 97 = nI (T (p + i) - 97) from pk_sub (b := 97) hb.1, nI_1]
          exact congrArg nI (by omega)
        rw [if_pos c] at ih
        rw [x95_5]
        simp only [x95_0, x95_1, x95_2, x95_3, x95_7, x95_9, x95_12, x95_13, x95_15, x95_16, x95_18, x95_19, x95_22, x95_23, x95_24, x95_26, x95_27, x95_30, x95_32, x95_33, x95_34, x95_35, x95_38, x95_39, x95_40, x95_41, x95_44, x95_47, x95_48, p_at (n := 179) lz_1 ly_1, ex5, Option.toList_some, Option.toList_none, List.cons_append, List.nil_append, true_and, and_true, nI_1, p_at, p_set, p_isIn, p_max, p_min, p_abs, e, if_false, e2, c1, e3, tb_at hTB (show p + i < 1600 by omega), e4, nI_add]
        exact ih
      · have c1 : (nI s ≤ nI i) = True := eq_true (nI_le (by omega) (by omega))
        rw [if_neg c] at ih
        have e5 : nI (27 * nmN T p s i) + 0 = nI (27 * nmN T p s i + 0) := nI_add _ 0
        rw [x95_5]
        simp only [x95_0, x95_1, x95_2, x95_3, x95_7, x95_9, x95_12, x95_13, x95_15, x95_16, x95_18, x95_19, x95_22, x95_23, x95_24, x95_26, x95_27, x95_30, x95_32, x95_33, x95_34, x95_35, x95_38, x95_39, x95_40, x95_41, x95_44, x95_47, x95_48, ex5, Option.toList_some, Option.toList_none, List.cons_append, List.nil_append, true_and, and_true, nI_1, p_at, p_set, p_isIn, p_max, p_min, p_abs, e, if_false, e2, c1, if_true, e5]
        exact ih
  have k := key 0 (by omega)
  rw [em_95]
  simp only [x95_0, x95_1, x95_2, x95_3, x95_7, x95_9, x95_12, x95_13, x95_15, x95_16, x95_18, x95_19, x95_22, x95_23, x95_24, x95_26, x95_27, x95_30, x95_32, x95_33, x95_34, x95_35, x95_38, x95_39, x95_40, x95_41, x95_44, x95_47, x95_48]
  exact k
theorem c_numAt (hTB : TB I T) {p s : Nat} (hp : p + s ≤ 1600) (hl : ∀ j, j < s → pD (T (p + j)) = true) (r : Option Value × Mm) : Em L xs 96 [.ref 1, .int (nI p), .int (nI s)] (179, I, Lm, RG nw sp s2 ai) r ↔ r = (some (.int (nI (nbN T p (min s 4)))), 179, I, Lm, RG nw sp s2 ai) := by
  have key : ∀ i, i ≤ min s 4 → (Ev L xs 1 96 5 [some (.ref 1), some (.int (nI p)), some (.int (nI s)), some (.int (nI (nbN T p i))), some (.int (nI i))] [] (179, I, Lm, RG nw sp s2 ai) r ↔ r = (some (.int (nI (nbN T p (min s 4)))), 179, I, Lm, RG nw sp s2 ai)) := by
    refine up_ind ?_ ?_
    · rw [x96_5]
      by_cases c : s ≤ 4
      · have e : (nI s ≤ nI (min s 4)) = True := eq_true (nI_le (by omega) (by omega))
        simp only [x96_0, x96_1, x96_2, x96_3, x96_7, x96_8, x96_11, x96_13, x96_14, x96_17, x96_19, x96_20, x96_21, x96_22, x96_23, x96_25, x96_26, x96_29, x96_30, x96_32, x96_33, x96_34, x96_37, x96_40, x96_41, e, if_true]
      · have e : (nI s ≤ nI (min s 4)) = False := eq_false (nI_ge (by omega) (by omega))
        have e2 : ((4 : Int32) ≤ nI (min s 4)) = True := eq_true (nI_le (a := 4) (by omega) (by omega))
        simp only [x96_0, x96_1, x96_2, x96_3, x96_7, x96_8, x96_11, x96_13, x96_14, x96_17, x96_19, x96_20, x96_21, x96_22, x96_23, x96_25, x96_26, x96_29, x96_30, x96_32, x96_33, x96_34, x96_37, x96_40, x96_41, e, e2, if_true, if_false]
    · intro i hi ih
      have e : (nI s ≤ nI i) = False := eq_false (nI_ge (by omega) (by omega))
      have e2 : ((4 : Int32) ≤ nI i) = False := eq_false (nI_ge (b := 4) (by omega) (by decide))
      have hb := pD_iff.mp (hl i (by omega))
      have e3 : nI p + nI i = nI (p + i) := nI_add p i
      have e4 : (10 : Int32) * nI (nbN T p i) = nI (10 * nbN T p i) := pk_mul 10 _
      have e5 : nI (10 * nbN T p i + T (p + i)) - 48 = nI (nbN T p (i + 1)) := by
        rw [show nI (10 * nbN T p i + T (p + i)) - 48 = nI (10 * nbN T p i + T (p + i) - 48) from pk_sub (b := 48) (by omega)]
        exact congrArg nI (by show _ = 10 * nbN T p i + (T (p + i) - 48); omega)
      rw [x96_5]
      simp only [x96_0, x96_1, x96_2, x96_3, x96_7, x96_8, x96_11, x96_13, x96_14, x96_17, x96_19, x96_20, x96_21, x96_22, x96_23, x96_25, x96_26, x96_29, x96_30, x96_32, x96_33, x96_34, x96_37, x96_40, x96_41, p_at (n := 179) lz_1 ly_1, ex5, Option.toList_some, Option.toList_none, List.cons_append, List.nil_append, true_and, and_true, nI_1, p_at, p_set, p_isIn, p_max, p_min, p_abs, e, e2, if_false, e3, e4, tb_at hTB (show p + i < 1600 by omega), nI_add, e5]
      exact ih
  have k := key 0 (Nat.zero_le _)
  rw [em_96]
  simp only [x96_0, x96_1, x96_2, x96_3, x96_7, x96_8, x96_11, x96_13, x96_14, x96_17, x96_19, x96_20, x96_21, x96_22, x96_23, x96_25, x96_26, x96_29, x96_30, x96_32, x96_33, x96_34, x96_37, x96_40, x96_41]
  exact k
theorem c_indexOf {a : Nat} (ha : a < 179) (h1 : (shp a).1 = 1) (hn : n ≤ (shp a).2) (hf : ∀ i, i < n → I a i = f i) (r : Option Value × Mm) : Em L xs 165 [.ref a, .int (nI n), .int v] (179, I, Lm, RG nw sp s2 ai) r ↔ r = (some (.int (if ixF f v n 0 = n then -1 else nI (ixF f v n 0))), 179, I, Lm, RG nw sp s2 ai) := by
  have hs := shp_small a
  have ha' : (a < 179) = True := eq_true ha
  have n10 : ((1 : Nat) = 0) = False := eq_false Nat.one_ne_zero
  have key : ∀ c k, k + c = n → (Ev L xs 0 165 2 [some (.ref a), some (.int (nI n)), some (.int v), some (.int (nI k))] [] (179, I, Lm, RG nw sp s2 ai) r ↔ r = (some (.int (if ixF f v c k = n then -1 else nI (ixF f v c k))), 179, I, Lm, RG nw sp s2 ai)) := by
    intro c
    induction c with
    | zero =>
      intro k hk
      have e : ixF f v 0 k = n := hk
      rw [x165_2, if_pos e]
      simp only [x165_0, x165_1, x165_3, x165_4, x165_7, x165_8, x165_9, x165_10, x165_13, x165_14, x165_15, x165_16, x165_17, x165_20, x165_21, x165_22, x165_25, x165_28, x165_29, nI_le (show n ≤ k by omega) (show k < 2 ^ 31 by omega), if_true]
    | succ c ih =>
      intro k hk
      have hkn : k < n := by omega
      have e1 : (nI n ≤ nI k) = False := eq_false (nI_ge hkn (by omega))
      have e2 : (Int32.ofNat (shp a).2 ≤ nI k) = False := eq_false (nI_ge (show k < (shp a).2 by omega) (by omega))
      have i1 : inb (nI k) (shp a).2 = True := inb_i (by omega) (by omega)
      have i2 : ixn (nI k) = k := ixn_nI (by omega)
      have e3 := hf k hkn
      by_cases d : f k = v
      · have e : ixF f v (c + 1) k = k := if_pos d
        rw [x165_2, e, if_neg (show ¬ k = n by omega)]
        simp only [x165_0, x165_1, x165_3, x165_4, x165_7, x165_8, x165_9, x165_10, x165_13, x165_14, x165_15, x165_16, x165_17, x165_20, x165_21, x165_22, x165_25, x165_28, x165_29, ex5, Option.toList_some, Option.toList_none, List.cons_append, List.nil_append, true_and, and_true, nI_1, p_at, p_set, p_isIn, p_max, p_min, p_abs, e1, e2, if_false, ha', h1, ne_eq, n10, not_false_eq_true, i1, i2, e3, d, if_true]
      · have e : ixF f v (c + 1) k = ixF f v c (k + 1) := if_neg d
        have kk := ih (k + 1) (by omega)
        rw [x165_2, e]
        simp only [x165_0, x165_1, x165_3, x165_4, x165_7, x165_8, x165_9, x165_10, x165_13, x165_14, x165_15, x165_16, x165_17, x165_20, x165_21, x165_22, x165_25, x165_28, x165_29, ex5, Option.toList_some, Option.toList_none, List.cons_append, List.nil_append, true_and, and_true, nI_1, p_at, p_set, p_isIn, p_max, p_min, p_abs, e1, e2, if_false, ha', h1, ne_eq, n10, not_false_eq_true, i1, i2, e3, d]
        exact kk
  have k := key n 0 (Nat.zero_add n)
  rw [em_165]
  simp only [x165_0, x165_1, x165_3, x165_4, x165_7, x165_8, x165_9, x165_10, x165_13, x165_14, x165_15, x165_16, x165_17, x165_20, x165_21, x165_22, x165_25, x165_28, x165_29]
  exact k
end
