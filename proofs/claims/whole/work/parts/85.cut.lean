/-! tokens: the class cuts the tape -/
theorem whW_lt {T : Nat → Nat} {n k : Nat} (h : T (frW T n k) ≤ 255) : whW T n k < 512 ∧ (whW T n k < 256 ↔ (pL (T (frW T n k)) = true ∨ pD (T (frW T n k)) = true)) := by
  unfold whW
  by_cases c : pL (T (frW T n k)) = true
  · rw [if_pos c]
    have h1 := owW_lt (T := T) (p := frW T n k) (s := snW T n k)
    by_cases d : stB T n k = true
    · rw [if_pos d]; exact ⟨by omega, fun _ => Or.inl c, fun _ => by omega⟩
    · rw [if_neg d]; exact ⟨by omega, fun _ => Or.inl c, fun _ => by omega⟩
  · rw [if_neg c]
    by_cases e : pD (T (frW T n k)) = true
    · rw [if_pos e]
      by_cases d : stB T n k = true
      · rw [if_pos d]; exact ⟨by omega, fun _ => Or.inr e, fun _ => by omega⟩
      · rw [if_neg d]; exact ⟨by omega, fun _ => Or.inr e, fun _ => by omega⟩
    · rw [if_neg e]
      exact ⟨by omega, fun z => by omega, fun z => (z.elim c e).elim⟩
theorem stB_s {T : Nat → Nat} {n k : Nat} : stB T n (k + 1) = true ↔ (pL (T (frW T n k)) = true ∨ pD (T (frW T n k)) = true) ∧ teW T n (frW T n k) = frW T n (k + 1) := by
  show ((pL (T (frW T n k)) || pD (T (frW T n k))) && decide (teW T n (frW T n k) = frW T n (k + 1))) = true ↔ _
  rw [Bool.and_eq_true, Bool.or_eq_true, decide_eq_true_iff]
theorem te_in {T : Nat → Nat} {n i j : Nat} (h : pL (T i) = true) (h1 : i ≤ j) (h2 : j < teW T n i) : pL (T j) = true := by
  rw [show teW T n i = rnN pL T n i from if_pos h] at h2
  exact en_in h1 h2
theorem te_inD {T : Nat → Nat} {n i j : Nat} (hL : ¬ pL (T i) = true) (h : pD (T i) = true) (h1 : i ≤ j) (h2 : j < teW T n i) : pD (T j) = true := by
  rw [show teW T n i = rnN pD T n i by unfold teW; rw [if_neg hL, if_pos h]] at h2
  exact en_in h1 h2
section
variable {L : Nat} {xs : Nat → Int32} {σ : Mm} {r : Option Value × Mm} {I J K : Nat → Nat → Int32} {Lm : Nat → Nat → Int64} {Rm : Nat → Nat → Nat} {n s so t N NS NH m M P nw S U : Nat} {V W : Vw} {sp s2 ai p : Nat} {x y z h v : Int32} {F K k : Nat} {T : Nat → Nat}
theorem c_stuck (hTB : TB I T) (hn : n ≤ 1600) (hk : ∀ j, j < k → frW T n j < n) (h5 : I 106 5 = nI k) (hTK : TK I T n k) (r : Option Value × Mm) : Em L xs 94 [.ref 106, .int (nI (frW T n k))] (179, I, Lm, RG nw sp s2 ai) r ↔ r = (some (.int (if stB T n k = true then 1 else 0)), 179, I, Lm, RG nw sp s2 ai) := by
  have hfr := fr_le (T := T) (n := n) k
  have hk1 := fr_ge k hk
  rw [em_94]
  cases k with
  | zero =>
    have e : nI 0 - 1 < (0 : Int32) := by decide
    have e2 : (nI 0 - 1 < (0 : Int32)) = True := eq_true e
    simp only [x94_0, x94_1, x94_4, x94_5, x94_6, x94_7, x94_8, x94_11, x94_12, x94_15, x94_16, x94_19, x94_22, x94_25, x94_26, x94_29, x94_30, x94_33, x94_34, x94_37, x94_38, x94_41, x94_42, x94_43, x94_46, x94_47, x94_50, x94_51, sh_106, lq_106, sh_107, lq_107, sh_108, lq_108, sh_109, lq_109, sh_110, lq_110, sh_111, lq_111, rg_106_0, rg_106_1, rg_106_2, rg_106_3, rg_106_4, ex5, Option.toList_some, Option.toList_none, List.cons_append, List.nil_append, true_and, and_true, nI_1, p_at, p_set, p_isIn, p_max, p_min, p_abs, h5, e2, if_true]
    exact and_iff_right (Or.inl trivial)
  | succ k =>
    obtain ⟨t1, t2, t3, -, -⟩ := hTK k (Nat.lt_succ_self k)
    have hlt := hk k (Nat.lt_succ_self k)
    have hw := whW_lt (n := n) (k := k) (hTB (frW T n k) (by omega)).2.2
    have tl := te_le (T := T) hlt
    have tg := te_gt (T := T) hlt
    have e1 : nI (k + 1) - 1 = nI k := nI_pred k
    have e2 : (nI k < (0 : Int32)) = False := eq_false (nI_pos (by omega))
    have a8 : atv I 108 (nI k) = nI (whW T n k) := (atv_lt (show k < 1601 by omega)).trans t1
    have a9 : atv I 109 (nI k) = nI (frW T n k) := (atv_lt (show k < 1601 by omega)).trans t2
    have a10 : atv I 110 (nI k) = nI (snW T n k) := (atv_lt (show k < 1601 by omega)).trans t3
    have e3 : nI (frW T n k) + nI (snW T n k) = nI (teW T n (frW T n k)) := by rw [nI_add]; exact congrArg nI (by unfold snW; omega)
    by_cases c : pL (T (frW T n k)) = true ∨ pD (T (frW T n k)) = true
    · have e4 : ((256 : Int32) ≤ nI (whW T n k)) = False := eq_false (nI_ge (b := 256) (hw.2.mpr c) (by decide))
      by_cases d : teW T n (frW T n k) = frW T n (k + 1)
      · have e5 : (nI (teW T n (frW T n k)) = nI (frW T n (k + 1))) = True := eq_true (congrArg nI d)
        rw [if_pos (stB_s.mpr ⟨c, d⟩)]
        simp only [x94_0, x94_1, x94_4, x94_5, x94_6, x94_7, x94_8, x94_11, x94_12, x94_15, x94_16, x94_19, x94_22, x94_25, x94_26, x94_29, x94_30, x94_33, x94_34, x94_37, x94_38, x94_41, x94_42, x94_43, x94_46, x94_47, x94_50, x94_51, sh_106, lq_106, sh_107, lq_107, sh_108, lq_108, sh_109, lq_109, sh_110, lq_110, sh_111, lq_111, rg_106_0, rg_106_1, rg_106_2, rg_106_3, rg_106_4, p_at (n := 179) (a := 107) (by decide) rfl, p_at (n := 179) (a := 108) (by decide) rfl, p_at (n := 179) (a := 109) (by decide) rfl, p_at (n := 179) (a := 110) (by decide) rfl, p_at (n := 179) (a := 111) (by decide) rfl, p_set (n := 179) (a := 108) (by decide) rfl, p_set (n := 179) (a := 109) (by decide) rfl, p_set (n := 179) (a := 110) (by decide) rfl, p_set (n := 179) (a := 111) (by decide) rfl, p_at (n := 179) lz_1 ly_1, ex5, Option.toList_some, Option.toList_none, List.cons_append, List.nil_append, true_and, and_true, nI_1, p_at, p_set, p_isIn, p_max, p_min, p_abs, h5, e1, e2, if_false, a8, e4, a9, a10, e3, e5, if_true]
        exact and_iff_right (Or.inr trivial)
      · have e5 : (nI (teW T n (frW T n k)) = nI (frW T n (k + 1))) = False := eq_false (fun z => d ((nI_eq (by omega) (by omega)).mp z))
        rw [if_neg (fun z => d (stB_s.mp z).2)]
        simp only [x94_0, x94_1, x94_4, x94_5, x94_6, x94_7, x94_8, x94_11, x94_12, x94_15, x94_16, x94_19, x94_22, x94_25, x94_26, x94_29, x94_30, x94_33, x94_34, x94_37, x94_38, x94_41, x94_42, x94_43, x94_46, x94_47, x94_50, x94_51, sh_106, lq_106, sh_107, lq_107, sh_108, lq_108, sh_109, lq_109, sh_110, lq_110, sh_111, lq_111, rg_106_0, rg_106_1, rg_106_2, rg_106_3, rg_106_4, p_at (n := 179) (a := 107) (by decide) rfl, p_at (n := 179) (a := 108) (by decide) rfl, p_at (n := 179) (a := 109) (by decide) rfl, p_at (n := 179) (a := 110) (by decide) rfl, p_at (n := 179) (a := 111) (by decide) rfl, p_set (n := 179) (a := 108) (by decide) rfl, p_set (n := 179) (a := 109) (by decide) rfl, p_set (n := 179) (a := 110) (by decide) rfl, p_set (n := 179) (a := 111) (by decide) rfl, p_at (n := 179) lz_1 ly_1, ex5, Option.toList_some, Option.toList_none, List.cons_append, List.nil_append, true_and, and_true, nI_1, p_at, p_set, p_isIn, p_max, p_min, p_abs, h5, e1, e2, if_false, a8, e4, a9, a10, e3, e5]
        exact and_iff_right (Or.inl trivial)
    · have e4 : ((256 : Int32) ≤ nI (whW T n k)) = True := eq_true (nI_le (a := 256) (Nat.le_of_not_lt (fun z => c (hw.2.mp z))) (by omega))
      rw [if_neg (fun z => c (stB_s.mp z).1)]
      simp only [x94_0, x94_1, x94_4, x94_5, x94_6, x94_7, x94_8, x94_11, x94_12, x94_15, x94_16, x94_19, x94_22, x94_25, x94_26, x94_29, x94_30, x94_33, x94_34, x94_37, x94_38, x94_41, x94_42, x94_43, x94_46, x94_47, x94_50, x94_51, sh_106, lq_106, sh_107, lq_107, sh_108, lq_108, sh_109, lq_109, sh_110, lq_110, sh_111, lq_111, rg_106_0, rg_106_1, rg_106_2, rg_106_3, rg_106_4, p_at (n := 179) (a := 107) (by decide) rfl, p_at (n := 179) (a := 108) (by decide) rfl, p_at (n := 179) (a := 109) (by decide) rfl, p_at (n := 179) (a := 110) (by decide) rfl, p_at (n := 179) (a := 111) (by decide) rfl, p_set (n := 179) (a := 108) (by decide) rfl, p_set (n := 179) (a := 109) (by decide) rfl, p_set (n := 179) (a := 110) (by decide) rfl, p_set (n := 179) (a := 111) (by decide) rfl, p_at (n := 179) lz_1 ly_1, ex5, Option.toList_some, Option.toList_none, List.cons_append, List.nil_append, true_and, and_true, nI_1, p_at, p_set, p_isIn, p_max, p_min, p_abs, h5, e1, e2, if_false, a8, e4, if_true]
      exact and_iff_right (Or.inl trivial)
theorem c_addT (hTB : TB I T) (hKT : KT I) (hn : n ≤ 1600) (hk : ∀ j, j ≤ k → frW T n j < n) (h5 : I 106 5 = nI k) (hTK : TK I T n k) : ∃ J, (∀ r, Em L xs 93 [.ref 106, .ref 1, .int (nI (frW T n k)), .int (nI (snW T n k))] (179, I, Lm, RG nw sp s2 ai) r ↔ r = (none, 179, J, Lm, RG nw sp s2 ai)) ∧ J 106 5 = nI (k + 1) ∧ TK J T n (k + 1) ∧ (∀ q, q ≠ 106 → q ≠ 108 → q ≠ 109 → q ≠ 110 → q ≠ 111 → J q = I q) ∧ (∀ j, j ≠ 5 → J 106 j = I 106 j) := by
  have hlt := hk k (Nat.le_refl k)
  have hge := fr_ge k (fun j hj => hk j (Nat.le_of_lt hj))
  have tl := te_le (T := T) hlt
  have tg := te_gt (T := T) hlt
  have hb := (hTB (frW T n k) (by omega)).2.2
  have a1 := tb_at hTB (show frW T n k < 1600 by omega)
  have st := fun r => c_stuck (L := L) (xs := xs) (Lm := Lm) (nw := nw) (sp := sp) (s2 := s2) (ai := ai) hTB hn (fun j hj => hk j (Nat.le_of_lt hj)) h5 hTK r
  have kL := fun r => c_isL (L := L) (xs := xs) (σ := (179, I, Lm, RG nw sp s2 ai)) (show T (frW T n k) < 2 ^ 31 by omega) r
  have kD := fun r => c_isD (L := L) (xs := xs) (σ := (179, I, Lm, RG nw sp s2 ai)) (show T (frW T n k) < 2 ^ 31 by omega) r
  have s8 : ∀ (J : Nat → Nat → Int32) v, setv J 108 (nI k) v = up2 J 108 k v := fun J v => setv_lt (show k < 1601 by omega)
  have s9 : ∀ (J : Nat → Nat → Int32) v, setv J 109 (nI k) v = up2 J 109 k v := fun J v => setv_lt (show k < 1601 by omega)
  have s10 : ∀ (J : Nat → Nat → Int32) v, setv J 110 (nI k) v = up2 J 110 k v := fun J v => setv_lt (show k < 1601 by omega)
  have s11 : ∀ (J : Nat → Nat → Int32) v, setv J 111 (nI k) v = up2 J 111 k v := fun J v => setv_lt (show k < 1601 by omega)
  have u8 : ∀ (J : Nat → Nat → Int32) v, up2 J 108 k v 106 5 = J 106 5 := fun J v => up2_p (by decide)
  have u9 : ∀ (J : Nat → Nat → Int32) v, up2 J 109 k v 106 5 = J 106 5 := fun J v => up2_p (by decide)
  have u10 : ∀ (J : Nat → Nat → Int32) v, up2 J 110 k v 106 5 = J 106 5 := fun J v => up2_p (by decide)
  have u11 : ∀ (J : Nat → Nat → Int32) v, up2 J 111 k v 106 5 = J 106 5 := fun J v => up2_p (by decide)
  -- what the end does
  have fin : ∀ (J : Nat → Nat → Int32), J 106 5 = nI k → J 108 k = nI (whW T n k) → (pL (T (frW T n k)) = true → J 111 k = nI (nmN T (frW T n k) (snW T n k) 6)) → (pD (T (frW T n k)) = true → J 111 k = nI (nbN T (frW T n k) (min (snW T n k) 4))) → (∀ q, q ≠ 106 → q ≠ 108 → q ≠ 109 → q ≠ 110 → q ≠ 111 → J q = I q) → (∀ j, j ≠ 5 → J 106 j = I 106 j) → (∀ q j, j ≠ k → q = 108 ∨ q = 109 ∨ q = 110 ∨ q = 111 → J q j = I q j) →
      (up2 (up2 (up2 J 109 k (nI (frW T n k))) 110 k (nI (snW T n k))) 106 5 (nI (k + 1))) 106 5 = nI (k + 1) ∧ TK (up2 (up2 (up2 J 109 k (nI (frW T n k))) 110 k (nI (snW T n k))) 106 5 (nI (k + 1))) T n (k + 1) ∧ (∀ q, q ≠ 106 → q ≠ 108 → q ≠ 109 → q ≠ 110 → q ≠ 111 → up2 (up2 (up2 J 109 k (nI (frW T n k))) 110 k (nI (snW T n k))) 106 5 (nI (k + 1)) q = I q) ∧ (∀ j, j ≠ 5 → up2 (up2 (up2 J 109 k (nI (frW T n k))) 110 k (nI (snW T n k))) 106 5 (nI (k + 1)) 106 j = I 106 j) := fun J g1 g2 g3 g4 g5 g6 g7 => by
    refine ⟨up2_eq, fun j hj => ?_, fun q q1 q2 q3 q4 q5 => ?_, fun j hj => ?_⟩
    · rw [up2_p (show 108 ≠ 106 by decide), up2_p (show 108 ≠ 110 by decide), up2_p (show 108 ≠ 109 by decide), up2_p (show 109 ≠ 106 by decide), up2_p (show 109 ≠ 110 by decide), up2_p (show 110 ≠ 106 by decide), up2_p (show 111 ≠ 106 by decide), up2_p (show 111 ≠ 110 by decide), up2_p (show 111 ≠ 109 by decide)]
      by_cases e : j = k
      · rw [e, up2_eq, up2_eq]; exact ⟨g2, rfl, rfl, g3, g4⟩
      · rw [up2_k e, up2_k e, up2_p (show 110 ≠ 109 by decide), g7 108 j e (by omega), g7 109 j e (by omega), g7 110 j e (by omega), g7 111 j e (by omega)]
        exact hTK j (by omega)
    · exact (funext fun j => by rw [up2_p q1, up2_p q4, up2_p q3]).trans (g5 q q1 q2 q3 q4 q5)
    · rw [up2_k hj, up2_p (by decide), up2_p (by decide)]; exact g6 j hj
  by_cases c : pL (T (frW T n k)) = true
  · have nm := fun r => c_nameAt (L := L) (xs := xs) (Lm := Lm) (nw := nw) (sp := sp) (s2 := s2) (ai := ai) (p := frW T n k) (s := snW T n k) hTB (by unfold snW; omega) (fun j hj => te_in (n := n) c (by omega) (by unfold snW at hj; omega)) r
    have kT : (pL (T (frW T n k)) = true) = True := eq_true c
    have hw : whW T n k = if stB T n k = true then 42 else owW T (frW T n k) (snW T n k) := if_pos c
    have ix := fun r => c_indexOf (I := I) (n := 33) (a := 107) (v := nI (nmN T (frW T n k) (snW T n k) 6)) (f := owK) (L := L) (xs := xs) (Lm := Lm) (nw := nw) (sp := sp) (s2 := s2) (ai := ai) (by decide) rfl (show 33 ≤ 33 from Nat.le_refl _) (fun i hi => hKT.2 i hi) r
    have n33 : nI 33 = 33 := rfl
    rw [n33] at ix
    have hl33 := ixF_le (f := owK) (v := nI (nmN T (frW T n k) (snW T n k) 6)) 33 0
    refine ⟨_, fun r => ?_, fin (up2 (up2 I 108 k (nI (whW T n k))) 111 k (nI (nmN T (frW T n k) (snW T n k) 6))) ?_ ?_ (fun _ => up2_eq) (fun z => by rw [pL_D c] at z; cases z) (fun q q1 q2 q3 q4 q5 => funext fun j => by rw [up2_p q5, up2_p q2]) (fun j hj => by rw [up2_p (by decide), up2_p (by decide)]) (fun q j hj hq => by unfold up2; rw [if_neg (fun z => hj z.2), if_neg (fun z => hj z.2)])⟩
    · rw [em_93]
      by_cases s6 : 6 < snW T n k
      · have e6 : (nI (snW T n k) ≤ (6 : Int32)) = False := eq_false (nI_ge (a := 6) s6 (by unfold snW; omega))
        have ow : owW T (frW T n k) (snW T n k) = 40 := if_pos s6
        by_cases s : stB T n k = true
        · have w42 : nI (whW T n k) = 42 := by rw [hw, if_pos s]; rfl
          simp only [x93_0, x93_1, x93_2, x93_5, x93_7, x93_8, x93_9, x93_12, x93_14, x93_16, x93_19, x93_22, x93_23, x93_24, x93_25, x93_28, x93_30, x93_31, x93_33, x93_36, x93_37, x93_40, x93_41, x93_44, x93_46, x93_48, x93_51, x93_53, x93_54, x93_57, x93_58, x93_61, x93_63, x93_66, x93_68, x93_71, x93_73, x93_74, x93_77, x93_79, x93_82, x93_84, x93_87, x93_88, x93_91, x93_92, x93_95, x93_97, x93_100, x93_103, x93_105, x93_108, x93_111, x93_112, x93_115, x93_116, x93_119, x93_121, x93_124, x93_126, x93_129, x93_131, x93_134, x93_135, x93_138, x93_139, x93_142, x93_143, x93_144, x93_145, x93_148, x93_151, x93_154, x93_155, x93_158, x93_159, x93_162, x93_165, x93_167, x93_168, x93_171, x93_172, x93_175, x93_176, x93_179, x93_180, x93_183, x93_184, x93_187, x93_188, x93_191, x93_192, x93_195, x93_196, x93_197, x93_200, x93_201, x93_202, x93_205, sh_106, lq_106, sh_107, lq_107, sh_108, lq_108, sh_109, lq_109, sh_110, lq_110, sh_111, lq_111, rg_106_0, rg_106_1, rg_106_2, rg_106_3, rg_106_4, p_at (n := 179) (a := 107) (by decide) rfl, p_at (n := 179) (a := 108) (by decide) rfl, p_at (n := 179) (a := 109) (by decide) rfl, p_at (n := 179) (a := 110) (by decide) rfl, p_at (n := 179) (a := 111) (by decide) rfl, p_set (n := 179) (a := 108) (by decide) rfl, p_set (n := 179) (a := 109) (by decide) rfl, p_set (n := 179) (a := 110) (by decide) rfl, p_set (n := 179) (a := 111) (by decide) rfl, p_at (n := 179) lz_1 ly_1, sh_1, lq_1, ex5, Option.toList_some, Option.toList_none, List.cons_append, List.nil_append, true_and, and_true, nI_1, p_at, p_set, p_isIn, p_max, p_min, p_abs, a1, st, kL, kT, s, if_true, if_false, one_ne, Bool.false_eq_true, nm, e6, h5, s8, u8, w42, s11, u11, s9, u9, s10, u10]
        · have w40 : nI (whW T n k) = 40 := by rw [hw, if_neg s, ow]; rfl
          simp only [x93_0, x93_1, x93_2, x93_5, x93_7, x93_8, x93_9, x93_12, x93_14, x93_16, x93_19, x93_22, x93_23, x93_24, x93_25, x93_28, x93_30, x93_31, x93_33, x93_36, x93_37, x93_40, x93_41, x93_44, x93_46, x93_48, x93_51, x93_53, x93_54, x93_57, x93_58, x93_61, x93_63, x93_66, x93_68, x93_71, x93_73, x93_74, x93_77, x93_79, x93_82, x93_84, x93_87, x93_88, x93_91, x93_92, x93_95, x93_97, x93_100, x93_103, x93_105, x93_108, x93_111, x93_112, x93_115, x93_116, x93_119, x93_121, x93_124, x93_126, x93_129, x93_131, x93_134, x93_135, x93_138, x93_139, x93_142, x93_143, x93_144, x93_145, x93_148, x93_151, x93_154, x93_155, x93_158, x93_159, x93_162, x93_165, x93_167, x93_168, x93_171, x93_172, x93_175, x93_176, x93_179, x93_180, x93_183, x93_184, x93_187, x93_188, x93_191, x93_192, x93_195, x93_196, x93_197, x93_200, x93_201, x93_202, x93_205, sh_106, lq_106, sh_107, lq_107, sh_108, lq_108, sh_109, lq_109, sh_110, lq_110, sh_111, lq_111, rg_106_0, rg_106_1, rg_106_2, rg_106_3, rg_106_4, p_at (n := 179) (a := 107) (by decide) rfl, p_at (n := 179) (a := 108) (by decide) rfl, p_at (n := 179) (a := 109) (by decide) rfl, p_at (n := 179) (a := 110) (by decide) rfl, p_at (n := 179) (a := 111) (by decide) rfl, p_set (n := 179) (a := 108) (by decide) rfl, p_set (n := 179) (a := 109) (by decide) rfl, p_set (n := 179) (a := 110) (by decide) rfl, p_set (n := 179) (a := 111) (by decide) rfl, p_at (n := 179) lz_1 ly_1, sh_1, lq_1, ex5, Option.toList_some, Option.toList_none, List.cons_append, List.nil_append, true_and, and_true, nI_1, p_at, p_set, p_isIn, p_max, p_min, p_abs, a1, st, kL, kT, s, if_true, if_false, one_ne, Bool.false_eq_true, nm, e6, h5, s8, u8, w40, s11, u11, s9, u9, s10, u10]
      · have e6 : (nI (snW T n k) ≤ (6 : Int32)) = True := eq_true (nI_le (b := 6) (by omega) (by decide))
        by_cases s : stB T n k = true
        · have w42 : nI (whW T n k) = 42 := by rw [hw, if_pos s]; rfl
          simp only [x93_0, x93_1, x93_2, x93_5, x93_7, x93_8, x93_9, x93_12, x93_14, x93_16, x93_19, x93_22, x93_23, x93_24, x93_25, x93_28, x93_30, x93_31, x93_33, x93_36, x93_37, x93_40, x93_41, x93_44, x93_46, x93_48, x93_51, x93_53, x93_54, x93_57, x93_58, x93_61, x93_63, x93_66, x93_68, x93_71, x93_73, x93_74, x93_77, x93_79, x93_82, x93_84, x93_87, x93_88, x93_91, x93_92, x93_95, x93_97, x93_100, x93_103, x93_105, x93_108, x93_111, x93_112, x93_115, x93_116, x93_119, x93_121, x93_124, x93_126, x93_129, x93_131, x93_134, x93_135, x93_138, x93_139, x93_142, x93_143, x93_144, x93_145, x93_148, x93_151, x93_154, x93_155, x93_158, x93_159, x93_162, x93_165, x93_167, x93_168, x93_171, x93_172, x93_175, x93_176, x93_179, x93_180, x93_183, x93_184, x93_187, x93_188, x93_191, x93_192, x93_195, x93_196, x93_197, x93_200, x93_201, x93_202, x93_205, sh_106, lq_106, sh_107, lq_107, sh_108, lq_108, sh_109, lq_109, sh_110, lq_110, sh_111, lq_111, rg_106_0, rg_106_1, rg_106_2, rg_106_3, rg_106_4, p_at (n := 179) (a := 107) (by decide) rfl, p_at (n := 179) (a := 108) (by decide) rfl, p_at (n := 179) (a := 109) (by decide) rfl, p_at (n := 179) (a := 110) (by decide) rfl, p_at (n := 179) (a := 111) (by decide) rfl, p_set (n := 179) (a := 108) (by decide) rfl, p_set (n := 179) (a := 109) (by decide) rfl, p_set (n := 179) (a := 110) (by decide) rfl, p_set (n := 179) (a := 111) (by decide) rfl, p_at (n := 179) lz_1 ly_1, sh_1, lq_1, ex5, Option.toList_some, Option.toList_none, List.cons_append, List.nil_append, true_and, and_true, nI_1, p_at, p_set, p_isIn, p_max, p_min, p_abs, a1, st, kL, kT, s, if_true, if_false, one_ne, Bool.false_eq_true, nm, e6, ix, h5, s8, u8, w42, s11, u11, s9, u9, s10, u10]
        · by_cases z : ixF owK (nI (nmN T (frW T n k) (snW T n k) 6)) 33 0 = 33
          · have w40 : nI (whW T n k) = 40 := by rw [hw, if_neg s]; unfold owW; rw [if_neg s6, if_pos z]; rfl
            simp only [x93_0, x93_1, x93_2, x93_5, x93_7, x93_8, x93_9, x93_12, x93_14, x93_16, x93_19, x93_22, x93_23, x93_24, x93_25, x93_28, x93_30, x93_31, x93_33, x93_36, x93_37, x93_40, x93_41, x93_44, x93_46, x93_48, x93_51, x93_53, x93_54, x93_57, x93_58, x93_61, x93_63, x93_66, x93_68, x93_71, x93_73, x93_74, x93_77, x93_79, x93_82, x93_84, x93_87, x93_88, x93_91, x93_92, x93_95, x93_97, x93_100, x93_103, x93_105, x93_108, x93_111, x93_112, x93_115, x93_116, x93_119, x93_121, x93_124, x93_126, x93_129, x93_131, x93_134, x93_135, x93_138, x93_139, x93_142, x93_143, x93_144, x93_145, x93_148, x93_151, x93_154, x93_155, x93_158, x93_159, x93_162, x93_165, x93_167, x93_168, x93_171, x93_172, x93_175, x93_176, x93_179, x93_180, x93_183, x93_184, x93_187, x93_188, x93_191, x93_192, x93_195, x93_196, x93_197, x93_200, x93_201, x93_202, x93_205, sh_106, lq_106, sh_107, lq_107, sh_108, lq_108, sh_109, lq_109, sh_110, lq_110, sh_111, lq_111, rg_106_0, rg_106_1, rg_106_2, rg_106_3, rg_106_4, p_at (n := 179) (a := 107) (by decide) rfl, p_at (n := 179) (a := 108) (by decide) rfl, p_at (n := 179) (a := 109) (by decide) rfl, p_at (n := 179) (a := 110) (by decide) rfl, p_at (n := 179) (a := 111) (by decide) rfl, p_set (n := 179) (a := 108) (by decide) rfl, p_set (n := 179) (a := 109) (by decide) rfl, p_set (n := 179) (a := 110) (by decide) rfl, p_set (n := 179) (a := 111) (by decide) rfl, p_at (n := 179) lz_1 ly_1, sh_1, lq_1, ex5, Option.toList_some, Option.toList_none, List.cons_append, List.nil_append, true_and, and_true, nI_1, p_at, p_set, p_isIn, p_max, p_min, p_abs, a1, st, kL, kT, s, if_true, if_false, one_ne, Bool.false_eq_true, nm, e6, ix, z, h5, s8, u8, w40, s11, u11, s9, u9, s10, u10]
          · have wo : whW T n k = ixF owK (nI (nmN T (frW T n k) (snW T n k) 6)) 33 0 := by rw [hw, if_neg s]; unfold owW; rw [if_neg s6, if_neg z]
            have nm1 : (nI (ixF owK (nI (nmN T (frW T n k) (snW T n k) 6)) 33 0) = -1) = False := eq_false (fun y => absurd (show (0 : Int32) ≤ nI (ixF owK (nI (nmN T (frW T n k) (snW T n k) 6)) 33 0) from nI_pos' (by omega)) (by rw [y]; decide))
            rw [wo]
            simp only [x93_0, x93_1, x93_2, x93_5, x93_7, x93_8, x93_9, x93_12, x93_14, x93_16, x93_19, x93_22, x93_23, x93_24, x93_25, x93_28, x93_30, x93_31, x93_33, x93_36, x93_37, x93_40, x93_41, x93_44, x93_46, x93_48, x93_51, x93_53, x93_54, x93_57, x93_58, x93_61, x93_63, x93_66, x93_68, x93_71, x93_73, x93_74, x93_77, x93_79, x93_82, x93_84, x93_87, x93_88, x93_91, x93_92, x93_95, x93_97, x93_100, x93_103, x93_105, x93_108, x93_111, x93_112, x93_115, x93_116, x93_119, x93_121, x93_124, x93_126, x93_129, x93_131, x93_134, x93_135, x93_138, x93_139, x93_142, x93_143, x93_144, x93_145, x93_148, x93_151, x93_154, x93_155, x93_158, x93_159, x93_162, x93_165, x93_167, x93_168, x93_171, x93_172, x93_175, x93_176, x93_179, x93_180, x93_183, x93_184, x93_187, x93_188, x93_191, x93_192, x93_195, x93_196, x93_197, x93_200, x93_201, x93_202, x93_205, sh_106, lq_106, sh_107, lq_107, sh_108, lq_108, sh_109, lq_109, sh_110, lq_110, sh_111, lq_111, rg_106_0, rg_106_1, rg_106_2, rg_106_3, rg_106_4, p_at (n := 179) (a := 107) (by decide) rfl, p_at (n := 179) (a := 108) (by decide) rfl, p_at (n := 179) (a := 109) (by decide) rfl, p_at (n := 179) (a := 110) (by decide) rfl, p_at (n := 179) (a := 111) (by decide) rfl, p_set (n := 179) (a := 108) (by decide) rfl, p_set (n := 179) (a := 109) (by decide) rfl, p_set (n := 179) (a := 110) (by decide) rfl, p_set (n := 179) (a := 111) (by decide) rfl, p_at (n := 179) lz_1 ly_1, sh_1, lq_1, ex5, Option.toList_some, Option.toList_none, List.cons_append, List.nil_append, true_and, and_true, nI_1, p_at, p_set, p_isIn, p_max, p_min, p_abs, a1, st, kL, kT, s, if_true, if_false, one_ne, Bool.false_eq_true, nm, e6, ix, z, nm1, h5, s8, u8, s11, u11, s9, u9, s10, u10]
    · rw [up2_p (by decide), up2_p (by decide)]; exact h5
    · rw [up2_p (by decide), up2_eq]
  · by_cases d : pD (T (frW T n k)) = true
    · have nb := fun v r => c_numAt (I := up2 I 108 k v) (L := L) (xs := xs) (Lm := Lm) (nw := nw) (sp := sp) (s2 := s2) (ai := ai) (p := frW T n k) (s := snW T n k) (T := T) (fun i hi => by rw [up2_p (by decide), up2_p (by decide)]; exact hTB i hi) (by unfold snW; omega) (fun j hj => te_inD (n := n) c d (by omega) (by unfold snW at hj; omega)) r
      have kF : (pL (T (frW T n k)) = true) = False := eq_false c
      have kT : (pD (T (frW T n k)) = true) = True := eq_true d
      have hw : whW T n k = if stB T n k = true then 42 else 41 := by unfold whW; rw [if_neg c, if_pos d]
      refine ⟨_, fun r => ?_, fin (up2 (up2 I 108 k (nI (whW T n k))) 111 k (nI (nbN T (frW T n k) (min (snW T n k) 4)))) ?_ ?_ (fun z => (c z).elim) (fun _ => up2_eq) (fun q q1 q2 q3 q4 q5 => funext fun j => by rw [up2_p q5, up2_p q2]) (fun j hj => by rw [up2_p (by decide), up2_p (by decide)]) (fun q j hj hq => by unfold up2; rw [if_neg (fun z => hj z.2), if_neg (fun z => hj z.2)])⟩
      · rw [em_93]
        by_cases s : stB T n k = true
        · have w42 : nI (whW T n k) = 42 := by rw [hw, if_pos s]; rfl
          rw [w42]
          simp only [x93_0, x93_1, x93_2, x93_5, x93_7, x93_8, x93_9, x93_12, x93_14, x93_16, x93_19, x93_22, x93_23, x93_24, x93_25, x93_28, x93_30, x93_31, x93_33, x93_36, x93_37, x93_40, x93_41, x93_44, x93_46, x93_48, x93_51, x93_53, x93_54, x93_57, x93_58, x93_61, x93_63, x93_66, x93_68, x93_71, x93_73, x93_74, x93_77, x93_79, x93_82, x93_84, x93_87, x93_88, x93_91, x93_92, x93_95, x93_97, x93_100, x93_103, x93_105, x93_108, x93_111, x93_112, x93_115, x93_116, x93_119, x93_121, x93_124, x93_126, x93_129, x93_131, x93_134, x93_135, x93_138, x93_139, x93_142, x93_143, x93_144, x93_145, x93_148, x93_151, x93_154, x93_155, x93_158, x93_159, x93_162, x93_165, x93_167, x93_168, x93_171, x93_172, x93_175, x93_176, x93_179, x93_180, x93_183, x93_184, x93_187, x93_188, x93_191, x93_192, x93_195, x93_196, x93_197, x93_200, x93_201, x93_202, x93_205, sh_106, lq_106, sh_107, lq_107, sh_108, lq_108, sh_109, lq_109, sh_110, lq_110, sh_111, lq_111, rg_106_0, rg_106_1, rg_106_2, rg_106_3, rg_106_4, p_at (n := 179) (a := 107) (by decide) rfl, p_at (n := 179) (a := 108) (by decide) rfl, p_at (n := 179) (a := 109) (by decide) rfl, p_at (n := 179) (a := 110) (by decide) rfl, p_at (n := 179) (a := 111) (by decide) rfl, p_set (n := 179) (a := 108) (by decide) rfl, p_set (n := 179) (a := 109) (by decide) rfl, p_set (n := 179) (a := 110) (by decide) rfl, p_set (n := 179) (a := 111) (by decide) rfl, p_at (n := 179) lz_1 ly_1, sh_1, lq_1, ex5, Option.toList_some, Option.toList_none, List.cons_append, List.nil_append, true_and, and_true, nI_1, p_at, p_set, p_isIn, p_max, p_min, p_abs, a1, st, kL, kF, kD, kT, s, if_true, if_false, one_ne, Bool.false_eq_true, nb, h5, s8, u8, s11, u11, s9, u9, s10, u10]
        · have w41 : nI (whW T n k) = 41 := by rw [hw, if_neg s]; rfl
          rw [w41]
          simp only [x93_0, x93_1, x93_2, x93_5, x93_7, x93_8, x93_9, x93_12, x93_14, x93_16, x93_19, x93_22, x93_23, x93_24, x93_25, x93_28, x93_30, x93_31, x93_33, x93_36, x93_37, x93_40, x93_41, x93_44, x93_46, x93_48, x93_51, x93_53, x93_54, x93_57, x93_58, x93_61, x93_63, x93_66, x93_68, x93_71, x93_73, x93_74, x93_77, x93_79, x93_82, x93_84, x93_87, x93_88, x93_91, x93_92, x93_95, x93_97, x93_100, x93_103, x93_105, x93_108, x93_111, x93_112, x93_115, x93_116, x93_119, x93_121, x93_124, x93_126, x93_129, x93_131, x93_134, x93_135, x93_138, x93_139, x93_142, x93_143, x93_144, x93_145, x93_148, x93_151, x93_154, x93_155, x93_158, x93_159, x93_162, x93_165, x93_167, x93_168, x93_171, x93_172, x93_175, x93_176, x93_179, x93_180, x93_183, x93_184, x93_187, x93_188, x93_191, x93_192, x93_195, x93_196, x93_197, x93_200, x93_201, x93_202, x93_205, sh_106, lq_106, sh_107, lq_107, sh_108, lq_108, sh_109, lq_109, sh_110, lq_110, sh_111, lq_111, rg_106_0, rg_106_1, rg_106_2, rg_106_3, rg_106_4, p_at (n := 179) (a := 107) (by decide) rfl, p_at (n := 179) (a := 108) (by decide) rfl, p_at (n := 179) (a := 109) (by decide) rfl, p_at (n := 179) (a := 110) (by decide) rfl, p_at (n := 179) (a := 111) (by decide) rfl, p_set (n := 179) (a := 108) (by decide) rfl, p_set (n := 179) (a := 109) (by decide) rfl, p_set (n := 179) (a := 110) (by decide) rfl, p_set (n := 179) (a := 111) (by decide) rfl, p_at (n := 179) lz_1 ly_1, sh_1, lq_1, ex5, Option.toList_some, Option.toList_none, List.cons_append, List.nil_append, true_and, and_true, nI_1, p_at, p_set, p_isIn, p_max, p_min, p_abs, a1, st, kL, kF, kD, kT, s, if_true, if_false, one_ne, Bool.false_eq_true, nb, h5, s8, u8, s11, u11, s9, u9, s10, u10]
      · rw [up2_p (by decide), up2_p (by decide)]; exact h5
      · rw [up2_p (by decide), up2_eq]
    · have kF : (pL (T (frW T n k)) = true) = False := eq_false c
      have kF2 : (pD (T (frW T n k)) = true) = False := eq_false d
      have hw : whW T n k = 256 + T (frW T n k) := by unfold whW; rw [if_neg c, if_neg d]
      have e2 : (256 : Int32) + nI (T (frW T n k)) = nI (whW T n k) := by rw [hw]; exact nI_add 256 _
      refine ⟨_, fun r => ?_, fin (up2 I 108 k (nI (whW T n k))) ?_ up2_eq (fun z => (c z).elim) (fun z => (d z).elim) (fun q q1 q2 q3 q4 q5 => funext fun j => by rw [up2_p q2]) (fun j hj => by rw [up2_p (by decide)]) (fun q j hj hq => by unfold up2; rw [if_neg (fun z => hj z.2)])⟩
      · rw [em_93]
        simp only [x93_0, x93_1, x93_2, x93_5, x93_7, x93_8, x93_9, x93_12, x93_14, x93_16, x93_19, x93_22, x93_23, x93_24, x93_25, x93_28, x93_30, x93_31, x93_33, x93_36, x93_37, x93_40, x93_41, x93_44, x93_46, x93_48, x93_51, x93_53, x93_54, x93_57, x93_58, x93_61, x93_63, x93_66, x93_68, x93_71, x93_73, x93_74, x93_77, x93_79, x93_82, x93_84, x93_87, x93_88, x93_91, x93_92, x93_95, x93_97, x93_100, x93_103, x93_105, x93_108, x93_111, x93_112, x93_115, x93_116, x93_119, x93_121, x93_124, x93_126, x93_129, x93_131, x93_134, x93_135, x93_138, x93_139, x93_142, x93_143, x93_144, x93_145, x93_148, x93_151, x93_154, x93_155, x93_158, x93_159, x93_162, x93_165, x93_167, x93_168, x93_171, x93_172, x93_175, x93_176, x93_179, x93_180, x93_183, x93_184, x93_187, x93_188, x93_191, x93_192, x93_195, x93_196, x93_197, x93_200, x93_201, x93_202, x93_205, sh_106, lq_106, sh_107, lq_107, sh_108, lq_108, sh_109, lq_109, sh_110, lq_110, sh_111, lq_111, rg_106_0, rg_106_1, rg_106_2, rg_106_3, rg_106_4, p_at (n := 179) (a := 107) (by decide) rfl, p_at (n := 179) (a := 108) (by decide) rfl, p_at (n := 179) (a := 109) (by decide) rfl, p_at (n := 179) (a := 110) (by decide) rfl, p_at (n := 179) (a := 111) (by decide) rfl, p_set (n := 179) (a := 108) (by decide) rfl, p_set (n := 179) (a := 109) (by decide) rfl, p_set (n := 179) (a := 110) (by decide) rfl, p_set (n := 179) (a := 111) (by decide) rfl, p_at (n := 179) lz_1 ly_1, sh_1, lq_1, ex5, Option.toList_some, Option.toList_none, List.cons_append, List.nil_append, true_and, and_true, nI_1, p_at, p_set, p_isIn, p_max, p_min, p_abs, a1, st, kL, kF, kD, kF2, if_true, if_false, one_ne, e2, h5, s8, u8, s9, u9, s10, u10]
      · rw [up2_p (by decide)]; exact h5
theorem c_cut (hTB : TB I T) (hKT : KT I) (hn : n ≤ 1600) : ∃ c J, c ≤ n ∧ frW T n c = n ∧ (∀ j, j < c → frW T n j < n) ∧ (∀ r, Em L xs 89 [.ref 106, .ref 1, .int (nI n)] (179, I, Lm, RG nw sp s2 ai) r ↔ r = (none, 179, J, Lm, RG nw sp s2 ai)) ∧ TK J T n c ∧ J 108 c = 43 ∧ J 109 c = nI n ∧ (∀ q, q ≠ 106 → q ≠ 108 → q ≠ 109 → q ≠ 110 → q ≠ 111 → J q = I q) ∧ (∀ j, j ≠ 5 → J 106 j = I 106 j) := by
  obtain ⟨c, c1, c2, c3⟩ := fr_cnt (T := T) (n := n)
  have key : ∀ d P, P + d = n → ∀ k J w4 w5, k ≤ c → skW T n P = frW T n k → P ≤ frW T n k → J 106 5 = nI k → TK J T n k → (∀ q, q ≠ 106 → q ≠ 108 → q ≠ 109 → q ≠ 110 → q ≠ 111 → J q = I q) → (∀ j, j ≠ 5 → J 106 j = I 106 j) → ∃ J' w, (∀ r, Ev L xs 3 89 7 [some (.ref 106), some (.ref 1), some (.int (nI n)), some (.int (nI P)), w4, w5] [] (179, J, Lm, RG nw sp s2 ai) r ↔ Ev L xs 3 89 66 w [] (179, J', Lm, RG nw sp s2 ai) r) ∧ (∃ a b d, w = [some (.ref 106), some (.ref 1), some (.int (nI n)), a, b, d]) ∧ J' 106 5 = nI c ∧ TK J' T n c ∧ (∀ q, q ≠ 106 → q ≠ 108 → q ≠ 109 → q ≠ 110 → q ≠ 111 → J' q = I q) ∧ (∀ j, j ≠ 5 → J' 106 j = I 106 j) := by
    intro d
    induction d using Nat.strongRecOn with
    | _ d ih =>
      intro P hP k J w4 w5 hkc hsk hPf h5 hTK g1 g2
      by_cases hd : P < n
      · have hTB1 : TB J T := fun i hi => by rw [g1 1 (by decide) (by decide) (by decide) (by decide) (by decide), g1 113 (by decide) (by decide) (by decide) (by decide) (by decide)]; exact hTB i hi
        have cn : (nI n ≤ nI P) = False := eq_false (nI_ge hd (by omega))
        have a1 := tb_at hTB1 (show P < 1600 by omega)
        have hb := (hTB P (by omega)).2.2
        by_cases hw : pW (T P) = true
        · obtain ⟨J', w, r1, r2⟩ := ih (d - 1) (by omega) (P + 1) (by omega) k J (some (.int (nI (T P)))) w5 hkc (by rw [← hsk]; exact (en_step hd hw).symm) (by
            by_cases e : P = frW T n k
            · exfalso
              have := fr_nw (T := T) (n := n) k (by omega)
              rw [← e, hw] at this; cases this
            · omega) h5 hTK g1 g2
          refine ⟨J', w, fun r => ?_, r2⟩
          rcases pW_iff.mp hw with e | e
          · have t1 : (nI (T P) = 32) = False := by rw [e]; exact eq_false (by decide)
            have t2 : (nI (T P) = 10) = True := by rw [e]; exact eq_true rfl
            rw [x89_7]
            simp only [x89_0, x89_1, x89_2, x89_5, x89_6, x89_8, x89_9, x89_12, x89_13, x89_14, x89_17, x89_19, x89_21, x89_23, x89_26, x89_28, x89_30, x89_33, x89_34, x89_35, x89_36, x89_39, x89_41, x89_42, x89_43, x89_44, x89_46, x89_49, x89_50, x89_51, x89_53, x89_54, x89_55, x89_58, x89_59, x89_60, x89_63, x89_67, x89_70, x89_71, x89_74, x89_76, x89_79, x89_80, x89_83, x89_84, x89_87, x89_88, x89_91, p_at (n := 179) (a := 107) (by decide) rfl, p_at (n := 179) (a := 108) (by decide) rfl, p_at (n := 179) (a := 109) (by decide) rfl, p_at (n := 179) (a := 110) (by decide) rfl, p_at (n := 179) (a := 111) (by decide) rfl, p_set (n := 179) (a := 108) (by decide) rfl, p_set (n := 179) (a := 109) (by decide) rfl, p_set (n := 179) (a := 110) (by decide) rfl, p_set (n := 179) (a := 111) (by decide) rfl, p_at (n := 179) lz_1 ly_1, ex5, Option.toList_some, Option.toList_none, List.cons_append, List.nil_append, true_and, and_true, nI_1, p_at, p_set, p_isIn, p_max, p_min, p_abs, cn, if_false, a1, t1, t2, if_true]
            exact r1 r
          · have t1 : (nI (T P) = 32) = True := by rw [e]; exact eq_true rfl
            rw [x89_7]
            simp only [x89_0, x89_1, x89_2, x89_5, x89_6, x89_8, x89_9, x89_12, x89_13, x89_14, x89_17, x89_19, x89_21, x89_23, x89_26, x89_28, x89_30, x89_33, x89_34, x89_35, x89_36, x89_39, x89_41, x89_42, x89_43, x89_44, x89_46, x89_49, x89_50, x89_51, x89_53, x89_54, x89_55, x89_58, x89_59, x89_60, x89_63, x89_67, x89_70, x89_71, x89_74, x89_76, x89_79, x89_80, x89_83, x89_84, x89_87, x89_88, x89_91, p_at (n := 179) (a := 107) (by decide) rfl, p_at (n := 179) (a := 108) (by decide) rfl, p_at (n := 179) (a := 109) (by decide) rfl, p_at (n := 179) (a := 110) (by decide) rfl, p_at (n := 179) (a := 111) (by decide) rfl, p_set (n := 179) (a := 108) (by decide) rfl, p_set (n := 179) (a := 109) (by decide) rfl, p_set (n := 179) (a := 110) (by decide) rfl, p_set (n := 179) (a := 111) (by decide) rfl, p_at (n := 179) lz_1 ly_1, ex5, Option.toList_some, Option.toList_none, List.cons_append, List.nil_append, true_and, and_true, nI_1, p_at, p_set, p_isIn, p_max, p_min, p_abs, cn, if_false, a1, t1, if_true]
            exact r1 r
        · have hw' : pW (T P) = false := Bool.eq_false_iff.mpr hw
          have eP : P = frW T n k := by rw [← hsk]; exact (en_stop hw').symm
          have hlt : frW T n k < n := by omega
          have hkc2 : k < c := by
            by_cases e : k = c
            · rw [e, c2] at hlt; omega
            · omega
          obtain ⟨J1, p1, p2, p3, p4, p5⟩ := c_addT (L := L) (xs := xs) (Lm := Lm) (nw := nw) (sp := sp) (s2 := s2) (ai := ai) hTB1 (ktFr hKT (g1 107 (by decide) (by decide) (by decide) (by decide) (by decide)) (fun q h1 h2 => g1 q (by omega) (by omega) (by omega) (by omega) (by omega))) hn (fun j hj => c3 j (by omega)) h5 hTK
          have tg := te_gt (T := T) hlt; have tl := te_le (T := T) hlt
          have em : ∀ z : Nat, z < 2 ^ 31 → (if (0 : Int32) < nI z then nI z else 0) = nI z := fun z hz => by
            by_cases e : 0 < z
            · exact if_pos (cast (nI_gt (a := 0) (by decide) hz).symm e)
            · have e0 : z = 0 := by omega
              subst e0; exact ite_self (nI 0)
          have es : nI P + (if (0 : Int32) < nI (snW T n k) - 1 then nI (snW T n k) - 1 else 0) + 1 = nI (teW T n (frW T n k)) := by
            rw [show nI (snW T n k) - 1 = nI (snW T n k - 1) from pk_sub (b := 1) (by unfold snW; omega), em _ (by unfold snW; omega), nI_add, nI_1]
            exact congrArg nI (by unfold snW; omega)
          obtain ⟨J', w, r1, r2⟩ := ih (n - teW T n (frW T n k)) (by omega) (teW T n (frW T n k)) (by omega) (k + 1) J1 (some (.int (nI (T P)))) (some (.int (nI (snW T n k)))) hkc2 (fr_s hlt).symm (te_fr hlt) p2 p3 (fun q q1 q2 q3 q4 q5 => (p4 q q1 q2 q3 q4 q5).trans (g1 q q1 q2 q3 q4 q5)) (fun j hj => (p5 j hj).trans (g2 j hj))
          have sp1 := fun r => c_span (L := L) (xs := xs) (Lm := Lm) (nw := nw) (sp := sp) (s2 := s2) (ai := ai) hTB1 hn hlt r
          have e10 : (nI (T P) = 10) = False := eq_false (fun z => hw (pW_iff.mpr (Or.inl ((nI_eq (b := 10) (by omega) (by decide)).mp z))))
          have e32 : (nI (T P) = 32) = False := eq_false (fun z => hw (pW_iff.mpr (Or.inr ((nI_eq (b := 32) (by omega) (by decide)).mp z))))
          refine ⟨J', w, fun r => ?_, r2⟩
          rw [← eP] at sp1
          have sp2 : teW T n P - P = snW T n k := by unfold snW; rw [eP]
          rw [sp2] at sp1
          rw [← eP] at p1
          rw [x89_7]
          simp only [x89_0, x89_1, x89_2, x89_5, x89_6, x89_8, x89_9, x89_12, x89_13, x89_14, x89_17, x89_19, x89_21, x89_23, x89_26, x89_28, x89_30, x89_33, x89_34, x89_35, x89_36, x89_39, x89_41, x89_42, x89_43, x89_44, x89_46, x89_49, x89_50, x89_51, x89_53, x89_54, x89_55, x89_58, x89_59, x89_60, x89_63, x89_67, x89_70, x89_71, x89_74, x89_76, x89_79, x89_80, x89_83, x89_84, x89_87, x89_88, x89_91, sh_106, lq_106, sh_107, lq_107, sh_108, lq_108, sh_109, lq_109, sh_110, lq_110, sh_111, lq_111, rg_106_0, rg_106_1, rg_106_2, rg_106_3, rg_106_4, p_at (n := 179) (a := 107) (by decide) rfl, p_at (n := 179) (a := 108) (by decide) rfl, p_at (n := 179) (a := 109) (by decide) rfl, p_at (n := 179) (a := 110) (by decide) rfl, p_at (n := 179) (a := 111) (by decide) rfl, p_set (n := 179) (a := 108) (by decide) rfl, p_set (n := 179) (a := 109) (by decide) rfl, p_set (n := 179) (a := 110) (by decide) rfl, p_set (n := 179) (a := 111) (by decide) rfl, p_at (n := 179) lz_1 ly_1, ex5, Option.toList_some, Option.toList_none, List.cons_append, List.nil_append, true_and, and_true, nI_1, p_at, p_set, p_isIn, p_max, p_min, p_abs, cn, if_false, a1, e10, e32, sp1, p1, es]
          exact r1 r
      · have eP : P = n := by omega
        have ek : k = c := by
          have h1 := fr_le (T := T) (n := n) k
          have h2 : frW T n k = n := by omega
          by_cases e : k < c
          · have := c3 k e; omega
          · omega
        refine ⟨J, [some (.ref 106), some (.ref 1), some (.int (nI n)), some (.int (nI P)), w4, w5], fun r => ?_, ⟨_, _, _, rfl⟩, by rw [← ek]; exact h5, by rw [← ek]; exact hTK, g1, g2⟩
        rw [x89_7]
        simp only [x89_0, x89_1, x89_2, x89_5, x89_6, x89_8, x89_9, x89_12, x89_13, x89_14, x89_17, x89_19, x89_21, x89_23, x89_26, x89_28, x89_30, x89_33, x89_34, x89_35, x89_36, x89_39, x89_41, x89_42, x89_43, x89_44, x89_46, x89_49, x89_50, x89_51, x89_53, x89_54, x89_55, x89_58, x89_59, x89_60, x89_63, x89_67, x89_70, x89_71, x89_74, x89_76, x89_79, x89_80, x89_83, x89_84, x89_87, x89_88, x89_91, nI_le (show n ≤ P by omega) (show P < 2 ^ 31 by omega), if_true]
  obtain ⟨J', w, r1, ⟨a, b, d, hw⟩, r2, r3, r4, r5⟩ := key n 0 (Nat.zero_add n) 0 (up2 I 106 5 0) none none (Nat.zero_le c) rfl (Nat.zero_le _) up2_eq (fun j hj => absurd hj (Nat.not_lt_zero j)) (fun q q1 _ _ _ _ => funext fun j => up2_p q1) (fun j hj => up2_k hj)
  have s8 : ∀ v, setv J' 108 (nI c) v = up2 J' 108 c v := fun v => setv_lt (show c < 1601 by omega)
  have u8 : ∀ v, up2 J' 108 c v 106 5 = nI c := fun v => (up2_p (by decide)).trans r2
  have s9 : ∀ v u, setv (up2 J' 108 c v) 109 (nI c) u = up2 (up2 J' 108 c v) 109 c u := fun v u => setv_lt (show c < 1601 by omega)
  refine ⟨c, up2 (up2 J' 108 c 43) 109 c (nI n), c1, c2, c3, fun r => ?_, fun j hj => ?_, ?_, up2_eq, fun q q1 q2 q3 q4 q5 => ?_, fun j hj => ?_⟩
  · have r1 := r1 r
    rw [em_89]
    simp only [x89_0, x89_1, x89_2, x89_5, x89_6, x89_8, x89_9, x89_12, x89_13, x89_14, x89_17, x89_19, x89_21, x89_23, x89_26, x89_28, x89_30, x89_33, x89_34, x89_35, x89_36, x89_39, x89_41, x89_42, x89_43, x89_44, x89_46, x89_49, x89_50, x89_51, x89_53, x89_54, x89_55, x89_58, x89_59, x89_60, x89_63, x89_67, x89_70, x89_71, x89_74, x89_76, x89_79, x89_80, x89_83, x89_84, x89_87, x89_88, x89_91, sh_106, lq_106, sh_107, lq_107, sh_108, lq_108, sh_109, lq_109, sh_110, lq_110, sh_111, lq_111, rg_106_0, rg_106_1, rg_106_2, rg_106_3, rg_106_4, ex5, Option.toList_some, Option.toList_none, List.cons_append, List.nil_append, true_and, and_true, nI_1, p_at, p_set, p_isIn, p_max, p_min, p_abs]
    refine r1.trans ?_
    rw [hw, x89_66]
    simp only [x89_0, x89_1, x89_2, x89_5, x89_6, x89_8, x89_9, x89_12, x89_13, x89_14, x89_17, x89_19, x89_21, x89_23, x89_26, x89_28, x89_30, x89_33, x89_34, x89_35, x89_36, x89_39, x89_41, x89_42, x89_43, x89_44, x89_46, x89_49, x89_50, x89_51, x89_53, x89_54, x89_55, x89_58, x89_59, x89_60, x89_63, x89_67, x89_70, x89_71, x89_74, x89_76, x89_79, x89_80, x89_83, x89_84, x89_87, x89_88, x89_91, sh_106, lq_106, sh_107, lq_107, sh_108, lq_108, sh_109, lq_109, sh_110, lq_110, sh_111, lq_111, rg_106_0, rg_106_1, rg_106_2, rg_106_3, rg_106_4, p_at (n := 179) (a := 107) (by decide) rfl, p_at (n := 179) (a := 108) (by decide) rfl, p_at (n := 179) (a := 109) (by decide) rfl, p_at (n := 179) (a := 110) (by decide) rfl, p_at (n := 179) (a := 111) (by decide) rfl, p_set (n := 179) (a := 108) (by decide) rfl, p_set (n := 179) (a := 109) (by decide) rfl, p_set (n := 179) (a := 110) (by decide) rfl, p_set (n := 179) (a := 111) (by decide) rfl, p_at (n := 179) lz_1 ly_1, ex5, Option.toList_some, Option.toList_none, List.cons_append, List.nil_append, true_and, and_true, nI_1, p_at, p_set, p_isIn, p_max, p_min, p_abs, r2, s8, u8, s9]
  · rw [up2_p (show 108 ≠ 109 by decide), up2_k (show j ≠ c by omega), up2_k (show j ≠ c by omega), up2_p (show 109 ≠ 108 by decide), up2_p (show 110 ≠ 109 by decide), up2_p (show 110 ≠ 108 by decide), up2_p (show 111 ≠ 109 by decide), up2_p (show 111 ≠ 108 by decide)]
    exact r3 j hj
  · rw [up2_p (by decide), up2_eq]
  · exact (funext fun j => by rw [up2_p q3, up2_p q2]).trans (r4 q q1 q2 q3 q4 q5)
  · rw [up2_p (by decide), up2_p (by decide)]; exact r5 j hj
end
