/-! weeks, the class: slips forgotten, handed out, looked at, pairs, paid -/
def laS (V : Vw) (q : Nat × Nat × (Nat → Int32)) : Nat → Nat × Nat × (Nat → Int32)
  | 0 => q
  | j + 1 => if ¬ V 1 j = -1 ∧ V 2 j < V 10 (ixn (V 1 j)) then (if nI (dwS (laS V q j).1 100) < V 11 (ixn (V 1 j)) then (nxS (laS V q j).1, min 1000000000 ((laS V q j).2.1 + ixn ((laS V q j).2.2 j)), fun p => if p = j then 0 else (laS V q j).2.2 p) else (nxS (laS V q j).1, (laS V q j).2)) else laS V q j
def hpS (V : Vw) (R : Nat → Int32) : Nat → Nat → Int32
  | 0 => R
  | k + 1 => fun p => if p = ixn (V 13 k) then hpS V R k (ixn (V 13 k)) + hpS V R k (ixn (V 14 k)) - (hpS V R k (ixn (V 13 k)) + hpS V R k (ixn (V 14 k))) / 2 else if p = ixn (V 14 k) then (hpS V R k (ixn (V 13 k)) + hpS V R k (ixn (V 14 k))) / 2 else hpS V R k p
/-- what p is paid -/
def pyV (V : Vw) (R : Nat → Int32) (p : Nat) : Int32 := earnV V p - slipV V p + R p
def pdV (V : Vw) (R Pd : Nat → Int32) (p : Nat) : Int32 := nI (min 1000000000 (ixn (Pd p) + ixn (pyV V R p)))
/-- a row of naturals up to b -/
def rwN (b N : Nat) (R : Nat → Int32) : Prop := ∀ p, p < N → ∃ a, a ≤ b ∧ R p = nI a
section
variable {L : Nat} {xs : Nat → Int32} {σ : Mm} {r : Option Value × Mm} {I J K : Nat → Nat → Int32} {Lm : Nat → Nat → Int64} {Rm : Nat → Nat → Nat} {n s so t N NS NH m M P nw S U : Nat} {V W : Vw} {sp s2 ai p : Nat} {x y z h v : Int32}
theorem min_nI {a : Nat} (ha : a < 2 ^ 31) : (if nI a < (1000000000 : Int32) then nI a else 1000000000) = nI (min 1000000000 a) := by
  rw [show (1000000000 : Int32) = nI 1000000000 from rfl]
  by_cases c : a < 1000000000
  · rw [if_pos (nI_lt c (by omega)), Nat.min_eq_right (by omega)]
  · rw [if_neg (nI_nlt (by omega) ha), Nat.min_eq_left (by omega)]
theorem kept_nI (hW : WV V N NS NH) (hp : p < N) (hS : NS ≤ 6) (hH : NH ≤ 4) : ∃ c, c ≤ 5940 ∧ earnV V p - slipV V p = nI c := by
  obtain ⟨a, a1, a2⟩ := earn_nI hW hp hS
  rcases (hW.1 p hp).2.1 with c | c
  · refine ⟨a, a1, ?_⟩
    have e : slipV V p = 0 := by unfold slipV; rw [c]; rfl
    rw [e, a2, Int32.sub_zero]
  · obtain ⟨j, hj, e⟩ := inb_ex c
    obtain ⟨k, k1, k2, k3⟩ := rng_ex (hW.2.2 j hj).1 (by decide)
    obtain ⟨b1, b2⟩ := slipW_nI a1 (show k ≤ 100 by omega)
    have es : slipV V p = nI (a * (100 - k) / 100) := by
      unfold slipV
      rw [e, if_neg (nI_pos (by omega)), ixn_nI (by omega), k3, a2, b1]
    have hle : a * (100 - k) / 100 ≤ a := by
      have h1 : a * (100 - k) ≤ a * 100 := Nat.mul_le_mul_left _ (by omega)
      omega
    exact ⟨a - a * (100 - k) / 100, by omega, by rw [a2, es, pk_sub hle]⟩
theorem c_fill {a : Nat} (ha : a < 179) (h1 : (shp a).1 = 1) : ∃ J, (∀ r, Em L xs 300 [.ref a, .int v] (179, I, Lm, RG nw sp s2 ai) r ↔ r = (none, 179, J, Lm, RG nw sp s2 ai)) ∧ (∀ k, k < (shp a).2 → J a k = v) ∧ (∀ p, p ≠ a → J p = I p) := by
  have hsm := shp_small a
  have h0 : ¬ (shp a).1 = 0 := by rw [h1]; decide
  have key : ∀ j, j ≤ (shp a).2 → ∀ J, (∀ k, k < j → J a k = v) → (∀ p, p ≠ a → J p = I p) → ∃ J', (∀ r, Ev L xs 0 300 5 [some (.ref a), some (.int v), some (.int (nI j)), some (.int (nI (shp a).2))] [] (179, J, Lm, RG nw sp s2 ai) r ↔ r = (none, 179, J', Lm, RG nw sp s2 ai)) ∧ (∀ k, k < (shp a).2 → J' a k = v) ∧ (∀ p, p ≠ a → J' p = I p) := by
    refine up_ind ?_ ?_
    · intro J g1 g2
      refine ⟨J, fun r => ?_, g1, g2⟩
      rw [x300_5]
      simp only [x300_0, x300_1, x300_2, x300_3, x300_4, x300_6, x300_7, x300_10, x300_11, x300_12, x300_13, x300_14, x300_17, x300_20, nI_le (Nat.le_refl (shp a).2) (by omega), if_true]
    · intro j hj ih J g1 g2
      have i1 : inb (nI j) (shp a).2 = True := inb_i hj hsm
      have i2 : ixn (nI j) = j := ixn_nI (by omega)
      obtain ⟨J', r1, r2⟩ := ih (up2 J a j v) (fun k hk => by
        by_cases c : k = j
        · rw [c, up2_eq]
        · rw [up2_k c]; exact g1 k (by omega)) (fun p hp => (funext fun k => up2_p hp : up2 J a j v p = J p).trans (g2 p hp))
      refine ⟨J', fun r => ?_, r2⟩
      rw [x300_5]
      simp only [x300_0, x300_1, x300_2, x300_3, x300_4, x300_6, x300_7, x300_10, x300_11, x300_12, x300_13, x300_14, x300_17, x300_20, nI_ge hj (by omega), if_false, eq_true ha, h1, i1, i2, true_and, nI_1]
      exact r1 r
  obtain ⟨J', r1, r2⟩ := key 0 (Nat.zero_le _) I (fun k hk => absurd hk (Nat.not_lt_zero k)) (fun _ _ => rfl)
  refine ⟨J', fun r => ?_, r2⟩
  have r1 := r1 r
  rw [nI_0] at r1
  rw [em_300]
  simp only [x300_0, x300_1, x300_2, x300_3, x300_4, x300_6, x300_7, x300_10, x300_11, x300_12, x300_13, x300_14, x300_17, x300_20, eq_true ha, h0, ne_eq, not_false_eq_true, true_and]
  exact r1
theorem c_forget : ∃ J, (∀ r, Em L xs 100 [.ref 3] (179, I, Lm, RG nw sp s2 ai) r ↔ r = (none, 179, J, Lm, RG nw sp s2 ai)) ∧ (∀ k, k < 12 → J 6 k = -1) ∧ (∀ p, p ≠ 6 → J p = I p) := by
  obtain ⟨J, j1, j2, j3⟩ := c_fill (I := I) (L := L) (xs := xs) (Lm := Lm) (nw := nw) (sp := sp) (s2 := s2) (ai := ai) (v := -1) lz_6 ly_6
  refine ⟨J, fun r => ?_, j2, j3⟩
  rw [em_100]
  simp only [x100_0, x100_1, x100_4, x100_5, x100_8, sh_3, lq_3, rg_3_2, ex5, Option.toList_some, Option.toList_none, List.cons_append, List.nil_append, true_and, and_true, nI_1, p_at, p_set, p_isIn, p_max, p_min, p_abs, j1]
theorem c_handOut {D : Nat → Int32} (hB : SB nw sp s2 ai s so) (hC : CR I s so N NS NH V) (hs36 : 36 < s) (hW : WV V N NS NH) (hN : N ≤ 12) (h6 : ∀ p, p < N → I 6 p = D p) (hD : ∀ p h, p < N → h < NH → V 1 p = nI h → ¬ 1 < V 12 h → ∃ w, w < N ∧ D p = nI w) : ∃ J, (∀ r, Em L xs 107 [.ref 3, .ref s] (179, I, Lm, RG nw sp s2 ai) r ↔ r = (none, 179, J, Lm, RG nw sp s2 ai)) ∧ (∀ p, p < N → J 4 p = hdV V N D p) ∧ (∀ p, p ≠ 4 → J p = I p) := by
  obtain ⟨hs, ho, hq⟩ := id hB
  have key : ∀ j, j ≤ N → ∀ J, (∀ p, p < j → J 4 p = hdV V N D p) → (∀ p, p ≠ 4 → J p = I p) → ∃ J', (∀ r, Ev L xs 5 107 2 [some (.ref 3), some (.ref s), some (.int (nI j))] [] (179, J, Lm, RG nw sp s2 ai) r ↔ r = (none, 179, J', Lm, RG nw sp s2 ai)) ∧ (∀ p, p < N → J' 4 p = hdV V N D p) ∧ (∀ p, p ≠ 4 → J' p = I p) := by
    have hC' : ∀ {J : Nat → Nat → Int32}, (∀ p, p ≠ 4 → J p = I p) → CR J s so N NS NH V := fun hJ => crFr hC (fun i _ _ _ _ => hJ _ (by omega)) (fun i _ => hJ _ (by rcases ho with rfl | rfl | rfl <;> omega))
    refine up_ind ?_ ?_
    · intro J g1 g2
      have hC1 := hC' g2
      refine ⟨J, fun r => ?_, g1, g2⟩
      rw [x107_2]
      simp only [x107_0, x107_1, x107_3, x107_4, x107_7, x107_10, x107_13, x107_14, x107_17, x107_18, x107_19, x107_20, x107_21, x107_24, x107_27, x107_30, x107_33, sh_s, lq_s, sh_s1, lq_s1, sh_s2, lq_s2, sh_s3, lq_s3, sh_s4, lq_s4, sh_s5, lq_s5, sh_s6, lq_s6, sh_s7, lq_s7, sh_s8, lq_s8, sh_s9, lq_s9, sh_s10, lq_s10, sh_s11, lq_s11, sh_s12, lq_s12, sh_s13, lq_s13, sh_s14, lq_s14, sh_s15, lq_s15, sh_s16, lq_s16, sh_s17, lq_s17, sh_s18, lq_s18, sh_s19, lq_s19, sh_s20, lq_s20, sh_s21, lq_s21, sh_s22, lq_s22, sh_s23, lq_s23, sh_s24, lq_s24, sh_s25, lq_s25, rg_s0_0, rg_s0_1, rg_s0_2, rg_s0_3, rg_s1_0, rg_s1_1, rg_s1_2, rg_s1_3, rg_s1_4, rg_s7_0, rg_s9_0, rg_s9_1, rg_s9_2, rg_s9_3, rg_s9_4, rg_s9_5, rg_s16_6, rg_s16_7, rg_s16_0, rg_s16_1, rg_s16_2, rg_s16_3, rg_s16_4, rg_s16_5, sh_o, lq_o, sh_o1, lq_o1, sh_o2, lq_o2, sh_o3, lq_o3, sh_o4, lq_o4, sh_o5, lq_o5, sh_o6, lq_o6, rg_o0, rg_o1, rg_o2, rg_o3, rg_o4, rg_o5, ex5, Option.toList_some, Option.toList_none, List.cons_append, List.nil_append, true_and, and_true, nI_1, p_at, p_set, p_isIn, p_max, p_min, p_abs, hs, hC1.1.1, nI_le (Nat.le_refl N) (by omega), if_true]
    · intro j hj ih J g1 g2
      have hC1 := hC' g2
      have hh := fun r => c_handed (r := r) (L := L) (xs := xs) (Lm := Lm) hB hC1 hW hN (D := D) (fun p hp => by rw [g2 6 (by decide)]; exact h6 p hp) hj (fun h a b c => hD j h hj a b c)
      have e4 : ∀ v, setv J 4 (nI j) v = up2 J 4 j v := fun v => setv_lt (show j < 12 by omega)
      obtain ⟨J', r1, r2⟩ := ih (up2 J 4 j (hdV V N D j)) (fun p hp => by
        by_cases c : p = j
        · rw [c, up2_eq]
        · rw [up2_k c]; exact g1 p (by omega)) (fun p hp => (funext fun k => up2_p hp : up2 J 4 j _ p = J p).trans (g2 p hp))
      refine ⟨J', fun r => ?_, r2⟩
      rw [x107_2]
      simp only [x107_0, x107_1, x107_3, x107_4, x107_7, x107_10, x107_13, x107_14, x107_17, x107_18, x107_19, x107_20, x107_21, x107_24, x107_27, x107_30, x107_33, sh_s, lq_s, sh_s1, lq_s1, sh_s2, lq_s2, sh_s3, lq_s3, sh_s4, lq_s4, sh_s5, lq_s5, sh_s6, lq_s6, sh_s7, lq_s7, sh_s8, lq_s8, sh_s9, lq_s9, sh_s10, lq_s10, sh_s11, lq_s11, sh_s12, lq_s12, sh_s13, lq_s13, sh_s14, lq_s14, sh_s15, lq_s15, sh_s16, lq_s16, sh_s17, lq_s17, sh_s18, lq_s18, sh_s19, lq_s19, sh_s20, lq_s20, sh_s21, lq_s21, sh_s22, lq_s22, sh_s23, lq_s23, sh_s24, lq_s24, sh_s25, lq_s25, rg_s0_0, rg_s0_1, rg_s0_2, rg_s0_3, rg_s1_0, rg_s1_1, rg_s1_2, rg_s1_3, rg_s1_4, rg_s7_0, rg_s9_0, rg_s9_1, rg_s9_2, rg_s9_3, rg_s9_4, rg_s9_5, rg_s16_6, rg_s16_7, rg_s16_0, rg_s16_1, rg_s16_2, rg_s16_3, rg_s16_4, rg_s16_5, sh_o, lq_o, sh_o1, lq_o1, sh_o2, lq_o2, sh_o3, lq_o3, sh_o4, lq_o4, sh_o5, lq_o5, sh_o6, lq_o6, rg_o0, rg_o1, rg_o2, rg_o3, rg_o4, rg_o5, sh_3, lq_3, rg_3_0, p_set (n := 179) lz_4 ly_4, ex5, Option.toList_some, Option.toList_none, List.cons_append, List.nil_append, true_and, and_true, nI_1, p_at, p_set, p_isIn, p_max, p_min, p_abs, hs, hC1.1.1, nI_ge hj (by omega), if_false, hh, e4]
      exact r1 r
  obtain ⟨J', r1, r2⟩ := key 0 (Nat.zero_le _) I (fun k hk => absurd hk (Nat.not_lt_zero k)) (fun _ _ => rfl)
  refine ⟨J', fun r => ?_, r2⟩
  rw [em_107]
  simp only [x107_0, x107_1, x107_3, x107_4, x107_7, x107_10, x107_13, x107_14, x107_17, x107_18, x107_19, x107_20, x107_21, x107_24, x107_27, x107_30, x107_33]
  exact r1 r
theorem laS_ok {q : Nat × Nat × (Nat → Int32)} {b : Nat} (h1 : q.1 < 2 ^ 31) (h2 : q.2.1 ≤ 1000000000) (h3 : rwN b N q.2.2) : ∀ j, (laS V q j).1 < 2 ^ 31 ∧ (laS V q j).2.1 ≤ 1000000000 ∧ rwN b N (laS V q j).2.2
  | 0 => ⟨h1, h2, h3⟩
  | j + 1 => by
    obtain ⟨a, b1, c⟩ := laS_ok h1 h2 h3 j
    by_cases k : ¬ V 1 j = -1 ∧ V 2 j < V 10 (ixn (V 1 j))
    · by_cases m : nI (dwS (laS V q j).1 100) < V 11 (ixn (V 1 j))
      · simp only [laS, if_pos k, if_pos m]
        refine ⟨nxS_lt _, Nat.min_le_left _ _, fun p hp => ?_⟩
        show ∃ a, a ≤ b ∧ (if p = j then (0 : Int32) else (laS V q j).2.2 p) = nI a
        by_cases z : p = j
        · exact ⟨0, Nat.zero_le _, by rw [if_pos z]; rfl⟩
        · rw [if_neg z]; exact c p hp
      · simp only [laS, if_pos k, if_neg m]
        exact ⟨nxS_lt _, b1, c⟩
    · simp only [laS, if_neg k]
      exact ⟨a, b1, c⟩
theorem c_lookAll {x l b : Nat} {R : Nat → Int32} (hB : SB nw sp s2 ai s so) (hC : CR I s so N NS NH V) (hs36 : 36 < s) (hW : WV V N NS NH) (hN : N ≤ 12) (hx : x < 2 ^ 31) (hl : l ≤ 1000000000) (hb : b ≤ 80000) (hR : rwN b N R) (h9 : I 3 9 = nI x) (h8 : I 3 8 = nI l) (h4 : ∀ p, p < N → I 4 p = R p) : ∃ J, (∀ r, Em L xs 109 [.ref 3, .ref s] (179, I, Lm, RG nw sp s2 ai) r ↔ r = (none, 179, J, Lm, RG nw sp s2 ai)) ∧ (J 3 9 = nI (laS V (x, l, R) N).1 ∧ J 3 8 = nI (laS V (x, l, R) N).2.1 ∧ ∀ p, p < N → J 4 p = (laS V (x, l, R) N).2.2 p) ∧ (∀ p, p ≠ 3 → p ≠ 4 → J p = I p) ∧ (∀ k, k ≠ 8 → k ≠ 9 → J 3 k = I 3 k) := by
  obtain ⟨hs, ho, hq⟩ := id hB
  have key : ∀ j, j ≤ N → ∀ J w3, (J 3 9 = nI (laS V (x, l, R) j).1 ∧ J 3 8 = nI (laS V (x, l, R) j).2.1 ∧ ∀ p, p < N → J 4 p = (laS V (x, l, R) j).2.2 p) → (∀ p, p ≠ 3 → p ≠ 4 → J p = I p) → (∀ k, k ≠ 8 → k ≠ 9 → J 3 k = I 3 k) → ∃ J', (∀ r, Ev L xs 1 109 2 [some (.ref 3), some (.ref s), some (.int (nI j)), w3] [] (179, J, Lm, RG nw sp s2 ai) r ↔ r = (none, 179, J', Lm, RG nw sp s2 ai)) ∧ (J' 3 9 = nI (laS V (x, l, R) N).1 ∧ J' 3 8 = nI (laS V (x, l, R) N).2.1 ∧ ∀ p, p < N → J' 4 p = (laS V (x, l, R) N).2.2 p) ∧ (∀ p, p ≠ 3 → p ≠ 4 → J' p = I p) ∧ (∀ k, k ≠ 8 → k ≠ 9 → J' 3 k = I 3 k) := by
    have hC' : ∀ {J : Nat → Nat → Int32}, (∀ p, p ≠ 3 → p ≠ 4 → J p = I p) → CR J s so N NS NH V := fun hJ => crFr hC (fun i _ _ _ _ => hJ _ (by omega) (by omega)) (fun i _ => hJ _ (by rcases ho with rfl | rfl | rfl <;> omega) (by rcases ho with rfl | rfl | rfl <;> omega))
    refine up_ind ?_ ?_
    · intro J w3 g1 g2 g3
      have hC1 := hC' g2
      refine ⟨J, fun r => ?_, g1, g2, g3⟩
      rw [x109_2]
      simp only [x109_0, x109_1, x109_3, x109_4, x109_7, x109_10, x109_13, x109_14, x109_17, x109_20, x109_21, x109_24, x109_25, x109_26, x109_27, x109_30, x109_31, x109_34, x109_37, x109_38, x109_41, x109_42, x109_45, x109_48, x109_49, x109_52, x109_55, x109_56, x109_58, x109_61, x109_62, x109_65, x109_68, x109_69, x109_72, x109_75, x109_76, x109_78, x109_79, x109_82, x109_83, x109_86, x109_87, x109_90, x109_91, x109_94, x109_97, x109_98, x109_101, x109_102, x109_103, x109_106, x109_109, x109_112, sh_s, lq_s, sh_s1, lq_s1, sh_s2, lq_s2, sh_s3, lq_s3, sh_s4, lq_s4, sh_s5, lq_s5, sh_s6, lq_s6, sh_s7, lq_s7, sh_s8, lq_s8, sh_s9, lq_s9, sh_s10, lq_s10, sh_s11, lq_s11, sh_s12, lq_s12, sh_s13, lq_s13, sh_s14, lq_s14, sh_s15, lq_s15, sh_s16, lq_s16, sh_s17, lq_s17, sh_s18, lq_s18, sh_s19, lq_s19, sh_s20, lq_s20, sh_s21, lq_s21, sh_s22, lq_s22, sh_s23, lq_s23, sh_s24, lq_s24, sh_s25, lq_s25, rg_s0_0, rg_s0_1, rg_s0_2, rg_s0_3, rg_s1_0, rg_s1_1, rg_s1_2, rg_s1_3, rg_s1_4, rg_s7_0, rg_s9_0, rg_s9_1, rg_s9_2, rg_s9_3, rg_s9_4, rg_s9_5, rg_s16_6, rg_s16_7, rg_s16_0, rg_s16_1, rg_s16_2, rg_s16_3, rg_s16_4, rg_s16_5, sh_o, lq_o, sh_o1, lq_o1, sh_o2, lq_o2, sh_o3, lq_o3, sh_o4, lq_o4, sh_o5, lq_o5, sh_o6, lq_o6, rg_o0, rg_o1, rg_o2, rg_o3, rg_o4, rg_o5, ex5, Option.toList_some, Option.toList_none, List.cons_append, List.nil_append, true_and, and_true, nI_1, p_at, p_set, p_isIn, p_max, p_min, p_abs, hs, hC1.1.1, nI_le (Nat.le_refl N) (by omega), if_true]
    · intro j hj ih J w3 g1 g2 g3
      have hC1 := hC' g2
      obtain ⟨k9, k8, k4⟩ := g1
      obtain ⟨o1, o2, o3⟩ := laS_ok (V := V) (q := (x, l, R)) hx hl hR j
      have e1 : laS V (x, l, R) (j + 1) = if ¬ V 1 j = -1 ∧ V 2 j < V 10 (ixn (V 1 j)) then (if nI (dwS (laS V (x, l, R) j).1 100) < V 11 (ixn (V 1 j)) then (nxS (laS V (x, l, R) j).1, min 1000000000 ((laS V (x, l, R) j).2.1 + ixn ((laS V (x, l, R) j).2.2 j)), fun p => if p = j then 0 else (laS V (x, l, R) j).2.2 p) else (nxS (laS V (x, l, R) j).1, (laS V (x, l, R) j).2)) else laS V (x, l, R) j := rfl
      generalize laS V (x, l, R) j = q at k9 k8 k4 o1 o2 o3 e1
      rw [e1] at ih
      rcases (hW.1 j hj).2.1 with c | c
      · rw [if_neg (fun z => z.1 c)] at ih
        obtain ⟨J', r1, r2⟩ := ih J (some (.int (-1))) ⟨k9, k8, k4⟩ g2 g3
        refine ⟨J', fun r => ?_, r2⟩
        rw [x109_2]
        simp only [x109_0, x109_1, x109_3, x109_4, x109_7, x109_10, x109_13, x109_14, x109_17, x109_20, x109_21, x109_24, x109_25, x109_26, x109_27, x109_30, x109_31, x109_34, x109_37, x109_38, x109_41, x109_42, x109_45, x109_48, x109_49, x109_52, x109_55, x109_56, x109_58, x109_61, x109_62, x109_65, x109_68, x109_69, x109_72, x109_75, x109_76, x109_78, x109_79, x109_82, x109_83, x109_86, x109_87, x109_90, x109_91, x109_94, x109_97, x109_98, x109_101, x109_102, x109_103, x109_106, x109_109, x109_112, sh_s, lq_s, sh_s1, lq_s1, sh_s2, lq_s2, sh_s3, lq_s3, sh_s4, lq_s4, sh_s5, lq_s5, sh_s6, lq_s6, sh_s7, lq_s7, sh_s8, lq_s8, sh_s9, lq_s9, sh_s10, lq_s10, sh_s11, lq_s11, sh_s12, lq_s12, sh_s13, lq_s13, sh_s14, lq_s14, sh_s15, lq_s15, sh_s16, lq_s16, sh_s17, lq_s17, sh_s18, lq_s18, sh_s19, lq_s19, sh_s20, lq_s20, sh_s21, lq_s21, sh_s22, lq_s22, sh_s23, lq_s23, sh_s24, lq_s24, sh_s25, lq_s25, rg_s0_0, rg_s0_1, rg_s0_2, rg_s0_3, rg_s1_0, rg_s1_1, rg_s1_2, rg_s1_3, rg_s1_4, rg_s7_0, rg_s9_0, rg_s9_1, rg_s9_2, rg_s9_3, rg_s9_4, rg_s9_5, rg_s16_6, rg_s16_7, rg_s16_0, rg_s16_1, rg_s16_2, rg_s16_3, rg_s16_4, rg_s16_5, sh_o, lq_o, sh_o1, lq_o1, sh_o2, lq_o2, sh_o3, lq_o3, sh_o4, lq_o4, sh_o5, lq_o5, sh_o6, lq_o6, rg_o0, rg_o1, rg_o2, rg_o3, rg_o4, rg_o5, ex5, Option.toList_some, Option.toList_none, List.cons_append, List.nil_append, true_and, and_true, nI_1, p_at, p_set, p_isIn, p_max, p_min, p_abs, hs, hC1.1.1, nI_ge hj (by omega), if_false, a_hat hB hC1 hj, c, if_true]
        exact r1 r
      · have c2 : ¬ V 1 j = -1 := fun k => by rw [k] at c; exact absurd c.1 (by decide)
        have el := a_lea hB hC1 c
        have eo := a_loo hB hC1 c
        by_cases d : V 10 (ixn (V 1 j)) ≤ V 2 j
        · rw [if_neg (fun z => absurd d (Int32.not_le.mpr z.2))] at ih
          obtain ⟨J', r1, r2⟩ := ih J (some (.int (V 1 j))) ⟨k9, k8, k4⟩ g2 g3
          refine ⟨J', fun r => ?_, r2⟩
          rw [x109_2]
          simp only [x109_0, x109_1, x109_3, x109_4, x109_7, x109_10, x109_13, x109_14, x109_17, x109_20, x109_21, x109_24, x109_25, x109_26, x109_27, x109_30, x109_31, x109_34, x109_37, x109_38, x109_41, x109_42, x109_45, x109_48, x109_49, x109_52, x109_55, x109_56, x109_58, x109_61, x109_62, x109_65, x109_68, x109_69, x109_72, x109_75, x109_76, x109_78, x109_79, x109_82, x109_83, x109_86, x109_87, x109_90, x109_91, x109_94, x109_97, x109_98, x109_101, x109_102, x109_103, x109_106, x109_109, x109_112, sh_s, lq_s, sh_s1, lq_s1, sh_s2, lq_s2, sh_s3, lq_s3, sh_s4, lq_s4, sh_s5, lq_s5, sh_s6, lq_s6, sh_s7, lq_s7, sh_s8, lq_s8, sh_s9, lq_s9, sh_s10, lq_s10, sh_s11, lq_s11, sh_s12, lq_s12, sh_s13, lq_s13, sh_s14, lq_s14, sh_s15, lq_s15, sh_s16, lq_s16, sh_s17, lq_s17, sh_s18, lq_s18, sh_s19, lq_s19, sh_s20, lq_s20, sh_s21, lq_s21, sh_s22, lq_s22, sh_s23, lq_s23, sh_s24, lq_s24, sh_s25, lq_s25, rg_s0_0, rg_s0_1, rg_s0_2, rg_s0_3, rg_s1_0, rg_s1_1, rg_s1_2, rg_s1_3, rg_s1_4, rg_s7_0, rg_s9_0, rg_s9_1, rg_s9_2, rg_s9_3, rg_s9_4, rg_s9_5, rg_s16_6, rg_s16_7, rg_s16_0, rg_s16_1, rg_s16_2, rg_s16_3, rg_s16_4, rg_s16_5, sh_o, lq_o, sh_o1, lq_o1, sh_o2, lq_o2, sh_o3, lq_o3, sh_o4, lq_o4, sh_o5, lq_o5, sh_o6, lq_o6, rg_o0, rg_o1, rg_o2, rg_o3, rg_o4, rg_o5, ex5, Option.toList_some, Option.toList_none, List.cons_append, List.nil_append, true_and, and_true, nI_1, p_at, p_set, p_isIn, p_max, p_min, p_abs, hs, hC1.1.1, nI_ge hj (by omega), if_false, a_hat hB hC1 hj, c2, a_hrs hB hC1 hj, el, d, if_true]
          exact r1 r
        · rw [if_pos ⟨c2, Int32.not_le.mp d⟩] at ih
          have hdr := c_draw (I := J) (L := L) (xs := xs) (Lm := Lm) (nw := nw) (sp := sp) (s2 := s2) (ai := ai) k9 o1 (show 0 < 100 by decide) (by decide)
          have n100 : nI 100 = 100 := rfl
          rw [n100] at hdr
          have hJ1 : ∀ p, p ≠ 3 → up2 J 3 9 (nI (nxS q.1)) p = J p := fun p hp => funext fun k => up2_p hp
          have hC2 : CR (up2 J 3 9 (nI (nxS q.1))) s so N NS NH V := hC' (fun p a b => (hJ1 p a).trans (g2 p a b))
          have eo2 := a_loo hB hC2 c
          by_cases m : V 11 (ixn (V 1 j)) ≤ nI (dwS q.1 100)
          · rw [if_neg (Int32.not_lt.mpr m)] at ih
            obtain ⟨J', r1, r2⟩ := ih (up2 J 3 9 (nI (nxS q.1))) (some (.int (V 1 j))) ⟨up2_eq, by rw [up2_k (by decide)]; exact k8, fun p hp => by rw [hJ1 4 (by decide)]; exact k4 p hp⟩ (fun p a b => (hJ1 p a).trans (g2 p a b)) (fun k a b => by rw [up2_k b]; exact g3 k a b)
            refine ⟨J', fun r => ?_, r2⟩
            rw [x109_2]
            simp only [x109_0, x109_1, x109_3, x109_4, x109_7, x109_10, x109_13, x109_14, x109_17, x109_20, x109_21, x109_24, x109_25, x109_26, x109_27, x109_30, x109_31, x109_34, x109_37, x109_38, x109_41, x109_42, x109_45, x109_48, x109_49, x109_52, x109_55, x109_56, x109_58, x109_61, x109_62, x109_65, x109_68, x109_69, x109_72, x109_75, x109_76, x109_78, x109_79, x109_82, x109_83, x109_86, x109_87, x109_90, x109_91, x109_94, x109_97, x109_98, x109_101, x109_102, x109_103, x109_106, x109_109, x109_112, sh_s, lq_s, sh_s1, lq_s1, sh_s2, lq_s2, sh_s3, lq_s3, sh_s4, lq_s4, sh_s5, lq_s5, sh_s6, lq_s6, sh_s7, lq_s7, sh_s8, lq_s8, sh_s9, lq_s9, sh_s10, lq_s10, sh_s11, lq_s11, sh_s12, lq_s12, sh_s13, lq_s13, sh_s14, lq_s14, sh_s15, lq_s15, sh_s16, lq_s16, sh_s17, lq_s17, sh_s18, lq_s18, sh_s19, lq_s19, sh_s20, lq_s20, sh_s21, lq_s21, sh_s22, lq_s22, sh_s23, lq_s23, sh_s24, lq_s24, sh_s25, lq_s25, rg_s0_0, rg_s0_1, rg_s0_2, rg_s0_3, rg_s1_0, rg_s1_1, rg_s1_2, rg_s1_3, rg_s1_4, rg_s7_0, rg_s9_0, rg_s9_1, rg_s9_2, rg_s9_3, rg_s9_4, rg_s9_5, rg_s16_6, rg_s16_7, rg_s16_0, rg_s16_1, rg_s16_2, rg_s16_3, rg_s16_4, rg_s16_5, sh_o, lq_o, sh_o1, lq_o1, sh_o2, lq_o2, sh_o3, lq_o3, sh_o4, lq_o4, sh_o5, lq_o5, sh_o6, lq_o6, rg_o0, rg_o1, rg_o2, rg_o3, rg_o4, rg_o5, sh_3, lq_3, ex5, Option.toList_some, Option.toList_none, List.cons_append, List.nil_append, true_and, and_true, nI_1, p_at, p_set, p_isIn, p_max, p_min, p_abs, hs, hC1.1.1, nI_ge hj (by omega), if_false, a_hat hB hC1 hj, c2, a_hrs hB hC1 hj, el, d, hdr, eo2, m, if_true]
            exact r1 r
          · rw [if_pos (Int32.not_le.mp m)] at ih
            obtain ⟨w, w1, w2⟩ := o3 j hj
            have e4 : atv (up2 J 3 9 (nI (nxS q.1))) 4 (nI j) = nI w := by rw [atW12 (a := 4) rfl hj hN, hJ1 4 (by decide), k4 j hj, w2]
            have e8 : up2 J 3 9 (nI (nxS q.1)) 3 8 = nI q.2.1 := by rw [up2_k (by decide)]; exact k8
            have ew : ixn (q.2.2 j) = w := by rw [w2, ixn_nI (by omega)]
            have emn := min_nI (a := q.2.1 + w) (by omega)
            have est : ∀ v, setv (up2 (up2 J 3 9 (nI (nxS q.1))) 3 8 v) 4 (nI j) 0 = up2 (up2 (up2 J 3 9 (nI (nxS q.1))) 3 8 v) 4 j 0 := fun v => setv_lt (show j < 12 by omega)
            rw [ew] at ih
            obtain ⟨J', r1, r2⟩ := ih (up2 (up2 (up2 J 3 9 (nI (nxS q.1))) 3 8 (nI (min 1000000000 (q.2.1 + w)))) 4 j 0) (some (.int (V 1 j))) ⟨by rw [up2_p (by decide), up2_k (by decide), up2_eq], by rw [up2_p (by decide), up2_eq], fun p hp => by
              show up2 (up2 (up2 J 3 9 (nI (nxS q.1))) 3 8 (nI (min 1000000000 (q.2.1 + w)))) 4 j 0 4 p = if p = j then 0 else q.2.2 p
              by_cases z : p = j
              · rw [z, up2_eq, if_pos rfl]
              · rw [up2_k z, up2_p (by decide), hJ1 4 (by decide), if_neg z]; exact k4 p hp⟩ (fun p a b => by rw [← g2 p a b]; exact funext fun k => by rw [up2_p b, up2_p a, up2_p a]) (fun k a b => by rw [up2_p (by decide), up2_k a, up2_k b]; exact g3 k a b)
            refine ⟨J', fun r => ?_, r2⟩
            rw [x109_2]
            simp only [x109_0, x109_1, x109_3, x109_4, x109_7, x109_10, x109_13, x109_14, x109_17, x109_20, x109_21, x109_24, x109_25, x109_26, x109_27, x109_30, x109_31, x109_34, x109_37, x109_38, x109_41, x109_42, x109_45, x109_48, x109_49, x109_52, x109_55, x109_56, x109_58, x109_61, x109_62, x109_65, x109_68, x109_69, x109_72, x109_75, x109_76, x109_78, x109_79, x109_82, x109_83, x109_86, x109_87, x109_90, x109_91, x109_94, x109_97, x109_98, x109_101, x109_102, x109_103, x109_106, x109_109, x109_112, sh_s, lq_s, sh_s1, lq_s1, sh_s2, lq_s2, sh_s3, lq_s3, sh_s4, lq_s4, sh_s5, lq_s5, sh_s6, lq_s6, sh_s7, lq_s7, sh_s8, lq_s8, sh_s9, lq_s9, sh_s10, lq_s10, sh_s11, lq_s11, sh_s12, lq_s12, sh_s13, lq_s13, sh_s14, lq_s14, sh_s15, lq_s15, sh_s16, lq_s16, sh_s17, lq_s17, sh_s18, lq_s18, sh_s19, lq_s19, sh_s20, lq_s20, sh_s21, lq_s21, sh_s22, lq_s22, sh_s23, lq_s23, sh_s24, lq_s24, sh_s25, lq_s25, rg_s0_0, rg_s0_1, rg_s0_2, rg_s0_3, rg_s1_0, rg_s1_1, rg_s1_2, rg_s1_3, rg_s1_4, rg_s7_0, rg_s9_0, rg_s9_1, rg_s9_2, rg_s9_3, rg_s9_4, rg_s9_5, rg_s16_6, rg_s16_7, rg_s16_0, rg_s16_1, rg_s16_2, rg_s16_3, rg_s16_4, rg_s16_5, sh_o, lq_o, sh_o1, lq_o1, sh_o2, lq_o2, sh_o3, lq_o3, sh_o4, lq_o4, sh_o5, lq_o5, sh_o6, lq_o6, rg_o0, rg_o1, rg_o2, rg_o3, rg_o4, rg_o5, sh_3, lq_3, rg_3_0, p_at (n := 179) lz_4 ly_4, p_set (n := 179) lz_4 ly_4, ex5, Option.toList_some, Option.toList_none, List.cons_append, List.nil_append, true_and, and_true, nI_1, p_at, p_set, p_isIn, p_max, p_min, p_abs, hs, hC1.1.1, nI_ge hj (by omega), if_false, a_hat hB hC1 hj, c2, a_hrs hB hC1 hj, el, d, hdr, eo2, m, e4, e8, nI_add, emn, est]
            exact r1 r
  obtain ⟨J', r1, r2⟩ := key 0 (Nat.zero_le _) I none ⟨h9, h8, h4⟩ (fun _ _ _ => rfl) (fun _ _ _ => rfl)
  refine ⟨J', fun r => ?_, r2⟩
  rw [em_109]
  simp only [x109_0, x109_1, x109_3, x109_4, x109_7, x109_10, x109_13, x109_14, x109_17, x109_20, x109_21, x109_24, x109_25, x109_26, x109_27, x109_30, x109_31, x109_34, x109_37, x109_38, x109_41, x109_42, x109_45, x109_48, x109_49, x109_52, x109_55, x109_56, x109_58, x109_61, x109_62, x109_65, x109_68, x109_69, x109_72, x109_75, x109_76, x109_78, x109_79, x109_82, x109_83, x109_86, x109_87, x109_90, x109_91, x109_94, x109_97, x109_98, x109_101, x109_102, x109_103, x109_106, x109_109, x109_112]
  exact r1 r
end
