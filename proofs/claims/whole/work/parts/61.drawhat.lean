/-! weeks: slips drawn from a hat, from all hats of a kind -/
def dh0 (V : Vw) (N : Nat) (h : Int32) (x : Nat) (D : Nat → Int32) : (Nat → Int32) × Nat × Nat × (Nat → Int32) := (lfS V h N, cnN V h N, x, D)
def dhE (V : Vw) (N : Nat) (h : Int32) (x : Nat) (D : Nat → Int32) : (Nat → Int32) × Nat × Nat × (Nat → Int32) := dhS V h (dh0 V N h x D) N
section
variable {L : Nat} {xs : Nat → Int32} {σ : Mm} {r : Option Value × Mm} {I J K : Nat → Nat → Int32} {Lm : Nat → Nat → Int64} {Rm : Nat → Nat → Nat} {n s so t N NS NH m M P nw S U : Nat} {V W : Vw} {sp s2 ai p : Nat} {x y z h v : Int32}
theorem dh0_ok {x : Nat} {D : Nat → Int32} (hx : x < 2 ^ 31) : (dh0 V N h x D).2.1 = cnN V h N ∧ (dh0 V N h x D).2.2.1 < 2 ^ 31 ∧ (∀ i, i < (dh0 V N h x D).2.1 → ∃ p, p < N ∧ (dh0 V N h x D).1 i = nI p ∧ V 1 p = h) := ⟨rfl, hx, lfS_nI N⟩
theorem nI_dec {n : Nat} (hn : 0 < n) : nI n + -1 = nI (n - 1) := by
  cases n with
  | zero => omega
  | succ n => exact pk_m1 n
/-- the slips behind the k-th go one ahead: the class -/
theorem c_shift {j k n : Nat} {Q : Nat → Int32} (hj : j < 12) (hn : n ≤ 12) (hk : k < n) : ∀ i, i ≤ n - 1 → k ≤ i → ∀ J, (∀ a, a < n → J 8 a = if k ≤ a ∧ a < i then Q (a + 1) else Q a) → (∀ p, p ≠ 8 → J p = I p) → ∃ J', (∀ r, Ev L xs 1 104 103 [some (.ref 3), some (.ref (s + 16)), some (.int h), some (.int (nI (n - 1))), some (.int (nI j)), some (.int (nI k)), some (.int (nI i))] [] (179, J, Lm, RG nw sp s2 ai) r ↔ Ev L xs 1 104 135 [some (.ref 3), some (.ref (s + 16)), some (.int h), some (.int (nI (n - 1))), some (.int (nI j)), some (.int (nI k)), some (.int (nI (n - 1)))] [] (179, J', Lm, RG nw sp s2 ai) r) ∧ (∀ a, a < n → J' 8 a = if k ≤ a ∧ a < n - 1 then Q (a + 1) else Q a) ∧ (∀ p, p ≠ 8 → J' p = I p) := by
  refine up_ind ?_ ?_
  · intro _ J h1 h2
    refine ⟨J, fun r => ?_, h1, h2⟩
    rw [x104_103]
    simp only [x104_0, x104_1, x104_2, x104_3, x104_7, x104_8, x104_11, x104_14, x104_15, x104_18, x104_20, x104_23, x104_24, x104_27, x104_28, x104_31, x104_32, x104_34, x104_37, x104_40, x104_43, x104_46, x104_47, x104_51, x104_52, x104_55, x104_58, x104_59, x104_62, x104_64, x104_67, x104_68, x104_71, x104_72, x104_73, x104_76, x104_78, x104_79, x104_82, x104_84, x104_85, x104_88, x104_90, x104_93, x104_96, x104_99, x104_101, x104_105, x104_106, x104_109, x104_110, x104_113, x104_115, x104_116, x104_119, x104_121, x104_122, x104_123, x104_126, x104_129, x104_132, x104_138, x104_141, nI_le (Nat.le_refl (n - 1)) (by omega), if_true]
  · intro i hi ih hki J h1 h2
    have e1 : atv J 8 (nI (i + 1)) = J 8 (i + 1) := atv_lt (show i + 1 < 12 by omega)
    have e2 : ∀ v, setv J 8 (nI i) v = up2 J 8 i v := fun v => setv_lt (show i < 12 by omega)
    have e3 : J 8 (i + 1) = Q (i + 1) := by rw [h1 (i + 1) (by omega), if_neg (by omega)]
    obtain ⟨J', g1, g2⟩ := ih (by omega) (up2 J 8 i (Q (i + 1))) (fun a ha => by
      by_cases c : a = i
      · rw [c, up2_eq, if_pos (by omega)]
      · rw [up2_k c, h1 a ha]
        by_cases d : k ≤ a ∧ a < i
        · rw [if_pos d, if_pos (by omega)]
        · rw [if_neg d, if_neg (by omega)]) (fun p hp => (funext fun a => up2_p hp : up2 J 8 i _ p = J p).trans (h2 p hp))
    refine ⟨J', fun r => ?_, g2⟩
    rw [x104_103]
    simp only [x104_0, x104_1, x104_2, x104_3, x104_7, x104_8, x104_11, x104_14, x104_15, x104_18, x104_20, x104_23, x104_24, x104_27, x104_28, x104_31, x104_32, x104_34, x104_37, x104_40, x104_43, x104_46, x104_47, x104_51, x104_52, x104_55, x104_58, x104_59, x104_62, x104_64, x104_67, x104_68, x104_71, x104_72, x104_73, x104_76, x104_78, x104_79, x104_82, x104_84, x104_85, x104_88, x104_90, x104_93, x104_96, x104_99, x104_101, x104_105, x104_106, x104_109, x104_110, x104_113, x104_115, x104_116, x104_119, x104_121, x104_122, x104_123, x104_126, x104_129, x104_132, x104_138, x104_141, sh_3, lq_3, rg_3_4, sh_8, lq_8, p_at (n := 179) lz_8 ly_8, p_set (n := 179) lz_8 ly_8, ex5, Option.toList_some, Option.toList_none, List.cons_append, List.nil_append, true_and, and_true, nI_1, p_at, p_set, p_isIn, p_max, p_min, p_abs, nI_ge hi (by omega), if_false, e1, e3, e2]
    exact g1 r
theorem c_drawHat {x : Nat} {D : Nat → Int32} (hB : SB nw sp s2 ai s so) (hC : CR I s so N NS NH V) (hN : N ≤ 12) (hs36 : 36 < s) (hx : x < 2 ^ 31) (h9 : I 3 9 = nI x) (h6 : ∀ p, p < N → I 6 p = D p) : ∃ J, (∀ r, Em L xs 104 [.ref 3, .ref (s + 16), .int h] (179, I, Lm, RG nw sp s2 ai) r ↔ r = (none, 179, J, Lm, RG nw sp s2 ai)) ∧ J 3 9 = nI (dhE V N h x D).2.2.1 ∧ (∀ p, p < N → J 6 p = (dhE V N h x D).2.2.2 p) ∧ (∀ p, p ≠ 3 → p ≠ 6 → p ≠ 8 → J p = I p) ∧ (∀ k, k ≠ 9 → J 3 k = I 3 k) := by
  obtain ⟨hs, ho, hq⟩ := id hB
  obtain ⟨o1, o2, o3⟩ := dh0_ok (V := V) (N := N) (h := h) (D := D) hx
  have hC' : ∀ {J : Nat → Nat → Int32}, (∀ p, p ≠ 3 → p ≠ 6 → p ≠ 8 → J p = I p) → CR J s so N NS NH V := fun hJ => crFr hC (fun i _ _ _ _ => hJ _ (by omega) (by omega) (by omega)) (fun i _ => hJ _ (by rcases ho with rfl | rfl | rfl <;> omega) (by rcases ho with rfl | rfl | rfl <;> omega) (by rcases ho with rfl | rfl | rfl <;> omega))
  -- the second loop
  have key2 : ∀ j, j ≤ N → ∀ J w5 w6, (∀ i, i < (dhS V h (dh0 V N h x D) j).2.1 → J 8 i = (dhS V h (dh0 V N h x D) j).1 i) → J 3 9 = nI (dhS V h (dh0 V N h x D) j).2.2.1 → (∀ p, p < N → J 6 p = (dhS V h (dh0 V N h x D) j).2.2.2 p) → (∀ p, p ≠ 3 → p ≠ 6 → p ≠ 8 → J p = I p) → (∀ k, k ≠ 9 → J 3 k = I 3 k) → ∃ J', (∀ r, Ev L xs 1 104 49 [some (.ref 3), some (.ref (s + 16)), some (.int h), some (.int (nI (dhS V h (dh0 V N h x D) j).2.1)), some (.int (nI j)), w5, w6] [] (179, J, Lm, RG nw sp s2 ai) r ↔ r = (none, 179, J', Lm, RG nw sp s2 ai)) ∧ J' 3 9 = nI (dhE V N h x D).2.2.1 ∧ (∀ p, p < N → J' 6 p = (dhE V N h x D).2.2.2 p) ∧ (∀ p, p ≠ 3 → p ≠ 6 → p ≠ 8 → J' p = I p) ∧ (∀ k, k ≠ 9 → J' 3 k = I 3 k) := by
    refine up_ind ?_ ?_
    · intro J w5 w6 g1 g2 g3 g4 g5
      have hC1 := hC' g4
      refine ⟨J, fun r => ?_, g2, g3, g4, g5⟩
      rw [x104_49]
      simp only [x104_0, x104_1, x104_2, x104_3, x104_7, x104_8, x104_11, x104_14, x104_15, x104_18, x104_20, x104_23, x104_24, x104_27, x104_28, x104_31, x104_32, x104_34, x104_37, x104_40, x104_43, x104_46, x104_47, x104_51, x104_52, x104_55, x104_58, x104_59, x104_62, x104_64, x104_67, x104_68, x104_71, x104_72, x104_73, x104_76, x104_78, x104_79, x104_82, x104_84, x104_85, x104_88, x104_90, x104_93, x104_96, x104_99, x104_101, x104_105, x104_106, x104_109, x104_110, x104_113, x104_115, x104_116, x104_119, x104_121, x104_122, x104_123, x104_126, x104_129, x104_132, x104_138, x104_141, sh_s, lq_s, sh_s1, lq_s1, sh_s2, lq_s2, sh_s3, lq_s3, sh_s4, lq_s4, sh_s5, lq_s5, sh_s6, lq_s6, sh_s7, lq_s7, sh_s8, lq_s8, sh_s9, lq_s9, sh_s10, lq_s10, sh_s11, lq_s11, sh_s12, lq_s12, sh_s13, lq_s13, sh_s14, lq_s14, sh_s15, lq_s15, sh_s16, lq_s16, sh_s17, lq_s17, sh_s18, lq_s18, sh_s19, lq_s19, sh_s20, lq_s20, sh_s21, lq_s21, sh_s22, lq_s22, sh_s23, lq_s23, sh_s24, lq_s24, sh_s25, lq_s25, rg_s0_0, rg_s0_1, rg_s0_2, rg_s0_3, rg_s1_0, rg_s1_1, rg_s1_2, rg_s1_3, rg_s1_4, rg_s7_0, rg_s9_0, rg_s9_1, rg_s9_2, rg_s9_3, rg_s9_4, rg_s9_5, rg_s16_6, rg_s16_7, rg_s16_0, rg_s16_1, rg_s16_2, rg_s16_3, rg_s16_4, rg_s16_5, sh_o, lq_o, sh_o1, lq_o1, sh_o2, lq_o2, sh_o3, lq_o3, sh_o4, lq_o4, sh_o5, lq_o5, sh_o6, lq_o6, rg_o0, rg_o1, rg_o2, rg_o3, rg_o4, rg_o5, ex5, Option.toList_some, Option.toList_none, List.cons_append, List.nil_append, true_and, and_true, nI_1, p_at, p_set, p_isIn, p_max, p_min, p_abs, hs, hC1.1.1, nI_le (Nat.le_refl N) (by omega), if_true]
    · intro j hj ih J w5 w6 g1 g2 g3 g4 g5
      have hC1 := hC' g4
      obtain ⟨a, b, c, d, e⟩ := dhS_ok o1 o2 o3 j (by omega)
      obtain ⟨a', -⟩ := dhS_ok o1 o2 o3 (j + 1) (by omega)
      have e2 : cnN V h (j + 1) = if V 1 j = h then cnN V h j + 1 else cnN V h j := rfl
      by_cases k : V 1 j = h
      · have en : (dhS V h (dh0 V N h x D) (j + 1)) = (fun i => if dwS (dhS V h (dh0 V N h x D) j).2.2.1 (dhS V h (dh0 V N h x D) j).2.1 ≤ i ∧ i < (dhS V h (dh0 V N h x D) j).2.1 - 1 then (dhS V h (dh0 V N h x D) j).1 (i + 1) else (dhS V h (dh0 V N h x D) j).1 i, (dhS V h (dh0 V N h x D) j).2.1 - 1, nxS (dhS V h (dh0 V N h x D) j).2.2.1, fun p => if p = j then (dhS V h (dh0 V N h x D) j).1 (dwS (dhS V h (dh0 V N h x D) j).2.2.1 (dhS V h (dh0 V N h x D) j).2.1) else (dhS V h (dh0 V N h x D) j).2.2.2 p) := by simp only [dhS, if_pos k]
        rw [if_pos k] at e2
        rw [en] at ih a'
        have hle := cnN_le V h N
        generalize dhS V h (dh0 V N h x D) j = q at ih a b c d e g1 g2 g3 a' ⊢
        obtain ⟨Q, n, y, E⟩ := q
        simp only at ih a b c d e g1 g2 g3 a' ⊢
        have hn0 : 0 < n := by omega
        have hn12 : n ≤ 12 := by omega
        have hdw : dwS y n < n := Nat.mod_lt _ hn0
        have hdr := c_draw (I := J) (L := L) (xs := xs) (Lm := Lm) (nw := nw) (sp := sp) (s2 := s2) (ai := ai) g2 b hn0 (show n < 2 ^ 31 by omega)
        have e8 : atv (up2 J 3 9 (nI (nxS y))) 8 (nI (dwS y n)) = Q (dwS y n) := by rw [atv_lt (show dwS y n < 12 by omega), up2_p (by decide)]; exact g1 _ hdw
        have e6 : ∀ v, setv (up2 J 3 9 (nI (nxS y))) 6 (nI j) v = up2 (up2 J 3 9 (nI (nxS y))) 6 j v := fun v => setv_lt (show j < 12 by omega)
        obtain ⟨J1, k1, k2, k3⟩ := c_shift (L := L) (xs := xs) (Lm := Lm) (nw := nw) (sp := sp) (s2 := s2) (ai := ai) (s := s) (h := h) (j := j) (k := dwS y n) (n := n) (Q := Q) (I := up2 (up2 J 3 9 (nI (nxS y))) 6 j (Q (dwS y n))) (by omega) hn12 hdw (dwS y n) (by omega) (Nat.le_refl _) (up2 (up2 J 3 9 (nI (nxS y))) 6 j (Q (dwS y n))) (fun a ha => by rw [if_neg (by omega), up2_p (by decide), up2_p (by decide)]; exact g1 a ha) (fun _ _ => rfl)
        obtain ⟨J', r1, r2⟩ := ih J1 (some (.int (nI (dwS y n)))) (some (.int (nI (n - 1)))) (fun i hi => by rw [k2 i (by omega)]) (by rw [k3 3 (by decide), up2_p (by decide), up2_eq]) (fun p hp => by
          rw [k3 6 (by decide)]
          by_cases z : p = j
          · rw [z, up2_eq, if_pos rfl]
          · rw [up2_k z, up2_p (by decide), if_neg z]; exact g3 p hp) (fun p p3 p6 p8 => by rw [k3 p p8, ← g4 p p3 p6 p8]; exact funext fun a => by rw [up2_p p6, up2_p p3]) (fun a ha => by rw [k3 3 (by decide), up2_p (by decide), up2_k ha]; exact g5 a ha)
        refine ⟨J', fun r => ?_, r2⟩
        have r1 := r1 r
        rw [x104_49]
        simp only [x104_0, x104_1, x104_2, x104_3, x104_7, x104_8, x104_11, x104_14, x104_15, x104_18, x104_20, x104_23, x104_24, x104_27, x104_28, x104_31, x104_32, x104_34, x104_37, x104_40, x104_43, x104_46, x104_47, x104_51, x104_52, x104_55, x104_58, x104_59, x104_62, x104_64, x104_67, x104_68, x104_71, x104_72, x104_73, x104_76, x104_78, x104_79, x104_82, x104_84, x104_85, x104_88, x104_90, x104_93, x104_96, x104_99, x104_101, x104_105, x104_106, x104_109, x104_110, x104_113, x104_115, x104_116, x104_119, x104_121, x104_122, x104_123, x104_126, x104_129, x104_132, x104_138, x104_141, sh_s, lq_s, sh_s1, lq_s1, sh_s2, lq_s2, sh_s3, lq_s3, sh_s4, lq_s4, sh_s5, lq_s5, sh_s6, lq_s6, sh_s7, lq_s7, sh_s8, lq_s8, sh_s9, lq_s9, sh_s10, lq_s10, sh_s11, lq_s11, sh_s12, lq_s12, sh_s13, lq_s13, sh_s14, lq_s14, sh_s15, lq_s15, sh_s16, lq_s16, sh_s17, lq_s17, sh_s18, lq_s18, sh_s19, lq_s19, sh_s20, lq_s20, sh_s21, lq_s21, sh_s22, lq_s22, sh_s23, lq_s23, sh_s24, lq_s24, sh_s25, lq_s25, rg_s0_0, rg_s0_1, rg_s0_2, rg_s0_3, rg_s1_0, rg_s1_1, rg_s1_2, rg_s1_3, rg_s1_4, rg_s7_0, rg_s9_0, rg_s9_1, rg_s9_2, rg_s9_3, rg_s9_4, rg_s9_5, rg_s16_6, rg_s16_7, rg_s16_0, rg_s16_1, rg_s16_2, rg_s16_3, rg_s16_4, rg_s16_5, sh_o, lq_o, sh_o1, lq_o1, sh_o2, lq_o2, sh_o3, lq_o3, sh_o4, lq_o4, sh_o5, lq_o5, sh_o6, lq_o6, rg_o0, rg_o1, rg_o2, rg_o3, rg_o4, rg_o5, sh_3, lq_3, rg_3_2, rg_3_4, p_at (n := 179) lz_8 ly_8, p_set (n := 179) lz_6 ly_6, ex5, Option.toList_some, Option.toList_none, List.cons_append, List.nil_append, true_and, and_true, nI_1, p_at, p_set, p_isIn, p_max, p_min, p_abs, hs, hC1.1.1, nI_ge hj (by omega), if_false, a_hat hB hC1 hj, k, if_true, hdr, e8, e6, nI_dec hn0]
        rw [k1, x104_135]
        simp only [x104_0, x104_1, x104_2, x104_3, x104_7, x104_8, x104_11, x104_14, x104_15, x104_18, x104_20, x104_23, x104_24, x104_27, x104_28, x104_31, x104_32, x104_34, x104_37, x104_40, x104_43, x104_46, x104_47, x104_51, x104_52, x104_55, x104_58, x104_59, x104_62, x104_64, x104_67, x104_68, x104_71, x104_72, x104_73, x104_76, x104_78, x104_79, x104_82, x104_84, x104_85, x104_88, x104_90, x104_93, x104_96, x104_99, x104_101, x104_105, x104_106, x104_109, x104_110, x104_113, x104_115, x104_116, x104_119, x104_121, x104_122, x104_123, x104_126, x104_129, x104_132, x104_138, x104_141, nI_1]
        exact r1
      · have en : dhS V h (dh0 V N h x D) (j + 1) = dhS V h (dh0 V N h x D) j := by simp only [dhS, if_neg k]
        rw [en] at ih
        obtain ⟨J', r1, r2⟩ := ih J w5 w6 g1 g2 g3 g4 g5
        refine ⟨J', fun r => ?_, r2⟩
        rw [x104_49]
        simp only [x104_0, x104_1, x104_2, x104_3, x104_7, x104_8, x104_11, x104_14, x104_15, x104_18, x104_20, x104_23, x104_24, x104_27, x104_28, x104_31, x104_32, x104_34, x104_37, x104_40, x104_43, x104_46, x104_47, x104_51, x104_52, x104_55, x104_58, x104_59, x104_62, x104_64, x104_67, x104_68, x104_71, x104_72, x104_73, x104_76, x104_78, x104_79, x104_82, x104_84, x104_85, x104_88, x104_90, x104_93, x104_96, x104_99, x104_101, x104_105, x104_106, x104_109, x104_110, x104_113, x104_115, x104_116, x104_119, x104_121, x104_122, x104_123, x104_126, x104_129, x104_132, x104_138, x104_141, sh_s, lq_s, sh_s1, lq_s1, sh_s2, lq_s2, sh_s3, lq_s3, sh_s4, lq_s4, sh_s5, lq_s5, sh_s6, lq_s6, sh_s7, lq_s7, sh_s8, lq_s8, sh_s9, lq_s9, sh_s10, lq_s10, sh_s11, lq_s11, sh_s12, lq_s12, sh_s13, lq_s13, sh_s14, lq_s14, sh_s15, lq_s15, sh_s16, lq_s16, sh_s17, lq_s17, sh_s18, lq_s18, sh_s19, lq_s19, sh_s20, lq_s20, sh_s21, lq_s21, sh_s22, lq_s22, sh_s23, lq_s23, sh_s24, lq_s24, sh_s25, lq_s25, rg_s0_0, rg_s0_1, rg_s0_2, rg_s0_3, rg_s1_0, rg_s1_1, rg_s1_2, rg_s1_3, rg_s1_4, rg_s7_0, rg_s9_0, rg_s9_1, rg_s9_2, rg_s9_3, rg_s9_4, rg_s9_5, rg_s16_6, rg_s16_7, rg_s16_0, rg_s16_1, rg_s16_2, rg_s16_3, rg_s16_4, rg_s16_5, sh_o, lq_o, sh_o1, lq_o1, sh_o2, lq_o2, sh_o3, lq_o3, sh_o4, lq_o4, sh_o5, lq_o5, sh_o6, lq_o6, rg_o0, rg_o1, rg_o2, rg_o3, rg_o4, rg_o5, ex5, Option.toList_some, Option.toList_none, List.cons_append, List.nil_append, true_and, and_true, nI_1, p_at, p_set, p_isIn, p_max, p_min, p_abs, hs, hC1.1.1, nI_ge hj (by omega), if_false, a_hat hB hC1 hj, k]
        rw [x104_135]
        simp only [x104_0, x104_1, x104_2, x104_3, x104_7, x104_8, x104_11, x104_14, x104_15, x104_18, x104_20, x104_23, x104_24, x104_27, x104_28, x104_31, x104_32, x104_34, x104_37, x104_40, x104_43, x104_46, x104_47, x104_51, x104_52, x104_55, x104_58, x104_59, x104_62, x104_64, x104_67, x104_68, x104_71, x104_72, x104_73, x104_76, x104_78, x104_79, x104_82, x104_84, x104_85, x104_88, x104_90, x104_93, x104_96, x104_99, x104_101, x104_105, x104_106, x104_109, x104_110, x104_113, x104_115, x104_116, x104_119, x104_121, x104_122, x104_123, x104_126, x104_129, x104_132, x104_138, x104_141, nI_1]
        exact r1 r
  -- the first loop
  have key1 : ∀ j, j ≤ N → ∀ J, (∀ i, i < cnN V h j → J 8 i = lfS V h j i) → (∀ p, p ≠ 8 → J p = I p) → ∃ J', (∀ r, Ev L xs 1 104 5 [some (.ref 3), some (.ref (s + 16)), some (.int h), some (.int (nI (cnN V h j))), some (.int (nI j)), none, none] [] (179, J, Lm, RG nw sp s2 ai) r ↔ r = (none, 179, J', Lm, RG nw sp s2 ai)) ∧ J' 3 9 = nI (dhE V N h x D).2.2.1 ∧ (∀ p, p < N → J' 6 p = (dhE V N h x D).2.2.2 p) ∧ (∀ p, p ≠ 3 → p ≠ 6 → p ≠ 8 → J' p = I p) ∧ (∀ k, k ≠ 9 → J' 3 k = I 3 k) := by
    refine up_ind ?_ ?_
    · intro J g1 g4
      have hC1 := hC' (J := J) (fun p _ _ p8 => g4 p p8)
      obtain ⟨J', r1, r2⟩ := key2 0 (Nat.zero_le _) J none none g1 (by rw [g4 3 (by decide)]; exact h9) (fun p hp => by rw [g4 6 (by decide)]; exact h6 p hp) (fun p _ _ p8 => g4 p p8) (fun k _ => by rw [g4 3 (by decide)])
      refine ⟨J', fun r => ?_, r2⟩
      have r1 := r1 r
      rw [nI_0] at r1
      rw [x104_5]
      simp only [x104_0, x104_1, x104_2, x104_3, x104_7, x104_8, x104_11, x104_14, x104_15, x104_18, x104_20, x104_23, x104_24, x104_27, x104_28, x104_31, x104_32, x104_34, x104_37, x104_40, x104_43, x104_46, x104_47, x104_51, x104_52, x104_55, x104_58, x104_59, x104_62, x104_64, x104_67, x104_68, x104_71, x104_72, x104_73, x104_76, x104_78, x104_79, x104_82, x104_84, x104_85, x104_88, x104_90, x104_93, x104_96, x104_99, x104_101, x104_105, x104_106, x104_109, x104_110, x104_113, x104_115, x104_116, x104_119, x104_121, x104_122, x104_123, x104_126, x104_129, x104_132, x104_138, x104_141, sh_s, lq_s, sh_s1, lq_s1, sh_s2, lq_s2, sh_s3, lq_s3, sh_s4, lq_s4, sh_s5, lq_s5, sh_s6, lq_s6, sh_s7, lq_s7, sh_s8, lq_s8, sh_s9, lq_s9, sh_s10, lq_s10, sh_s11, lq_s11, sh_s12, lq_s12, sh_s13, lq_s13, sh_s14, lq_s14, sh_s15, lq_s15, sh_s16, lq_s16, sh_s17, lq_s17, sh_s18, lq_s18, sh_s19, lq_s19, sh_s20, lq_s20, sh_s21, lq_s21, sh_s22, lq_s22, sh_s23, lq_s23, sh_s24, lq_s24, sh_s25, lq_s25, rg_s0_0, rg_s0_1, rg_s0_2, rg_s0_3, rg_s1_0, rg_s1_1, rg_s1_2, rg_s1_3, rg_s1_4, rg_s7_0, rg_s9_0, rg_s9_1, rg_s9_2, rg_s9_3, rg_s9_4, rg_s9_5, rg_s16_6, rg_s16_7, rg_s16_0, rg_s16_1, rg_s16_2, rg_s16_3, rg_s16_4, rg_s16_5, sh_o, lq_o, sh_o1, lq_o1, sh_o2, lq_o2, sh_o3, lq_o3, sh_o4, lq_o4, sh_o5, lq_o5, sh_o6, lq_o6, rg_o0, rg_o1, rg_o2, rg_o3, rg_o4, rg_o5, ex5, Option.toList_some, Option.toList_none, List.cons_append, List.nil_append, true_and, and_true, nI_1, p_at, p_set, p_isIn, p_max, p_min, p_abs, hs, hC1.1.1, nI_le (Nat.le_refl N) (by omega), if_true]
      exact r1
    · intro j hj ih J g1 g4
      have hC1 := hC' (J := J) (fun p _ _ p8 => g4 p p8)
      have hle := cnN_le V h j
      have e2 : cnN V h (j + 1) = if V 1 j = h then cnN V h j + 1 else cnN V h j := rfl
      by_cases k : V 1 j = h
      · rw [if_pos k] at e2
        have e3 : ∀ i, lfS V h (j + 1) i = if i = cnN V h j then nI j else lfS V h j i := fun i => by simp only [lfS, if_pos k]
        rw [e2] at ih
        have e8 : ∀ v, setv J 8 (nI (cnN V h j)) v = up2 J 8 (cnN V h j) v := fun v => setv_lt (show cnN V h j < 12 by omega)
        obtain ⟨J', r1, r2⟩ := ih (up2 J 8 (cnN V h j) (nI j)) (fun i hi => by
          rw [e3]
          by_cases c : i = cnN V h j
          · rw [if_pos c, c, up2_eq]
          · rw [if_neg c, up2_k c]; exact g1 i (by omega)) (fun p p8 => (funext fun a => up2_p p8 : up2 J 8 _ _ p = J p).trans (g4 p p8))
        refine ⟨J', fun r => ?_, r2⟩
        rw [x104_5]
        simp only [x104_0, x104_1, x104_2, x104_3, x104_7, x104_8, x104_11, x104_14, x104_15, x104_18, x104_20, x104_23, x104_24, x104_27, x104_28, x104_31, x104_32, x104_34, x104_37, x104_40, x104_43, x104_46, x104_47, x104_51, x104_52, x104_55, x104_58, x104_59, x104_62, x104_64, x104_67, x104_68, x104_71, x104_72, x104_73, x104_76, x104_78, x104_79, x104_82, x104_84, x104_85, x104_88, x104_90, x104_93, x104_96, x104_99, x104_101, x104_105, x104_106, x104_109, x104_110, x104_113, x104_115, x104_116, x104_119, x104_121, x104_122, x104_123, x104_126, x104_129, x104_132, x104_138, x104_141, sh_s, lq_s, sh_s1, lq_s1, sh_s2, lq_s2, sh_s3, lq_s3, sh_s4, lq_s4, sh_s5, lq_s5, sh_s6, lq_s6, sh_s7, lq_s7, sh_s8, lq_s8, sh_s9, lq_s9, sh_s10, lq_s10, sh_s11, lq_s11, sh_s12, lq_s12, sh_s13, lq_s13, sh_s14, lq_s14, sh_s15, lq_s15, sh_s16, lq_s16, sh_s17, lq_s17, sh_s18, lq_s18, sh_s19, lq_s19, sh_s20, lq_s20, sh_s21, lq_s21, sh_s22, lq_s22, sh_s23, lq_s23, sh_s24, lq_s24, sh_s25, lq_s25, rg_s0_0, rg_s0_1, rg_s0_2, rg_s0_3, rg_s1_0, rg_s1_1, rg_s1_2, rg_s1_3, rg_s1_4, rg_s7_0, rg_s9_0, rg_s9_1, rg_s9_2, rg_s9_3, rg_s9_4, rg_s9_5, rg_s16_6, rg_s16_7, rg_s16_0, rg_s16_1, rg_s16_2, rg_s16_3, rg_s16_4, rg_s16_5, sh_o, lq_o, sh_o1, lq_o1, sh_o2, lq_o2, sh_o3, lq_o3, sh_o4, lq_o4, sh_o5, lq_o5, sh_o6, lq_o6, rg_o0, rg_o1, rg_o2, rg_o3, rg_o4, rg_o5, sh_3, lq_3, rg_3_4, p_set (n := 179) lz_8 ly_8, ex5, Option.toList_some, Option.toList_none, List.cons_append, List.nil_append, true_and, and_true, nI_1, p_at, p_set, p_isIn, p_max, p_min, p_abs, hs, hC1.1.1, nI_ge hj (by omega), if_false, a_hat hB hC1 hj, k, if_true, e8]
        exact r1 r
      · rw [if_neg k] at e2
        have e3 : lfS V h (j + 1) = lfS V h j := by simp only [lfS, if_neg k]
        rw [e2, e3] at ih
        obtain ⟨J', r1, r2⟩ := ih J g1 g4
        refine ⟨J', fun r => ?_, r2⟩
        rw [x104_5]
        simp only [x104_0, x104_1, x104_2, x104_3, x104_7, x104_8, x104_11, x104_14, x104_15, x104_18, x104_20, x104_23, x104_24, x104_27, x104_28, x104_31, x104_32, x104_34, x104_37, x104_40, x104_43, x104_46, x104_47, x104_51, x104_52, x104_55, x104_58, x104_59, x104_62, x104_64, x104_67, x104_68, x104_71, x104_72, x104_73, x104_76, x104_78, x104_79, x104_82, x104_84, x104_85, x104_88, x104_90, x104_93, x104_96, x104_99, x104_101, x104_105, x104_106, x104_109, x104_110, x104_113, x104_115, x104_116, x104_119, x104_121, x104_122, x104_123, x104_126, x104_129, x104_132, x104_138, x104_141, sh_s, lq_s, sh_s1, lq_s1, sh_s2, lq_s2, sh_s3, lq_s3, sh_s4, lq_s4, sh_s5, lq_s5, sh_s6, lq_s6, sh_s7, lq_s7, sh_s8, lq_s8, sh_s9, lq_s9, sh_s10, lq_s10, sh_s11, lq_s11, sh_s12, lq_s12, sh_s13, lq_s13, sh_s14, lq_s14, sh_s15, lq_s15, sh_s16, lq_s16, sh_s17, lq_s17, sh_s18, lq_s18, sh_s19, lq_s19, sh_s20, lq_s20, sh_s21, lq_s21, sh_s22, lq_s22, sh_s23, lq_s23, sh_s24, lq_s24, sh_s25, lq_s25, rg_s0_0, rg_s0_1, rg_s0_2, rg_s0_3, rg_s1_0, rg_s1_1, rg_s1_2, rg_s1_3, rg_s1_4, rg_s7_0, rg_s9_0, rg_s9_1, rg_s9_2, rg_s9_3, rg_s9_4, rg_s9_5, rg_s16_6, rg_s16_7, rg_s16_0, rg_s16_1, rg_s16_2, rg_s16_3, rg_s16_4, rg_s16_5, sh_o, lq_o, sh_o1, lq_o1, sh_o2, lq_o2, sh_o3, lq_o3, sh_o4, lq_o4, sh_o5, lq_o5, sh_o6, lq_o6, rg_o0, rg_o1, rg_o2, rg_o3, rg_o4, rg_o5, ex5, Option.toList_some, Option.toList_none, List.cons_append, List.nil_append, true_and, and_true, nI_1, p_at, p_set, p_isIn, p_max, p_min, p_abs, hs, hC1.1.1, nI_ge hj (by omega), if_false, a_hat hB hC1 hj, k]
        exact r1 r
  obtain ⟨J', r1, r2⟩ := key1 0 (Nat.zero_le _) I (fun i hi => absurd hi (Nat.not_lt_zero i)) (fun _ _ => rfl)
  refine ⟨J', fun r => ?_, r2⟩
  have r1 := r1 r
  have z0 : cnN V h 0 = 0 := rfl
  rw [z0, nI_0] at r1
  rw [em_104]
  simp only [x104_0, x104_1, x104_2, x104_3, x104_7, x104_8, x104_11, x104_14, x104_15, x104_18, x104_20, x104_23, x104_24, x104_27, x104_28, x104_31, x104_32, x104_34, x104_37, x104_40, x104_43, x104_46, x104_47, x104_51, x104_52, x104_55, x104_58, x104_59, x104_62, x104_64, x104_67, x104_68, x104_71, x104_72, x104_73, x104_76, x104_78, x104_79, x104_82, x104_84, x104_85, x104_88, x104_90, x104_93, x104_96, x104_99, x104_101, x104_105, x104_106, x104_109, x104_110, x104_113, x104_115, x104_116, x104_119, x104_121, x104_122, x104_123, x104_126, x104_129, x104_132, x104_138, x104_141]
  exact r1
/-- the reference's -/
theorem r_shift {j k n : Nat} {Q : Nat → Int32} (hn : n ≤ 12) (hk : k < n) : ∀ i, i ≤ n - 1 → k ≤ i → ∀ J, (∀ a, a < n → J 176 a = if k ≤ a ∧ a < i then Q (a + 1) else Q a) → (∀ p, p ≠ 176 → J p = I p) → ∃ J', (∀ r, Ev L xs 1 276 91 [some (.ref 112), some (.int h), some (.int (nI (n - 1))), some (.int (nI j)), some (.int (nI k)), some (.int (nI i))] [] (179, J, Lm, RG nw sp s2 ai) r ↔ Ev L xs 1 276 119 [some (.ref 112), some (.int h), some (.int (nI (n - 1))), some (.int (nI j)), some (.int (nI k)), some (.int (nI (n - 1)))] [] (179, J', Lm, RG nw sp s2 ai) r) ∧ (∀ a, a < n → J' 176 a = if k ≤ a ∧ a < n - 1 then Q (a + 1) else Q a) ∧ (∀ p, p ≠ 176 → J' p = I p) := by
  refine up_ind ?_ ?_
  · intro _ J h1 h2
    refine ⟨J, fun r => ?_, h1, h2⟩
    rw [x276_91]
    simp only [x276_0, x276_1, x276_2, x276_3, x276_5, x276_6, x276_9, x276_12, x276_13, x276_16, x276_17, x276_18, x276_19, x276_22, x276_25, x276_26, x276_29, x276_30, x276_31, x276_32, x276_35, x276_38, x276_41, x276_42, x276_44, x276_45, x276_48, x276_51, x276_52, x276_55, x276_56, x276_57, x276_58, x276_61, x276_64, x276_65, x276_66, x276_69, x276_71, x276_72, x276_75, x276_76, x276_77, x276_80, x276_82, x276_83, x276_84, x276_87, x276_89, x276_93, x276_94, x276_97, x276_98, x276_101, x276_103, x276_104, x276_107, x276_109, x276_110, x276_111, x276_112, x276_113, x276_116, x276_122, x276_125, nI_le (Nat.le_refl (n - 1)) (by omega), if_true]
  · intro i hi ih hki J h1 h2
    have i1 : inb (nI i) 12 = True := inb_i (by omega) (by decide)
    have i2 : ixn (nI i) = i := ixn_nI (by omega)
    have i3 : inb (nI (i + 1)) 12 = True := inb_i (by omega) (by decide)
    have i4 : ixn (nI (i + 1)) = i + 1 := ixn_nI (by omega)
    have e3 : J 176 (i + 1) = Q (i + 1) := by rw [h1 (i + 1) (by omega), if_neg (by omega)]
    obtain ⟨J', g1, g2⟩ := ih (by omega) (up2 J 176 i (Q (i + 1))) (fun a ha => by
      by_cases c : a = i
      · rw [c, up2_eq, if_pos (by omega)]
      · rw [up2_k c, h1 a ha]
        by_cases d : k ≤ a ∧ a < i
        · rw [if_pos d, if_pos (by omega)]
        · rw [if_neg d, if_neg (by omega)]) (fun p hp => (funext fun a => up2_p hp : up2 J 176 i _ p = J p).trans (h2 p hp))
    refine ⟨J', fun r => ?_, g2⟩
    rw [x276_91]
    simp only [x276_0, x276_1, x276_2, x276_3, x276_5, x276_6, x276_9, x276_12, x276_13, x276_16, x276_17, x276_18, x276_19, x276_22, x276_25, x276_26, x276_29, x276_30, x276_31, x276_32, x276_35, x276_38, x276_41, x276_42, x276_44, x276_45, x276_48, x276_51, x276_52, x276_55, x276_56, x276_57, x276_58, x276_61, x276_64, x276_65, x276_66, x276_69, x276_71, x276_72, x276_75, x276_76, x276_77, x276_80, x276_82, x276_83, x276_84, x276_87, x276_89, x276_93, x276_94, x276_97, x276_98, x276_101, x276_103, x276_104, x276_107, x276_109, x276_110, x276_111, x276_112, x276_113, x276_116, x276_122, x276_125, sh_112, sh_113, sh_114, sh_115, sh_116, sh_117, sh_118, sh_119, sh_120, sh_121, sh_122, sh_123, sh_124, sh_125, sh_126, sh_127, sh_128, sh_129, sh_130, sh_131, sh_132, sh_133, sh_134, sh_135, sh_136, sh_137, sh_138, sh_139, sh_140, sh_141, sh_142, sh_143, sh_144, sh_145, sh_146, sh_147, sh_148, sh_149, sh_150, sh_151, sh_152, sh_153, sh_154, sh_155, sh_156, sh_157, sh_158, sh_159, sh_160, sh_161, sh_162, sh_163, sh_164, sh_165, sh_166, sh_167, sh_168, sh_169, sh_170, sh_171, sh_172, sh_173, sh_174, sh_175, sh_176, sh_177, sh_178, lq_112, lq_113, lq_114, lq_115, lq_116, lq_117, lq_118, lq_119, lq_120, lq_121, lq_122, lq_123, lq_124, lq_125, lq_126, lq_127, lq_128, lq_129, lq_130, lq_131, lq_132, lq_133, lq_134, lq_135, lq_136, lq_137, lq_138, lq_139, lq_140, lq_141, lq_142, lq_143, lq_144, lq_145, lq_146, lq_147, lq_148, lq_149, lq_150, lq_151, lq_152, lq_153, lq_154, lq_155, lq_156, lq_157, lq_158, lq_159, lq_160, lq_161, lq_162, lq_163, lq_164, lq_165, lq_166, lq_167, lq_168, lq_169, lq_170, lq_171, lq_172, lq_173, lq_174, lq_175, lq_176, lq_177, lq_178, rg_112_0, rg_112_9, rg_112_10, rg_112_11, rg_112_12, rg_112_13, rg_112_14, rg_112_15, rg_112_16, rg_112_17, rg_112_18, rg_112_19, rg_112_20, rg_112_21, rg_112_22, rg_112_23, rg_112_24, rg_112_25, rg_112_26, rg_112_27, rg_112_28, rg_112_29, rg_112_30, rg_112_31, rg_112_32, rg_112_33, rg_112_34, rg_112_35, rg_112_36, rg_112_37, rg_112_38, rg_112_39, rg_112_40, rg_112_41, rg_112_43, rg_112_44, rg_112_45, rg_112_46, rg_112_47, rg_112_48, rg_112_49, rg_112_51, rg_112_55, rg_112_57, rg_112_60, rg_112_61, rg_112_62, rg_112_63, rg_112_64, rg_112_66, rg_112_67, rg_112_68, rg_112_69, rg_112_70, rg_112_71, rg_112_72, rg_112_73, rg_112_74, rg_112_80, rg_112_83, rg_112_84, rg_112_85, rg_112_86, rg_112_90, rg_112_91, rg_112_92, ex5, Option.toList_some, Option.toList_none, List.cons_append, List.nil_append, true_and, and_true, nI_1, p_at, p_set, p_isIn, p_max, p_min, p_abs, nI_ge hi (by omega), if_false, i1, i2, i3, i4, e3]
    exact g1 r
theorem r_drawHat {x : Nat} {D : Nat → Int32} (hR : MR I 0 N NS NH V) (hP : I 148 5 = nI N) (hN : N ≤ 12) (hx : x < 2 ^ 31) (h9 : Lm 112 89 = lN x) (h6 : ∀ p, p < N → I 169 p = D p) : ∃ J, (∀ r, Em L xs 276 [.ref 112, .int h] (179, I, Lm, RG nw sp s2 ai) r ↔ r = (none, 179, J, up2 Lm 112 89 (lN (dhE V N h x D).2.2.1), RG nw sp s2 ai)) ∧ (∀ p, p < N → J 169 p = (dhE V N h x D).2.2.2 p) ∧ (∀ p, p ≠ 169 → p ≠ 176 → J p = I p) := by
  obtain ⟨o1, o2, o3⟩ := dh0_ok (V := V) (N := N) (h := h) (D := D) hx
  have key2 : ∀ j, j ≤ N → ∀ J w4 w5, (∀ i, i < (dhS V h (dh0 V N h x D) j).2.1 → J 176 i = (dhS V h (dh0 V N h x D) j).1 i) → (∀ p, p < N → J 169 p = (dhS V h (dh0 V N h x D) j).2.2.2 p) → (∀ p, p ≠ 169 → p ≠ 176 → J p = I p) → ∃ J', (∀ r, Ev L xs 1 276 43 [some (.ref 112), some (.int h), some (.int (nI (dhS V h (dh0 V N h x D) j).2.1)), some (.int (nI j)), w4, w5] [] (179, J, up2 Lm 112 89 (lN (dhS V h (dh0 V N h x D) j).2.2.1), RG nw sp s2 ai) r ↔ r = (none, 179, J', up2 Lm 112 89 (lN (dhE V N h x D).2.2.1), RG nw sp s2 ai)) ∧ (∀ p, p < N → J' 169 p = (dhE V N h x D).2.2.2 p) ∧ (∀ p, p ≠ 169 → p ≠ 176 → J' p = I p) := by
    refine up_ind ?_ ?_
    · intro J w4 w5 g1 g3 g4
      have hc : J 148 5 = nI N := by rw [g4 148 (by decide) (by decide)]; exact hP
      refine ⟨J, fun r => ?_, g3, g4⟩
      rw [x276_43]
      simp only [x276_0, x276_1, x276_2, x276_3, x276_5, x276_6, x276_9, x276_12, x276_13, x276_16, x276_17, x276_18, x276_19, x276_22, x276_25, x276_26, x276_29, x276_30, x276_31, x276_32, x276_35, x276_38, x276_41, x276_42, x276_44, x276_45, x276_48, x276_51, x276_52, x276_55, x276_56, x276_57, x276_58, x276_61, x276_64, x276_65, x276_66, x276_69, x276_71, x276_72, x276_75, x276_76, x276_77, x276_80, x276_82, x276_83, x276_84, x276_87, x276_89, x276_93, x276_94, x276_97, x276_98, x276_101, x276_103, x276_104, x276_107, x276_109, x276_110, x276_111, x276_112, x276_113, x276_116, x276_122, x276_125, sh_112, sh_113, sh_114, sh_115, sh_116, sh_117, sh_118, sh_119, sh_120, sh_121, sh_122, sh_123, sh_124, sh_125, sh_126, sh_127, sh_128, sh_129, sh_130, sh_131, sh_132, sh_133, sh_134, sh_135, sh_136, sh_137, sh_138, sh_139, sh_140, sh_141, sh_142, sh_143, sh_144, sh_145, sh_146, sh_147, sh_148, sh_149, sh_150, sh_151, sh_152, sh_153, sh_154, sh_155, sh_156, sh_157, sh_158, sh_159, sh_160, sh_161, sh_162, sh_163, sh_164, sh_165, sh_166, sh_167, sh_168, sh_169, sh_170, sh_171, sh_172, sh_173, sh_174, sh_175, sh_176, sh_177, sh_178, lq_112, lq_113, lq_114, lq_115, lq_116, lq_117, lq_118, lq_119, lq_120, lq_121, lq_122, lq_123, lq_124, lq_125, lq_126, lq_127, lq_128, lq_129, lq_130, lq_131, lq_132, lq_133, lq_134, lq_135, lq_136, lq_137, lq_138, lq_139, lq_140, lq_141, lq_142, lq_143, lq_144, lq_145, lq_146, lq_147, lq_148, lq_149, lq_150, lq_151, lq_152, lq_153, lq_154, lq_155, lq_156, lq_157, lq_158, lq_159, lq_160, lq_161, lq_162, lq_163, lq_164, lq_165, lq_166, lq_167, lq_168, lq_169, lq_170, lq_171, lq_172, lq_173, lq_174, lq_175, lq_176, lq_177, lq_178, rg_112_0, rg_112_9, rg_112_10, rg_112_11, rg_112_12, rg_112_13, rg_112_14, rg_112_15, rg_112_16, rg_112_17, rg_112_18, rg_112_19, rg_112_20, rg_112_21, rg_112_22, rg_112_23, rg_112_24, rg_112_25, rg_112_26, rg_112_27, rg_112_28, rg_112_29, rg_112_30, rg_112_31, rg_112_32, rg_112_33, rg_112_34, rg_112_35, rg_112_36, rg_112_37, rg_112_38, rg_112_39, rg_112_40, rg_112_41, rg_112_43, rg_112_44, rg_112_45, rg_112_46, rg_112_47, rg_112_48, rg_112_49, rg_112_51, rg_112_55, rg_112_57, rg_112_60, rg_112_61, rg_112_62, rg_112_63, rg_112_64, rg_112_66, rg_112_67, rg_112_68, rg_112_69, rg_112_70, rg_112_71, rg_112_72, rg_112_73, rg_112_74, rg_112_80, rg_112_83, rg_112_84, rg_112_85, rg_112_86, rg_112_90, rg_112_91, rg_112_92, ex5, Option.toList_some, Option.toList_none, List.cons_append, List.nil_append, true_and, and_true, nI_1, p_at, p_set, p_isIn, p_max, p_min, p_abs, r_people hc, nI_le (Nat.le_refl N) (by omega), if_true]
      rfl
    · intro j hj ih J w4 w5 g1 g3 g4
      have hc : J 148 5 = nI N := by rw [g4 148 (by decide) (by decide)]; exact hP
      have v1 : inb (nI j) 32 = True := inb_i (by omega) (by decide)
      have v2 : ixn (nI j) = j := ixn_nI (by omega)
      have v3 : inb (nI j) 12 = True := inb_i (by omega) (by decide)
      have eh := (hR.2.2.1 j hj).2.1
      rw [Nat.zero_add] at eh
      have eh2 : J 163 j = V 1 j := by rw [g4 163 (by decide) (by decide)]; exact eh
      obtain ⟨a, b, c, d, e⟩ := dhS_ok o1 o2 o3 j (by omega)
      obtain ⟨a', -⟩ := dhS_ok o1 o2 o3 (j + 1) (by omega)
      have e2 : cnN V h (j + 1) = if V 1 j = h then cnN V h j + 1 else cnN V h j := rfl
      by_cases k : V 1 j = h
      · have en : (dhS V h (dh0 V N h x D) (j + 1)) = (fun i => if dwS (dhS V h (dh0 V N h x D) j).2.2.1 (dhS V h (dh0 V N h x D) j).2.1 ≤ i ∧ i < (dhS V h (dh0 V N h x D) j).2.1 - 1 then (dhS V h (dh0 V N h x D) j).1 (i + 1) else (dhS V h (dh0 V N h x D) j).1 i, (dhS V h (dh0 V N h x D) j).2.1 - 1, nxS (dhS V h (dh0 V N h x D) j).2.2.1, fun p => if p = j then (dhS V h (dh0 V N h x D) j).1 (dwS (dhS V h (dh0 V N h x D) j).2.2.1 (dhS V h (dh0 V N h x D) j).2.1) else (dhS V h (dh0 V N h x D) j).2.2.2 p) := by simp only [dhS, if_pos k]
        rw [if_pos k] at e2
        rw [en] at ih a'
        have hle := cnN_le V h N
        generalize dhS V h (dh0 V N h x D) j = q at ih a b c d e g1 g3 a' ⊢
        obtain ⟨Q, n, y, E⟩ := q
        simp only at ih a b c d e g1 g3 a' ⊢
        have hn0 : 0 < n := by omega
        have hn12 : n ≤ 12 := by omega
        have hdw : dwS y n < n := Nat.mod_lt _ hn0
        have hdr := r_draw (I := J) (L := L) (xs := xs) (Lm := up2 Lm 112 89 (lN y)) (nw := nw) (sp := sp) (s2 := s2) (ai := ai) (x := y) (m := n) up2_eq b hn0 (show n < 2 ^ 31 by omega)
        have u1 : inb (nI (dwS y n)) 12 = True := inb_i (by omega) (by decide)
        have u2 : ixn (nI (dwS y n)) = dwS y n := ixn_nI (by omega)
        have e8 : J 176 (dwS y n) = Q (dwS y n) := g1 _ hdw
        obtain ⟨J1, k1, k2, k3⟩ := r_shift (L := L) (xs := xs) (Lm := up2 Lm 112 89 (lN (nxS y))) (nw := nw) (sp := sp) (s2 := s2) (ai := ai) (h := h) (j := j) (k := dwS y n) (n := n) (Q := Q) (I := up2 J 169 j (Q (dwS y n))) hn12 hdw (dwS y n) (by omega) (Nat.le_refl _) (up2 J 169 j (Q (dwS y n))) (fun a ha => by rw [if_neg (by omega), up2_p (by decide)]; exact g1 a ha) (fun _ _ => rfl)
        obtain ⟨J', r1, r2⟩ := ih J1 (some (.int (nI (dwS y n)))) (some (.int (nI (n - 1)))) (fun i hi => by rw [k2 i (by omega)]) (fun p hp => by
          rw [k3 169 (by decide)]
          by_cases z : p = j
          · rw [z, up2_eq, if_pos rfl]
          · rw [up2_k z, if_neg z]; exact g3 p hp) (fun p p3 p6 => by rw [k3 p p6, ← g4 p p3 p6]; exact funext fun a => up2_p p3)
        refine ⟨J', fun r => ?_, r2⟩
        have r1 := r1 r
        rw [x276_43]
        simp only [x276_0, x276_1, x276_2, x276_3, x276_5, x276_6, x276_9, x276_12, x276_13, x276_16, x276_17, x276_18, x276_19, x276_22, x276_25, x276_26, x276_29, x276_30, x276_31, x276_32, x276_35, x276_38, x276_41, x276_42, x276_44, x276_45, x276_48, x276_51, x276_52, x276_55, x276_56, x276_57, x276_58, x276_61, x276_64, x276_65, x276_66, x276_69, x276_71, x276_72, x276_75, x276_76, x276_77, x276_80, x276_82, x276_83, x276_84, x276_87, x276_89, x276_93, x276_94, x276_97, x276_98, x276_101, x276_103, x276_104, x276_107, x276_109, x276_110, x276_111, x276_112, x276_113, x276_116, x276_122, x276_125, sh_112, sh_113, sh_114, sh_115, sh_116, sh_117, sh_118, sh_119, sh_120, sh_121, sh_122, sh_123, sh_124, sh_125, sh_126, sh_127, sh_128, sh_129, sh_130, sh_131, sh_132, sh_133, sh_134, sh_135, sh_136, sh_137, sh_138, sh_139, sh_140, sh_141, sh_142, sh_143, sh_144, sh_145, sh_146, sh_147, sh_148, sh_149, sh_150, sh_151, sh_152, sh_153, sh_154, sh_155, sh_156, sh_157, sh_158, sh_159, sh_160, sh_161, sh_162, sh_163, sh_164, sh_165, sh_166, sh_167, sh_168, sh_169, sh_170, sh_171, sh_172, sh_173, sh_174, sh_175, sh_176, sh_177, sh_178, lq_112, lq_113, lq_114, lq_115, lq_116, lq_117, lq_118, lq_119, lq_120, lq_121, lq_122, lq_123, lq_124, lq_125, lq_126, lq_127, lq_128, lq_129, lq_130, lq_131, lq_132, lq_133, lq_134, lq_135, lq_136, lq_137, lq_138, lq_139, lq_140, lq_141, lq_142, lq_143, lq_144, lq_145, lq_146, lq_147, lq_148, lq_149, lq_150, lq_151, lq_152, lq_153, lq_154, lq_155, lq_156, lq_157, lq_158, lq_159, lq_160, lq_161, lq_162, lq_163, lq_164, lq_165, lq_166, lq_167, lq_168, lq_169, lq_170, lq_171, lq_172, lq_173, lq_174, lq_175, lq_176, lq_177, lq_178, rg_112_0, rg_112_9, rg_112_10, rg_112_11, rg_112_12, rg_112_13, rg_112_14, rg_112_15, rg_112_16, rg_112_17, rg_112_18, rg_112_19, rg_112_20, rg_112_21, rg_112_22, rg_112_23, rg_112_24, rg_112_25, rg_112_26, rg_112_27, rg_112_28, rg_112_29, rg_112_30, rg_112_31, rg_112_32, rg_112_33, rg_112_34, rg_112_35, rg_112_36, rg_112_37, rg_112_38, rg_112_39, rg_112_40, rg_112_41, rg_112_43, rg_112_44, rg_112_45, rg_112_46, rg_112_47, rg_112_48, rg_112_49, rg_112_51, rg_112_55, rg_112_57, rg_112_60, rg_112_61, rg_112_62, rg_112_63, rg_112_64, rg_112_66, rg_112_67, rg_112_68, rg_112_69, rg_112_70, rg_112_71, rg_112_72, rg_112_73, rg_112_74, rg_112_80, rg_112_83, rg_112_84, rg_112_85, rg_112_86, rg_112_90, rg_112_91, rg_112_92, ex5, Option.toList_some, Option.toList_none, List.cons_append, List.nil_append, true_and, and_true, nI_1, p_at, p_set, p_isIn, p_max, p_min, p_abs, r_people hc, nI_ge hj (by omega), if_false, v1, v2, v3, eh2, k, if_true, hdr, u1, u2, e8, nI_dec hn0, up2_up2]
        rw [k1, x276_119]
        simp only [x276_0, x276_1, x276_2, x276_3, x276_5, x276_6, x276_9, x276_12, x276_13, x276_16, x276_17, x276_18, x276_19, x276_22, x276_25, x276_26, x276_29, x276_30, x276_31, x276_32, x276_35, x276_38, x276_41, x276_42, x276_44, x276_45, x276_48, x276_51, x276_52, x276_55, x276_56, x276_57, x276_58, x276_61, x276_64, x276_65, x276_66, x276_69, x276_71, x276_72, x276_75, x276_76, x276_77, x276_80, x276_82, x276_83, x276_84, x276_87, x276_89, x276_93, x276_94, x276_97, x276_98, x276_101, x276_103, x276_104, x276_107, x276_109, x276_110, x276_111, x276_112, x276_113, x276_116, x276_122, x276_125, nI_1]
        exact r1
      · have en : dhS V h (dh0 V N h x D) (j + 1) = dhS V h (dh0 V N h x D) j := by simp only [dhS, if_neg k]
        rw [en] at ih
        obtain ⟨J', r1, r2⟩ := ih J w4 w5 g1 g3 g4
        refine ⟨J', fun r => ?_, r2⟩
        rw [x276_43]
        simp only [x276_0, x276_1, x276_2, x276_3, x276_5, x276_6, x276_9, x276_12, x276_13, x276_16, x276_17, x276_18, x276_19, x276_22, x276_25, x276_26, x276_29, x276_30, x276_31, x276_32, x276_35, x276_38, x276_41, x276_42, x276_44, x276_45, x276_48, x276_51, x276_52, x276_55, x276_56, x276_57, x276_58, x276_61, x276_64, x276_65, x276_66, x276_69, x276_71, x276_72, x276_75, x276_76, x276_77, x276_80, x276_82, x276_83, x276_84, x276_87, x276_89, x276_93, x276_94, x276_97, x276_98, x276_101, x276_103, x276_104, x276_107, x276_109, x276_110, x276_111, x276_112, x276_113, x276_116, x276_122, x276_125, sh_112, sh_113, sh_114, sh_115, sh_116, sh_117, sh_118, sh_119, sh_120, sh_121, sh_122, sh_123, sh_124, sh_125, sh_126, sh_127, sh_128, sh_129, sh_130, sh_131, sh_132, sh_133, sh_134, sh_135, sh_136, sh_137, sh_138, sh_139, sh_140, sh_141, sh_142, sh_143, sh_144, sh_145, sh_146, sh_147, sh_148, sh_149, sh_150, sh_151, sh_152, sh_153, sh_154, sh_155, sh_156, sh_157, sh_158, sh_159, sh_160, sh_161, sh_162, sh_163, sh_164, sh_165, sh_166, sh_167, sh_168, sh_169, sh_170, sh_171, sh_172, sh_173, sh_174, sh_175, sh_176, sh_177, sh_178, lq_112, lq_113, lq_114, lq_115, lq_116, lq_117, lq_118, lq_119, lq_120, lq_121, lq_122, lq_123, lq_124, lq_125, lq_126, lq_127, lq_128, lq_129, lq_130, lq_131, lq_132, lq_133, lq_134, lq_135, lq_136, lq_137, lq_138, lq_139, lq_140, lq_141, lq_142, lq_143, lq_144, lq_145, lq_146, lq_147, lq_148, lq_149, lq_150, lq_151, lq_152, lq_153, lq_154, lq_155, lq_156, lq_157, lq_158, lq_159, lq_160, lq_161, lq_162, lq_163, lq_164, lq_165, lq_166, lq_167, lq_168, lq_169, lq_170, lq_171, lq_172, lq_173, lq_174, lq_175, lq_176, lq_177, lq_178, rg_112_0, rg_112_9, rg_112_10, rg_112_11, rg_112_12, rg_112_13, rg_112_14, rg_112_15, rg_112_16, rg_112_17, rg_112_18, rg_112_19, rg_112_20, rg_112_21, rg_112_22, rg_112_23, rg_112_24, rg_112_25, rg_112_26, rg_112_27, rg_112_28, rg_112_29, rg_112_30, rg_112_31, rg_112_32, rg_112_33, rg_112_34, rg_112_35, rg_112_36, rg_112_37, rg_112_38, rg_112_39, rg_112_40, rg_112_41, rg_112_43, rg_112_44, rg_112_45, rg_112_46, rg_112_47, rg_112_48, rg_112_49, rg_112_51, rg_112_55, rg_112_57, rg_112_60, rg_112_61, rg_112_62, rg_112_63, rg_112_64, rg_112_66, rg_112_67, rg_112_68, rg_112_69, rg_112_70, rg_112_71, rg_112_72, rg_112_73, rg_112_74, rg_112_80, rg_112_83, rg_112_84, rg_112_85, rg_112_86, rg_112_90, rg_112_91, rg_112_92, ex5, Option.toList_some, Option.toList_none, List.cons_append, List.nil_append, true_and, and_true, nI_1, p_at, p_set, p_isIn, p_max, p_min, p_abs, r_people hc, nI_ge hj (by omega), if_false, v1, v2, eh2, k]
        rw [x276_119]
        simp only [x276_0, x276_1, x276_2, x276_3, x276_5, x276_6, x276_9, x276_12, x276_13, x276_16, x276_17, x276_18, x276_19, x276_22, x276_25, x276_26, x276_29, x276_30, x276_31, x276_32, x276_35, x276_38, x276_41, x276_42, x276_44, x276_45, x276_48, x276_51, x276_52, x276_55, x276_56, x276_57, x276_58, x276_61, x276_64, x276_65, x276_66, x276_69, x276_71, x276_72, x276_75, x276_76, x276_77, x276_80, x276_82, x276_83, x276_84, x276_87, x276_89, x276_93, x276_94, x276_97, x276_98, x276_101, x276_103, x276_104, x276_107, x276_109, x276_110, x276_111, x276_112, x276_113, x276_116, x276_122, x276_125, nI_1]
        exact r1 r
  have key1 : ∀ j, j ≤ N → ∀ J, (∀ i, i < cnN V h j → J 176 i = lfS V h j i) → (∀ p, p ≠ 176 → J p = I p) → ∃ J', (∀ r, Ev L xs 1 276 4 [some (.ref 112), some (.int h), some (.int (nI (cnN V h j))), some (.int (nI j)), none, none] [] (179, J, Lm, RG nw sp s2 ai) r ↔ r = (none, 179, J', up2 Lm 112 89 (lN (dhE V N h x D).2.2.1), RG nw sp s2 ai)) ∧ (∀ p, p < N → J' 169 p = (dhE V N h x D).2.2.2 p) ∧ (∀ p, p ≠ 169 → p ≠ 176 → J' p = I p) := by
    refine up_ind ?_ ?_
    · intro J g1 g4
      have hc : J 148 5 = nI N := by rw [g4 148 (by decide)]; exact hP
      obtain ⟨J', r1, r2⟩ := key2 0 (Nat.zero_le _) J none none g1 (fun p hp => by rw [g4 169 (by decide)]; exact h6 p hp) (fun p _ p8 => g4 p p8)
      refine ⟨J', fun r => ?_, r2⟩
      have r1 := r1 r
      have hb : up2 Lm 112 89 (lN x) = Lm := by rw [← h9]; exact up2_same
      have z1 : (dhS V h (dh0 V N h x D) 0).2.2.1 = x := rfl
      rw [z1, hb, nI_0] at r1
      rw [x276_4]
      simp only [x276_0, x276_1, x276_2, x276_3, x276_5, x276_6, x276_9, x276_12, x276_13, x276_16, x276_17, x276_18, x276_19, x276_22, x276_25, x276_26, x276_29, x276_30, x276_31, x276_32, x276_35, x276_38, x276_41, x276_42, x276_44, x276_45, x276_48, x276_51, x276_52, x276_55, x276_56, x276_57, x276_58, x276_61, x276_64, x276_65, x276_66, x276_69, x276_71, x276_72, x276_75, x276_76, x276_77, x276_80, x276_82, x276_83, x276_84, x276_87, x276_89, x276_93, x276_94, x276_97, x276_98, x276_101, x276_103, x276_104, x276_107, x276_109, x276_110, x276_111, x276_112, x276_113, x276_116, x276_122, x276_125, sh_112, sh_113, sh_114, sh_115, sh_116, sh_117, sh_118, sh_119, sh_120, sh_121, sh_122, sh_123, sh_124, sh_125, sh_126, sh_127, sh_128, sh_129, sh_130, sh_131, sh_132, sh_133, sh_134, sh_135, sh_136, sh_137, sh_138, sh_139, sh_140, sh_141, sh_142, sh_143, sh_144, sh_145, sh_146, sh_147, sh_148, sh_149, sh_150, sh_151, sh_152, sh_153, sh_154, sh_155, sh_156, sh_157, sh_158, sh_159, sh_160, sh_161, sh_162, sh_163, sh_164, sh_165, sh_166, sh_167, sh_168, sh_169, sh_170, sh_171, sh_172, sh_173, sh_174, sh_175, sh_176, sh_177, sh_178, lq_112, lq_113, lq_114, lq_115, lq_116, lq_117, lq_118, lq_119, lq_120, lq_121, lq_122, lq_123, lq_124, lq_125, lq_126, lq_127, lq_128, lq_129, lq_130, lq_131, lq_132, lq_133, lq_134, lq_135, lq_136, lq_137, lq_138, lq_139, lq_140, lq_141, lq_142, lq_143, lq_144, lq_145, lq_146, lq_147, lq_148, lq_149, lq_150, lq_151, lq_152, lq_153, lq_154, lq_155, lq_156, lq_157, lq_158, lq_159, lq_160, lq_161, lq_162, lq_163, lq_164, lq_165, lq_166, lq_167, lq_168, lq_169, lq_170, lq_171, lq_172, lq_173, lq_174, lq_175, lq_176, lq_177, lq_178, rg_112_0, rg_112_9, rg_112_10, rg_112_11, rg_112_12, rg_112_13, rg_112_14, rg_112_15, rg_112_16, rg_112_17, rg_112_18, rg_112_19, rg_112_20, rg_112_21, rg_112_22, rg_112_23, rg_112_24, rg_112_25, rg_112_26, rg_112_27, rg_112_28, rg_112_29, rg_112_30, rg_112_31, rg_112_32, rg_112_33, rg_112_34, rg_112_35, rg_112_36, rg_112_37, rg_112_38, rg_112_39, rg_112_40, rg_112_41, rg_112_43, rg_112_44, rg_112_45, rg_112_46, rg_112_47, rg_112_48, rg_112_49, rg_112_51, rg_112_55, rg_112_57, rg_112_60, rg_112_61, rg_112_62, rg_112_63, rg_112_64, rg_112_66, rg_112_67, rg_112_68, rg_112_69, rg_112_70, rg_112_71, rg_112_72, rg_112_73, rg_112_74, rg_112_80, rg_112_83, rg_112_84, rg_112_85, rg_112_86, rg_112_90, rg_112_91, rg_112_92, ex5, Option.toList_some, Option.toList_none, List.cons_append, List.nil_append, true_and, and_true, nI_1, p_at, p_set, p_isIn, p_max, p_min, p_abs, r_people hc, nI_le (Nat.le_refl N) (by omega), if_true]
      exact r1
    · intro j hj ih J g1 g4
      have hc : J 148 5 = nI N := by rw [g4 148 (by decide)]; exact hP
      have v1 : inb (nI j) 32 = True := inb_i (by omega) (by decide)
      have v2 : ixn (nI j) = j := ixn_nI (by omega)
      have eh := (hR.2.2.1 j hj).2.1
      rw [Nat.zero_add] at eh
      have eh2 : J 163 j = V 1 j := by rw [g4 163 (by decide)]; exact eh
      have hle := cnN_le V h j
      have e2 : cnN V h (j + 1) = if V 1 j = h then cnN V h j + 1 else cnN V h j := rfl
      by_cases k : V 1 j = h
      · rw [if_pos k] at e2
        have e3 : ∀ i, lfS V h (j + 1) i = if i = cnN V h j then nI j else lfS V h j i := fun i => by simp only [lfS, if_pos k]
        rw [e2] at ih
        have u1 : inb (nI (cnN V h j)) 12 = True := inb_i (by omega) (by decide)
        have u2 : ixn (nI (cnN V h j)) = cnN V h j := ixn_nI (by omega)
        obtain ⟨J', r1, r2⟩ := ih (up2 J 176 (cnN V h j) (nI j)) (fun i hi => by
          rw [e3]
          by_cases c : i = cnN V h j
          · rw [if_pos c, c, up2_eq]
          · rw [if_neg c, up2_k c]; exact g1 i (by omega)) (fun p p8 => (funext fun a => up2_p p8 : up2 J 176 _ _ p = J p).trans (g4 p p8))
        refine ⟨J', fun r => ?_, r2⟩
        rw [x276_4]
        simp only [x276_0, x276_1, x276_2, x276_3, x276_5, x276_6, x276_9, x276_12, x276_13, x276_16, x276_17, x276_18, x276_19, x276_22, x276_25, x276_26, x276_29, x276_30, x276_31, x276_32, x276_35, x276_38, x276_41, x276_42, x276_44, x276_45, x276_48, x276_51, x276_52, x276_55, x276_56, x276_57, x276_58, x276_61, x276_64, x276_65, x276_66, x276_69, x276_71, x276_72, x276_75, x276_76, x276_77, x276_80, x276_82, x276_83, x276_84, x276_87, x276_89, x276_93, x276_94, x276_97, x276_98, x276_101, x276_103, x276_104, x276_107, x276_109, x276_110, x276_111, x276_112, x276_113, x276_116, x276_122, x276_125, sh_112, sh_113, sh_114, sh_115, sh_116, sh_117, sh_118, sh_119, sh_120, sh_121, sh_122, sh_123, sh_124, sh_125, sh_126, sh_127, sh_128, sh_129, sh_130, sh_131, sh_132, sh_133, sh_134, sh_135, sh_136, sh_137, sh_138, sh_139, sh_140, sh_141, sh_142, sh_143, sh_144, sh_145, sh_146, sh_147, sh_148, sh_149, sh_150, sh_151, sh_152, sh_153, sh_154, sh_155, sh_156, sh_157, sh_158, sh_159, sh_160, sh_161, sh_162, sh_163, sh_164, sh_165, sh_166, sh_167, sh_168, sh_169, sh_170, sh_171, sh_172, sh_173, sh_174, sh_175, sh_176, sh_177, sh_178, lq_112, lq_113, lq_114, lq_115, lq_116, lq_117, lq_118, lq_119, lq_120, lq_121, lq_122, lq_123, lq_124, lq_125, lq_126, lq_127, lq_128, lq_129, lq_130, lq_131, lq_132, lq_133, lq_134, lq_135, lq_136, lq_137, lq_138, lq_139, lq_140, lq_141, lq_142, lq_143, lq_144, lq_145, lq_146, lq_147, lq_148, lq_149, lq_150, lq_151, lq_152, lq_153, lq_154, lq_155, lq_156, lq_157, lq_158, lq_159, lq_160, lq_161, lq_162, lq_163, lq_164, lq_165, lq_166, lq_167, lq_168, lq_169, lq_170, lq_171, lq_172, lq_173, lq_174, lq_175, lq_176, lq_177, lq_178, rg_112_0, rg_112_9, rg_112_10, rg_112_11, rg_112_12, rg_112_13, rg_112_14, rg_112_15, rg_112_16, rg_112_17, rg_112_18, rg_112_19, rg_112_20, rg_112_21, rg_112_22, rg_112_23, rg_112_24, rg_112_25, rg_112_26, rg_112_27, rg_112_28, rg_112_29, rg_112_30, rg_112_31, rg_112_32, rg_112_33, rg_112_34, rg_112_35, rg_112_36, rg_112_37, rg_112_38, rg_112_39, rg_112_40, rg_112_41, rg_112_43, rg_112_44, rg_112_45, rg_112_46, rg_112_47, rg_112_48, rg_112_49, rg_112_51, rg_112_55, rg_112_57, rg_112_60, rg_112_61, rg_112_62, rg_112_63, rg_112_64, rg_112_66, rg_112_67, rg_112_68, rg_112_69, rg_112_70, rg_112_71, rg_112_72, rg_112_73, rg_112_74, rg_112_80, rg_112_83, rg_112_84, rg_112_85, rg_112_86, rg_112_90, rg_112_91, rg_112_92, ex5, Option.toList_some, Option.toList_none, List.cons_append, List.nil_append, true_and, and_true, nI_1, p_at, p_set, p_isIn, p_max, p_min, p_abs, r_people hc, nI_ge hj (by omega), if_false, v1, v2, eh2, k, if_true, u1, u2]
        exact r1 r
      · rw [if_neg k] at e2
        have e3 : lfS V h (j + 1) = lfS V h j := by simp only [lfS, if_neg k]
        rw [e2, e3] at ih
        obtain ⟨J', r1, r2⟩ := ih J g1 g4
        refine ⟨J', fun r => ?_, r2⟩
        rw [x276_4]
        simp only [x276_0, x276_1, x276_2, x276_3, x276_5, x276_6, x276_9, x276_12, x276_13, x276_16, x276_17, x276_18, x276_19, x276_22, x276_25, x276_26, x276_29, x276_30, x276_31, x276_32, x276_35, x276_38, x276_41, x276_42, x276_44, x276_45, x276_48, x276_51, x276_52, x276_55, x276_56, x276_57, x276_58, x276_61, x276_64, x276_65, x276_66, x276_69, x276_71, x276_72, x276_75, x276_76, x276_77, x276_80, x276_82, x276_83, x276_84, x276_87, x276_89, x276_93, x276_94, x276_97, x276_98, x276_101, x276_103, x276_104, x276_107, x276_109, x276_110, x276_111, x276_112, x276_113, x276_116, x276_122, x276_125, sh_112, sh_113, sh_114, sh_115, sh_116, sh_117, sh_118, sh_119, sh_120, sh_121, sh_122, sh_123, sh_124, sh_125, sh_126, sh_127, sh_128, sh_129, sh_130, sh_131, sh_132, sh_133, sh_134, sh_135, sh_136, sh_137, sh_138, sh_139, sh_140, sh_141, sh_142, sh_143, sh_144, sh_145, sh_146, sh_147, sh_148, sh_149, sh_150, sh_151, sh_152, sh_153, sh_154, sh_155, sh_156, sh_157, sh_158, sh_159, sh_160, sh_161, sh_162, sh_163, sh_164, sh_165, sh_166, sh_167, sh_168, sh_169, sh_170, sh_171, sh_172, sh_173, sh_174, sh_175, sh_176, sh_177, sh_178, lq_112, lq_113, lq_114, lq_115, lq_116, lq_117, lq_118, lq_119, lq_120, lq_121, lq_122, lq_123, lq_124, lq_125, lq_126, lq_127, lq_128, lq_129, lq_130, lq_131, lq_132, lq_133, lq_134, lq_135, lq_136, lq_137, lq_138, lq_139, lq_140, lq_141, lq_142, lq_143, lq_144, lq_145, lq_146, lq_147, lq_148, lq_149, lq_150, lq_151, lq_152, lq_153, lq_154, lq_155, lq_156, lq_157, lq_158, lq_159, lq_160, lq_161, lq_162, lq_163, lq_164, lq_165, lq_166, lq_167, lq_168, lq_169, lq_170, lq_171, lq_172, lq_173, lq_174, lq_175, lq_176, lq_177, lq_178, rg_112_0, rg_112_9, rg_112_10, rg_112_11, rg_112_12, rg_112_13, rg_112_14, rg_112_15, rg_112_16, rg_112_17, rg_112_18, rg_112_19, rg_112_20, rg_112_21, rg_112_22, rg_112_23, rg_112_24, rg_112_25, rg_112_26, rg_112_27, rg_112_28, rg_112_29, rg_112_30, rg_112_31, rg_112_32, rg_112_33, rg_112_34, rg_112_35, rg_112_36, rg_112_37, rg_112_38, rg_112_39, rg_112_40, rg_112_41, rg_112_43, rg_112_44, rg_112_45, rg_112_46, rg_112_47, rg_112_48, rg_112_49, rg_112_51, rg_112_55, rg_112_57, rg_112_60, rg_112_61, rg_112_62, rg_112_63, rg_112_64, rg_112_66, rg_112_67, rg_112_68, rg_112_69, rg_112_70, rg_112_71, rg_112_72, rg_112_73, rg_112_74, rg_112_80, rg_112_83, rg_112_84, rg_112_85, rg_112_86, rg_112_90, rg_112_91, rg_112_92, ex5, Option.toList_some, Option.toList_none, List.cons_append, List.nil_append, true_and, and_true, nI_1, p_at, p_set, p_isIn, p_max, p_min, p_abs, r_people hc, nI_ge hj (by omega), if_false, v1, v2, eh2, k]
        exact r1 r
  obtain ⟨J', r1, r2⟩ := key1 0 (Nat.zero_le _) I (fun i hi => absurd hi (Nat.not_lt_zero i)) (fun _ _ => rfl)
  refine ⟨J', fun r => ?_, r2⟩
  have r1 := r1 r
  have z0 : cnN V h 0 = 0 := rfl
  rw [z0, nI_0] at r1
  rw [em_276]
  simp only [x276_0, x276_1, x276_2, x276_3, x276_5, x276_6, x276_9, x276_12, x276_13, x276_16, x276_17, x276_18, x276_19, x276_22, x276_25, x276_26, x276_29, x276_30, x276_31, x276_32, x276_35, x276_38, x276_41, x276_42, x276_44, x276_45, x276_48, x276_51, x276_52, x276_55, x276_56, x276_57, x276_58, x276_61, x276_64, x276_65, x276_66, x276_69, x276_71, x276_72, x276_75, x276_76, x276_77, x276_80, x276_82, x276_83, x276_84, x276_87, x276_89, x276_93, x276_94, x276_97, x276_98, x276_101, x276_103, x276_104, x276_107, x276_109, x276_110, x276_111, x276_112, x276_113, x276_116, x276_122, x276_125]
  exact r1
end
