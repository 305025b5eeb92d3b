/-! a round: the view moves -/
theorem setv_lt {I : Nat → Nat → Int32} {n p : Nat} {v : Int32} (h : p < (shp n).2) : setv I n (nI p) v = up2 I n p v := by
  have := shp_small n
  unfold setv
  rw [if_pos (inb_nI' h this), ixn_nI (by omega)]
theorem atv_lt {I : Nat → Nat → Int32} {n p : Nat} (h : p < (shp n).2) : atv I n (nI p) = I n p := by
  have := shp_small n
  unfold atv
  rw [if_pos (inb_nI' h this), ixn_nI (by omega)]
theorem up2_same {α : Type} {f : Nat → Nat → α} {p k : Nat} : up2 f p k (f p k) = f := by
  funext q j
  unfold up2
  split
  · rename_i h; rw [h.1, h.2]
  · rfl
theorem up2_j {α : Type} {f : Nat → Nat → α} {p k q j : Nat} {v : α} (h : j ≠ k) : up2 f p k v q j = f q j := by simp [up2, h]
/-- but the scratch, the hats, the hours and the trail of the scene at s nothing has changed -/
def Fq (s : Nat) (I J : Nat → Nat → Int32) : Prop := ∀ p, p ≠ s + 7 → p ≠ s + 8 → p ≠ s + 21 → p ≠ s + 22 → p ≠ s + 25 → J p = I p
section
variable {I J K : Nat → Nat → Int32} {s n k : Nat} {x v : Int32}
theorem Fq.rf : Fq s I I := fun _ _ _ _ _ _ => rfl
theorem Fq.tr (h : Fq s I J) (h2 : Fq s J K) : Fq s I K := fun p a b c d e => (h2 p a b c d e).trans (h p a b c d e)
theorem Fr.q (h : Fr s I J) : Fq s I J := fun p a b _ _ _ => h p a b
theorem Fq.s21 (h : Fq s I J) : Fq s I (setv J (s + 21) x v) := fun p a b c d e => (setv_ne c).trans (h p a b c d e)
theorem Fq.s22 (h : Fq s I J) : Fq s I (setv J (s + 22) x v) := fun p a b c d e => (setv_ne d).trans (h p a b c d e)
theorem Fq.s25 (h : Fq s I J) : Fq s I (setv J (s + 25) x v) := fun p a b c d e => (setv_ne e).trans (h p a b c d e)
end
/-- but the scratch and the hours -/
def Fh (s : Nat) (I J : Nat → Nat → Int32) : Prop := ∀ p, p ≠ s + 7 → p ≠ s + 8 → p ≠ s + 22 → J p = I p
/-- but the scratch and the hats -/
def Fo (s : Nat) (I J : Nat → Nat → Int32) : Prop := ∀ p, p ≠ s + 7 → p ≠ s + 8 → p ≠ s + 21 → J p = I p
section
variable {I J K : Nat → Nat → Int32} {s n k : Nat} {x v : Int32}
theorem Fh.rf : Fh s I I := fun _ _ _ _ => rfl
theorem Fh.tr (h : Fh s I J) (h2 : Fh s J K) : Fh s I K := fun p a b c => (h2 p a b c).trans (h p a b c)
theorem Fr.h (h : Fr s I J) : Fh s I J := fun p a b _ => h p a b
theorem Fh.q (h : Fh s I J) : Fq s I J := fun p a b _ d _ => h p a b d
theorem Fh.s22 (h : Fh s I J) : Fh s I (setv J (s + 22) x v) := fun p a b c => (setv_ne c).trans (h p a b c)
theorem Fo.rf : Fo s I I := fun _ _ _ _ => rfl
theorem Fo.tr (h : Fo s I J) (h2 : Fo s J K) : Fo s I K := fun p a b c => (h2 p a b c).trans (h p a b c)
theorem Fr.o (h : Fr s I J) : Fo s I J := fun p a b _ => h p a b
theorem Fo.q (h : Fo s I J) : Fq s I J := fun p a b c _ _ => h p a b c
theorem Fo.s21 (h : Fo s I J) : Fo s I (setv J (s + 21) x v) := fun p a b c => (setv_ne c).trans (h p a b c)
end
def bestV (V : Vw) (N M p : Nat) : Int32 := (bh (fun x => wV V N p x (V 1 p)) M).1
def rdV (N M : Nat) (V : Vw) : Nat → Vw
  | 0 => V
  | q + 1 => up2 (rdV N M V q) 2 q (bestV (rdV N M V q) N M q)
def rdC (N M : Nat) (V : Vw) : Nat → Int32
  | 0 => 0
  | q + 1 => if bestV (rdV N M V q) N M q = rdV N M V q 2 q then rdC N M V q else 1
def itV (N M : Nat) (V : Vw) : Nat → Vw
  | 0 => V
  | n + 1 => rdV N M (itV N M V n) N
section
variable {N NS NH M : Nat} {V : Vw} {p : Nat} {v h : Int32}
theorem bh_nI (f : Int32 → Int32) : ∀ M, ∃ k, k ≤ M ∧ (bh f M).1 = nI k
  | 0 => ⟨0, Nat.le_refl 0, nI_0.symm⟩
  | M + 1 => by
    obtain ⟨k, a, b⟩ := bh_nI f M
    by_cases c : f (nI (M + 1)) ≤ (bh f M).2
    · exact ⟨k, by omega, by simp only [bh, if_pos c, b]⟩
    · exact ⟨M + 1, Nat.le_refl _, by simp only [bh, if_neg c]⟩
theorem rng_nI {k : Nat} (h : k ≤ 60) : rng (nI k) 0 60 := by
  unfold rng
  rw [nI_toInt (by omega)]
  omega
theorem bestV_rng (hM : M ≤ 60) : rng (bestV V N M p) 0 60 := by
  obtain ⟨k, a, b⟩ := bh_nI (fun x => wV V N p x (V 1 p)) M
  unfold bestV
  rw [b]
  exact rng_nI (by omega)
theorem WV.hrs (hW : WV V N NS NH) (hv : rng v 0 60) : WV (up2 V 2 p v) N NS NH := by
  have hV : ∀ f k, f ≠ 2 → up2 V 2 p v f k = V f k := fun f k hf => up2_p hf
  refine ⟨fun k hk => ?_, fun k hk => ?_, fun k hk => ?_⟩
  · rw [hV 0 k (by decide), hV 1 k (by decide), hV 3 k (by decide)]
    obtain ⟨a, b, c, d⟩ := hW.1 k hk
    refine ⟨a, b, ?_, d⟩
    by_cases q : k = p
    · rw [q, up2_eq]; exact hv
    · rw [up2_k q]; exact c
  · rw [hV 4 k (by decide), hV 5 k (by decide), hV 6 k (by decide), hV 7 k (by decide), hV 8 k (by decide)]; exact hW.2.1 k hk
  · rw [hV 9 k (by decide), hV 10 k (by decide), hV 11 k (by decide), hV 12 k (by decide)]; exact hW.2.2 k hk
theorem WV.hat (hW : WV V N NS NH) (hv : v = -1 ∨ inb v NH) : WV (up2 V 1 p v) N NS NH := by
  have hV : ∀ f k, f ≠ 1 → up2 V 1 p v f k = V f k := fun f k hf => up2_p hf
  refine ⟨fun k hk => ?_, fun k hk => ?_, fun k hk => ?_⟩
  · rw [hV 0 k (by decide), hV 2 k (by decide), hV 3 k (by decide)]
    obtain ⟨a, b, c, d⟩ := hW.1 k hk
    refine ⟨a, ?_, c, d⟩
    by_cases q : k = p
    · rw [q, up2_eq]; exact hv
    · rw [up2_k q]; exact b
  · rw [hV 4 k (by decide), hV 5 k (by decide), hV 6 k (by decide), hV 7 k (by decide), hV 8 k (by decide)]; exact hW.2.1 k hk
  · rw [hV 9 k (by decide), hV 10 k (by decide), hV 11 k (by decide), hV 12 k (by decide)]; exact hW.2.2 k hk
theorem WV.hn (hW : WV V N NS NH) (hp : p < N) : V 1 p < 0 ∨ inb (V 1 p) NH := (hW.1 p hp).2.1.imp (fun k => by rw [k]; decide) id
theorem rdV_WV (hW : WV V N NS NH) (hM : M ≤ 60) : ∀ q, WV (rdV N M V q) N NS NH
  | 0 => hW
  | q + 1 => (rdV_WV hW hM q).hrs (bestV_rng hM)
theorem itV_WV (hW : WV V N NS NH) (hM : M ≤ 60) : ∀ q, WV (itV N M V q) N NS NH
  | 0 => hW
  | q + 1 => rdV_WV (itV_WV hW hM q) hM N
theorem rdC_01 : ∀ q, rdC N M V q = 0 ∨ rdC N M V q = 1
  | 0 => Or.inl rfl
  | q + 1 => by
    unfold rdC
    split
    · exact rdC_01 q
    · exact Or.inr rfl
theorem rdC_fix : ∀ q, rdC N M V q = 0 → rdV N M V q = V
  | 0, _ => rfl
  | q + 1, h => by
    by_cases c : bestV (rdV N M V q) N M q = rdV N M V q 2 q
    · have h2 : rdC N M V q = 0 := by simpa only [rdC, if_pos c] using h
      show up2 (rdV N M V q) 2 q (bestV (rdV N M V q) N M q) = V
      rw [c, up2_same]
      exact rdC_fix q h2
    · exact absurd (by simpa only [rdC, if_neg c] using h) (show ¬ (1 : Int32) = 0 by decide)
theorem itV_add (a : Nat) : ∀ b, itV N M V (a + b) = itV N M (itV N M V a) b
  | 0 => rfl
  | b + 1 => by
    show rdV N M (itV N M V (a + b)) N = rdV N M (itV N M (itV N M V a) b) N
    rw [itV_add a b]
theorem itV_fix (h : rdV N M V N = V) : ∀ n, itV N M V n = V
  | 0 => rfl
  | n + 1 => by
    show rdV N M (itV N M V n) N = V
    rw [itV_fix h n]; exact h
theorem rdV_off : ∀ q, q ≤ N → ∀ f k, f ≠ 2 ∨ N ≤ k → rdV N M V q f k = V f k
  | 0, _, _, _, _ => rfl
  | q + 1, hq, f, k, h => by
    have ih := rdV_off q (by omega) f k h
    show up2 (rdV N M V q) 2 q _ f k = V f k
    rcases h with h | h
    · rw [up2_p h]; exact ih
    · rw [up2_j (by omega)]; exact ih
theorem itV_off : ∀ n f k, f ≠ 2 ∨ N ≤ k → itV N M V n f k = V f k
  | 0, _, _, _ => rfl
  | n + 1, f, k, h => (rdV_off N (Nat.le_refl N) f k h).trans (itV_off n f k h)
theorem itV_eq {a b : Nat} (h : ∀ p, p < N → itV N M V a 2 p = itV N M V b 2 p) : itV N M V a = itV N M V b := by
  funext f k
  by_cases c : f = 2 ∧ k < N
  · obtain ⟨rfl, c⟩ := c; exact h k c
  · have c2 : f ≠ 2 ∨ N ≤ k := by omega
    rw [itV_off a f k c2, itV_off b f k c2]
theorem itV_ring {a b : Nat} (hab : a < b) (h : itV N M V a = itV N M V b) (m : Nat) : itV N M V (b + m % (b - a)) = itV N M V (b + m) := by
  have h1 : itV N M (itV N M V b) (b - a) = itV N M V b := by
    have e := itV_add (N := N) (M := M) (V := V) a (b - a)
    rw [show a + (b - a) = b by omega, h] at e
    exact e.symm
  have h2 : ∀ q, itV N M (itV N M V b) ((b - a) * q) = itV N M V b := by
    intro q
    induction q with
    | zero => rfl
    | succ q ih => rw [Nat.mul_succ, itV_add, ih]; exact h1
  rw [itV_add b (m % (b - a)), itV_add b m]
  have e : itV N M (itV N M V b) m = itV N M (itV N M V b) ((b - a) * (m / (b - a)) + m % (b - a)) := by rw [Nat.div_add_mod]
  rw [e, itV_add, h2]
end
section
variable {L : Nat} {xs : Nat → Int32} {σ : Mm} {I J J0 : Nat → Nat → Int32} {Lm : Nat → Nat → Int64} {Rm : Nat → Nat → Nat} {n s so N NS NH m M : Nat} {V : Vw} {nw sp s2 ai p : Nat} {x y h b t e w v : Int32}
theorem g_best (hB : SB nw sp s2 ai s so) (hC : CR I s so N NS NH V) (hW : WV V N NS NH) (hp : p < N) (hh : h < 0 ∨ inb h NH) (hM : I s 6 = nI M) (hM2 : M ≤ 60) : ∃ K, (∀ r, Em L xs 77 [.ref s, .int (nI p), .int h] (179, I, Lm, RG nw sp s2 ai) r ↔ r = (some (.int (bh (fun x => wV V N p x h) M).1), 179, K, Lm, RG nw sp s2 ai)) ∧ Fr s I K :=
  ⟨_, fun _ => f_best hB hC hW hp hh hM hM2 Fr.rf, bhJ_fr wiG_fr M⟩
theorem g_bestV (hB : SB nw sp s2 ai s so) (hC : CR I s so N NS NH V) (hW : WV V N NS NH) (hp : p < N) (hM : I s 6 = nI M) (hM2 : M ≤ 60) : ∃ K, (∀ r, Em L xs 77 [.ref s, .int (nI p), .int (V 1 p)] (179, I, Lm, RG nw sp s2 ai) r ↔ r = (some (.int (bestV V N M p)), 179, K, Lm, RG nw sp s2 ai)) ∧ Fr s I K := g_best hB hC hW hp (hW.hn hp) hM hM2
theorem g_worthIn (hB : SB nw sp s2 ai s so) (hC : CR I s so N NS NH V) (hW : WV V N NS NH) (hp : p < N) (hh : h < 0 ∨ inb h NH) : ∃ K, (∀ r, Em L xs 71 [.ref s, .int (nI p), .int x, .int h] (179, I, Lm, RG nw sp s2 ai) r ↔ r = (some (.int (wV V N p x h)), 179, K, Lm, RG nw sp s2 ai)) ∧ Fr s I K :=
  ⟨_, fun _ => f_worthIn hB hC hW hp hh Fr.rf, wiJ_fr⟩
theorem g_worthNow (hB : SB nw sp s2 ai s so) (hC : CR I s so N NS NH V) (hW : WV V N NS NH) (hp : p < N) : ∃ K, (∀ r, Em L xs 72 [.ref s, .int (nI p)] (179, I, Lm, RG nw sp s2 ai) r ↔ r = (some (.int (nwV V N p)), 179, K, Lm, RG nw sp s2 ai)) ∧ Fr s I K :=
  ⟨_, fun _ => f_worthNow hB hC hW hp Fr.rf, wiJ_fr⟩
theorem g_all (hB : SB nw sp s2 ai s so) (hC : CR I s so N NS NH V) (hW : WV V N NS NH) : ∃ K, (∀ r, Em L xs 73 [.ref s] (179, I, Lm, RG nw sp s2 ai) r ↔ r = (some (.int (sg (nwV V N) N)), 179, K, Lm, RG nw sp s2 ai)) ∧ Fr s I K :=
  ⟨_, fun _ => c_allWorths hB hC hW, awJ_fr N⟩
theorem c_changes (hB : SB nw sp s2 ai s so) (hC : CR I s so N NS NH V) (hW : WV V N NS NH) (hM : I s 6 = nI M) (hM2 : M ≤ 60) : ∃ J, (∀ r, Em L xs 78 [.ref s] (179, I, Lm, RG nw sp s2 ai) r ↔ r = (some (.int (rdC N M V N)), 179, J, Lm, RG nw sp s2 ai)) ∧ CR J s so N NS NH (rdV N M V N) ∧ Fh s I J := by
  have hN := hC.2.1.1; have hN2 := wd_le s
  obtain ⟨hs, ho, hq⟩ := id hB
  have key : ∀ j, j ≤ N → ∀ J w, CR J s so N NS NH (rdV N M V j) → Fh s I J → ∃ J', (∀ r, Ev L xs 4 78 4 [some (.ref s), some (.int (rdC N M V j)), some (.int (nI j)), w] [] (179, J, Lm, RG nw sp s2 ai) r ↔ r = (some (.int (rdC N M V N)), 179, J', Lm, RG nw sp s2 ai)) ∧ CR J' s so N NS NH (rdV N M V N) ∧ Fh s I J' := by
    refine up_ind ?_ ?_
    · intro J w hC1 hF
      refine ⟨J, fun r => ?_, hC1, hF⟩
      rw [x78_4]
      have hz := rdC_01 (N := N) (M := M) (V := V) N
      simp only [x78_0, x78_1, x78_2, x78_3, x78_5, x78_6, x78_9, x78_12, x78_15, x78_16, x78_17, x78_18, x78_21, x78_24, x78_25, x78_28, x78_31, x78_32, x78_33, x78_34, x78_37, x78_40, x78_41, x78_44, x78_47, x78_48, x78_51, x78_54, x78_55, x78_56, x78_59, x78_60, x78_61, x78_64, x78_67, x78_68, sh_s, lq_s, sh_s1, lq_s1, sh_s2, lq_s2, sh_s3, lq_s3, sh_s4, lq_s4, sh_s5, lq_s5, sh_s6, lq_s6, sh_s7, lq_s7, sh_s8, lq_s8, sh_s9, lq_s9, sh_s10, lq_s10, sh_s11, lq_s11, sh_s12, lq_s12, sh_s13, lq_s13, sh_s14, lq_s14, sh_s15, lq_s15, sh_s16, lq_s16, sh_s17, lq_s17, sh_s18, lq_s18, sh_s19, lq_s19, sh_s20, lq_s20, sh_s21, lq_s21, sh_s22, lq_s22, sh_s23, lq_s23, sh_s24, lq_s24, sh_s25, lq_s25, rg_s0_0, rg_s0_1, rg_s0_2, rg_s0_3, rg_s1_0, rg_s1_1, rg_s1_2, rg_s1_3, rg_s1_4, rg_s7_0, rg_s9_0, rg_s9_1, rg_s9_2, rg_s9_3, rg_s9_4, rg_s9_5, rg_s16_6, rg_s16_7, rg_s16_0, rg_s16_1, rg_s16_2, rg_s16_3, rg_s16_4, rg_s16_5, sh_o, lq_o, sh_o1, lq_o1, sh_o2, lq_o2, sh_o3, lq_o3, sh_o4, lq_o4, sh_o5, lq_o5, sh_o6, lq_o6, rg_o0, rg_o1, rg_o2, rg_o3, rg_o4, rg_o5, ex5, Option.toList_some, Option.toList_none, List.cons_append, List.nil_append, true_and, and_true, nI_1, p_at, p_set, p_isIn, p_max, p_min, p_abs, hs, hC1.1.1, nI_le (Nat.le_refl N) (by omega), if_true, hz]
    · intro j hj ih J w hC1 hF
      have hW1 := rdV_WV hW hM2 j
      have hM1 : J s 6 = nI M := by rw [hF s (by omega) (by omega) (by omega)]; exact hM
      obtain ⟨K, hK, hKF⟩ := g_bestV (L := L) (xs := xs) (Lm := Lm) hB hC1 hW1 hj hM1 hM2
      have hC2 := hC1.fr hB hKF
      have e1 : rdC N M V (j + 1) = if bestV (rdV N M V j) N M j = rdV N M V j 2 j then rdC N M V j else 1 := rfl
      by_cases c : bestV (rdV N M V j) N M j = rdV N M V j 2 j
      · have hC3 : CR K s so N NS NH (rdV N M V (j + 1)) := by
          show CR K s so N NS NH (up2 (rdV N M V j) 2 j _)
          rw [c, up2_same]; exact hC2
        obtain ⟨J', h1, h2, h3⟩ := ih K (some (.int (rdV N M V j 2 j))) hC3 (hF.tr hKF.h)
        rw [e1, if_pos c] at h1
        refine ⟨J', fun r => ?_, h2, h3⟩
        rw [x78_4]
        simp only [x78_0, x78_1, x78_2, x78_3, x78_5, x78_6, x78_9, x78_12, x78_15, x78_16, x78_17, x78_18, x78_21, x78_24, x78_25, x78_28, x78_31, x78_32, x78_33, x78_34, x78_37, x78_40, x78_41, x78_44, x78_47, x78_48, x78_51, x78_54, x78_55, x78_56, x78_59, x78_60, x78_61, x78_64, x78_67, x78_68, sh_s, lq_s, sh_s1, lq_s1, sh_s2, lq_s2, sh_s3, lq_s3, sh_s4, lq_s4, sh_s5, lq_s5, sh_s6, lq_s6, sh_s7, lq_s7, sh_s8, lq_s8, sh_s9, lq_s9, sh_s10, lq_s10, sh_s11, lq_s11, sh_s12, lq_s12, sh_s13, lq_s13, sh_s14, lq_s14, sh_s15, lq_s15, sh_s16, lq_s16, sh_s17, lq_s17, sh_s18, lq_s18, sh_s19, lq_s19, sh_s20, lq_s20, sh_s21, lq_s21, sh_s22, lq_s22, sh_s23, lq_s23, sh_s24, lq_s24, sh_s25, lq_s25, rg_s0_0, rg_s0_1, rg_s0_2, rg_s0_3, rg_s1_0, rg_s1_1, rg_s1_2, rg_s1_3, rg_s1_4, rg_s7_0, rg_s9_0, rg_s9_1, rg_s9_2, rg_s9_3, rg_s9_4, rg_s9_5, rg_s16_6, rg_s16_7, rg_s16_0, rg_s16_1, rg_s16_2, rg_s16_3, rg_s16_4, rg_s16_5, sh_o, lq_o, sh_o1, lq_o1, sh_o2, lq_o2, sh_o3, lq_o3, sh_o4, lq_o4, sh_o5, lq_o5, sh_o6, lq_o6, rg_o0, rg_o1, rg_o2, rg_o3, rg_o4, rg_o5, ex5, Option.toList_some, Option.toList_none, List.cons_append, List.nil_append, true_and, and_true, nI_1, p_at, p_set, p_isIn, p_max, p_min, p_abs, hs, hC1.1.1, nI_ge hj (by omega), if_false, a_hat hB hC1 hj, hK, a_hrs hB hC2 hj, c, if_true]
        exact h1 r
      · have hC3 : CR (setv K (s + 22) (nI j) (bestV (rdV N M V j) N M j)) s so N NS NH (rdV N M V (j + 1)) := hC2.hrs hB hj
        obtain ⟨J', h1, h2, h3⟩ := ih _ (some (.int (bestV (rdV N M V j) N M j))) hC3 (hF.tr hKF.h).s22
        rw [e1, if_neg c] at h1
        refine ⟨J', fun r => ?_, h2, h3⟩
        rw [x78_4]
        simp only [x78_0, x78_1, x78_2, x78_3, x78_5, x78_6, x78_9, x78_12, x78_15, x78_16, x78_17, x78_18, x78_21, x78_24, x78_25, x78_28, x78_31, x78_32, x78_33, x78_34, x78_37, x78_40, x78_41, x78_44, x78_47, x78_48, x78_51, x78_54, x78_55, x78_56, x78_59, x78_60, x78_61, x78_64, x78_67, x78_68, sh_s, lq_s, sh_s1, lq_s1, sh_s2, lq_s2, sh_s3, lq_s3, sh_s4, lq_s4, sh_s5, lq_s5, sh_s6, lq_s6, sh_s7, lq_s7, sh_s8, lq_s8, sh_s9, lq_s9, sh_s10, lq_s10, sh_s11, lq_s11, sh_s12, lq_s12, sh_s13, lq_s13, sh_s14, lq_s14, sh_s15, lq_s15, sh_s16, lq_s16, sh_s17, lq_s17, sh_s18, lq_s18, sh_s19, lq_s19, sh_s20, lq_s20, sh_s21, lq_s21, sh_s22, lq_s22, sh_s23, lq_s23, sh_s24, lq_s24, sh_s25, lq_s25, rg_s0_0, rg_s0_1, rg_s0_2, rg_s0_3, rg_s1_0, rg_s1_1, rg_s1_2, rg_s1_3, rg_s1_4, rg_s7_0, rg_s9_0, rg_s9_1, rg_s9_2, rg_s9_3, rg_s9_4, rg_s9_5, rg_s16_6, rg_s16_7, rg_s16_0, rg_s16_1, rg_s16_2, rg_s16_3, rg_s16_4, rg_s16_5, sh_o, lq_o, sh_o1, lq_o1, sh_o2, lq_o2, sh_o3, lq_o3, sh_o4, lq_o4, sh_o5, lq_o5, sh_o6, lq_o6, rg_o0, rg_o1, rg_o2, rg_o3, rg_o4, rg_o5, ex5, Option.toList_some, Option.toList_none, List.cons_append, List.nil_append, true_and, and_true, nI_1, p_at, p_set, p_isIn, p_max, p_min, p_abs, hs, hC1.1.1, nI_ge hj (by omega), if_false, a_hat hB hC1 hj, hK, a_hrs hB hC2 hj, c]
        exact h1 r
  obtain ⟨J', h1, h2, h3⟩ := key 0 (Nat.zero_le _) I none hC Fh.rf
  refine ⟨J', fun r => ?_, h2, h3⟩
  rw [em_78]
  simp only [x78_0, x78_1, x78_2, x78_3, x78_5, x78_6, x78_9, x78_12, x78_15, x78_16, x78_17, x78_18, x78_21, x78_24, x78_25, x78_28, x78_31, x78_32, x78_33, x78_34, x78_37, x78_40, x78_41, x78_44, x78_47, x78_48, x78_51, x78_54, x78_55, x78_56, x78_59, x78_60, x78_61, x78_64, x78_67, x78_68]
  exact h1 r
end
