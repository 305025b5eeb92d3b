/-! both read a town -/
/-- what stands of what was read -/
def finV (V : Vw) (sd : Int32) : Vw := fun f k => if f = 2 ∨ f = 18 ∨ f = 19 then 0 else if f = 20 ∨ f = 21 then -1 else if f = 22 then (if k = 2 then sd else 0) else V f k
theorem fin_o {V : Vw} {sd : Int32} {f : Nat} (h : f ≠ 2 ∧ f < 18) (k : Nat) : finV V sd f k = V f k := by
  unfold finV
  rw [if_neg (by omega), if_neg (by omega), if_neg (by omega)]
def ECt (b p k : Nat) : Prop := ECb b p k ∨ (p = 0 ∧ k = 7)
def ECw (b p k : Nat) : Prop := ECt b p k ∨ (3 ≤ p ∧ p ≤ 7)
def ERt (p k : Nat) : Prop := ERf p k ∨ Epr p k ∨ (p = 112 ∧ (k = 7 ∨ k = 8))
def ERw (p k : Nat) : Prop := ERt p k ∨ Est p k
theorem pi_0 : PIt t0Z := fun _ => ⟨⟨⟨by decide, by decide, by decide, by decide, rfl⟩, fun k hk => absurd hk (Nat.not_lt_zero k), fun k hk => absurd hk (Nat.not_lt_zero k), fun k hk => absurd hk (Nat.not_lt_zero k), fun k hk => absurd hk (Nat.not_lt_zero k)⟩, by decide, by decide, Nat.le_refl _, fun k hk => absurd hk (Nat.not_lt_zero k)⟩
section
variable {L : Nat} {xs : Nat → Int32} {σ : Mm} {r : Option Value × Mm} {I J K : Nat → Nat → Int32} {Lm : Nat → Nat → Int64} {Rm : Nat → Nat → Nat} {n s so N NS NH M P nw S U : Nat} {V W : Vw} {sp s2 ai : Nat} {x y z h v sd : Int32} {k c w lo hi kd pl g m C j u a b d F l : Nat} {T : Nat → Nat} {q q2 : Rz} {p p2 : Pz} {E E2 : Nat → Nat → Prop} {cs : List Nat} {rs : Nat → Int32} {sf se te : Nat → Nat} {G : Nat → Nat → Int32} {Lk : Nat → Nat → Int64} {t : Rt}

theorem ci_low (h : CIt I T F c s u t) (h1 : 37 ≤ s) (h2 : 37 ≤ u) (e : ∀ p, 37 ≤ p → J p = I p) : CIt J T F c s u t := by
  obtain ⟨⟨a1, a2, a3, a4⟩, ⟨b1, b2, b3⟩, b4, b5⟩ := h
  have S1 : CS J T F c t.1.1 := ⟨by rw [e 105 (by decide)]; exact a1, a2, by rw [e 105 (by decide)]; exact a3, by rw [e 105 (by decide)]; exact a4⟩
  refine ⟨S1, ⟨?_, by rw [e 108 (by decide)]; exact b2, by rw [e 109 (by decide)]; exact b3⟩, by rw [e u h2]; exact b4, fun z => ?_⟩
  · intro i hi
    rw [e 108 (by decide), e 109 (by decide), e 110 (by decide), e 111 (by decide)]
    exact b1 i hi
  · obtain ⟨c1, ⟨-, d2, d3⟩, c3, c4⟩ := b5 z
    exact ⟨c1.fx (E := fun p _ => p < 37) (fun p k y => by rw [e p (Nat.le_of_not_lt y)]) ⟨by omega, by omega, by omega, by omega, by omega⟩ (fun k _ => ⟨by omega, by omega, by omega, by omega, by omega⟩) (fun k _ a _ _ => by omega) (fun k _ a _ _ => by omega) (fun k _ => ⟨by omega, by omega⟩), ⟨S1, by rw [e u h2]; exact d2, by rw [e u h2, e (u + 5) (by omega)]; exact d3⟩, c3.fx (by rw [e u h2]) (fun a _ _ => e _ (by omega)), by rw [e 105 (by decide)]; exact c4⟩
theorem c_town (hsp : sp = 37 ∨ sp = 71) (hs1 : s = sp + 1) (hua : u = sp + 27) (hTB : TB I T) (hKT : KT I) (hF : F ≤ 1600) (h7 : I 0 7 = nI F) : ∃ c, TX T F c ∧ (¬ (runZ T F c 101 t0Z).1.1.1 = 0 → ∃ J, (∀ r, Em L xs 116 [.ref 0] (179, I, Lm, RG nw sp s2 ai) r ↔ r = (some (.int (-1)), 179, J, Lm, RG nw sp s2 sp)) ∧ CIt J T F c s u (runZ T F c 101 t0Z) ∧ J 0 7 = 0 ∧ FX I J (ECt sp)) ∧ ((runZ T F c 101 t0Z).1.1.1 = 0 → ∃ J, (∀ r, Em L xs 116 [.ref 0] (179, I, Lm, RG nw sp s2 ai) r ↔ r = (some (.int (nI (runZ T F c 101 t0Z).2.2.2.2)), 179, J, Lm, RG sp nw s2 sp)) ∧ CIt J T F c s u (runZ T F c 101 t0Z) ∧ J 0 7 = 0 ∧ (∀ k, k < 12 → J 4 k = 0 ∧ J 5 k = 0 ∧ J 6 k = -1 ∧ J 7 k = -1) ∧ J 3 7 = 0 ∧ J 3 8 = 0 ∧ J 3 9 = I 3 9 ∧ FX I J (ECw sp)) := by
  obtain ⟨c, J1, hX, a1, a2, a3⟩ := c_begin (Lm := Lm) (L := L) (xs := xs) (nw := nw) (sp := sp) (s2 := s2) (ai := ai) (F := F) hsp hs1 hua hTB hKT hF
  have C2 : CIt (up2 J1 0 7 0) T F c s u t0Z := ci_low a2 (by omega) (by omega) (fun p hp => funext fun k => up2_p (by omega))
  obtain ⟨J3, i3, b1, b2, b3⟩ := c_loop (L := L) (xs := xs) (Lm := Lm) (nw := nw) (sp := sp) (s2 := s2) (ai := sp) hsp hs1 hua hX 101 0 t0Z (up2 J1 0 7 0) (by decide) pi_0 C2
  have gd := fun r => c_isGood (L := L) (xs := xs) (Lm := Lm) (nw := nw) (sp := sp) (s2 := s2) (ai := sp) b2.1 r
  have F3 : FX I J3 (ECt sp) := fxTr (fxTr (fxSub a3 (fun _ _ z => Or.inl z)) (fxUp (Or.inr ⟨rfl, rfl⟩))) (fxSub b3 (fun _ _ z => Or.inl (Or.inl z)))
  have z7 : J3 0 7 = 0 := (b3 0 7 (fun z => by unfold ECl at z; omega)).trans up2_eq
  have go : ∀ r, Em L xs 116 [.ref 0] (179, I, Lm, RG nw sp s2 ai) r ↔ Ev L xs 79 116 55 [some (.ref 0), some (.int i3)] [] (179, J3, Lm, RG nw sp s2 sp) r := fun r => by
    have b1 := b1 r
    rw [em_116]
    simp only [x116_0, x116_1, x116_4, x116_5, x116_8, x116_9, x116_12, x116_13, x116_16, x116_19, x116_20, x116_21, x116_24, x116_25, x116_27, x116_29, x116_32, x116_33, x116_36, x116_39, x116_42, x116_43, x116_46, x116_49, x116_52, x116_56, x116_59, x116_62, x116_65, x116_66, x116_67, x116_68, x116_71, x116_72, x116_73, x116_74, x116_77, x116_80, x116_81, x116_82, x116_85, x116_86, x116_89, x116_92, x116_93, x116_96, x116_99, rg_0_now, rg_0_spare, rg_0_0, rg_0_1, rg_0_2, rg_0_6, sh_0, sh_1, sh_2, sh_3, lq_0, lq_1, lq_2, lq_3, sh_105, lq_105, ex5, Option.toList_some, Option.toList_none, List.cons_append, List.nil_append, true_and, and_true, nI_1, p_at, p_set, p_isIn, p_max, p_min, p_abs, h7, a1]
    exact b1
  refine ⟨c, hX, fun hb => ⟨J3, fun r => ?_, b2, z7, F3⟩, fun hg => ?_⟩
  · rw [if_neg hb] at gd
    rw [go, x116_55]
    simp only [x116_0, x116_1, x116_4, x116_5, x116_8, x116_9, x116_12, x116_13, x116_16, x116_19, x116_20, x116_21, x116_24, x116_25, x116_27, x116_29, x116_32, x116_33, x116_36, x116_39, x116_42, x116_43, x116_46, x116_49, x116_52, x116_56, x116_59, x116_62, x116_65, x116_66, x116_67, x116_68, x116_71, x116_72, x116_73, x116_74, x116_77, x116_80, x116_81, x116_82, x116_85, x116_86, x116_89, x116_92, x116_93, x116_96, x116_99, rg_0_now, rg_0_spare, rg_0_0, rg_0_1, rg_0_2, rg_0_6, sh_0, sh_1, sh_2, sh_3, lq_0, lq_1, lq_2, lq_3, sh_105, lq_105, ex5, Option.toList_some, Option.toList_none, List.cons_append, List.nil_append, true_and, and_true, nI_1, p_at, p_set, p_isIn, p_max, p_min, p_abs, gd, if_true]
  · rw [if_pos hg] at gd
    obtain ⟨J4, d1, d2, d3, d4, d5, d6⟩ := c_anew (I := J3) (L := L) (xs := xs) (Lm := Lm) (nw := sp) (sp := nw) (s2 := s2) (ai := sp)
    have er : up2 (up2 (RG nw sp s2 sp) 0 4 (sp + 1)) 0 5 (nw + 1) = RG sp nw s2 sp := funext fun p => funext fun k => by
      by_cases hp : p = 0
      · subst hp
        by_cases k5 : k = 5
        · subst k5; rw [up2_eq]; rfl
        by_cases k4 : k = 4
        · subst k4; rw [up2_k (by decide), up2_eq]; rfl
        rw [up2_k k5, up2_k k4]
        have h4 : ¬ (0 = 0 ∧ k = 4) := fun z => k4 z.2
        have h5 : ¬ (0 = 0 ∧ k = 5) := fun z => k5 z.2
        unfold RG
        rw [if_neg h4, if_neg h5, if_neg h4, if_neg h5]
      · rw [up2_p hp, up2_p hp]
        have h4 : ¬ (p = 0 ∧ k = 4) := fun z => hp z.1
        have h5 : ¬ (p = 0 ∧ k = 5) := fun z => hp z.1
        unfold RG
        rw [if_neg h4, if_neg h5, if_neg h4, if_neg h5]
    have e105 : J4 105 7 = nI (runZ T F c 101 t0Z).2.2.2.2 := by
      rw [d6 105 (by decide) (by decide) (by decide) (by decide) (by decide)]
      exact (b2.2.2.2 hg).2.2.2
    refine ⟨J4, fun r => ?_, ci_low b2 (by omega) (by omega) (fun p hp => d6 p (by omega) (by omega) (by omega) (by omega) (by omega)), ?_, d2, d3, d4, ?_, fun p k hn => ?_⟩
    · rw [go, x116_55]
      simp only [x116_0, x116_1, x116_4, x116_5, x116_8, x116_9, x116_12, x116_13, x116_16, x116_19, x116_20, x116_21, x116_24, x116_25, x116_27, x116_29, x116_32, x116_33, x116_36, x116_39, x116_42, x116_43, x116_46, x116_49, x116_52, x116_56, x116_59, x116_62, x116_65, x116_66, x116_67, x116_68, x116_71, x116_72, x116_73, x116_74, x116_77, x116_80, x116_81, x116_82, x116_85, x116_86, x116_89, x116_92, x116_93, x116_96, x116_99, rg_0_now, rg_0_spare, rg_0_0, rg_0_1, rg_0_2, rg_0_6, sh_0, sh_1, sh_2, sh_3, lq_0, lq_1, lq_2, lq_3, sh_105, lq_105, ex5, Option.toList_some, Option.toList_none, List.cons_append, List.nil_append, true_and, and_true, nI_1, p_at, p_set, p_isIn, p_max, p_min, p_abs, gd, one_ne, if_false, er, d1, e105]
    · rw [d6 0 (by decide) (by decide) (by decide) (by decide) (by decide)]; exact z7
    · rw [d5]
      exact F3 3 9 (fun z => by unfold ECt ECb ECl at z; omega)
    · rw [d6 p (fun z => hn (Or.inr (by omega))) (fun z => hn (Or.inr (by omega))) (fun z => hn (Or.inr (by omega))) (fun z => hn (Or.inr (by omega))) (fun z => hn (Or.inr (by omega)))]
      exact F3 p k (fun z => hn (Or.inl z))
/-- what the reference shows of what was read -/
theorem gm_new (hW : RdW V NS NH N M P) (hR : RdM G Lk V NS NH N M P) (e1 : J 148 3 = G 148 0 ∧ J 148 4 = G 148 1 ∧ J 148 5 = nI N) (e2 : (∀ k, k < 36 → Lm 147 (36 + k) = Lk 147 k) ∧ Lm 112 = Lk 112) (e3 : ∀ k, k < 30 → J 149 (30 + k) = G 149 k) (e4 : ∀ k, k < 16 → J 150 (16 + k) = G 150 k) (e5 : ∀ k, k < N → J 162 k = G 151 k ∧ J 163 k = G 152 k ∧ J 164 k = G 153 k ∧ J 165 k = 0 ∧ J 166 k = 0 ∧ J 167 k = 0 ∧ J 168 k = -1 ∧ J 169 k = -1) (e6 : J 112 75 = nI P ∧ ∀ k, k < P → J 170 k = G 154 k) (e7 : J 112 52 = nI M) (e8 : J 112 76 = 0 ∧ J 112 77 = 0 ∧ J 112 78 = 0 ∧ J 112 79 = nI N) (e9 : Lk 112 89 = sd.toInt64) : GM J Lm N NS NH M P (finV V sd) := by
  obtain ⟨w1, w2, w3, w4, w5⟩ := hW.1
  obtain ⟨n1, -, r3, r4, r5, r6⟩ := hR
  have hP6 := rdw_P hW
  have nn : ∀ kd, kd < 3 → ∀ k, k < cnK NS NH N kd → nmR (V (15 + kd) k) (Lm 147 (36 + (12 * kd + k))) := fun kd h3 k hk => by
    have hl := cnK_le (kd := kd) (NS := NS) (NH := NH) (N := N) ⟨w1, w2, w3⟩
    rw [e2.1 _ (by omega)]
    exact (n1 kd h3).2 k hk
  refine ⟨⟨⟨e8.2.2.1, e8.2.2.2⟩, ⟨by omega, by omega, w1, w2⟩, fun k hk => ?_, fun k hk w hw => ?_, fun k hk w hw => ?_⟩, ⟨e1.1.trans (n1 0 (by decide)).1, e1.2.1.trans (n1 1 (by decide)).1, e1.2.2⟩, e7, ⟨e6.1, fun k hk => ?_⟩, ⟨fun k hk => ?_, fun k hk => ?_, fun k hk => ?_⟩, ⟨e8.1, e8.2.1, by rw [e2.2]; exact e9⟩, fun k hk => ?_⟩
  · obtain ⟨a1, a2, a3, a4, -⟩ := e5 k hk
    rw [Nat.zero_add, a1, a2, a3, a4, fin_o (f := 0) (by decide), fin_o (f := 1) (by decide), fin_o (f := 3) (by decide)]
    obtain ⟨b1, b2, b3⟩ := r3 k hk
    exact ⟨b1, b2, rfl, b3⟩
  · rw [show 30 + 5 * k + w = 30 + (5 * k + w) by omega, e3 _ (by omega), fin_o (by omega)]
    exact r4 k hk w hw
  · rw [show 16 + 4 * k + w = 16 + (4 * k + w) by omega, e4 _ (by omega), fin_o (by omega)]
    exact r5 k hk w hw
  · rw [e6.2 k hk, fin_o (by decide)]
    exact r6 k hk
  · have h := nn 0 (by decide) k hk
    rw [show 36 + (12 * 0 + k) = 36 + k by omega] at h
    rw [fin_o (by decide)]
    exact h
  · have h := nn 1 (by decide) k hk
    rw [show 36 + (12 * 1 + k) = 48 + k by omega] at h
    rw [fin_o (by decide)]
    exact h
  · have h := nn 2 (by decide) k hk
    rw [show 36 + (12 * 2 + k) = 60 + k by omega] at h
    rw [fin_o (by decide)]
    exact h
  · obtain ⟨-, -, -, -, a5, a6, a7, a8⟩ := e5 k hk
    exact ⟨a5, a6, a8, a7⟩
theorem gc_new (hs : wd s = 12) (hW : RdW V NS NH N M P) (hR : RdC J s V NS NH N M P) (e1 : ∀ k, k < 12 → J 4 k = 0 ∧ J 5 k = 0 ∧ J 6 k = -1 ∧ J 7 k = -1) (e2 : J 3 7 = 0 ∧ J 3 8 = 0 ∧ J 3 9 = sd) (e3 : J 11 4 = nI 20) : GC J s (s + 9) N NS NH M P (finV V sd) := by
  obtain ⟨w1, w2, w3, w4, w5⟩ := hW.1
  obtain ⟨⟨a1, a2, a3, a4, a5⟩, b1, b2, b3, b4⟩ := hR
  refine ⟨⟨⟨a1, a2, a3⟩, ⟨by rw [hs]; exact w3, w1, w2⟩, fun k hk => ?_, fun k hk => ?_, fun k hk => ?_⟩, a4, ⟨a5, fun k hk => ?_⟩, ⟨fun k hk => ?_, fun k hk => ?_, fun k hk => ?_⟩, e2, fun k hk => e1 k (by omega), e3⟩
  · obtain ⟨c1, c2, c3, c4, c5⟩ := b1 k hk
    rw [fin_o (f := 0) (by decide), fin_o (f := 1) (by decide), fin_o (f := 3) (by decide)]
    exact ⟨c1, c2, c3, c4⟩
  · obtain ⟨c1, c2, c3, c4, c5, c6⟩ := b2 k hk
    rw [fin_o (by decide), fin_o (by decide), fin_o (by decide), fin_o (by decide), fin_o (by decide)]
    exact ⟨c2, c3, c4, c5, c6⟩
  · obtain ⟨c1, c2, c3, c4, c5⟩ := b3 k hk
    rw [fin_o (by decide), fin_o (by decide), fin_o (by decide), fin_o (by decide)]
    exact ⟨c2, c3, c4, c5⟩
  · rw [fin_o (by decide), fin_o (by decide)]
    exact b4 k hk
  · rw [fin_o (by decide)]
    exact (b2 k hk).1
  · rw [fin_o (by decide)]
    exact (b3 k hk).1
  · rw [fin_o (by decide)]
    exact (b1 k hk).2.2.2.2
theorem gw_new (hW : RdW V NS NH N M P) (hs : 0 ≤ sd.toInt) : GW N NS NH M P (finV V sd) := by
  have hP6 := rdw_P hW
  obtain ⟨⟨w1, w2, w3, w4, w5⟩, b1, b2, b3, b4⟩ := hW
  refine ⟨⟨fun k hk => ?_, fun k hk => ?_, fun k hk => ?_⟩, fun k hk => ?_, ⟨w3, w1, w2, w4, hP6⟩, fun k hk => ?_, ⟨show rng (0 : Int32) 0 9999 from ⟨by decide, by decide⟩, show rng (0 : Int32) 0 1000000000 from ⟨by decide, by decide⟩, hs⟩, fun k hk => ⟨show rng (0 : Int32) 0 80000 from ⟨by decide, by decide⟩, show rng (0 : Int32) 0 1000000000 from ⟨by decide, by decide⟩, Or.inl rfl, show rng (-1 : Int32) (-1) 60 from ⟨by decide, by decide⟩⟩, fun k hk => ?_⟩
  · obtain ⟨c1, c2, c3⟩ := b1 k hk
    rw [fin_o (f := 0) (by decide), fin_o (f := 1) (by decide), fin_o (f := 3) (by decide)]
    exact ⟨c1, c2, show rng (0 : Int32) 0 60 from ⟨by decide, by decide⟩, c3.imp id (fun z => z.1)⟩
  · rw [fin_o (by decide), fin_o (by decide), fin_o (by decide), fin_o (by decide), fin_o (by decide)]
    exact b2 k hk
  · rw [fin_o (by decide), fin_o (by decide), fin_o (by decide), fin_o (by decide)]
    exact b3 k hk
  · rw [fin_o (by decide)]
    exact (b1 k hk).2.2.imp id (fun z => ⟨rfl, z.1, z.2⟩)
  · rw [fin_o (by decide), fin_o (by decide), fin_o (by decide)]
    exact b4 k hk
  · show (0 : Int32).toInt ≤ (M : Int)
    have : (0 : Int32).toInt = 0 := rfl
    omega
end
