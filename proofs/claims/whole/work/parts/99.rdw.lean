/-! what is read stays in its bounds -/
section
variable {L : Nat} {xs : Nat → Int32} {σ : Mm} {r : Option Value × Mm} {I J K : Nat → Nat → Int32} {Lm : Nat → Nat → Int64} {Rm : Nat → Nat → Nat} {n s so t N NS NH m M P nw S U : Nat} {V W : Vw} {sp s2 ai p : Nat} {x y z h v : Int32} {k c w lo hi kd pl a b : Nat} {T : Nat → Nat} {q : Rz} {f : Nat → Int32} {V2 : Vw}

theorem inb_up {m : Nat} (h : inb x n) (hm : n ≤ m) : inb x m := ⟨h.1, by have := h.2; omega⟩
theorem inb_ix (h : inb x n) : ixn x < n := by unfold ixn; have := h.1; have := h.2; omega
theorem nI_neg1 (hk : k < 100) : nI k ≠ -1 := fun e => by
  have h := congrArg Int32.toInt e
  rw [nI_toInt (by omega)] at h
  have h2 : ((-1 : Int32)).toInt = -1 := by decide
  omega
theorem rdwSo (h : RdW V NS NH N M P) (hn : NS < 6) (hg : (soQ5 T n c V NS NH N q).1 = 0) : RdW (soV T n c V NS NH N q) (NS + 1) NH N M P := by
  obtain ⟨⟨b1, b2, b3, b4, b5⟩, d1, d2, d3, d4⟩ := h
  have h4 : (soQ4 T n c V NS NH N q).1 = 0 := nbA_0 hg
  have h3 : (soQ3 T n c V NS NH N q).1 = 0 := nbA_0 h4
  have h2 : (soQ2 T n c V NS NH N q).1 = 0 := nbA_0 h3
  have h1 : (soQ1 T n c V NS NH N q).1 = 0 := nbA_0 h2
  have sv : ∀ f k, f ≠ 15 → f ≠ 4 → f ≠ 5 → f ≠ 6 → f ≠ 7 → f ≠ 8 → soV T n c V NS NH N q f k = V f k := fun f k a0 a1 a2 a3 a4 a5 => by unfold soV; rw [up2_p a5, up2_p a4, up2_p a3, up2_p a2, up2_p a1, up2_p a0]
  have ov : ∀ f k, k ≠ NS → soV T n c V NS NH N q f k = V f k := fun f k hk => by unfold soV up2; rw [if_neg (fun z => hk z.2), if_neg (fun z => hk z.2), if_neg (fun z => hk z.2), if_neg (fun z => hk z.2), if_neg (fun z => hk z.2), if_neg (fun z => hk z.2)]
  refine ⟨⟨by omega, b2, b3, b4, by rw [mt_cg (V := V) (fun k hk => by rw [sv 3 k (by decide) (by decide) (by decide) (by decide) (by decide) (by decide)])]; exact b5⟩, fun k hk => ?_, fun k hk => ?_, fun k hk => ?_, fun k hk => ?_⟩
  · rw [sv 0 k (by decide) (by decide) (by decide) (by decide) (by decide) (by decide), sv 1 k (by decide) (by decide) (by decide) (by decide) (by decide) (by decide), sv 3 k (by decide) (by decide) (by decide) (by decide) (by decide) (by decide)]
    exact ⟨inb_up (d1 k hk).1 (by omega), (d1 k hk).2⟩
  · by_cases e : k = NS
    · subst e
      have z1 : soV T n c V k NH N q 4 k = nbX T n c 2 (soQ0 T n c V k NH N q) := by unfold soV; rw [up2_p (by decide), up2_p (by decide), up2_p (by decide), up2_p (by decide), up2_eq]
      have z2 : soV T n c V k NH N q 5 k = nbX T n c 3 (soQ1 T n c V k NH N q) := by unfold soV; rw [up2_p (by decide), up2_p (by decide), up2_p (by decide), up2_eq]
      have z3 : soV T n c V k NH N q 6 k = nbX T n c 4 (soQ2 T n c V k NH N q) := by unfold soV; rw [up2_p (by decide), up2_p (by decide), up2_eq]
      have z4 : soV T n c V k NH N q 7 k = nbX T n c 5 (soQ3 T n c V k NH N q) := by unfold soV; rw [up2_p (by decide), up2_eq]
      have z5 : soV T n c V k NH N q 8 k = nbX T n c 6 (soQ4 T n c V k NH N q) := by unfold soV; rw [up2_eq]
      rw [z1, z2, z3, z4, z5]
      exact ⟨nbX_rg (lo := 0) (hi := 99) (by decide) h1, nbX_rg (lo := 0) (hi := 99) (by decide) h2, nbX_rg (lo := 0) (hi := 100) (by decide) h3, nbX_rg (lo := 0) (hi := 999) (by decide) h4, nbX_rg (lo := 1) (hi := 9) (by decide) hg⟩
    · rw [ov _ k e, ov _ k e, ov _ k e, ov _ k e, ov _ k e]; exact d2 k (by omega)
  · rw [sv 9 k (by decide) (by decide) (by decide) (by decide) (by decide) (by decide), sv 10 k (by decide) (by decide) (by decide) (by decide) (by decide) (by decide), sv 11 k (by decide) (by decide) (by decide) (by decide) (by decide) (by decide), sv 12 k (by decide) (by decide) (by decide) (by decide) (by decide) (by decide)]; exact d3 k hk
  · rw [sv 13 k (by decide) (by decide) (by decide) (by decide) (by decide) (by decide), sv 14 k (by decide) (by decide) (by decide) (by decide) (by decide) (by decide), sv 3 _ (by decide) (by decide) (by decide) (by decide) (by decide) (by decide)]; exact d4 k hk
theorem rdwHa (h : RdW V NS NH N M P) (hn : NH < 4) (hg : (haQ4 T n c V NS NH N q).1 = 0) : RdW (haV T n c V NS NH N q) NS (NH + 1) N M P := by
  obtain ⟨⟨b1, b2, b3, b4, b5⟩, d1, d2, d3, d4⟩ := h
  have hk : (haQ3 T n c V NS NH N q).1 = 0 ∧ 11 ≤ wq T n c (haQ3 T n c V NS NH N q).2.2 ∧ wq T n c (haQ3 T n c V NS NH N q).2.2 ≤ 14 := by
    have hg : (kdQ T n c (haQ3 T n c V NS NH N q)).1 = 0 := hg
    unfold kdQ at hg
    by_cases z : (haQ3 T n c V NS NH N q).1 = 0
    · rw [if_pos z] at hg
      by_cases y : 11 ≤ wq T n c (haQ3 T n c V NS NH N q).2.2 ∧ wq T n c (haQ3 T n c V NS NH N q).2.2 ≤ 14
      · exact ⟨z, y⟩
      · rw [if_neg y] at hg; cases hg
    · rw [if_neg z] at hg; exact (z hg).elim
  have h3 := hk.1
  have h2 : (haQ2 T n c V NS NH N q).1 = 0 := nbA_0 h3
  have h1 : (haQ1 T n c V NS NH N q).1 = 0 := nbA_0 h2
  have sv : ∀ f k, f ≠ 16 → f ≠ 9 → f ≠ 10 → f ≠ 11 → f ≠ 12 → haV T n c V NS NH N q f k = V f k := fun f k a0 a1 a2 a3 a4 => by unfold haV; rw [up2_p a4, up2_p a3, up2_p a2, up2_p a1, up2_p a0]
  have ov : ∀ f k, k ≠ NH → haV T n c V NS NH N q f k = V f k := fun f k hk => by unfold haV up2; rw [if_neg (fun z => hk z.2), if_neg (fun z => hk z.2), if_neg (fun z => hk z.2), if_neg (fun z => hk z.2), if_neg (fun z => hk z.2)]
  refine ⟨⟨b1, by omega, b3, b4, by rw [mt_cg (V := V) (fun k hk => by rw [sv 3 k (by decide) (by decide) (by decide) (by decide) (by decide)])]; exact b5⟩, fun k hk => ?_, fun k hk => ?_, fun k hk => ?_, fun k hk => ?_⟩
  · rw [sv 0 k (by decide) (by decide) (by decide) (by decide) (by decide), sv 1 k (by decide) (by decide) (by decide) (by decide) (by decide), sv 3 k (by decide) (by decide) (by decide) (by decide) (by decide)]
    exact ⟨(d1 k hk).1, (d1 k hk).2.1.elim Or.inl (fun y => Or.inr (inb_up y (by omega))), (d1 k hk).2.2⟩
  · rw [sv 4 k (by decide) (by decide) (by decide) (by decide) (by decide), sv 5 k (by decide) (by decide) (by decide) (by decide) (by decide), sv 6 k (by decide) (by decide) (by decide) (by decide) (by decide), sv 7 k (by decide) (by decide) (by decide) (by decide) (by decide), sv 8 k (by decide) (by decide) (by decide) (by decide) (by decide)]; exact d2 k hk
  · by_cases e : k = NH
    · subst e
      have z1 : haV T n c V NS k N q 9 k = nbX T n c 8 (haQ0 T n c V NS k N q) := by unfold haV; rw [up2_p (by decide), up2_p (by decide), up2_p (by decide), up2_eq]
      have z2 : haV T n c V NS k N q 10 k = nbX T n c 9 (haQ1 T n c V NS k N q) := by unfold haV; rw [up2_p (by decide), up2_p (by decide), up2_eq]
      have z3 : haV T n c V NS k N q 11 k = nbX T n c 10 (haQ2 T n c V NS k N q) := by unfold haV; rw [up2_p (by decide), up2_eq]
      have z4 : haV T n c V NS k N q 12 k = nI (wq T n c (haQ3 T n c V NS k N q).2.2 - 11) := by unfold haV; rw [up2_eq]; rfl
      rw [z1, z2, z3, z4]
      refine ⟨nbX_rg (lo := 0) (hi := 100) (by decide) h1, nbX_rg (lo := 0) (hi := 60) (by decide) h2, nbX_rg (lo := 0) (hi := 100) (by decide) h3, ?_⟩
      unfold rng
      rw [nI_toInt (by omega)]
      omega
    · rw [ov _ k e, ov _ k e, ov _ k e, ov _ k e]; exact d3 k (by omega)
  · rw [sv 13 k (by decide) (by decide) (by decide) (by decide) (by decide), sv 14 k (by decide) (by decide) (by decide) (by decide) (by decide), sv 3 _ (by decide) (by decide) (by decide) (by decide) (by decide)]; exact d4 k hk
theorem rdwPe (h : RdW V NS NH N M P) (hn : N < 12) (hg : (peQ2 T n c V NS NH N q).1 = 0) : RdW (peV T n c V NS NH N q) NS NH (N + 1) M P := by
  obtain ⟨⟨b1, b2, b3, b4, b5⟩, d1, d2, d3, d4⟩ := h
  have hi := (knz_0 (q := peQ1 T n c V NS NH N q) hg).2.2
  have sv : ∀ f k, f ≠ 17 → f ≠ 0 → f ≠ 1 → f ≠ 3 → peV T n c V NS NH N q f k = V f k := fun f k a0 a1 a2 a3 => by unfold peV; rw [up2_p a3, up2_p a2, up2_p a1, up2_p a0]
  have ov : ∀ f k, k ≠ N → peV T n c V NS NH N q f k = V f k := fun f k hk => by unfold peV up2; rw [if_neg (fun z => hk z.2), if_neg (fun z => hk z.2), if_neg (fun z => hk z.2), if_neg (fun z => hk z.2)]
  have z0 : peV T n c V NS NH N q 0 N = nI (ixF (V 15) (nxI T n (peQ1 T n c V NS NH N q).2.2) NS 0) := by unfold peV; rw [up2_p (by decide), up2_p (by decide), up2_eq]
  have z1 : peV T n c V NS NH N q 1 N = -1 := by unfold peV; rw [up2_p (by decide), up2_eq]
  have z3 : peV T n c V NS NH N q 3 N = -1 := by unfold peV; rw [up2_eq]
  refine ⟨⟨b1, b2, by omega, b4, ?_⟩, fun k hk => ?_, fun k hk => ?_, fun k hk => ?_, fun k hk => ?_⟩
  · show 2 * P = mtC (peV T n c V NS NH N q) N + (if peV T n c V NS NH N q 3 N = -1 then 0 else 1)
    rw [if_pos z3, mt_cg (V := V) (fun k hk => by rw [ov 3 k (by omega)])]
    exact b5
  · by_cases e : k = N
    · subst e
      rw [z0, z1, z3]
      exact ⟨inb_nI' hi (by omega), Or.inl rfl, Or.inl rfl⟩
    · rw [ov 0 k e, ov 1 k e, ov 3 k e]
      obtain ⟨y1, y2, y3⟩ := d1 k (by omega)
      exact ⟨y1, y2, y3.elim Or.inl (fun y => Or.inr ⟨inb_up y.1 (by omega), y.2⟩)⟩
  · rw [sv 4 k (by decide) (by decide) (by decide) (by decide), sv 5 k (by decide) (by decide) (by decide) (by decide), sv 6 k (by decide) (by decide) (by decide) (by decide), sv 7 k (by decide) (by decide) (by decide) (by decide), sv 8 k (by decide) (by decide) (by decide) (by decide)]; exact d2 k hk
  · rw [sv 9 k (by decide) (by decide) (by decide) (by decide), sv 10 k (by decide) (by decide) (by decide) (by decide), sv 11 k (by decide) (by decide) (by decide) (by decide), sv 12 k (by decide) (by decide) (by decide) (by decide)]; exact d3 k hk
  · obtain ⟨y1, y2, y3⟩ := d4 k hk
    rw [sv 13 k (by decide) (by decide) (by decide) (by decide), sv 14 k (by decide) (by decide) (by decide) (by decide), ov 3 _ (by have := inb_ix y1; omega)]
    exact ⟨inb_up y1 (by omega), inb_up y2 (by omega), y3⟩
theorem rdwIn (h : RdW V NS NH N M P) (hg : (inQ1 T n c V NH N q).1 = 0) : RdW (inV T n c V NH N q) NS NH N M P := by
  obtain ⟨⟨b1, b2, b3, b4, b5⟩, d1, d2, d3, d4⟩ := h
  have hi := (knz_0 (q := inQ0 T n c V N q) hg).2.2
  have sv : ∀ f k, f ≠ 1 → inV T n c V NH N q f k = V f k := fun f k a1 => up2_p a1
  refine ⟨⟨b1, b2, b3, b4, by rw [mt_cg (V := V) (fun k hk => by rw [sv 3 k (by decide)])]; exact b5⟩, fun k hk => ?_, fun k hk => ?_, fun k hk => ?_, fun k hk => ?_⟩
  · obtain ⟨y1, y2, y3⟩ := d1 k hk
    rw [sv 0 k (by decide), sv 3 k (by decide)]
    refine ⟨y1, ?_, y3⟩
    unfold inV
    rw [up2_at]
    by_cases e : k = inP T n V N q
    · rw [if_pos e]; exact Or.inr (inb_nI' hi (by omega))
    · rw [if_neg e]; exact y2
  · rw [sv 4 k (by decide), sv 5 k (by decide), sv 6 k (by decide), sv 7 k (by decide), sv 8 k (by decide)]; exact d2 k hk
  · rw [sv 9 k (by decide), sv 10 k (by decide), sv 11 k (by decide), sv 12 k (by decide)]; exact d3 k hk
  · rw [sv 13 k (by decide), sv 14 k (by decide), sv 3 _ (by decide)]; exact d4 k hk
theorem rdwPa (h : RdW V NS NH N M P) (hg : (paQ1 T n c V N q).1 = 0) : RdW (paV T n c V N P q) NS NH N M (P + 1) := by
  obtain ⟨⟨b1, b2, b3, b4, b5⟩, d1, d2, d3, d4⟩ := h
  obtain ⟨⟨l0, l1, ne⟩, a1, a2, -⟩ := pa_mt hg
  obtain ⟨a, ha⟩ : ∃ a, inP T n V N q = a := ⟨_, rfl⟩
  obtain ⟨b, hb⟩ : ∃ b, paB T n c V N q = b := ⟨_, rfl⟩
  rw [ha] at l0 ne a1
  rw [hb] at l1 ne a2
  have hV : paV T n c V N P q = up2 (up2 (up2 (up2 V 3 a (nI b)) 3 b (nI a)) 13 P (nI a)) 14 P (nI b) := by unfold paV; rw [ha, hb]
  rw [hV]
  have sv : ∀ f k, f ≠ 3 → f ≠ 13 → f ≠ 14 → up2 (up2 (up2 (up2 V 3 a (nI b)) 3 b (nI a)) 13 P (nI a)) 14 P (nI b) f k = V f k := fun f k a1 a2 a3 => by rw [up2_p a3, up2_p a2, up2_p a1, up2_p a1]
  have s3 : ∀ k, up2 (up2 (up2 (up2 V 3 a (nI b)) 3 b (nI a)) 13 P (nI a)) 14 P (nI b) 3 k = if k = b then nI a else if k = a then nI b else V 3 k := fun k => by rw [up2_p (by decide), up2_p (by decide), up2_at, up2_at]
  have na := nI_neg1 (k := a) (by omega)
  have nb := nI_neg1 (k := b) (by omega)
  have m1 : mtC (up2 V 3 a (nI b)) N = mtC V N + 1 := by
    have m := mt_one (V := V) (V2 := up2 V 3 a (nI b)) a1 (by rw [up2_eq]; exact nb) (fun k hk => up2_k hk) N
    rw [if_pos l0] at m; exact m
  have m2 : mtC (up2 (up2 V 3 a (nI b)) 3 b (nI a)) N = mtC V N + 1 + 1 := by
    have m := mt_one (V := up2 V 3 a (nI b)) (V2 := up2 (up2 V 3 a (nI b)) 3 b (nI a)) (by rw [up2_k (Ne.symm ne)]; exact a2) (by rw [up2_eq]; exact na) (fun k hk => up2_k hk) N
    rw [if_pos l1, m1] at m; exact m
  refine ⟨⟨b1, b2, b3, b4, ?_⟩, fun k hk => ?_, fun k hk => ?_, fun k hk => ?_, fun k hk => ?_⟩
  · rw [mt_cg (V := up2 (up2 V 3 a (nI b)) 3 b (nI a)) (fun k hk => by rw [up2_p (by decide), up2_p (by decide)]), m2]
    omega
  · obtain ⟨y1, y2, y3⟩ := d1 k hk
    rw [sv 0 k (by decide) (by decide) (by decide), sv 1 k (by decide) (by decide) (by decide), s3]
    refine ⟨y1, y2, ?_⟩
    by_cases e1 : k = b
    · rw [if_pos e1]
      exact Or.inr ⟨inb_nI' l0 (by omega), fun z => ne (by have := (nI_eq (a := a) (b := k) (by omega) (by omega)).mp z; omega)⟩
    · rw [if_neg e1]
      by_cases e2 : k = a
      · rw [if_pos e2]
        exact Or.inr ⟨inb_nI' l1 (by omega), fun z => ne (by have := (nI_eq (a := b) (b := k) (by omega) (by omega)).mp z; omega)⟩
      · rw [if_neg e2]; exact y3
  · rw [sv 4 k (by decide) (by decide) (by decide), sv 5 k (by decide) (by decide) (by decide), sv 6 k (by decide) (by decide) (by decide), sv 7 k (by decide) (by decide) (by decide), sv 8 k (by decide) (by decide) (by decide)]; exact d2 k hk
  · rw [sv 9 k (by decide) (by decide) (by decide), sv 10 k (by decide) (by decide) (by decide), sv 11 k (by decide) (by decide) (by decide), sv 12 k (by decide) (by decide) (by decide)]; exact d3 k hk
  · have y13 : up2 (up2 (up2 (up2 V 3 a (nI b)) 3 b (nI a)) 13 P (nI a)) 14 P (nI b) 13 k = if k = P then nI a else V 13 k := by rw [up2_p (by decide), up2_at, up2_p (by decide), up2_p (by decide)]
    have y14 : up2 (up2 (up2 (up2 V 3 a (nI b)) 3 b (nI a)) 13 P (nI a)) 14 P (nI b) 14 k = if k = P then nI b else V 14 k := by rw [up2_at, up2_p (by decide), up2_p (by decide), up2_p (by decide)]
    rw [y13, y14, s3]
    by_cases e : k = P
    · rw [if_pos e, if_pos e, ixn_nI (by omega), if_neg ne, if_pos rfl]
      exact ⟨inb_nI' l0 (by omega), inb_nI' l1 (by omega), rfl⟩
    · rw [if_neg e, if_neg e]
      obtain ⟨y1, y2, y3⟩ := d4 k (by omega)
      obtain ⟨j, j1, j2⟩ := inb_ex y2
      have nj := nI_neg1 (k := j) (by omega)
      refine ⟨y1, y2, ?_⟩
      rw [if_neg (fun z => nj (by rw [← j2, ← y3, z]; exact a2)), if_neg (fun z => nj (by rw [← j2, ← y3, z]; exact a1))]
      exact y3
theorem rdwHo (h : RdW V NS NH N M P) {M2 : Nat} (h2 : M2 ≤ 60) : RdW V NS NH N M2 P := ⟨⟨h.1.1, h.1.2.1, h.1.2.2.1, h2, h.1.2.2.2.2⟩, h.2⟩
theorem rdw_P (h : RdW V NS NH N M P) : P ≤ 6 := by
  have t : ∀ N, mtC V N ≤ N := fun N => by
    induction N with
    | zero => exact Nat.le_refl _
    | succ N ih =>
      show mtC V N + (if V 3 N = -1 then 0 else 1) ≤ N + 1
      by_cases e : V 3 N = -1
      · rw [if_pos e]; omega
      · rw [if_neg e]; omega
  have := t N
  have := h.1
  omega
end
