/-! the class reads: sorts, hats -/
/-- all alike but at E -/
def FX (I J : Nat → Nat → Int32) (E : Nat → Nat → Prop) : Prop := ∀ p k, ¬ E p k → J p k = I p k
/-- the reader's own places -/
def E0 (p k : Nat) : Prop := p = 105 ∧ (k = 6 ∨ k = 8 ∨ k = 9)
/-- within the scene that is read -/
def EB (s : Nat) (E : Nat → Nat → Prop) : Prop := ∀ p k, E p k → E0 p k ∨ (s ≤ p ∧ p ≤ s + 24)
def nbA (T : Nat → Nat) (n c w lo hi : Nat) (q : Rz) : Rz := nbz T n c lo hi (asz T n c w q)
/-- the number behind word w, from q -/
def nbX (T : Nat → Nat) (n c w : Nat) (q : Rz) : Int32 := nI (nbW T n (asz T n c w q).2.2)
def soQ0 (T : Nat → Nat) (n c : Nat) (V : Vw) (NS NH N : Nat) (q : Rz) : Rz := nnz T n c V NS NH N q
def soQ1 (T : Nat → Nat) (n c : Nat) (V : Vw) (NS NH N : Nat) (q : Rz) : Rz := nbA T n c 2 0 99 (soQ0 T n c V NS NH N q)
def soQ2 (T : Nat → Nat) (n c : Nat) (V : Vw) (NS NH N : Nat) (q : Rz) : Rz := nbA T n c 3 0 99 (soQ1 T n c V NS NH N q)
def soQ3 (T : Nat → Nat) (n c : Nat) (V : Vw) (NS NH N : Nat) (q : Rz) : Rz := nbA T n c 4 0 100 (soQ2 T n c V NS NH N q)
def soQ4 (T : Nat → Nat) (n c : Nat) (V : Vw) (NS NH N : Nat) (q : Rz) : Rz := nbA T n c 5 0 999 (soQ3 T n c V NS NH N q)
def soQ5 (T : Nat → Nat) (n c : Nat) (V : Vw) (NS NH N : Nat) (q : Rz) : Rz := nbA T n c 6 1 9 (soQ4 T n c V NS NH N q)
def soV (T : Nat → Nat) (n c : Nat) (V : Vw) (NS NH N : Nat) (q : Rz) : Vw := up2 (up2 (up2 (up2 (up2 (up2 V 15 NS (nxI T n q.2.2)) 4 NS (nbX T n c 2 (soQ0 T n c V NS NH N q))) 5 NS (nbX T n c 3 (soQ1 T n c V NS NH N q))) 6 NS (nbX T n c 4 (soQ2 T n c V NS NH N q))) 7 NS (nbX T n c 5 (soQ3 T n c V NS NH N q))) 8 NS (nbX T n c 6 (soQ4 T n c V NS NH N q))
/-- the kind of a hat -/
def kdQ (T : Nat → Nat) (n c : Nat) (q : Rz) : Rz := if q.1 = 0 then (if 11 ≤ wq T n c q.2.2 ∧ wq T n c q.2.2 ≤ 14 then (0, 0, q.2.2 + 1) else (1, frW T n q.2.2, 0)) else q
def kdX (T : Nat → Nat) (n c : Nat) (q : Rz) : Int32 := nI (wq T n c q.2.2 - 11)
def haQ0 (T : Nat → Nat) (n c : Nat) (V : Vw) (NS NH N : Nat) (q : Rz) : Rz := nnz T n c V NS NH N q
def haQ1 (T : Nat → Nat) (n c : Nat) (V : Vw) (NS NH N : Nat) (q : Rz) : Rz := nbA T n c 8 0 100 (haQ0 T n c V NS NH N q)
def haQ2 (T : Nat → Nat) (n c : Nat) (V : Vw) (NS NH N : Nat) (q : Rz) : Rz := nbA T n c 9 0 60 (haQ1 T n c V NS NH N q)
def haQ3 (T : Nat → Nat) (n c : Nat) (V : Vw) (NS NH N : Nat) (q : Rz) : Rz := nbA T n c 10 0 100 (haQ2 T n c V NS NH N q)
def haQ4 (T : Nat → Nat) (n c : Nat) (V : Vw) (NS NH N : Nat) (q : Rz) : Rz := kdQ T n c (haQ3 T n c V NS NH N q)
def haV (T : Nat → Nat) (n c : Nat) (V : Vw) (NS NH N : Nat) (q : Rz) : Vw := up2 (up2 (up2 (up2 (up2 V 16 NH (nxI T n q.2.2)) 9 NH (nbX T n c 8 (haQ0 T n c V NS NH N q))) 10 NH (nbX T n c 9 (haQ1 T n c V NS NH N q))) 11 NH (nbX T n c 10 (haQ2 T n c V NS NH N q))) 12 NH (kdX T n c (haQ3 T n c V NS NH N q))
theorem asz_0 {T : Nat → Nat} {n c w : Nat} {q : Rz} (h : (asz T n c w q).1 = 0) : q.1 = 0 ∧ wq T n c q.2.2 = w ∧ asz T n c w q = (0, 0, q.2.2 + 1) := by
  unfold asz at h ⊢
  by_cases hb : q.1 = 0
  · rw [if_pos hb] at h ⊢
    by_cases e : wq T n c q.2.2 = w
    · rw [if_pos e]; exact ⟨hb, e, rfl⟩
    · rw [if_neg e] at h; cases h
  · rw [if_neg hb] at h; exact (hb h).elim
theorem nbz_0 {T : Nat → Nat} {n c lo hi : Nat} {q : Rz} (h : (nbz T n c lo hi q).1 = 0) : q.1 = 0 ∧ wq T n c q.2.2 = 41 ∧ ¬ 4 < snW T n q.2.2 ∧ lo ≤ nbW T n q.2.2 ∧ nbW T n q.2.2 ≤ hi ∧ nbz T n c lo hi q = (0, 0, q.2.2 + 1) := by
  unfold nbz at h ⊢
  by_cases hb : q.1 = 0
  · rw [if_pos hb] at h ⊢
    by_cases e : wq T n c q.2.2 = 41
    · rw [if_pos e] at h ⊢
      by_cases e4 : 4 < snW T n q.2.2
      · rw [if_pos e4] at h; cases h
      · rw [if_neg e4] at h ⊢
        by_cases er : nbW T n q.2.2 < lo ∨ hi < nbW T n q.2.2
        · rw [if_pos er] at h; cases h
        · rw [if_neg er]; exact ⟨hb, e, e4, by omega, by omega, rfl⟩
    · rw [if_neg e] at h; cases h
  · rw [if_neg hb] at h; exact (hb h).elim
theorem nbA_0 {T : Nat → Nat} {n c w lo hi : Nat} {q : Rz} (h : (nbA T n c w lo hi q).1 = 0) : q.1 = 0 := (asz_0 (nbz_0 h).1).1
theorem nbX_rg {T : Nat → Nat} {n c w lo hi : Nat} {q : Rz} (hh : hi < 2 ^ 31) (h : (nbA T n c w lo hi q).1 = 0) : rng (nbX T n c w q) (lo : Int) (hi : Int) := by
  obtain ⟨-, -, -, h1, h2, -⟩ := nbz_0 h
  unfold rng nbX
  rw [nI_toInt (by omega)]
  omega
section
variable {L : Nat} {xs : Nat → Int32} {σ : Mm} {r : Option Value × Mm} {I J K : Nat → Nat → Int32} {Lm : Nat → Nat → Int64} {Rm : Nat → Nat → Nat} {n s so t N NS NH m M P nw S U : Nat} {V W : Vw} {sp s2 ai p : Nat} {x y z h v : Int32} {k c w lo hi fu a : Nat} {T : Nat → Nat} {q : Rz} {f : Nat → Int32} {E E2 : Nat → Nat → Prop}
theorem fxRf : FX I I E := fun _ _ _ => rfl
theorem fxTr (h : FX I J E) (h2 : FX J K E) : FX I K E := fun p k hE => (h2 p k hE).trans (h p k hE)
theorem fxCF (h : CF I J) (hE : ∀ p k, E0 p k → E p k) : FX I J E := fun p k hn => by
  by_cases e : p = 105
  · subst e
    exact h.2 k (fun z => hn (hE _ _ ⟨rfl, Or.inl z⟩)) (fun z => hn (hE _ _ ⟨rfl, Or.inr (Or.inl z)⟩)) (fun z => hn (hE _ _ ⟨rfl, Or.inr (Or.inr z)⟩))
  · rw [h.1 p e]
theorem fxUp {p k : Nat} (hE : E p k) : FX I (up2 I p k v) E := fun p2 k2 hn => by
  unfold up2
  rw [if_neg (fun z => hn (by rw [z.1, z.2]; exact hE))]
theorem fxSub (h : FX I J E) (hE : ∀ p k, E p k → E2 p k) : FX I J E2 := fun p k hn => h p k (fun z => hn (hE p k z))
theorem FX.row {p : Nat} (h : FX I J E) (hn : ∀ k, ¬ E p k) : J p = I p := funext fun k => h p k (hn k)
theorem FX.out {p : Nat} (h : FX I J E) (hB : EB s E) (hp : p ≠ 105) (h2 : p < s ∨ s + 24 < p) : J p = I p := h.row (fun k z => by
  rcases hB p k z with z | z
  · exact hp z.1
  · omega)
theorem FX.tks (h : FX I J E) (hB : EB s E) (hs : s < 73) (hT : TKs I T n c) : TKs J T n c := by
  obtain ⟨a, b, d⟩ := hT
  refine ⟨fun j hj => ?_, by rw [h.out hB (p := 108) (by decide) (by omega)]; exact b, by rw [h.out hB (p := 109) (by decide) (by omega)]; exact d⟩
  rw [h.out hB (p := 108) (by decide) (by omega), h.out hB (p := 109) (by decide) (by omega), h.out hB (p := 110) (by decide) (by omega), h.out hB (p := 111) (by decide) (by omega)]
  exact a j hj
theorem csUp {p k : Nat} (h : CS J T n c q) (hp : p ≠ 105) : CS (up2 J p k v) T n c q := by
  obtain ⟨a, b, d, e⟩ := h
  have u : ∀ j, up2 J p k v 105 j = J 105 j := fun j => up2_p (Ne.symm hp)
  exact ⟨by rw [u]; exact a, b, fun z => by rw [u]; exact d z, by rw [u]; exact e⟩
/-- a town that is read stands, where only what is new has changed -/
theorem RdC.fx (h : RdC I s V NS NH N M P) (hF : FX I J E) (h0 : ¬ E (s + 16) 8 ∧ ¬ E (s + 9) 6 ∧ ¬ E (s + 1) 5 ∧ ¬ E s 6 ∧ ¬ E (s + 16) 9) (h1 : ∀ k, k < N → ¬ E (s + 20) k ∧ ¬ E (s + 21) k ∧ ¬ E (s + 22) k ∧ ¬ E (s + 24) k ∧ ¬ E (s + 19) k) (h2 : ∀ k, k < NS → ∀ a, 10 ≤ a → a ≤ 15 → ¬ E (s + a) k) (h3 : ∀ k, k < NH → ∀ a, 2 ≤ a → a ≤ 6 → ¬ E (s + a) k) (h4 : ∀ k, k < P → ¬ E (s + 17) k ∧ ¬ E (s + 18) k) : RdC J s V NS NH N M P := by
  obtain ⟨⟨c1, c2, c3, c4, c5⟩, d1, d2, d3, d4⟩ := h
  refine ⟨⟨by rw [hF _ _ h0.1]; exact c1, by rw [hF _ _ h0.2.1]; exact c2, by rw [hF _ _ h0.2.2.1]; exact c3, by rw [hF _ _ h0.2.2.2.1]; exact c4, by rw [hF _ _ h0.2.2.2.2]; exact c5⟩, fun k hk => ?_, fun k hk => ?_, fun k hk => ?_, fun k hk => ?_⟩
  · obtain ⟨a1, a2, a3, a4, a5⟩ := h1 k hk
    rw [hF _ _ a1, hF _ _ a2, hF _ _ a3, hF _ _ a4, hF _ _ a5]; exact d1 k hk
  · have z := h2 k hk
    rw [hF _ _ (z 10 (by decide) (by decide)), hF _ _ (z 11 (by decide) (by decide)), hF _ _ (z 12 (by decide) (by decide)), hF _ _ (z 13 (by decide) (by decide)), hF _ _ (z 14 (by decide) (by decide)), hF _ _ (z 15 (by decide) (by decide))]; exact d2 k hk
  · have z := h3 k hk
    rw [hF _ _ (z 2 (by decide) (by decide)), hF _ _ (z 3 (by decide) (by decide)), hF _ _ (z 4 (by decide) (by decide)), hF _ _ (z 5 (by decide) (by decide)), hF _ _ (z 6 (by decide) (by decide))]; exact d3 k hk
  · rw [hF _ _ (h4 k hk).1, hF _ _ (h4 k hk).2]; exact d4 k hk
/-- what a sort changes -/
def ESo (s NS p k : Nat) : Prop := E0 p k ∨ (s + 10 ≤ p ∧ p ≤ s + 15 ∧ k = NS) ∨ (p = s + 9 ∧ k = 6)
theorem eSoB : EB s (ESo s NS) := fun p k h => by
  rcases h with h | ⟨h1, h2, -⟩ | ⟨h, -⟩
  · exact Or.inl h
  · exact Or.inr (by omega)
  · exact Or.inr (by omega)
theorem c_sort (ha : ai = 37 ∨ ai = 71) (hs1 : s = ai + 1) (hR : RdC I s V NS NH N M P) (hN : NS < 6 ∧ NH ≤ 4 ∧ N ≤ 12) (hX : TX T n c) (hT : TKs I T n c) (h : CS I T n c q) : ∃ J, (∀ r, Em L xs 34 [.ref 105] (179, I, Lm, RG nw sp s2 ai) r ↔ r = (none, 179, J, Lm, RG nw sp s2 ai)) ∧ CS J T n c (soQ5 T n c V NS NH N q) ∧ FX I J (ESo s NS) ∧ J (s + 9) 6 = nI (NS + 1) ∧ ((soQ5 T n c V NS NH N q).1 = 0 → RdC J s (soV T n c V NS NH N q) (NS + 1) NH N M P) := by
  obtain ⟨hs, ho, s36, s73, hwd⟩ := rd_sc ha hs1
  obtain ⟨g1, g2, g3, g4, g5⟩ := rd_rg (nw := nw) (sp := sp) (s2 := s2) hs1
  have hc := hR.1.2.1
  have e0 : ∀ p k, E0 p k → ESo s NS p k := fun p k z => Or.inl z
  have ea : ∀ a, 10 ≤ a → a ≤ 15 → ESo s NS (s + a) NS := fun a h1 h2 => Or.inr (Or.inl ⟨by omega, by omega, rfl⟩)
  obtain ⟨v0, J0, p0, q0, f0, u0⟩ := c_newName (L := L) (xs := xs) (Lm := Lm) (nw := nw) (sp := sp) (s2 := s2) ha hs1 hR ⟨by omega, hN.2.1, hN.2.2⟩ hX hT h
  have q0 : CS J0 T n c (soQ0 T n c V NS NH N q) := q0
  have u0 : (soQ0 T n c V NS NH N q).1 = 0 → v0 = nxI T n q.2.2 := u0
  have F0 : FX I J0 (ESo s NS) := fxCF f0 e0
  have F0u : FX I (up2 J0 (s + 10) NS v0) (ESo s NS) := fxTr F0 (fxUp (ea 10 (by decide) (by decide)))
  obtain ⟨v1, J1, p1, q1, f1, u1⟩ := c_numAfter (w := 2) (lo := 0) (hi := 99) (L := L) (xs := xs) (Lm := Lm) (nw := nw) (sp := sp) (s2 := s2) (ai := ai) (by decide) (by decide) (by decide) (by decide) hX (F0u.tks eSoB s73 hT) (csUp (p := s + 10) (k := NS) (v := v0) q0 (by omega))
  have q1 : CS J1 T n c (soQ1 T n c V NS NH N q) := q1
  have u1 : (soQ1 T n c V NS NH N q).1 = 0 → v1 = nbX T n c 2 (soQ0 T n c V NS NH N q) := u1
  have p1 : ∀ r, Em L xs 25 [.ref 105, .int 2, .int 0, .int 99] (179, up2 J0 (s + 10) NS v0, Lm, RG nw sp s2 ai) r ↔ r = (some (.int v1), 179, J1, Lm, RG nw sp s2 ai) := fun r => p1 r
  have F1 : FX I J1 (ESo s NS) := fxTr F0u (fxCF f1 e0)
  have F1u : FX I (up2 J1 (s + 11) NS v1) (ESo s NS) := fxTr F1 (fxUp (ea 11 (by decide) (by decide)))
  obtain ⟨v2, J2, p2, q2, f2, u2⟩ := c_numAfter (w := 3) (lo := 0) (hi := 99) (L := L) (xs := xs) (Lm := Lm) (nw := nw) (sp := sp) (s2 := s2) (ai := ai) (by decide) (by decide) (by decide) (by decide) hX (F1u.tks eSoB s73 hT) (csUp (p := s + 11) (k := NS) (v := v1) q1 (by omega))
  have q2 : CS J2 T n c (soQ2 T n c V NS NH N q) := q2
  have u2 : (soQ2 T n c V NS NH N q).1 = 0 → v2 = nbX T n c 3 (soQ1 T n c V NS NH N q) := u2
  have p2 : ∀ r, Em L xs 25 [.ref 105, .int 3, .int 0, .int 99] (179, up2 J1 (s + 11) NS v1, Lm, RG nw sp s2 ai) r ↔ r = (some (.int v2), 179, J2, Lm, RG nw sp s2 ai) := fun r => p2 r
  have F2 : FX I J2 (ESo s NS) := fxTr F1u (fxCF f2 e0)
  have F2u : FX I (up2 J2 (s + 12) NS v2) (ESo s NS) := fxTr F2 (fxUp (ea 12 (by decide) (by decide)))
  obtain ⟨v3, J3, p3, q3, f3, u3⟩ := c_numAfter (w := 4) (lo := 0) (hi := 100) (L := L) (xs := xs) (Lm := Lm) (nw := nw) (sp := sp) (s2 := s2) (ai := ai) (by decide) (by decide) (by decide) (by decide) hX (F2u.tks eSoB s73 hT) (csUp (p := s + 12) (k := NS) (v := v2) q2 (by omega))
  have q3 : CS J3 T n c (soQ3 T n c V NS NH N q) := q3
  have u3 : (soQ3 T n c V NS NH N q).1 = 0 → v3 = nbX T n c 4 (soQ2 T n c V NS NH N q) := u3
  have p3 : ∀ r, Em L xs 25 [.ref 105, .int 4, .int 0, .int 100] (179, up2 J2 (s + 12) NS v2, Lm, RG nw sp s2 ai) r ↔ r = (some (.int v3), 179, J3, Lm, RG nw sp s2 ai) := fun r => p3 r
  have F3 : FX I J3 (ESo s NS) := fxTr F2u (fxCF f3 e0)
  have F3u : FX I (up2 J3 (s + 13) NS v3) (ESo s NS) := fxTr F3 (fxUp (ea 13 (by decide) (by decide)))
  obtain ⟨v4, J4, p4, q4, f4, u4⟩ := c_numAfter (w := 5) (lo := 0) (hi := 999) (L := L) (xs := xs) (Lm := Lm) (nw := nw) (sp := sp) (s2 := s2) (ai := ai) (by decide) (by decide) (by decide) (by decide) hX (F3u.tks eSoB s73 hT) (csUp (p := s + 13) (k := NS) (v := v3) q3 (by omega))
  have q4 : CS J4 T n c (soQ4 T n c V NS NH N q) := q4
  have u4 : (soQ4 T n c V NS NH N q).1 = 0 → v4 = nbX T n c 5 (soQ3 T n c V NS NH N q) := u4
  have p4 : ∀ r, Em L xs 25 [.ref 105, .int 5, .int 0, .int 999] (179, up2 J3 (s + 13) NS v3, Lm, RG nw sp s2 ai) r ↔ r = (some (.int v4), 179, J4, Lm, RG nw sp s2 ai) := fun r => p4 r
  have F4 : FX I J4 (ESo s NS) := fxTr F3u (fxCF f4 e0)
  have F4u : FX I (up2 J4 (s + 14) NS v4) (ESo s NS) := fxTr F4 (fxUp (ea 14 (by decide) (by decide)))
  obtain ⟨v5, J5, p5, q5, f5, u5⟩ := c_numAfter (w := 6) (lo := 1) (hi := 9) (L := L) (xs := xs) (Lm := Lm) (nw := nw) (sp := sp) (s2 := s2) (ai := ai) (by decide) (by decide) (by decide) (by decide) hX (F4u.tks eSoB s73 hT) (csUp (p := s + 14) (k := NS) (v := v4) q4 (by omega))
  have q5 : CS J5 T n c (soQ5 T n c V NS NH N q) := q5
  have u5 : (soQ5 T n c V NS NH N q).1 = 0 → v5 = nbX T n c 6 (soQ4 T n c V NS NH N q) := u5
  have p5 : ∀ r, Em L xs 25 [.ref 105, .int 6, .int 1, .int 9] (179, up2 J4 (s + 14) NS v4, Lm, RG nw sp s2 ai) r ↔ r = (some (.int v5), 179, J5, Lm, RG nw sp s2 ai) := fun r => p5 r
  have F5 : FX I J5 (ESo s NS) := fxTr F4u (fxCF f5 e0)
  have F5u : FX I (up2 J5 (s + 15) NS v5) (ESo s NS) := fxTr F5 (fxUp (ea 15 (by decide) (by decide)))
  have hce : ∀ {K : Nat → Nat → Int32}, FX I K (fun p k => E0 p k ∨ (s + 10 ≤ p ∧ p ≤ s + 15 ∧ k = NS)) → K (s + 9) 6 = nI NS := fun hF => (hF (s + 9) 6 (fun z => z.elim (fun y => by have := y.1; omega) (fun y => by omega))).trans hc
  have F5c : FX I (up2 J5 (s + 15) NS v5) (fun p k => E0 p k ∨ (s + 10 ≤ p ∧ p ≤ s + 15 ∧ k = NS)) := by
    have cf : ∀ {A B : Nat → Nat → Int32}, CF A B → FX A B (fun p k => E0 p k ∨ (s + 10 ≤ p ∧ p ≤ s + 15 ∧ k = NS)) := fun hh => fxCF hh (fun p k z => Or.inl z)
    have cu : ∀ {A : Nat → Nat → Int32} {x : Int32} a, 10 ≤ a → a ≤ 15 → FX A (up2 A (s + a) NS x) (fun p k => E0 p k ∨ (s + 10 ≤ p ∧ p ≤ s + 15 ∧ k = NS)) := fun a h1 h2 => fxUp (Or.inr ⟨by omega, by omega, rfl⟩)
    exact fxTr (fxTr (fxTr (fxTr (fxTr (fxTr (fxTr (fxTr (fxTr (fxTr (fxTr (cf f0) (cu 10 (by decide) (by decide))) (cf f1)) (cu 11 (by decide) (by decide))) (cf f2)) (cu 12 (by decide) (by decide))) (cf f3)) (cu 13 (by decide) (by decide))) (cf f4)) (cu 14 (by decide) (by decide))) (cf f5)) (cu 15 (by decide) (by decide))
  have hc5 := hce F5c
  have t0 : ∀ (J : Nat → Nat → Int32) v, setv J (s + 9 + 1) (nI NS) v = up2 J (s + 10) NS v := fun J v => setv_lt (by rw [sh_o1 ho]; show NS < 6; omega)
  have t1 : ∀ (J : Nat → Nat → Int32) v, setv J (s + 9 + 2) (nI NS) v = up2 J (s + 11) NS v := fun J v => setv_lt (by rw [sh_o2 ho]; show NS < 6; omega)
  have t2 : ∀ (J : Nat → Nat → Int32) v, setv J (s + 9 + 3) (nI NS) v = up2 J (s + 12) NS v := fun J v => setv_lt (by rw [sh_o3 ho]; show NS < 6; omega)
  have t3 : ∀ (J : Nat → Nat → Int32) v, setv J (s + 9 + 4) (nI NS) v = up2 J (s + 13) NS v := fun J v => setv_lt (by rw [sh_o4 ho]; show NS < 6; omega)
  have t4 : ∀ (J : Nat → Nat → Int32) v, setv J (s + 9 + 5) (nI NS) v = up2 J (s + 14) NS v := fun J v => setv_lt (by rw [sh_o5 ho]; show NS < 6; omega)
  have t5 : ∀ (J : Nat → Nat → Int32) v, setv J (s + 9 + 6) (nI NS) v = up2 J (s + 15) NS v := fun J v => setv_lt (by rw [sh_o6 ho]; show NS < 6; omega)
  refine ⟨up2 (up2 J5 (s + 15) NS v5) (s + 9) 6 (nI (NS + 1)), fun r => ?_, csUp (csUp q5 (by omega)) (by omega), fxTr F5u (fxUp (Or.inr (Or.inr ⟨rfl, rfl⟩))), up2_eq, fun hg => ?_⟩
  · rw [em_34]
    simp only [x34_0, x34_1, x34_4, x34_7, x34_8, x34_9, x34_12, x34_15, x34_16, x34_17, x34_20, x34_23, x34_24, x34_27, x34_30, x34_31, x34_32, x34_33, x34_34, x34_36, x34_39, x34_42, x34_43, x34_46, x34_49, x34_50, x34_51, x34_52, x34_53, x34_55, x34_58, x34_61, x34_62, x34_65, x34_68, x34_69, x34_70, x34_71, x34_72, x34_74, x34_77, x34_80, x34_81, x34_84, x34_87, x34_88, x34_89, x34_90, x34_91, x34_94, x34_97, x34_100, x34_101, x34_104, x34_107, x34_108, x34_109, x34_111, x34_112, x34_114, x34_117, x34_120, x34_121, x34_124, x34_125, x34_128, x34_129, x34_130, x34_133, sh_105, lq_105, sh_106, lq_106, sh_108, lq_108, sh_109, lq_109, sh_110, lq_110, sh_111, lq_111, rg_105_0, rg_106_1, rg_106_2, rg_106_3, rg_106_4, sh_s, lq_s, sh_s1, lq_s1, sh_s2, lq_s2, sh_s3, lq_s3, sh_s4, lq_s4, sh_s5, lq_s5, sh_s6, lq_s6, sh_s7, lq_s7, sh_s8, lq_s8, sh_s9, lq_s9, sh_s10, lq_s10, sh_s11, lq_s11, sh_s12, lq_s12, sh_s13, lq_s13, sh_s14, lq_s14, sh_s15, lq_s15, sh_s16, lq_s16, sh_s17, lq_s17, sh_s18, lq_s18, sh_s19, lq_s19, sh_s20, lq_s20, sh_s21, lq_s21, sh_s22, lq_s22, sh_s23, lq_s23, sh_s24, lq_s24, sh_s25, lq_s25, rg_s0_0, rg_s0_1, rg_s0_2, rg_s0_3, rg_s1_0, rg_s1_1, rg_s1_2, rg_s1_3, rg_s1_4, rg_s7_0, rg_s9_0, rg_s9_1, rg_s9_2, rg_s9_3, rg_s9_4, rg_s9_5, rg_s16_6, rg_s16_7, rg_s16_0, rg_s16_1, rg_s16_2, rg_s16_3, rg_s16_4, rg_s16_5, sh_o, lq_o, sh_o1, lq_o1, sh_o2, lq_o2, sh_o3, lq_o3, sh_o4, lq_o4, sh_o5, lq_o5, sh_o6, lq_o6, rg_o0, rg_o1, rg_o2, rg_o3, rg_o4, rg_o5, ex5, Option.toList_some, Option.toList_none, List.cons_append, List.nil_append, true_and, and_true, nI_1, p_at, p_set, p_isIn, p_max, p_min, p_abs, hs, ho, g2, hc, p0, t0, p1, t1, p2, t2, p3, t3, p4, t4, p5, t5, hc5]
  · have h5 : (soQ4 T n c V NS NH N q).1 = 0 := nbA_0 hg
    have h4 : (soQ3 T n c V NS NH N q).1 = 0 := nbA_0 h5
    have h3 : (soQ2 T n c V NS NH N q).1 = 0 := nbA_0 h4
    have h2 : (soQ1 T n c V NS NH N q).1 = 0 := nbA_0 h3
    have h1 : (soQ0 T n c V NS NH N q).1 = 0 := nbA_0 h2
    have w0 := u0 h1; have w1 := u1 h2; have w2 := u2 h3; have w3 := u3 h4; have w4 := u4 h5; have w5 := u5 hg
    have hRJ : RdC (up2 J5 (s + 15) NS v5) s V NS NH N M P := hR.fx F5c ⟨fun z => z.elim (fun y => by have := y.1; omega) (fun y => by omega), fun z => z.elim (fun y => by have := y.1; omega) (fun y => by omega), fun z => z.elim (fun y => by have := y.1; omega) (fun y => by omega), fun z => z.elim (fun y => by have := y.1; omega) (fun y => by omega), fun z => z.elim (fun y => by have := y.1; omega) (fun y => by omega)⟩ (fun k hk => ⟨fun z => z.elim (fun y => by have := y.1; omega) (fun y => by omega), fun z => z.elim (fun y => by have := y.1; omega) (fun y => by omega), fun z => z.elim (fun y => by have := y.1; omega) (fun y => by omega), fun z => z.elim (fun y => by have := y.1; omega) (fun y => by omega), fun z => z.elim (fun y => by have := y.1; omega) (fun y => by omega)⟩) (fun k hk a a1 a2 z => z.elim (fun y => by have := y.1; omega) (fun y => by omega)) (fun k hk a a1 a2 z => z.elim (fun y => by have := y.1; omega) (fun y => by omega)) (fun k hk => ⟨fun z => z.elim (fun y => by have := y.1; omega) (fun y => by omega), fun z => z.elim (fun y => by have := y.1; omega) (fun y => by omega)⟩)
    obtain ⟨⟨c1, c2, c3, c4, c5⟩, d1, d2, d3, d4⟩ := hRJ
    have sv : ∀ f k, f ≠ 15 → f ≠ 4 → f ≠ 5 → f ≠ 6 → f ≠ 7 → f ≠ 8 → soV T n c V NS NH N q f k = V f k := fun f k a1 a2 a3 a4 a5 a6 => by unfold soV; rw [up2_p a6, up2_p a5, up2_p a4, up2_p a3, up2_p a2, up2_p a1]
    have ov : ∀ f k, k ≠ NS → soV T n c V NS NH N q f k = V f k := fun f k hk => by unfold soV up2; rw [if_neg (fun z => hk z.2), if_neg (fun z => hk z.2), if_neg (fun z => hk z.2), if_neg (fun z => hk z.2), if_neg (fun z => hk z.2), if_neg (fun z => hk z.2)]
    have op : ∀ p, p ≠ s + 9 → ∀ k, up2 (up2 J5 (s + 15) NS v5) (s + 9) 6 (nI (NS + 1)) p k = up2 J5 (s + 15) NS v5 p k := fun p hp k => up2_p hp
    refine ⟨⟨by rw [op _ (by omega)]; exact c1, up2_eq, by rw [op _ (by omega)]; exact c3, by rw [op _ (by omega)]; exact c4, by rw [op _ (by omega)]; exact c5⟩, fun k hk => ?_, fun k hk => ?_, fun k hk => ?_, fun k hk => ?_⟩
    · rw [op _ (by omega), op _ (by omega), op _ (by omega), op _ (by omega), op _ (by omega), sv 0 k (by decide) (by decide) (by decide) (by decide) (by decide) (by decide), sv 1 k (by decide) (by decide) (by decide) (by decide) (by decide) (by decide), sv 3 k (by decide) (by decide) (by decide) (by decide) (by decide) (by decide), sv 17 k (by decide) (by decide) (by decide) (by decide) (by decide) (by decide)]
      exact d1 k hk
    · rw [op _ (by omega), op _ (by omega), op _ (by omega), op _ (by omega), op _ (by omega), op _ (by omega)]
      by_cases e : k = NS
      · subst e
        have b : ∀ {A B : Nat → Nat → Int32} {p j : Nat}, CF A B → p ≠ 105 → B p j = A p j := fun hh hp => by rw [hh.1 _ hp]
        have y0 : up2 J5 (s + 15) k v5 (s + 10) k = v0 := by rw [up2_p (show s + 10 ≠ s + 15 by omega), b f5 (show s + 10 ≠ 105 by omega), up2_p (show s + 10 ≠ s + 14 by omega), b f4 (show s + 10 ≠ 105 by omega), up2_p (show s + 10 ≠ s + 13 by omega), b f3 (show s + 10 ≠ 105 by omega), up2_p (show s + 10 ≠ s + 12 by omega), b f2 (show s + 10 ≠ 105 by omega), up2_p (show s + 10 ≠ s + 11 by omega), b f1 (show s + 10 ≠ 105 by omega), up2_eq]
        have y1 : up2 J5 (s + 15) k v5 (s + 11) k = v1 := by rw [up2_p (show s + 11 ≠ s + 15 by omega), b f5 (show s + 11 ≠ 105 by omega), up2_p (show s + 11 ≠ s + 14 by omega), b f4 (show s + 11 ≠ 105 by omega), up2_p (show s + 11 ≠ s + 13 by omega), b f3 (show s + 11 ≠ 105 by omega), up2_p (show s + 11 ≠ s + 12 by omega), b f2 (show s + 11 ≠ 105 by omega), up2_eq]
        have y2 : up2 J5 (s + 15) k v5 (s + 12) k = v2 := by rw [up2_p (show s + 12 ≠ s + 15 by omega), b f5 (show s + 12 ≠ 105 by omega), up2_p (show s + 12 ≠ s + 14 by omega), b f4 (show s + 12 ≠ 105 by omega), up2_p (show s + 12 ≠ s + 13 by omega), b f3 (show s + 12 ≠ 105 by omega), up2_eq]
        have y3 : up2 J5 (s + 15) k v5 (s + 13) k = v3 := by rw [up2_p (show s + 13 ≠ s + 15 by omega), b f5 (show s + 13 ≠ 105 by omega), up2_p (show s + 13 ≠ s + 14 by omega), b f4 (show s + 13 ≠ 105 by omega), up2_eq]
        have y4 : up2 J5 (s + 15) k v5 (s + 14) k = v4 := by rw [up2_p (show s + 14 ≠ s + 15 by omega), b f5 (show s + 14 ≠ 105 by omega), up2_eq]
        have y5 : up2 J5 (s + 15) k v5 (s + 15) k = v5 := by rw [up2_eq]
        rw [y0, y1, y2, y3, y4, y5, w0, w1, w2, w3, w4, w5]
        unfold soV
        refine ⟨?_, ?_, ?_, ?_, ?_, ?_⟩
        · rw [up2_p (by decide), up2_p (by decide), up2_p (by decide), up2_p (by decide), up2_p (by decide), up2_eq]
        · rw [up2_p (by decide), up2_p (by decide), up2_p (by decide), up2_p (by decide), up2_eq]
        · rw [up2_p (by decide), up2_p (by decide), up2_p (by decide), up2_eq]
        · rw [up2_p (by decide), up2_p (by decide), up2_eq]
        · rw [up2_p (by decide), up2_eq]
        · rw [up2_eq]
      · rw [ov 15 k e, ov 4 k e, ov 5 k e, ov 6 k e, ov 7 k e, ov 8 k e]
        exact d2 k (by omega)
    · rw [op _ (by omega), op _ (by omega), op _ (by omega), op _ (by omega), op _ (by omega), sv 16 k (by decide) (by decide) (by decide) (by decide) (by decide) (by decide), sv 9 k (by decide) (by decide) (by decide) (by decide) (by decide) (by decide), sv 10 k (by decide) (by decide) (by decide) (by decide) (by decide) (by decide), sv 11 k (by decide) (by decide) (by decide) (by decide) (by decide) (by decide), sv 12 k (by decide) (by decide) (by decide) (by decide) (by decide) (by decide)]
      exact d3 k hk
    · rw [op _ (by omega), op _ (by omega), sv 13 k (by decide) (by decide) (by decide) (by decide) (by decide) (by decide), sv 14 k (by decide) (by decide) (by decide) (by decide) (by decide) (by decide)]
      exact d4 k hk
end
