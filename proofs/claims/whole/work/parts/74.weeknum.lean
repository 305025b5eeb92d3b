/-! a week put together: numbers -/
/-- rules: sorts, sums from, tests from, tests to, codes, how many -/
abbrev Ru : Type := (Nat → Int32) × (Nat → Nat) × (Nat → Nat) × (Nat → Nat) × (Nat → Nat) × Nat
def RQK (Q : Ru) : Prop := RuK Q.2.2.2.2.2 Q.2.1 Q.2.2.1 Q.2.2.2.1 Q.2.2.2.2.1
def RQC (I : Nat → Nat → Int32) (U : Nat) (Q : Ru) : Prop := RuC I U Q.2.2.2.2.2 Q.1 Q.2.1 Q.2.2.1 Q.2.2.2.1 Q.2.2.2.2.1
def RQM (I : Nat → Nat → Int32) (Q : Ru) : Prop := RuM I Q.2.2.2.2.2 Q.1 Q.2.1 Q.2.2.1 Q.2.2.2.1 Q.2.2.2.2.1
def wk1 (N NH : Nat) (V : Vw) : Nat × (Nat → Int32) := dfS V N 1 (ixn (V 22 2), fun _ => -1) NH
def wkH (N NH M : Nat) (V : Vw) (Q : Ru) : Nat → Int32 := hoV N M V (wk1 N NH V).2 Q.1 Q.2.1 Q.2.2.1 Q.2.2.2.1 Q.2.2.2.2.1 Q.2.2.2.2.2
def wkU (N NH M : Nat) (V : Vw) (Q : Ru) : Vw := hvV V (wkH N NH M V Q)
def wk2 (N NH M : Nat) (V : Vw) (Q : Ru) : Nat × (Nat → Int32) := dfS (wkU N NH M V Q) N 0 (wk1 N NH V) NH
def wk3 (N NH M : Nat) (V : Vw) (Q : Ru) : Nat × Nat × (Nat → Int32) := laS (wkU N NH M V Q) ((wk2 N NH M V Q).1, ixn (V 22 1), hdV (wkU N NH M V Q) N (wk2 N NH M V Q).2) N
def wk4 (N NH M P : Nat) (V : Vw) (Q : Ru) : Nat → Int32 := hpS (wkU N NH M V Q) (wk3 N NH M V Q).2.2 P
def wkA (N NH M P : Nat) (V : Vw) (Q : Ru) : Int32 := sg (pyV (wkU N NH M V Q) (wk4 N NH M P V Q)) N
def wkW (N NH M P : Nat) (V : Vw) (Q : Ru) : Vw := fun f k => if f = 18 then wk4 N NH M P V Q k else if f = 19 then pdV (wkU N NH M V Q) (wk4 N NH M P V Q) (V 19) k else if f = 20 then (wk2 N NH M V Q).2 k else if f = 22 then (if k = 0 then V 22 0 + 1 else if k = 1 then nI (wk3 N NH M V Q).2.1 else if k = 2 then nI (wk3 N NH M V Q).1 else V 22 k) else wkU N NH M V Q f k
theorem rg_ex {x : Int32} {b : Nat} (h : rng x 0 (b : Int)) : ∃ a, a ≤ b ∧ x = nI a := by
  obtain ⟨a, h1, h2⟩ := inb_ex (x := x) (n := b + 1) ⟨h.1, by have := h.2; omega⟩
  exact ⟨a, by omega, h2⟩
theorem nI_ix {x : Int32} (h : 0 ≤ x.toInt) : nI (ixn x) = x ∧ ixn x < 2 ^ 31 := by
  have h2 : x.toInt < 2147483648 := Int32.toInt_lt x
  obtain ⟨k, k1, rfl⟩ := inb_ex (x := x) (n := 2147483648) ⟨h, by omega⟩
  rw [ixn_nI (by omega)]
  exact ⟨rfl, by omega⟩
section
variable {N NS NH M P p : Nat} {V : Vw} {D R : Nat → Int32} {Q : Ru}
theorem hd_nI (hW : WV V N NS NH) (hp : p < N) (hN : N ≤ 12) (hS : NS ≤ 6) (hH : NH ≤ 4) (hD : ∀ h, h < NH → V 1 p = nI h → ¬ 1 < V 12 h → ∃ w, w < N ∧ D p = nI w) : ∃ a, a ≤ 80000 ∧ hdV V N D p = nI a := by
  unfold hdV
  by_cases c : V 1 p = -1
  · rw [if_pos c]; exact ⟨0, by omega, nI_0.symm⟩
  rw [if_neg c]
  obtain ⟨h, hh, eh⟩ := inb_ex ((hW.1 p hp).2.1.resolve_left c)
  have ix : ixn (V 1 p) = h := by rw [eh, ixn_nI (by omega)]
  by_cases d : 1 < V 12 (ixn (V 1 p))
  · rw [if_pos d]
    obtain ⟨s, s1, s2⟩ := sum_nI (h := V 1 p) hW hS hH N (Nat.le_refl N)
    obtain ⟨k, k1, k2, k3⟩ := need_nI (h := V 1 p) hW hS N (Nat.le_refl N)
    have hc := cn_o (V := V) (p := p) (h := V 1 p) rfl N
    rw [if_pos hp] at hc
    have hcl := cnN_le V (V 1 p) N
    by_cases e : V 12 (ixn (V 1 p)) = 3
    · rw [if_pos e]
      have hw := (hW.2.1 _ (ixn_lt (hW.1 p hp).1)).2.2.2.2
      obtain ⟨w, w1, w2⟩ := rg_ex (x := vS V p 8) (b := 9) ⟨by have := hw.1; show (0 : Int) ≤ (V 8 (ixn (V 0 p))).toInt; omega, hw.2⟩
      have hm : s * w ≤ k * 53460 := by
        have m1 : s * w ≤ (5940 * cnN V (V 1 p) N) * 9 := Nat.mul_le_mul s2 w1
        omega
      rw [s1, w2, k1, pk_mul, pk_div (by omega) (by omega) (by omega)]
      exact ⟨s * w / k, by have := Nat.div_le_of_le_mul hm; omega, rfl⟩
    · rw [if_neg e, s1, pk_div (by omega) (by omega) (by omega)]
      exact ⟨s / cnN V (V 1 p) N, by have := Nat.div_le_self s (cnN V (V 1 p) N); omega, rfl⟩
  · rw [if_neg d]
    obtain ⟨w, w1, w2⟩ := hD h hh eh (by rw [← ix]; exact d)
    rw [w2, ixn_nI (by omega)]
    obtain ⟨a, a1, a2⟩ := slip_nI hW w1 hS hH
    exact ⟨a, by omega, a2⟩
theorem hpS_ok {b : Nat} (hb : b ≤ 80000) (hN : N ≤ 12) (hR : rwN b N R) (hP : ∀ k, k < P → inb (V 13 k) N ∧ inb (V 14 k) N) : ∀ k, k ≤ P → rwN b N (hpS V R k)
  | 0, _ => hR
  | k + 1, hk => by
    intro p hp
    have ih := hpS_ok hb hN hR hP k (by omega)
    obtain ⟨w1, w2⟩ := hP k (by omega)
    obtain ⟨a, a1, a2⟩ := ih _ (ixn_lt w1)
    obtain ⟨c, c1, c2⟩ := ih _ (ixn_lt w2)
    have e2 : (nI a + nI c) / 2 = nI ((a + c) / 2) := by rw [nI_add]; exact pk_div (d := 2) (by omega) (by decide) (by decide)
    show ∃ a, a ≤ b ∧ (if p = ixn (V 13 k) then hpS V R k (ixn (V 13 k)) + hpS V R k (ixn (V 14 k)) - (hpS V R k (ixn (V 13 k)) + hpS V R k (ixn (V 14 k))) / 2 else if p = ixn (V 14 k) then (hpS V R k (ixn (V 13 k)) + hpS V R k (ixn (V 14 k))) / 2 else hpS V R k p) = nI a
    rw [a2, c2, e2]
    by_cases z : p = ixn (V 13 k)
    · rw [if_pos z, nI_add, pk_sub (by omega)]
      exact ⟨_, by omega, rfl⟩
    · rw [if_neg z]
      by_cases y : p = ixn (V 14 k)
      · rw [if_pos y]; exact ⟨_, by omega, rfl⟩
      · rw [if_neg y]; exact ih p hp
theorem wkU_o {f : Nat} (h : f ≠ 2) : wkU N NH M V Q f = V f := hvV_o h
theorem wk1_lt (h2 : 0 ≤ (V 22 2).toInt) : (wk1 N NH V).1 < 2 ^ 31 := (dfS_ok (nI_ix h2).2 NH).1
theorem wk2_lt (h2 : 0 ≤ (V 22 2).toInt) : (wk2 N NH M V Q).1 < 2 ^ 31 := (dfS_ok (wk1_lt h2) NH).1
theorem wk2_D (h2 : 0 ≤ (V 22 2).toInt) (hW : WV V N NS NH) (hH : NH ≤ 4) (p h : Nat) (hp : p < N) (hh : h < NH) (e : V 1 p = nI h) (k : ¬ 1 < V 12 h) : ∃ w, w < N ∧ (wk2 N NH M V Q).2 p = nI w := by
  obtain ⟨a1, b1, c1⟩ := dfS_ok (V := V) (N := N) (kd := 1) (q := (ixn (V 22 2), fun _ => -1)) (nI_ix h2).2 NH
  obtain ⟨a2, b2, c2⟩ := dfS_ok (V := wkU N NH M V Q) (N := N) (kd := 0) (q := wk1 N NH V) (wk1_lt h2) NH
  have o1 : ∀ p, wkU N NH M V Q 1 p = V 1 p := fun p => by rw [wkU_o (by decide)]
  have o12 : ∀ p, wkU N NH M V Q 12 p = V 12 p := fun p => by rw [wkU_o (by decide)]
  obtain ⟨z, z1, z2⟩ := rg_ex (b := 3) (hW.2.2 h hh).2.2.2
  have z3 : z ≤ 1 := by
    by_cases y : z ≤ 1
    · exact y
    · exact absurd (show (1 : Int32) < V 12 h from by rw [z2]; exact nI_lt (a := 1) (by omega) (by omega)) k
  rcases (show z = 0 ∨ z = 1 by omega) with rfl | rfl
  · obtain ⟨w, w1, w2, -⟩ := b2 p h hp hh (by rw [o1]; exact e) (by rw [o12, z2]; rfl)
    exact ⟨w, w1, w2⟩
  · obtain ⟨w, w1, w2, -⟩ := b1 p h hp hh e (by rw [z2]; rfl)
    refine ⟨w, w1, (c2 p (fun h' hh' e' => ?_)).trans w2⟩
    rw [o1, e] at e'
    have eh := (nI_eq (by omega) (by omega)).mp e'
    rw [o12, ← eh, z2]
    decide
theorem wk2_E (h2 : 0 ≤ (V 22 2).toInt) (hW : WV V N NS NH) (hH : NH ≤ 4) (hN : N ≤ 12) (p : Nat) (hp : p < N) : (wk2 N NH M V Q).2 p = -1 ∨ inb ((wk2 N NH M V Q).2 p) N := by
  obtain ⟨a1, b1, c1⟩ := dfS_ok (V := V) (N := N) (kd := 1) (q := (ixn (V 22 2), fun _ => -1)) (nI_ix h2).2 NH
  obtain ⟨a2, b2, c2⟩ := dfS_ok (V := wkU N NH M V Q) (N := N) (kd := 0) (q := wk1 N NH V) (wk1_lt h2) NH
  have o1 : ∀ p, wkU N NH M V Q 1 p = V 1 p := fun p => by rw [wkU_o (by decide)]
  have o12 : ∀ p, wkU N NH M V Q 12 p = V 12 p := fun p => by rw [wkU_o (by decide)]
  have mk : ∀ h, h < NH → V 1 p = nI h → ¬ 1 < V 12 h → (wk2 N NH M V Q).2 p = -1 ∨ inb ((wk2 N NH M V Q).2 p) N := fun h hh e k => by
    obtain ⟨w, w1, w2⟩ := wk2_D (M := M) (Q := Q) h2 hW hH p h hp hh e k
    exact Or.inr (by rw [w2]; exact inb_nI' w1 (by omega))
  have un : (∀ h, h < NH → V 1 p = nI h → 1 < V 12 h) → (wk2 N NH M V Q).2 p = -1 := fun k =>
    (c2 p (fun h hh e => by rw [o12]; intro z; have := k h hh (by rw [← o1]; exact e); rw [z] at this; exact absurd this (by decide))).trans (c1 p (fun h hh e z => by have := k h hh e; rw [z] at this; exact absurd this (by decide)))
  rcases (hW.1 p hp).2.1 with c | c
  · exact Or.inl (un (fun h hh e => by rw [c] at e; exact absurd (show (0 : Int32) ≤ -1 by rw [e]; exact nI_pos' (by omega)) (by decide)))
  · obtain ⟨h, hh, eh⟩ := inb_ex c
    by_cases d : 1 < V 12 h
    · exact Or.inl (un (fun h' hh' e' => by
        rw [eh] at e'
        rw [← (nI_eq (by omega) (by omega)).mp e']; exact d))
    · exact mk h hh eh d
theorem wkH_rg (hW : GW N NS NH M P V) (hQ : RQK Q) {k : Nat} (hk : k < N) : 0 ≤ (wkH N NH M V Q k).toInt ∧ (wkH N NH M V Q k).toInt ≤ (M : Int) := by
  obtain ⟨hWV, hMW, ⟨hN, hNS, hNH, hM6, hP6⟩, hPW, hKW, hVW, hHM⟩ := hW
  exact hrV_rg hM6 (hWV.1 k hk).2.2.1.1 (hHM k hk)
theorem wkU_WV (hW : GW N NS NH M P V) (hQ : RQK Q) : WV (wkU N NH M V Q) N NS NH := by
  have hM6 := hW.2.2.1.2.2.2.1
  exact hvV_WV hW.1 (fun k hk => by
    obtain ⟨a, b⟩ := wkH_rg hW hQ hk
    exact ⟨a, by omega⟩)
theorem wk3_ok (hW : GW N NS NH M P V) (hQ : RQK Q) : rwN 80000 N (hdV (wkU N NH M V Q) N (wk2 N NH M V Q).2) ∧ (wk3 N NH M V Q).1 < 2 ^ 31 ∧ (wk3 N NH M V Q).2.1 ≤ 1000000000 ∧ rwN 80000 N (wk3 N NH M V Q).2.2 ∧ rwN 80000 N (wk4 N NH M P V Q) := by
  have hW1 := wkU_WV hW hQ
  obtain ⟨hWV, hMW, ⟨hN, hNS, hNH, hM6, hP6⟩, hPW, hKW, hVW, hHM⟩ := hW
  have o1 : ∀ p, wkU N NH M V Q 1 p = V 1 p := fun p => by rw [wkU_o (by decide)]
  have o12 : ∀ p, wkU N NH M V Q 12 p = V 12 p := fun p => by rw [wkU_o (by decide)]
  have h0 : rwN 80000 N (hdV (wkU N NH M V Q) N (wk2 N NH M V Q).2) := fun p hp => hd_nI hW1 hp hN hNS hNH (fun h hh e k => wk2_D hKW.2.2 hWV hNH p h hp hh (by rw [← o1]; exact e) (by rw [← o12]; exact k))
  have hl : ixn (V 22 1) ≤ 1000000000 := by
    obtain ⟨a, a1, a2⟩ := rg_ex (b := 1000000000) hKW.2.1
    rw [a2, ixn_nI (by omega)]; exact a1
  obtain ⟨l1, l2, l3⟩ := laS_ok (V := wkU N NH M V Q) (N := N) (b := 80000) (q := ((wk2 N NH M V Q).1, ixn (V 22 1), hdV (wkU N NH M V Q) N (wk2 N NH M V Q).2)) (wk2_lt hKW.2.2) hl h0 N
  exact ⟨h0, l1, l2, l3, hpS_ok (Nat.le_refl _) hN l3 (fun k hk => by rw [wkU_o (by decide), wkU_o (by decide)]; exact ⟨(hPW k hk).1, (hPW k hk).2.1⟩) P (Nat.le_refl P)⟩
theorem wkW_18 : wkW N NH M P V Q 18 = wk4 N NH M P V Q := rfl
theorem wkW_19 : wkW N NH M P V Q 19 = pdV (wkU N NH M V Q) (wk4 N NH M P V Q) (V 19) := rfl
theorem wkW_20 : wkW N NH M P V Q 20 = (wk2 N NH M V Q).2 := rfl
theorem wkW_220 : wkW N NH M P V Q 22 0 = V 22 0 + 1 := rfl
theorem wkW_221 : wkW N NH M P V Q 22 1 = nI (wk3 N NH M V Q).2.1 := rfl
theorem wkW_222 : wkW N NH M P V Q 22 2 = nI (wk3 N NH M V Q).1 := rfl
theorem wkW_o {f : Nat} (h : f ≠ 18 ∧ f ≠ 19 ∧ f ≠ 20 ∧ f ≠ 22) : wkW N NH M P V Q f = wkU N NH M V Q f := by
  funext k
  unfold wkW
  rw [if_neg h.1, if_neg h.2.1, if_neg h.2.2.1, if_neg h.2.2.2]
theorem gw_week (hW : GW N NS NH M P V) (hQ : RQK Q) (h9 : (V 22 0).toInt + 1 ≤ 9999) : GW N NS NH M P (wkW N NH M P V Q) := by
  have hW1 := wkU_WV hW hQ
  obtain ⟨r0, r1, r2, r3, r4⟩ := wk3_ok hW hQ
  have hH := fun {k : Nat} (hk : k < N) => wkH_rg hW hQ hk
  obtain ⟨hWV, hMW, ⟨hN, hNS, hNH, hM6, hP6⟩, hPW, hKW, hVW, hHM⟩ := hW
  have e : ∀ f, f < 18 → wkW N NH M P V Q f = wkU N NH M V Q f := fun f hf => wkW_o (by omega)
  have e21 : wkW N NH M P V Q 21 = V 21 := (wkW_o (by decide)).trans (wkU_o (by decide))
  refine ⟨?_, fun k hk => ?_, ⟨hN, hNS, hNH, hM6, hP6⟩, fun k hk => ?_, ⟨?_, ?_, ?_⟩, fun k hk => ?_, fun k hk => ?_⟩
  · refine ⟨fun k hk => ?_, fun k hk => ?_, fun k hk => ?_⟩
    · rw [e 0 (by decide), e 1 (by decide), e 2 (by decide), e 3 (by decide)]; exact hW1.1 k hk
    · rw [e 4 (by decide), e 5 (by decide), e 6 (by decide), e 7 (by decide), e 8 (by decide)]; exact hW1.2.1 k hk
    · rw [e 9 (by decide), e 10 (by decide), e 11 (by decide), e 12 (by decide)]; exact hW1.2.2 k hk
  · rw [e 3 (by decide), wkU_o (by decide)]; exact hMW k hk
  · rw [e 13 (by decide), e 14 (by decide), e 3 (by decide), wkU_o (by decide), wkU_o (by decide), wkU_o (by decide)]; exact hPW k hk
  · rw [wkW_220]
    obtain ⟨a, a1, a2⟩ := rg_ex (b := 9999) hKW.1
    rw [a2, nI_toInt (by omega)] at h9
    rw [a2, nI_1]
    exact rg_nI (b := 9999) (by omega) (by decide)
  · rw [wkW_221]; exact rg_nI (b := 1000000000) r2 (by decide)
  · rw [wkW_222, nI_toInt r1]; omega
  · rw [wkW_18, wkW_19, wkW_20, e21]
    obtain ⟨a, a1, a2⟩ := r4 k hk
    refine ⟨by rw [a2]; exact rg_nI (b := 80000) a1 (by decide), ?_, wk2_E hKW.2.2 hWV hNH hN k hk, (hVW k hk).2.2.2⟩
    unfold pdV
    exact rg_nI (b := 1000000000) (Nat.min_le_left _ _) (by decide)
  · rw [e 2 (by decide)]
    exact (hH hk).2
end
