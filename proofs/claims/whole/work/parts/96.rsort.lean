/-! the reference reads: sorts, hats, persons, who is in, pairs -/
def R0 (p k : Nat) : Prop := p = 112 ∧ (k = 2 ∨ k = 4 ∨ k = 5 ∨ k = 6 ∨ k = 42)
/-- what the reference's statements may change -/
def RB (E : Nat → Nat → Prop) : Prop := ∀ p k, E p k → R0 p k ∨ (147 ≤ p ∧ p ≤ 154) ∨ (p = 112 ∧ (k = 50 ∨ k = 54))
section
variable {L : Nat} {xs : Nat → Int32} {σ : Mm} {r : Option Value × Mm} {I J K : Nat → Nat → Int32} {Lm : Nat → Nat → Int64} {Rm : Nat → Nat → Nat} {n s so t N NS NH m M P nw S U : Nat} {V W : Vw} {sp s2 ai p : Nat} {x y z h v : Int32} {k c w lo hi kd pl : Nat} {T : Nat → Nat} {q : Rz} {f : Nat → Int32} {E E2 : Nat → Nat → Prop} {Lk : Nat → Nat → Int64} {G : Nat → Nat → Int32} {NS2 NH2 N2 : Nat} {V2 : Vw}

theorem fxR (h : RFr I J) (hE : ∀ p k, R0 p k → E p k) : FX I J E := fun p k hn => by
  by_cases e : p = 112
  · subst e
    exact h.2 k (fun z => hn (hE _ _ ⟨rfl, Or.inl z⟩)) (fun z => hn (hE _ _ ⟨rfl, Or.inr (Or.inl z)⟩)) (fun z => hn (hE _ _ ⟨rfl, Or.inr (Or.inr (Or.inl z))⟩)) (fun z => hn (hE _ _ ⟨rfl, Or.inr (Or.inr (Or.inr (Or.inl z)))⟩)) (fun z => hn (hE _ _ ⟨rfl, Or.inr (Or.inr (Or.inr (Or.inr z)))⟩))
  · rw [h.1 p e]
theorem FX.rowB {p : Nat} (h : FX I J E) (hB : RB E) (hp : p < 112 ∨ (112 < p ∧ p < 147) ∨ 154 < p) : J p = I p := h.row (fun k z => by
  rcases hB p k z with z | z | z
  · have := z.1; omega
  · omega
  · omega)
theorem FX.tbR (h : FX I J E) (hB : RB E) (hT : TB I T) : TB J T := fun i hi => by
  rw [h.rowB hB (p := 1) (by omega), h.rowB hB (p := 113) (by omega)]; exact hT i hi
theorem FX.ktR (h : FX I J E) (hB : RB E) (hK : KT I) : KT J := ktFr hK (h.rowB hB (p := 107) (by omega)) (fun p h1 h2 => h.rowB hB (by omega))
theorem rsUp {p k : Nat} (h : RS I T n c q) (hp : p ≠ 112 ∨ (k ≠ 2 ∧ k ≠ 3 ∧ k ≠ 4 ∧ k ≠ 5 ∧ k ≠ 6)) : RS (up2 I p k v) T n c q := by
  have u : ∀ j, j = 2 ∨ j = 3 ∨ j = 4 ∨ j = 5 ∨ j = 6 → up2 I p k v 112 j = I 112 j := fun j hj => by
    rcases hp with hp | hp
    · exact up2_p (Ne.symm hp)
    · have hne : j ≠ k := by omega
      exact if_neg (fun z => hne z.2)
  obtain ⟨r1, r2, r3, r4⟩ := h
  exact ⟨by rw [u 5 (by omega)]; exact r1, r2, fun z => by
    obtain ⟨⟨a, b1, b2, b3, b4⟩, b5, b6, b7⟩ := r3 z
    exact ⟨⟨a, by rw [u 2 (by omega)]; exact b1, b2, b3, by rw [u 4 (by omega)]; exact b4⟩, by rw [u 3 (by omega)]; exact b5, by rw [u 4 (by omega)]; exact b6, b7⟩, by rw [u 6 (by omega)]; exact r4⟩
theorem nmNew (hkd : kd < 3) (hN : NS ≤ 6 ∧ NH ≤ 4 ∧ N ≤ 12) (hroom : cnK NS NH N kd < 12) (hNm : NmM I Lm V NS NH N) (h8 : ∀ j, G 148 j = if j = kd then nI (cnK NS NH N kd + 1) else I 148 j) (hL : ∀ j, j ≠ 12 * kd + cnK NS NH N kd → Lk 147 j = Lm 147 j) (hn : nmR x (Lk 147 (12 * kd + cnK NS NH N kd))) (hc : ∀ e, e < 3 → cnK NS2 NH2 N2 e = if e = kd then cnK NS NH N kd + 1 else cnK NS NH N e) (hV : ∀ e k, e < 3 → V2 (15 + e) k = if e = kd ∧ k = cnK NS NH N kd then x else V (15 + e) k) : NmM G Lk V2 NS2 NH2 N2 := fun e he => by
  have hl := cnK_le (kd := e) hN
  rw [hc e he, h8 e]
  by_cases d : e = kd
  · subst d
    rw [if_pos rfl, if_pos rfl]
    refine ⟨rfl, fun k hk => ?_⟩
    rw [hV e k he]
    by_cases z : k = cnK NS NH N e
    · rw [if_pos ⟨rfl, z⟩, z]; exact hn
    · rw [if_neg (fun y => z y.2), hL _ (by omega)]; exact (hNm e he).2 k (by omega)
  · rw [if_neg d, if_neg d]
    refine ⟨(hNm e he).1, fun k hk => ?_⟩
    rw [hV e k he, if_neg (fun y => d y.1), hL _ (by omega)]
    exact (hNm e he).2 k hk
theorem r_numAfter (hw : w < 33) (hlo : lo < 2 ^ 31) (hhi : hi < 2 ^ 31) (hTB : TB I T) (hKT : KT I) (hX : TX T n c) (h : RS I T n c q) : ∃ v A B, (∀ r, Em L xs 176 [.ref 112, .ref (114 + w)] (179, I, Lm, RG nw sp s2 ai) r ↔ r = (none, 179, A, Lm, RG nw sp s2 ai)) ∧ (∀ r, Em L xs 179 [.ref 112, .int (nI lo), .int (nI hi)] (179, A, Lm, RG nw sp s2 ai) r ↔ r = (some (.int v), 179, B, Lm, RG nw sp s2 ai)) ∧ RS B T n c (nbA T n c w lo hi q) ∧ RFr I B ∧ ((nbA T n c w lo hi q).1 = 0 → v = nbX T n c w q) := by
  obtain ⟨A, a1, a2, a3⟩ := r_asks (Lm := Lm) (L := L) (xs := xs) (nw := nw) (sp := sp) (s2 := s2) (ai := ai) hw hTB hKT hX h
  obtain ⟨v, B, b1, b2, b3, b4⟩ := r_number (Lm := Lm) (L := L) (xs := xs) (nw := nw) (sp := sp) (s2 := s2) (ai := ai) hlo hhi (a3.tb hTB) hX a2
  exact ⟨v, A, B, a1, b1, b2, rfTr a3 b3, b4⟩
theorem r_room {has room : Nat} (h1 : has < room) (h2 : room < 2 ^ 31) (h : RS I T n c q) (hb : q.1 = 0) (r : Option Value × Mm) : Em L xs 186 [.ref 112, .int (nI has), .int (nI room), .int (nI pl)] (179, I, Lm, RG nw sp s2 ai) r ↔ r = (some (.int 0), 179, I, Lm, RG nw sp s2 ai) := by
  obtain ⟨G, a1, -, -, a4⟩ := r_isFull (has := has) (room := room) (pl := pl) (Lm := Lm) (L := L) (xs := xs) (nw := nw) (sp := sp) (s2 := s2) (ai := ai) (by omega) h2 h
  rw [a1 r, a4 hb (by omega), show fuz has room pl q = q from if_neg (fun z => by have := z.2; omega), if_pos hb]
theorem r_noroom {has : Nat} (h2 : has < 2 ^ 31) (h : RS I T n c q) (hb : q.1 = 0) : ∃ G, (∀ r, Em L xs 186 [.ref 112, .int (nI has), .int (nI has), .int (nI pl)] (179, I, Lm, RG nw sp s2 ai) r ↔ r = (some (.int 1), 179, G, Lm, RG nw sp s2 ai)) ∧ RS G T n c (5, pl, 0) ∧ RFr I G := by
  obtain ⟨G, a1, a2, a3, -⟩ := r_isFull (has := has) (room := has) (pl := pl) (Lm := Lm) (L := L) (xs := xs) (nw := nw) (sp := sp) (s2 := s2) (ai := ai) h2 h2 h
  rw [show fuz has has pl q = (5, pl, 0) from if_pos ⟨hb, rfl⟩] at a1 a2
  exact ⟨G, a1, a2, a3⟩
theorem nw_fr {kd m : Nat} {g Q : Prop} {x : Int32} (hkd : kd < 3) (hm : m < 12) (h1 : g → (∀ j, G 148 j = if j = kd then x else I 148 j) ∧ (∀ j, j ≠ 12 * kd + m → Lk 147 j = Lm 147 j) ∧ Q) (h2 : ¬ g → G 148 = I 148 ∧ Lk = Lm) (h3 : ∀ p, p ≠ 147 → Lk p = Lm p) : (∀ k, 3 ≤ k → G 148 k = I 148 k) ∧ (∀ p k, p ≠ 147 ∨ 36 ≤ k → Lk p k = Lm p k) := by
  refine ⟨fun k hk => ?_, fun p k hp => ?_⟩
  · by_cases z : g
    · rw [(h1 z).1 k, if_neg (by omega)]
    · rw [(h2 z).1]
  · by_cases e : p = 147
    · subst e
      have hk : 36 ≤ k := hp.elim (fun z => (z rfl).elim) id
      by_cases z : g
      · exact (h1 z).2.1 k (by omega)
      · rw [(h2 z).2]
    · rw [h3 p e]
/-- what a sort changes -/
def RSo (NS p k : Nat) : Prop := R0 p k ∨ (p = 148 ∧ k < 3) ∨ (p = 149 ∧ 5 * NS ≤ k ∧ k < 5 * NS + 5)
theorem rSoB : RB (RSo NS) := fun p k h => by
  rcases h with h | h | h
  · exact Or.inl h
  · exact Or.inr (by omega)
  · exact Or.inr (by omega)
theorem r_sortT (hN : NS < 6 ∧ NH ≤ 4 ∧ N ≤ 12) (hR : RdM I Lm V NS NH N M P) (hTB : TB I T) (hKT : KT I) (hX : TX T n c) (h : RS I T n c q) (hb : q.1 = 0) : ∃ G Lk, (∀ r, Em L xs 187 [.ref 112, .int (nI pl)] (179, I, Lm, RG nw sp s2 ai) r ↔ r = (none, 179, G, Lk, RG nw sp s2 ai)) ∧ RS G T n c (soQ5 T n c V NS NH N q) ∧ FX I G (RSo NS) ∧ (∀ p k, p ≠ 147 ∨ 36 ≤ k → Lk p k = Lm p k) ∧ ((soQ5 T n c V NS NH N q).1 = 0 → RdM G Lk (soV T n c V NS NH N q) (NS + 1) NH N M P) := by
  have hEB : RB (RSo NS) := rSoB
  have e0 : ∀ p k, R0 p k → RSo NS p k := fun p k z => Or.inl z
  have hN' : NS ≤ 6 ∧ NH ≤ 4 ∧ N ≤ 12 := ⟨by omega, hN.2.1, hN.2.2⟩
  have j0 : inb (0 : Int32) 6 = True := eq_true (by decide)
  have k0 : ixn (0 : Int32) = 0 := rfl
  have c0 : I 148 0 = nI NS := (hR.1 0 (by decide)).1
  have room := fun r => r_room (has := NS) (room := 6) (pl := pl) (Lm := Lm) (L := L) (xs := xs) (nw := nw) (sp := sp) (s2 := s2) (ai := ai) hN.1 (by decide) h hb r
  have room : ∀ r, Em L xs 186 [.ref 112, .int (nI NS), .int 6, .int (nI pl)] (179, I, Lm, RG nw sp s2 ai) r ↔ r = (some (.int 0), 179, I, Lm, RG nw sp s2 ai) := fun r => room r
  obtain ⟨G0, Lk, p0, q0, ⟨f01, f02, f03⟩, u0, u0b⟩ := r_newName (kd := 0) (Lm := Lm) (L := L) (xs := xs) (nw := nw) (sp := sp) (s2 := s2) (ai := ai) (by decide) hN' (show NS < 12 by omega) hR.1 hTB hKT hX h
  have p0 : ∀ r, Em L xs 184 [.ref 112, .int 0] (179, I, Lm, RG nw sp s2 ai) r ↔ r = (some (.int (nI NS)), 179, G0, Lk, RG nw sp s2 ai) := fun r => p0 r
  have q0 : RS G0 T n c (soQ0 T n c V NS NH N q) := q0
  obtain ⟨f48, fL⟩ := nw_fr (kd := 0) (m := NS) (by decide) (by omega) u0 u0b f03
  have F0 : FX I G0 (RSo NS) := fun p k hn => by
    by_cases e : p = 112
    · subst e
      exact f02 k (fun z => hn (Or.inl ⟨rfl, by omega⟩)) (fun z => hn (Or.inl ⟨rfl, by omega⟩)) (fun z => hn (Or.inl ⟨rfl, by omega⟩)) (fun z => hn (Or.inl ⟨rfl, by omega⟩)) (fun z => hn (Or.inl ⟨rfl, by omega⟩))
    · by_cases e2 : p = 148
      · subst e2
        exact f48 k (Nat.le_of_not_lt (fun z => hn (Or.inr (Or.inl ⟨rfl, z⟩))))
      · rw [f01 p e e2]
  have e5 : (5 : Int32) * nI NS = nI (5 * NS) := pk_mul 5 NS
  obtain ⟨v1, A1, B1, a1, p1, q1, f1, u1⟩ := r_numAfter (w := 2) (lo := 0) (hi := 99) (Lm := Lk) (L := L) (xs := xs) (nw := nw) (sp := sp) (s2 := s2) (ai := ai) (by decide) (by decide) (by decide) (F0.tbR hEB hTB) (F0.ktR hEB hKT) hX (q0)
  have q1 : RS B1 T n c (soQ1 T n c V NS NH N q) := q1
  have u1 : (soQ1 T n c V NS NH N q).1 = 0 → v1 = nbX T n c 2 (soQ0 T n c V NS NH N q) := u1
  have a1 : ∀ r, Em L xs 176 [.ref 112, .ref 116] (179, G0, Lk, RG nw sp s2 ai) r ↔ r = (none, 179, A1, Lk, RG nw sp s2 ai) := fun r => a1 r
  have p1 : ∀ r, Em L xs 179 [.ref 112, .int 0, .int 99] (179, A1, Lk, RG nw sp s2 ai) r ↔ r = (some (.int v1), 179, B1, Lk, RG nw sp s2 ai) := fun r => p1 r
  have F1 : FX I B1 (RSo NS) := fxTr F0 (fxR f1 e0)
  have F1u : FX I (up2 B1 149 (5 * NS) v1) (RSo NS) := fxTr F1 (fxUp (Or.inr (Or.inr ⟨rfl, by omega, by omega⟩)))
  have i1 : inb (nI (5 * NS)) 60 = True := inb_i (by omega) (by decide)
  have x1 : ixn (nI (5 * NS)) = 5 * NS := ixn_nI (by omega)
  obtain ⟨v2, A2, B2, a2, p2, q2, f2, u2⟩ := r_numAfter (w := 3) (lo := 0) (hi := 99) (Lm := Lk) (L := L) (xs := xs) (nw := nw) (sp := sp) (s2 := s2) (ai := ai) (by decide) (by decide) (by decide) (F1u.tbR hEB hTB) (F1u.ktR hEB hKT) hX (rsUp (p := 149) (k := 5 * NS) (v := v1) q1 (Or.inl (by decide)))
  have q2 : RS B2 T n c (soQ2 T n c V NS NH N q) := q2
  have u2 : (soQ2 T n c V NS NH N q).1 = 0 → v2 = nbX T n c 3 (soQ1 T n c V NS NH N q) := u2
  have a2 : ∀ r, Em L xs 176 [.ref 112, .ref 117] (179, up2 B1 149 (5 * NS) v1, Lk, RG nw sp s2 ai) r ↔ r = (none, 179, A2, Lk, RG nw sp s2 ai) := fun r => a2 r
  have p2 : ∀ r, Em L xs 179 [.ref 112, .int 0, .int 99] (179, A2, Lk, RG nw sp s2 ai) r ↔ r = (some (.int v2), 179, B2, Lk, RG nw sp s2 ai) := fun r => p2 r
  have F2 : FX I B2 (RSo NS) := fxTr F1u (fxR f2 e0)
  have F2u : FX I (up2 B2 149 (5 * NS + 1) v2) (RSo NS) := fxTr F2 (fxUp (Or.inr (Or.inr ⟨rfl, by omega, by omega⟩)))
  have i2 : inb (nI (5 * NS + 1)) 60 = True := inb_i (by omega) (by decide)
  have x2 : ixn (nI (5 * NS + 1)) = 5 * NS + 1 := ixn_nI (by omega)
  have m2 : nI (5 * NS) + 1 = nI (5 * NS + 1) := nI_add (a := 5 * NS) (b := 1)
  obtain ⟨v3, A3, B3, a3, p3, q3, f3, u3⟩ := r_numAfter (w := 4) (lo := 0) (hi := 100) (Lm := Lk) (L := L) (xs := xs) (nw := nw) (sp := sp) (s2 := s2) (ai := ai) (by decide) (by decide) (by decide) (F2u.tbR hEB hTB) (F2u.ktR hEB hKT) hX (rsUp (p := 149) (k := 5 * NS + 1) (v := v2) q2 (Or.inl (by decide)))
  have q3 : RS B3 T n c (soQ3 T n c V NS NH N q) := q3
  have u3 : (soQ3 T n c V NS NH N q).1 = 0 → v3 = nbX T n c 4 (soQ2 T n c V NS NH N q) := u3
  have a3 : ∀ r, Em L xs 176 [.ref 112, .ref 118] (179, up2 B2 149 (5 * NS + 1) v2, Lk, RG nw sp s2 ai) r ↔ r = (none, 179, A3, Lk, RG nw sp s2 ai) := fun r => a3 r
  have p3 : ∀ r, Em L xs 179 [.ref 112, .int 0, .int 100] (179, A3, Lk, RG nw sp s2 ai) r ↔ r = (some (.int v3), 179, B3, Lk, RG nw sp s2 ai) := fun r => p3 r
  have F3 : FX I B3 (RSo NS) := fxTr F2u (fxR f3 e0)
  have F3u : FX I (up2 B3 149 (5 * NS + 2) v3) (RSo NS) := fxTr F3 (fxUp (Or.inr (Or.inr ⟨rfl, by omega, by omega⟩)))
  have i3 : inb (nI (5 * NS + 2)) 60 = True := inb_i (by omega) (by decide)
  have x3 : ixn (nI (5 * NS + 2)) = 5 * NS + 2 := ixn_nI (by omega)
  have m3 : nI (5 * NS) + 2 = nI (5 * NS + 2) := nI_add (a := 5 * NS) (b := 2)
  obtain ⟨v4, A4, B4, a4, p4, q4, f4, u4⟩ := r_numAfter (w := 5) (lo := 0) (hi := 999) (Lm := Lk) (L := L) (xs := xs) (nw := nw) (sp := sp) (s2 := s2) (ai := ai) (by decide) (by decide) (by decide) (F3u.tbR hEB hTB) (F3u.ktR hEB hKT) hX (rsUp (p := 149) (k := 5 * NS + 2) (v := v3) q3 (Or.inl (by decide)))
  have q4 : RS B4 T n c (soQ4 T n c V NS NH N q) := q4
  have u4 : (soQ4 T n c V NS NH N q).1 = 0 → v4 = nbX T n c 5 (soQ3 T n c V NS NH N q) := u4
  have a4 : ∀ r, Em L xs 176 [.ref 112, .ref 119] (179, up2 B3 149 (5 * NS + 2) v3, Lk, RG nw sp s2 ai) r ↔ r = (none, 179, A4, Lk, RG nw sp s2 ai) := fun r => a4 r
  have p4 : ∀ r, Em L xs 179 [.ref 112, .int 0, .int 999] (179, A4, Lk, RG nw sp s2 ai) r ↔ r = (some (.int v4), 179, B4, Lk, RG nw sp s2 ai) := fun r => p4 r
  have F4 : FX I B4 (RSo NS) := fxTr F3u (fxR f4 e0)
  have F4u : FX I (up2 B4 149 (5 * NS + 3) v4) (RSo NS) := fxTr F4 (fxUp (Or.inr (Or.inr ⟨rfl, by omega, by omega⟩)))
  have i4 : inb (nI (5 * NS + 3)) 60 = True := inb_i (by omega) (by decide)
  have x4 : ixn (nI (5 * NS + 3)) = 5 * NS + 3 := ixn_nI (by omega)
  have m4 : nI (5 * NS) + 3 = nI (5 * NS + 3) := nI_add (a := 5 * NS) (b := 3)
  obtain ⟨v5, A5, B5, a5, p5, q5, f5, u5⟩ := r_numAfter (w := 6) (lo := 1) (hi := 9) (Lm := Lk) (L := L) (xs := xs) (nw := nw) (sp := sp) (s2 := s2) (ai := ai) (by decide) (by decide) (by decide) (F4u.tbR hEB hTB) (F4u.ktR hEB hKT) hX (rsUp (p := 149) (k := 5 * NS + 3) (v := v4) q4 (Or.inl (by decide)))
  have q5 : RS B5 T n c (soQ5 T n c V NS NH N q) := q5
  have u5 : (soQ5 T n c V NS NH N q).1 = 0 → v5 = nbX T n c 6 (soQ4 T n c V NS NH N q) := u5
  have a5 : ∀ r, Em L xs 176 [.ref 112, .ref 120] (179, up2 B4 149 (5 * NS + 3) v4, Lk, RG nw sp s2 ai) r ↔ r = (none, 179, A5, Lk, RG nw sp s2 ai) := fun r => a5 r
  have p5 : ∀ r, Em L xs 179 [.ref 112, .int 1, .int 9] (179, A5, Lk, RG nw sp s2 ai) r ↔ r = (some (.int v5), 179, B5, Lk, RG nw sp s2 ai) := fun r => p5 r
  have F5 : FX I B5 (RSo NS) := fxTr F4u (fxR f5 e0)
  have F5u : FX I (up2 B5 149 (5 * NS + 4) v5) (RSo NS) := fxTr F5 (fxUp (Or.inr (Or.inr ⟨rfl, by omega, by omega⟩)))
  have i5 : inb (nI (5 * NS + 4)) 60 = True := inb_i (by omega) (by decide)
  have x5 : ixn (nI (5 * NS + 4)) = 5 * NS + 4 := ixn_nI (by omega)
  have m5 : nI (5 * NS) + 4 = nI (5 * NS + 4) := nI_add (a := 5 * NS) (b := 4)
  refine ⟨up2 B5 149 (5 * NS + 4) v5, Lk, fun r => ?_, rsUp q5 (Or.inl (by decide)), F5u, fL, fun hg => ?_⟩
  · rw [em_187]
    simp only [x187_0, x187_1, x187_2, x187_5, x187_6, x187_7, x187_9, x187_10, x187_13, x187_16, x187_17, x187_18, x187_19, x187_20, x187_23, x187_24, x187_25, x187_26, x187_27, x187_30, x187_33, x187_34, x187_37, x187_38, x187_39, x187_40, x187_42, x187_45, x187_46, x187_47, x187_48, x187_51, x187_54, x187_55, x187_58, x187_59, x187_60, x187_61, x187_62, x187_63, x187_65, x187_68, x187_69, x187_70, x187_71, x187_74, x187_77, x187_78, x187_81, x187_82, x187_83, x187_84, x187_85, x187_86, x187_88, x187_91, x187_92, x187_93, x187_94, x187_97, x187_100, x187_101, x187_104, x187_105, x187_106, x187_107, x187_108, x187_109, x187_112, x187_115, x187_116, x187_117, x187_118, x187_121, x187_124, x187_125, x187_128, x187_129, x187_130, x187_131, x187_132, x187_133, x187_135, x187_138, x187_139, sh_112, sh_113, sh_114, sh_115, sh_116, sh_117, sh_118, sh_119, sh_120, sh_121, sh_122, sh_123, sh_124, sh_125, sh_126, sh_127, sh_128, sh_129, sh_130, sh_131, sh_132, sh_133, sh_134, sh_135, sh_136, sh_137, sh_138, sh_139, sh_140, sh_141, sh_142, sh_143, sh_144, sh_145, sh_146, sh_147, sh_148, sh_149, sh_150, sh_151, sh_152, sh_153, sh_154, sh_155, sh_156, sh_157, sh_158, sh_159, sh_160, sh_161, sh_162, sh_163, sh_164, sh_165, sh_166, sh_167, sh_168, sh_169, sh_170, sh_171, sh_172, sh_173, sh_174, sh_175, sh_176, sh_177, sh_178, lq_112, lq_113, lq_114, lq_115, lq_116, lq_117, lq_118, lq_119, lq_120, lq_121, lq_122, lq_123, lq_124, lq_125, lq_126, lq_127, lq_128, lq_129, lq_130, lq_131, lq_132, lq_133, lq_134, lq_135, lq_136, lq_137, lq_138, lq_139, lq_140, lq_141, lq_142, lq_143, lq_144, lq_145, lq_146, lq_147, lq_148, lq_149, lq_150, lq_151, lq_152, lq_153, lq_154, lq_155, lq_156, lq_157, lq_158, lq_159, lq_160, lq_161, lq_162, lq_163, lq_164, lq_165, lq_166, lq_167, lq_168, lq_169, lq_170, lq_171, lq_172, lq_173, lq_174, lq_175, lq_176, lq_177, lq_178, rg_112_0, rg_112_9, rg_112_10, rg_112_11, rg_112_12, rg_112_13, rg_112_14, rg_112_15, rg_112_16, rg_112_17, rg_112_18, rg_112_19, rg_112_20, rg_112_21, rg_112_22, rg_112_23, rg_112_24, rg_112_25, rg_112_26, rg_112_27, rg_112_28, rg_112_29, rg_112_30, rg_112_31, rg_112_32, rg_112_33, rg_112_34, rg_112_35, rg_112_36, rg_112_37, rg_112_38, rg_112_39, rg_112_40, rg_112_41, rg_112_43, rg_112_44, rg_112_45, rg_112_46, rg_112_47, rg_112_48, rg_112_49, rg_112_51, rg_112_55, rg_112_57, rg_112_60, rg_112_61, rg_112_62, rg_112_63, rg_112_64, rg_112_66, rg_112_67, rg_112_68, rg_112_69, rg_112_70, rg_112_71, rg_112_72, rg_112_73, rg_112_74, rg_112_80, rg_112_83, rg_112_84, rg_112_85, rg_112_86, rg_112_90, rg_112_91, rg_112_92, ex5, Option.toList_some, Option.toList_none, List.cons_append, List.nil_append, true_and, and_true, nI_1, p_at, p_set, p_isIn, p_max, p_min, p_abs, j0, k0, c0, room, if_true, p0, e5, a1, p1, i1, x1, a2, p2, m2, i2, x2, a3, p3, m3, i3, x3, a4, p4, m4, i4, x4, a5, p5, m5, i5, x5]
  · have h5 : (soQ4 T n c V NS NH N q).1 = 0 := nbA_0 hg
    have h4 : (soQ3 T n c V NS NH N q).1 = 0 := nbA_0 h5
    have h3 : (soQ2 T n c V NS NH N q).1 = 0 := nbA_0 h4
    have h2 : (soQ1 T n c V NS NH N q).1 = 0 := nbA_0 h3
    have h1 : (soQ0 T n c V NS NH N q).1 = 0 := nbA_0 h2
    obtain ⟨n8, n7, nn⟩ := u0 h1
    have w1 := u1 h2; have w2 := u2 h3; have w3 := u3 h4; have w4 := u4 h5; have w5 := u5 hg
    obtain ⟨-, ⟨d1, d2⟩, d3, d4, d5, d6⟩ := id hR
    have b8 : ∀ j, up2 B5 149 (5 * NS + 4) v5 148 j = G0 148 j := fun j => by rw [up2_p (by decide), f5.1 148 (by decide), up2_p (by decide), f4.1 148 (by decide), up2_p (by decide), f3.1 148 (by decide), up2_p (by decide), f2.1 148 (by decide), up2_p (by decide), f1.1 148 (by decide)]
    have rr : ∀ p, p = 150 ∨ p = 151 ∨ p = 152 ∨ p = 153 ∨ p = 154 → ∀ k, up2 B5 149 (5 * NS + 4) v5 p k = I p k := fun p hp k => F5u p k (fun z => by unfold RSo R0 at z; omega)
    have sv : ∀ f k, f ≠ 15 → f ≠ 4 → f ≠ 5 → f ≠ 6 → f ≠ 7 → f ≠ 8 → soV T n c V NS NH N q f k = V f k := fun f k a1 a2 a3 a4 a5 a6 => by unfold soV; rw [up2_p a6, up2_p a5, up2_p a4, up2_p a3, up2_p a2, up2_p a1]
    have ov : ∀ f k, k ≠ NS → soV T n c V NS NH N q f k = V f k := fun f k hk => by unfold soV up2; rw [if_neg (fun z => hk z.2), if_neg (fun z => hk z.2), if_neg (fun z => hk z.2), if_neg (fun z => hk z.2), if_neg (fun z => hk z.2), if_neg (fun z => hk z.2)]
    refine ⟨nmNew (kd := 0) (by decide) hN' (show NS < 12 by omega) hR.1 (fun j => by rw [b8]; exact n8 j) n7 nn (fun e he => ?_) (fun e k he => ?_), ⟨(F5u 112 54 (fun z => by unfold RSo R0 at z; omega)).trans d1, (F5u 112 50 (fun z => by unfold RSo R0 at z; omega)).trans d2⟩, fun k hk => ?_, fun k hk w hw => ?_, fun k hk w hw => ?_, fun k hk => ?_⟩
    · match e, he with
      | 0, _ => exact (if_pos rfl).symm
      | 1, _ => exact (if_neg (by decide)).symm
      | 2, _ => exact (if_neg (by decide)).symm
    · by_cases z : e = 0 ∧ k = cnK NS NH N 0
      · rw [if_pos z, z.1]
        have z2 : k = NS := z.2
        rw [z2]
        show soV T n c V NS NH N q 15 NS = _
        unfold soV
        rw [up2_p (by decide), up2_p (by decide), up2_p (by decide), up2_p (by decide), up2_p (by decide), up2_eq]
      · rw [if_neg z]
        by_cases y : k = NS
        · have y1 : e ≠ 0 := fun y2 => z ⟨y2, y⟩
          exact sv _ _ (by omega) (by omega) (by omega) (by omega) (by omega) (by omega)
        · exact ov _ _ y
    · rw [rr 151 (by omega), rr 152 (by omega), rr 153 (by omega), sv 0 k (by decide) (by decide) (by decide) (by decide) (by decide) (by decide), sv 1 k (by decide) (by decide) (by decide) (by decide) (by decide) (by decide), sv 3 k (by decide) (by decide) (by decide) (by decide) (by decide) (by decide)]
      exact d3 k hk
    · by_cases e : k = NS
      · subst e
        have y1 : up2 B5 149 (5 * k + 4) v5 149 (5 * k) = v1 := by rw [up2_k (by omega), f5.1 149 (by decide), up2_k (by omega), f4.1 149 (by decide), up2_k (by omega), f3.1 149 (by decide), up2_k (by omega), f2.1 149 (by decide), up2_eq]
        have y2 : up2 B5 149 (5 * k + 4) v5 149 (5 * k + 1) = v2 := by rw [up2_k (by omega), f5.1 149 (by decide), up2_k (by omega), f4.1 149 (by decide), up2_k (by omega), f3.1 149 (by decide), up2_eq]
        have y3 : up2 B5 149 (5 * k + 4) v5 149 (5 * k + 2) = v3 := by rw [up2_k (by omega), f5.1 149 (by decide), up2_k (by omega), f4.1 149 (by decide), up2_eq]
        have y4 : up2 B5 149 (5 * k + 4) v5 149 (5 * k + 3) = v4 := by rw [up2_k (by omega), f5.1 149 (by decide), up2_eq]
        have y5 : up2 B5 149 (5 * k + 4) v5 149 (5 * k + 4) = v5 := by rw [up2_eq]
        have z1 : soV T n c V k NH N q 4 k = v1 := by rw [w1]; unfold soV; rw [up2_p (by decide), up2_p (by decide), up2_p (by decide), up2_p (by decide), up2_eq]
        have z2 : soV T n c V k NH N q 5 k = v2 := by rw [w2]; unfold soV; rw [up2_p (by decide), up2_p (by decide), up2_p (by decide), up2_eq]
        have z3 : soV T n c V k NH N q 6 k = v3 := by rw [w3]; unfold soV; rw [up2_p (by decide), up2_p (by decide), up2_eq]
        have z4 : soV T n c V k NH N q 7 k = v4 := by rw [w4]; unfold soV; rw [up2_p (by decide), up2_eq]
        have z5 : soV T n c V k NH N q 8 k = v5 := by rw [w5]; unfold soV; rw [up2_eq]
        match w, hw with
        | 0, _ => exact y1.trans z1.symm
        | 1, _ => exact y2.trans z2.symm
        | 2, _ => exact y3.trans z3.symm
        | 3, _ => exact y4.trans z4.symm
        | 4, _ => exact y5.trans z5.symm
      · rw [ov _ k e, F5u 149 (5 * k + w) (fun z => by unfold RSo R0 at z; omega)]
        exact d4 k (by omega) w hw
    · rw [rr 150 (by omega), sv _ k (by omega) (by omega) (by omega) (by omega) (by omega) (by omega)]
      exact d5 k hk w hw
    · rw [rr 154 (by omega), sv 13 k (by decide) (by decide) (by decide) (by decide) (by decide) (by decide)]
      exact d6 k hk
end
