/-! ROWS OF THE SMALL MACHINE, an opcode each: 'Ev' at an instruction is 'Ev' at the next -/
theorem ev_ex {L : Nat} {xs : Nat → Int32} {M pc len : Nat} {los : List (Option Value)} {st : List Value} {σ : Mm} {cc : ByteArray} {i : Instr} {q : Option Rsp} (hc : mcd M = cc) (hd : decode cc pc = .ok (i, len)) (hl : len = iln i len) (h : exe L xs M pc len i los st σ = q) : stp L xs M pc los st σ = q := by
  unfold stp; rw [hc, hd]; simp only; rw [if_pos hl]; exact h
section
variable {L : Nat} {xs : Nat → Int32} {ρ M pc pc1 pc2 : Nat} {los los1 los2 : List (Option Value)} {st st1 st2 : List Value} {σ σ1 σ2 : Mm} {r : Option Value × Mm}
theorem ev_if {P : Prop} [d : Decidable P] (h : stp L xs M pc los st σ = if P then some (.inl (pc1, los1, st1, σ1)) else some (.inl (pc2, los2, st2, σ2))) : Ev L xs ρ M pc los st σ r ↔ if P then Ev L xs ρ M pc1 los1 st1 σ1 r else Ev L xs ρ M pc2 los2 st2 σ2 r := by
  by_cases q : P
  · rw [if_pos q] at h ⊢; exact ev_nx h
  · rw [if_neg q] at h ⊢; exact ev_nx h
theorem ev_gd {P : Prop} [d : Decidable P] (h : stp L xs M pc los st σ = if P then some (.inl (pc1, los1, st1, σ1)) else none) : Ev L xs ρ M pc los st σ r ↔ P ∧ Ev L xs ρ M pc1 los1 st1 σ1 r := by
  by_cases q : P
  · rw [if_pos q] at h; rw [ev_nx h]; exact ⟨fun x => ⟨q, x⟩, fun x => x.2⟩
  · rw [if_neg q] at h; rw [ev_no h]; exact ⟨False.elim, fun x => q x.1⟩
theorem ev_gn {P : Prop} [d : Decidable P] (h : stp L xs M pc los st σ = if P then none else some (.inl (pc1, los1, st1, σ1))) : Ev L xs ρ M pc los st σ r ↔ ¬ P ∧ Ev L xs ρ M pc1 los1 st1 σ1 r := by
  by_cases q : P
  · rw [if_pos q] at h; rw [ev_no h]; exact ⟨False.elim, fun x => x.1 q⟩
  · rw [if_neg q] at h; rw [ev_nx h]; exact ⟨fun x => ⟨q, x⟩, fun x => x.2⟩
/-- two guards, the inner one behind the outer -/
theorem ev_gg {P P2 : Prop} [d : Decidable P] [d2 : Decidable P2] (h : stp L xs M pc los st σ = if P then (if P2 then some (.inl (pc1, los1, st1, σ1)) else none) else none) : Ev L xs ρ M pc los st σ r ↔ P ∧ P2 ∧ Ev L xs ρ M pc1 los1 st1 σ1 r := by
  by_cases q : P
  · rw [if_pos q] at h; rw [ev_gd h]; exact ⟨fun x => ⟨q, x⟩, fun x => x.2⟩
  · rw [if_neg q] at h; rw [ev_no h]; exact ⟨False.elim, fun x => q x.1⟩
theorem ev_rg {P : Prop} [d : Decidable P] {v : Option Value} (h : stp L xs M pc los st σ = if P then some (.inr (.inr v)) else none) : Ev L xs ρ M pc los st σ r ↔ P ∧ r = (v, σ) := by
  by_cases q : P
  · rw [if_pos q] at h; rw [ev_rt h]; exact ⟨fun x => ⟨q, x⟩, fun x => x.2⟩
  · rw [if_neg q] at h; rw [ev_no h]; exact ⟨False.elim, fun x => q x.1⟩
theorem ev_cg {P : Prop} [d : Decidable P] {K : Nat} {As : List Value} (h : stp L xs M pc los st σ = if P then some (.inr (.inl (K, As, pc1, los1, st1, σ1))) else none) : Ev L xs ρ M pc los st σ r ↔ P ∧ (rka K As < ρ ∧ (lay1 As).length ≤ mmx K) ∧ ∃ v n2 I2 L2 R2, Em L xs K As σ1 (v, n2, I2, L2, R2) ∧ Ev L xs ρ M pc1 los1 (v.toList ++ st1) (n2, I2, L2, R2) r := by
  by_cases q : P
  · rw [if_pos q] at h; rw [ev_cl h]; exact ⟨fun x => ⟨q, x⟩, fun x => x.2⟩
  · rw [if_neg q] at h; rw [ev_no h]; exact ⟨False.elim, fun x => q x.1⟩
theorem and_t {P Q : Prop} (h : P) : (P ∧ Q) ↔ Q := ⟨fun x => x.2, fun x => ⟨h, x⟩⟩
theorem if_t {α : Type} {P : Prop} [d : Decidable P] (h : P) (a c : α) : (if P then a else c) = a := if_pos h
theorem inv_c {kind own k K : Nat} (hc : cal own k = K + 10) (hs : mst K = true) : inv kind own k pc los st σ = if (kind = 0 ∧ mnp K ≤ st.length) ∧ ctg (st.drop (mnp K)) ≤ 8 then some (.inr (.inl (K, (st.take (mnp K)).reverse, (pc, los, st.drop (mnp K), σ)))) else none := by
  unfold inv; rw [hc]; simp only [hs, if_true]
theorem inv_v {kind own k K a : Nat} {rest : List Value} (hc : cal own k = K + 10) (hs : mst K = false) (hd : st.drop (mnp K) = .ref a :: rest) : inv kind own k pc los st σ = if ((kind = (if min_ K then 1 else 2)) ∧ ctg rest ≤ 8) ∧ (a < σ.1 ∧ shp a = (0, mcl K)) then some (.inr (.inl (K, .ref a :: (st.take (mnp K)).reverse, (pc, los, rest, σ)))) else none := by
  unfold inv; rw [hc]; simp only [hs, hd]; rfl
end
