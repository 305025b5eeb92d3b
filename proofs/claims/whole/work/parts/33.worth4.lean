section
variable {L : Nat} {xs : Nat → Int32} {σ : Mm} {r : Option Value × Mm} {I J : Nat → Nat → Int32} {Lm : Nat → Nat → Int64} {Rm : Nat → Nat → Nat} {n s so N NS NH m : Nat} {V : Vw} {nw sp s2 ai p : Nat} {x y h b t e w v : Int32}
/-- THE WORTH to p of x hours in h, on the view -/
def wV (V : Vw) (N p : Nat) (x h : Int32) : Int32 :=
  let g := gV V N p h
  let b := g 11 * x
  let t := g 12 * x * x
  let e := slipW b (g 7)
  let w := g 4 + e
  let c := nI (oN V p h N + 1)
  let v := shrW g (oN V p h N) w
  if h < 0 ∨ g 5 < 1 then 100 * b - t else endW g x b t e (if askW g then cutW g v (spW (oN V p h N + 1) (oD V p h (fun z => absI (c * z - w)) N + absI (c * e - w))) else v)
theorem neg_le (c : h < 0) : ¬ 0 ≤ h := by
  intro k
  have k1 := Int32.le_iff_toInt_le.mp k
  have k2 := i_neg.mp c
  have k3 : (0 : Int32).toInt = 0 := rfl
  omega
theorem le_neg (c : ¬ h < 0) : 0 ≤ h := by
  have k1 : ¬ h.toInt < 0 := fun k => c (i_neg.mpr k)
  have k3 : (0 : Int32).toInt = 0 := rfl
  exact Int32.le_iff_toInt_le.mpr (by omega)
theorem wiV_eq (hs : Sc s) (hN : N ≤ 20) (hp : p < N) : wiV s V N p x h I = wV V N p x h := by
  by_cases c : h < 0
  · have c2 := neg_le c
    have g1 : gI0 s V p h I (s + 7) 1 = 1 := by simp [gI0, ownJ, up2, c2]
    have g2 : gI0 s V p h I (s + 7) 11 = V 4 (ixn (V 0 p)) := by simp [gI0, ownJ, up2]
    have g3 : gI0 s V p h I (s + 7) 12 = V 5 (ixn (V 0 p)) := by simp [gI0, ownJ, up2]
    have ho : onW (gI0 s V p h I (s + 7)) = false := by unfold onW; rw [g1]; rfl
    simp only [wiV, wiG, wiM, if_pos c, wwV, ho, Bool.false_eq_true, if_false, wV, c, true_or, if_true, g2, g3, gV]
  · have c2 := le_neg c
    obtain ⟨a1, a2, a3, a4, a5, a6, a7, a8, a9⟩ := gJ_g (s := s) (V := V) (p := p) (h := h) (I := I) N
    obtain ⟨b1, b2, b3, b4, b5, b6⟩ := gJ_f (s := s) (V := V) (p := p) (h := h) (I := I) N
    have hsp := fun (e w : Int32) => sprW_eq (I := I) (V := V) (h := h) (e := e) (w := w) hs hN hp
    by_cases c3 : oE V p h N < 1
    · have ho : onW (gJ s V p h I N (s + 7)) = false := by unfold onW; rw [b3]; simp [c3]
      simp only [wiV, wiG, wiM, if_neg c, wwV, ho, Bool.false_eq_true, if_false, wV, c, c3, or_true, if_true, a5, a6, gV]
    · have ho : onW (gJ s V p h I N (s + 7)) = true := by unfold onW; rw [b3, a1]; simp [c3, c2]
      have hk : askW (gJ s V p h I N (s + 7)) = askW (gV V N p h) := by unfold askW; rw [a4, a7]; rfl
      simp only [wiV, wiG, wiM, if_neg c, wwV, ho, if_true, wV, c, c3, or_self, if_false, hsp, hk, endW, cutW, shrW, a1, a2, a3, a4, a5, a6, a7, a8, a9, b1, b2, b3, b4, b5, b6, gV]
end
