section
variable {L : Nat} {xs : Nat → Int32} {σ : Mm} {r : Option Value × Mm} {I J : Nat → Nat → Int32} {Lm : Nat → Nat → Int64} {Rm : Nat → Nat → Nat} {n s so N NS NH m : Nat} {V : Vw} {nw sp s2 ai p : Nat} {x y h b t e w v : Int32}
def gV (V : Vw) (N p : Nat) (h : Int32) : Nat → Int32
  | 1 => if 0 ≤ h then 0 else 1
  | 2 => oM V p h N
  | 3 => nI (oN V p h N)
  | 4 => oS V p h N
  | 5 => oE V p h N
  | 6 => oT V p h N
  | 7 => V 9 (ixn h)
  | 8 => V 10 (ixn h)
  | 9 => V 11 (ixn h)
  | 10 => V 12 (ixn h)
  | 11 => V 4 (ixn (V 0 p))
  | 12 => V 5 (ixn (V 0 p))
  | 13 => V 6 (ixn (V 0 p))
  | 14 => V 7 (ixn (V 0 p))
  | 15 => V 8 (ixn (V 0 p))
  | _ => 0
theorem gJ_g : ∀ q, gJ s V p h I q (s + 7) 1 = (if 0 ≤ h then 0 else 1) ∧ gJ s V p h I q (s + 7) 8 = V 10 (ixn h) ∧ gJ s V p h I q (s + 7) 9 = V 11 (ixn h) ∧ gJ s V p h I q (s + 7) 10 = V 12 (ixn h) ∧ gJ s V p h I q (s + 7) 11 = V 4 (ixn (V 0 p)) ∧ gJ s V p h I q (s + 7) 12 = V 5 (ixn (V 0 p)) ∧ gJ s V p h I q (s + 7) 13 = V 6 (ixn (V 0 p)) ∧ gJ s V p h I q (s + 7) 14 = V 7 (ixn (V 0 p)) ∧ gJ s V p h I q (s + 7) 15 = V 8 (ixn (V 0 p))
  | 0 => by
    refine ⟨?_, ?_, ?_, ?_, ?_, ?_, ?_, ?_, ?_⟩ <;> simp [gJ, hatJ, gI0, ownJ, up2]
  | q + 1 => by
    obtain ⟨a1, a2, a3, a4, a5, a6, a7, a8, a9⟩ := gJ_g q
    by_cases k : oC V p h q
    · refine ⟨?_, ?_, ?_, ?_, ?_, ?_, ?_, ?_, ?_⟩ <;> simp only [gJ, if_pos k] <;> simp [up2, setv_p (ne78 s), a1, a2, a3, a4, a5, a6, a7, a8, a9]
    · refine ⟨?_, ?_, ?_, ?_, ?_, ?_, ?_, ?_, ?_⟩ <;> simp only [gJ, if_neg k, a1, a2, a3, a4, a5, a6, a7, a8, a9]
/-- a sum of f over the slips of the others -/
def oD (V : Vw) (p : Nat) (h : Int32) (f : Int32 → Int32) : Nat → Int32
  | 0 => 0
  | q + 1 => if oC V p h q then oD V p h f q + f (slipW (earnV V q) (V 9 (ixn h))) else oD V p h f q
theorem gJ_sg (hs : Sc s) (f : Int32 → Int32) : ∀ q, q ≤ 20 → sg (fun i => f (gJ s V p h I q (s + 8) i)) (oN V p h q) = oD V p h f q
  | 0, _ => rfl
  | q + 1, hq => by
    have ih := gJ_sg hs f q (by omega)
    have hle := (oN_le V p h q).1
    by_cases k : oC V p h q
    · have hin : inb (nI (oN V p h q)) (shp (s + 8)).2 := by rw [sh_s8 hs]; exact inb_nI (by show oN V p h q < 20; omega) (by decide)
      have e3 : ∀ i, gJ s V p h I (q + 1) (s + 8) i = if i = oN V p h q then slipW (earnV V q) (V 9 (ixn h)) else gJ s V p h I q (s + 8) i := fun i => by
        simp only [gJ, if_pos k, up2_p (ne87 s)]
        unfold setv; rw [if_pos hin, ixn_nI (by omega)]; simp [up2]
      have e2 : oN V p h (q + 1) = oN V p h q + 1 := by simp only [oN, if_pos k]
      have e4 : oD V p h f (q + 1) = oD V p h f q + f (slipW (earnV V q) (V 9 (ixn h))) := by simp only [oD, if_pos k]
      rw [e2, e4, ← ih]
      show sg _ (oN V p h q) + f _ = _
      rw [e3, if_pos rfl]
      congr 1
      exact sg_cong fun i hi => by rw [e3, if_neg (by omega)]
    · simp only [gJ, oN, oD, if_neg k]; exact ih
theorem sprW_eq (hs : Sc s) (hN : N ≤ 20) (hp : p < N) : sprW s (oN V p h N) (gJ s V p h I N) e w = spW (oN V p h N + 1) (oD V p h (fun z => absI (nI (oN V p h N + 1) * z - w)) N + absI (nI (oN V p h N + 1) * e - w)) := by
  have hle := (oN_le V p h N).2 hp
  have hin : inb (nI (oN V p h N)) (shp (s + 8)).2 := by rw [sh_s8 hs]; exact inb_nI (by show oN V p h N < 20; omega) (by decide)
  have e3 : ∀ i, rowJ s (oN V p h N) (gJ s V p h I N) e (s + 8) i = if i = oN V p h N then e else gJ s V p h I N (s + 8) i := fun i => by
    unfold rowJ setv; rw [if_pos hin, ixn_nI (by omega)]; simp [up2]
  unfold sprW
  congr 1
  show sg _ (oN V p h N) + absI _ = _
  rw [e3, if_pos rfl, ← gJ_sg (I := I) hs (fun z => absI (nI (oN V p h N + 1) * z - w)) N hN]
  congr 1
  exact sg_cong fun i hi => by rw [e3, if_neg (by omega)]
end
