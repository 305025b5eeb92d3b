section
variable {I J : Nat → Nat → Int32} {s so N NS NH : Nat} {V : Vw} {nw sp s2 ai p n : Nat} {v : Int32}
theorem wd_pos (hs : Sc s) : wd s ≤ 20000 := by have := wd_le s; omega
theorem setv_in (hp : p < (shp n).2) (hn : (shp n).2 ≤ 20) : setv I n (nI p) v = up2 I n p v := by
  unfold setv
  rw [if_pos (inb_nI hp (by omega)), ixn_nI (by omega)]
theorem So_n2 (hB : SB nw sp s2 ai s so) (k : Nat) (hk : k ≤ 6) (j : Nat) (hj : j = 21 ∨ j = 22) : so + k ≠ s + j := by
  obtain ⟨hs, ho, -⟩ := hB
  rcases hs with rfl | rfl | rfl <;> rcases ho with rfl | rfl | rfl <;> omega
theorem CR.hrs (hB : SB nw sp s2 ai s so) (hC : CR I s so N NS NH V) (hp : p < N) : CR (setv I (s + 22) (nI p) v) s so N NS NH (up2 V 2 p v) := by
  have hN := hC.2.1.1; have hN2 := wd_le s
  have e : setv I (s + 22) (nI p) v = up2 I (s + 22) p v := setv_in (by rw [sh_s22 hB.1]; show p < wd s; omega) (by rw [sh_s22 hB.1]; exact hN2)
  rw [e]
  obtain ⟨⟨a1, a2, a3⟩, b1, c1, d1, e1⟩ := hC
  have ho : ∀ k j, k ≤ 6 → up2 I (s + 22) p v (so + k) j = I (so + k) j := fun k j hk => up2_p (So_n2 hB k hk 22 (Or.inr rfl))
  have hs : ∀ k j, k ≠ 22 → up2 I (s + 22) p v (s + k) j = I (s + k) j := fun k j hk => up2_p (by omega)
  have hV : ∀ f k, f ≠ 2 → up2 V 2 p v f k = V f k := fun f k hf => up2_p hf
  refine ⟨⟨?_, ?_, ?_⟩, b1, fun k hk => ?_, fun k hk => ?_, fun k hk => ?_⟩
  · rw [hs 16 8 (by decide)]; exact a1
  · exact (ho 0 6 (by decide)).trans a2
  · rw [hs 1 5 (by decide)]; exact a3
  · rw [hs 20 k (by decide), hs 21 k (by decide), hs 24 k (by decide), hV 0 k (by decide), hV 1 k (by decide), hV 3 k (by decide)]
    obtain ⟨c2, c3, c4, c5⟩ := c1 k hk
    refine ⟨c2, c3, ?_, c5⟩
    by_cases q : k = p
    · rw [q, up2_eq, up2_eq]
    · rw [up2_k q, up2_k q]; exact c4
  · rw [ho 2 k (by decide), ho 3 k (by decide), ho 4 k (by decide), ho 5 k (by decide), ho 6 k (by decide), hV 4 k (by decide), hV 5 k (by decide), hV 6 k (by decide), hV 7 k (by decide), hV 8 k (by decide)]; exact d1 k hk
  · rw [hs 3 k (by decide), hs 4 k (by decide), hs 5 k (by decide), hs 6 k (by decide), hV 9 k (by decide), hV 10 k (by decide), hV 11 k (by decide), hV 12 k (by decide)]; exact e1 k hk
theorem CR.hat (hB : SB nw sp s2 ai s so) (hC : CR I s so N NS NH V) (hp : p < N) : CR (setv I (s + 21) (nI p) v) s so N NS NH (up2 V 1 p v) := by
  have hN := hC.2.1.1; have hN2 := wd_le s
  have e : setv I (s + 21) (nI p) v = up2 I (s + 21) p v := setv_in (by rw [sh_s21 hB.1]; show p < wd s; omega) (by rw [sh_s21 hB.1]; exact hN2)
  rw [e]
  obtain ⟨⟨a1, a2, a3⟩, b1, c1, d1, e1⟩ := hC
  have ho : ∀ k j, k ≤ 6 → up2 I (s + 21) p v (so + k) j = I (so + k) j := fun k j hk => up2_p (So_n2 hB k hk 21 (Or.inl rfl))
  have hs : ∀ k j, k ≠ 21 → up2 I (s + 21) p v (s + k) j = I (s + k) j := fun k j hk => up2_p (by omega)
  have hV : ∀ f k, f ≠ 1 → up2 V 1 p v f k = V f k := fun f k hf => up2_p hf
  refine ⟨⟨?_, ?_, ?_⟩, b1, fun k hk => ?_, fun k hk => ?_, fun k hk => ?_⟩
  · rw [hs 16 8 (by decide)]; exact a1
  · exact (ho 0 6 (by decide)).trans a2
  · rw [hs 1 5 (by decide)]; exact a3
  · rw [hs 20 k (by decide), hs 22 k (by decide), hs 24 k (by decide), hV 0 k (by decide), hV 2 k (by decide), hV 3 k (by decide)]
    obtain ⟨c2, c3, c4, c5⟩ := c1 k hk
    refine ⟨c2, ?_, c4, c5⟩
    by_cases q : k = p
    · rw [q, up2_eq, up2_eq]
    · rw [up2_k q, up2_k q]; exact c3
  · rw [ho 2 k (by decide), ho 3 k (by decide), ho 4 k (by decide), ho 5 k (by decide), ho 6 k (by decide), hV 4 k (by decide), hV 5 k (by decide), hV 6 k (by decide), hV 7 k (by decide), hV 8 k (by decide)]; exact d1 k hk
  · rw [hs 3 k (by decide), hs 4 k (by decide), hs 5 k (by decide), hs 6 k (by decide), hV 9 k (by decide), hV 10 k (by decide), hV 11 k (by decide), hV 12 k (by decide)]; exact e1 k hk
end
