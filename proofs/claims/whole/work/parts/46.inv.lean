/-! WHAT STANDS between calls. The class's town at S: V 13, 14 the pairs, 15, 16, 17 the names of sorts, hats, persons, 18 drawn, 19 paid, 20 drew, 21 said; V 22: weeks, lost, the seed -/
def GC (I : Nat → Nat → Int32) (S so N NS NH M P : Nat) (V : Vw) : Prop := CR I S so N NS NH V ∧ I S 6 = nI M ∧
  (I (S + 16) 9 = nI P ∧ ∀ k, k < P → I (S + 17) k = V 13 k ∧ I (S + 18) k = V 14 k) ∧
  ((∀ k, k < NS → I (so + 1) k = V 15 k) ∧ (∀ k, k < NH → I (S + 2) k = V 16 k) ∧ (∀ k, k < N → I (S + 19) k = V 17 k)) ∧
  (I 3 7 = V 22 0 ∧ I 3 8 = V 22 1 ∧ I 3 9 = V 22 2) ∧
  (∀ k, k < N → I 4 k = V 18 k ∧ I 5 k = V 19 k ∧ I 6 k = V 20 k ∧ I 7 k = V 21 k) ∧ I 11 4 = nI 20
/-- a name of n letters: the class's and the reference's number -/
def nmR (x : Int32) (l : Int64) : Prop := ∃ n v : Nat, 1 ≤ n ∧ n ≤ 6 ∧ 27 ^ (n - 1) ≤ v ∧ v < 27 ^ n ∧ v % 27 ≠ 0 ∧ x = nI (v * 27 ^ (6 - n)) ∧ l = lN v
def GM (I : Nat → Nat → Int32) (Lm : Nat → Nat → Int64) (N NS NH M P : Nat) (V : Vw) : Prop := MR I 0 N NS NH V ∧ (I 148 3 = nI NS ∧ I 148 4 = nI NH ∧ I 148 5 = nI N) ∧ I 112 52 = nI M ∧
  (I 112 75 = nI P ∧ ∀ k, k < P → I 170 k = V 13 k) ∧
  ((∀ k, k < NS → nmR (V 15 k) (Lm 147 (36 + k))) ∧ (∀ k, k < NH → nmR (V 16 k) (Lm 147 (48 + k))) ∧ (∀ k, k < N → nmR (V 17 k) (Lm 147 (60 + k)))) ∧
  (I 112 76 = V 22 0 ∧ I 112 77 = V 22 1 ∧ Lm 112 89 = (V 22 2).toInt64) ∧
  (∀ k, k < N → I 166 k = V 18 k ∧ I 167 k = V 19 k ∧ I 169 k = V 20 k ∧ I 168 k = V 21 k)
def GW (N NS NH M P : Nat) (V : Vw) : Prop := WV V N NS NH ∧ MW V 0 N ∧ (N ≤ 12 ∧ NS ≤ 6 ∧ NH ≤ 4 ∧ M ≤ 60 ∧ P ≤ 6) ∧
  (∀ k, k < P → inb (V 13 k) N ∧ inb (V 14 k) N ∧ V 3 (ixn (V 13 k)) = V 14 k) ∧
  (rng (V 22 0) 0 9999 ∧ rng (V 22 1) 0 1000000000 ∧ 0 ≤ (V 22 2).toInt) ∧
  (∀ k, k < N → rng (V 18 k) 0 80000 ∧ rng (V 19 k) 0 1000000000 ∧ (V 20 k = -1 ∨ inb (V 20 k) N) ∧ rng (V 21 k) (-1) 60) ∧
  (∀ k, k < N → (V 2 k).toInt ≤ (M : Int))
/-- the class's scratch alone has changed -/
def SqC (S : Nat) (I J : Nat → Nat → Int32) : Prop := (∀ p, p < 11 ∨ 36 < p → p ≠ S + 7 → p ≠ S + 8 → J p = I p) ∧ J 11 4 = I 11 4
/-- the reference's scratch alone has changed -/
def SqM (I J : Nat → Nat → Int32) : Prop := (∀ p, p < 112 → J p = I p) ∧ (∀ k, k ≠ 81 → k ≠ 82 → J 112 k = I 112 k) ∧
  (∀ p, 112 < p → p ≠ 162 → p ≠ 163 → p ≠ 164 → p ≠ 165 → p ≠ 171 → p ≠ 172 → p ≠ 173 → p ≠ 174 → J p = I p) ∧
  (∀ p, 162 ≤ p → p ≤ 165 → ∀ k, k < 12 → J p k = I p k)
section
variable {L : Nat} {xs : Nat → Int32} {σ : Mm} {r : Option Value × Mm} {I J K : Nat → Nat → Int32} {Lm : Nat → Nat → Int64} {Rm : Nat → Nat → Nat} {n s so t N NS NH m M P nw S U : Nat} {V W : Vw} {sp s2 ai p : Nat} {x y h v : Int32}
theorem scrRf : SqC S I I := ⟨fun _ _ _ _ => rfl, rfl⟩
theorem scrTr (h : SqC S I J) (h2 : SqC S J K) : SqC S I K := ⟨fun p a b c => (h2.1 p a b c).trans (h.1 p a b c), h2.2.trans h.2⟩
theorem mscRf : SqM I I := ⟨fun _ _ => rfl, fun _ _ _ => rfl, fun _ _ _ _ _ _ _ _ _ _ => rfl, fun _ _ _ _ _ => rfl⟩
theorem mscTr (h : SqM I J) (h2 : SqM J K) : SqM I K := ⟨fun p a => (h2.1 p a).trans (h.1 p a), fun k a b => (h2.2.1 k a b).trans (h.2.1 k a b), fun p a b c d e f g i j => (h2.2.2.1 p a b c d e f g i j).trans (h.2.2.1 p a b c d e f g i j), fun p a b k c => (h2.2.2.2 p a b k c).trans (h.2.2.2 p a b k c)⟩
theorem tw_S (hT : Tw nw S U) : S = 38 ∨ S = 72 := by rcases hT with ⟨-, h, -⟩ | ⟨-, h, -⟩ <;> omega
theorem frScr (hT : Tw nw S U) (h : Fr S I J) : SqC S I J := ⟨fun p _ b c => h p b c, by rw [h 11 (by have := tw_S hT; omega) (by have := tw_S hT; omega)]⟩
theorem ftScr (h : Ft I J) (h2 : J 11 4 = I 11 4) : SqC S I J := ⟨fun p a _ _ => h p a, h2⟩
/-- what the class's side of it asks -/
def Kcl (S : Nat) (I J : Nat → Nat → Int32) : Prop := (∀ p, p < 112 → (p < 11 ∨ 36 < p) → p ≠ S + 7 → p ≠ S + 8 → J p = I p) ∧ J 11 4 = I 11 4
/-- what the reference's side of it asks -/
def Kmo (I J : Nat → Nat → Int32) : Prop := (∀ k, k ≠ 81 → k ≠ 82 → J 112 k = I 112 k) ∧
  (∀ p, 112 < p → p ≠ 162 → p ≠ 163 → p ≠ 164 → p ≠ 165 → p ≠ 171 → p ≠ 172 → p ≠ 173 → p ≠ 174 → J p = I p) ∧
  (∀ p, 162 ≤ p → p ≤ 165 → ∀ k, k < 12 → J p k = I p k)
theorem scrKcl (h : SqC S I J) : Kcl S I J := ⟨fun p _ a b c => h.1 p a b c, h.2⟩
theorem mscKcl (h : SqM I J) : Kcl S I J := ⟨fun p a _ _ _ => h.1 p a, by rw [h.1 11 (by decide)]⟩
theorem mscKmo (h : SqM I J) : Kmo I J := h.2
theorem scrKmo (hT : Tw nw S U) (h : SqC S I J) : Kmo I J := by
  have e : ∀ p, 111 < p → J p = I p := fun p hp => h.1 p (by omega) (by have := tw_S hT; omega) (by have := tw_S hT; omega)
  exact ⟨fun k _ _ => by rw [e 112 (by decide)], fun p a _ _ _ _ _ _ _ _ => e p (by omega), fun p a _ k _ => by rw [e p (by omega)]⟩
theorem gcK (hT : Tw nw S U) (hso : so = S + 9) (h : GC I S so N NS NH M P V) (hS : Kcl S I J) : GC J S so N NS NH M P V := by
  obtain ⟨h1, h2, ⟨h3, h4⟩, ⟨h5, h6, h7⟩, ⟨h8, h9, h10⟩, h11, h12⟩ := h
  obtain ⟨s1, s2⟩ := hS
  have hS := tw_S hT
  have e : ∀ p, p < 112 → (p < 11 ∨ 36 < p) → p ≠ S + 7 → p ≠ S + 8 → J p = I p := s1
  refine ⟨crFr h1 (fun i a b c _ => e _ (by omega) (by omega) (by omega) (by omega)) (fun i a => e _ (by omega) (by omega) (by omega) (by omega)), ?_, ⟨?_, fun k hk => ?_⟩, ⟨fun k hk => ?_, fun k hk => ?_, fun k hk => ?_⟩, ⟨?_, ?_, ?_⟩, fun k hk => ?_, s2.trans h12⟩
  · rw [e S (by omega) (by omega) (by omega) (by omega)]; exact h2
  · rw [e (S + 16) (by omega) (by omega) (by omega) (by omega)]; exact h3
  · rw [e (S + 17) (by omega) (by omega) (by omega) (by omega), e (S + 18) (by omega) (by omega) (by omega) (by omega)]; exact h4 k hk
  · rw [e (so + 1) (by omega) (by omega) (by omega) (by omega)]; exact h5 k hk
  · rw [e (S + 2) (by omega) (by omega) (by omega) (by omega)]; exact h6 k hk
  · rw [e (S + 19) (by omega) (by omega) (by omega) (by omega)]; exact h7 k hk
  · rw [e 3 (by omega) (by omega) (by omega) (by omega)]; exact h8
  · rw [e 3 (by omega) (by omega) (by omega) (by omega)]; exact h9
  · rw [e 3 (by omega) (by omega) (by omega) (by omega)]; exact h10
  · rw [e 4 (by omega) (by omega) (by omega) (by omega), e 5 (by omega) (by omega) (by omega) (by omega), e 6 (by omega) (by omega) (by omega) (by omega), e 7 (by omega) (by omega) (by omega) (by omega)]; exact h11 k hk
theorem gmK (hN : N ≤ 12) (h : GM I Lm N NS NH M P V) (hS : Kmo I J) : GM J Lm N NS NH M P V := by
  obtain ⟨s1, s2, s3⟩ := hS
  have e : ∀ p, 112 < p → (p < 162 ∨ 165 < p) → (p < 171 ∨ 174 < p) → J p = I p := fun p a b c => s2 p a (by omega) (by omega) (by omega) (by omega) (by omega) (by omega) (by omega) (by omega)
  obtain ⟨⟨⟨q1, q2⟩, q3, q4, q5, q6⟩, ⟨h2, h2b, h2c⟩, h3, ⟨h4, h5⟩, h6, ⟨h7, h8, h9⟩, h10⟩ := h
  refine ⟨⟨⟨?_, ?_⟩, q3, fun k hk => ?_, fun k hk w hw => ?_, fun k hk w hw => ?_⟩, ⟨?_, ?_, ?_⟩, ?_, ⟨?_, fun k hk => ?_⟩, h6, ⟨?_, ?_, h9⟩, fun k hk => ?_⟩
  · rw [s1 78 (by decide) (by decide)]; exact q1
  · rw [s1 79 (by decide) (by decide)]; exact q2
  · have z : 0 + k < 12 := by omega
    rw [s3 162 (by decide) (by decide) _ z, s3 163 (by decide) (by decide) _ z, s3 164 (by decide) (by decide) _ z, s3 165 (by decide) (by decide) _ z]; exact q4 k hk
  · rw [e 149 (by decide) (by decide) (by decide)]; exact q5 k hk w hw
  · rw [e 150 (by decide) (by decide) (by decide)]; exact q6 k hk w hw
  · rw [e 148 (by decide) (by decide) (by decide)]; exact h2
  · rw [e 148 (by decide) (by decide) (by decide)]; exact h2b
  · rw [e 148 (by decide) (by decide) (by decide)]; exact h2c
  · rw [s1 52 (by decide) (by decide)]; exact h3
  · rw [s1 75 (by decide) (by decide)]; exact h4
  · rw [e 170 (by decide) (by decide) (by decide)]; exact h5 k hk
  · rw [s1 76 (by decide) (by decide)]; exact h7
  · rw [s1 77 (by decide) (by decide)]; exact h8
  · rw [e 166 (by decide) (by decide) (by decide), e 167 (by decide) (by decide) (by decide), e 168 (by decide) (by decide) (by decide), e 169 (by decide) (by decide) (by decide)]; exact h10 k hk
theorem rg_tw0 (hT : Tw nw S U) : rfv (RG nw sp s2 ai nw 0) = .ref S := by rcases hT with ⟨rfl, rfl, rfl⟩ | ⟨rfl, rfl, rfl⟩ <;> rfl
theorem rg_tw1 (hT : Tw nw S U) : rfv (RG nw sp s2 ai nw 1) = .ref U := by rcases hT with ⟨rfl, rfl, rfl⟩ | ⟨rfl, rfl, rfl⟩ <;> rfl
theorem sh_tw (hT : Tw nw S U) : shp nw = (0, 8) := by rcases hT with ⟨rfl, rfl, rfl⟩ | ⟨rfl, rfl, rfl⟩ <;> rfl
theorem lq_tw (hT : Tw nw S U) : (nw < 179) = True := by rcases hT with ⟨rfl, rfl, rfl⟩ | ⟨rfl, rfl, rfl⟩ <;> decide
theorem rg_0t (ht : t = 11) : rfv (RG nw sp s2 ai 0 3) = .ref t := by subst ht; rfl
theorem sh_u (hT : Tw nw S U) : shp U = (0, 4) := by rcases hT with ⟨rfl, rfl, rfl⟩ | ⟨rfl, rfl, rfl⟩ <;> rfl
theorem lq_u (hT : Tw nw S U) : (U < 179) = True := by rcases hT with ⟨rfl, rfl, rfl⟩ | ⟨rfl, rfl, rfl⟩ <;> decide
end
