/-! WHAT A SCENE SHOWS: V f k, the numbers of the class's scene and of the reference alike. f: 0 sort, 1 hat, 2 hours, 3 mate of person k; 4 brings, 5 tires, 6 mind, 7 pride, 8 need of sort k; 9 keeps, 10 least, 11 looks, 12 kind of hat k -/
theorem ex5 {v0 : Option Value} {n0 : Nat} {I0 : Nat → Nat → Int32} {L0 : Nat → Nat → Int64} {R0 : Nat → Nat → Nat} {P : Option Value → Nat → (Nat → Nat → Int32) → (Nat → Nat → Int64) → (Nat → Nat → Nat) → Prop} : (∃ v n2 I2 L2 R2, (v, n2, I2, L2, R2) = (v0, n0, I0, L0, R0) ∧ P v n2 I2 L2 R2) ↔ P v0 n0 I0 L0 R0 := by
  constructor
  · rintro ⟨v, n2, I2, L2, R2, h, hP⟩
    simp only [Prod.mk.injEq] at h
    obtain ⟨rfl, rfl, rfl, rfl, rfl⟩ := h
    exact hP
  · exact fun h => ⟨v0, n0, I0, L0, R0, rfl, h⟩
abbrev Vw : Type := Nat → Nat → Int32
/-- a sum over the first n -/
def sg (f : Nat → Int32) : Nat → Int32
  | 0 => 0
  | n + 1 => sg f n + f n
def vS (V : Vw) (p f : Nat) : Int32 := V f (ixn (V 0 p))
def earnV (V : Vw) (p : Nat) : Int32 := V 2 p * vS V p 4
def slipW (e k : Int32) : Int32 := e * (100 - k) / 100
def slipV (V : Vw) (p : Nat) : Int32 := if V 1 p < 0 then 0 else slipW (earnV V p) (V 9 (ixn (V 1 p)))
def cntV (V : Vw) (N : Nat) (h : Int32) : Int32 := sg (fun p => if V 1 p = h then 1 else 0) N
def sumV (V : Vw) (N : Nat) (h : Int32) : Int32 := sg (fun p => if V 1 p = h then slipV V p else 0) N
def needV (V : Vw) (N : Nat) (h : Int32) : Int32 := sg (fun p => if V 1 p = h then vS V p 8 else 0) N
def SB (nw sp s2 ai s so : Nat) : Prop := Sc s ∧ So so ∧ rfv (RG nw sp s2 ai s 5) = .ref so
/-- the class's scene at s shows V: N persons, NS sorts, NH hats -/
def CR (I : Nat → Nat → Int32) (s so N NS NH : Nat) (V : Vw) : Prop := (I (s + 16) 8 = nI N ∧ I so 6 = nI NS ∧ I (s + 1) 5 = nI NH) ∧ (N ≤ wd s ∧ NS ≤ 6 ∧ NH ≤ 4) ∧
  (∀ k, k < N → I (s + 20) k = V 0 k ∧ I (s + 21) k = V 1 k ∧ I (s + 22) k = V 2 k ∧ I (s + 24) k = V 3 k) ∧
  (∀ k, k < NS → I (so + 2) k = V 4 k ∧ I (so + 3) k = V 5 k ∧ I (so + 4) k = V 6 k ∧ I (so + 5) k = V 7 k ∧ I (so + 6) k = V 8 k) ∧
  (∀ k, k < NH → I (s + 3) k = V 9 k ∧ I (s + 4) k = V 10 k ∧ I (s + 5) k = V 11 k ∧ I (s + 6) k = V 12 k)
def rng (x : Int32) (a b : Int) : Prop := a ≤ x.toInt ∧ x.toInt ≤ b
/-- the numbers are such -/
def WV (V : Vw) (N NS NH : Nat) : Prop := (∀ k, k < N → inb (V 0 k) NS ∧ (V 1 k = -1 ∨ inb (V 1 k) NH) ∧ rng (V 2 k) 0 60 ∧ (V 3 k = -1 ∨ inb (V 3 k) N)) ∧
  (∀ k, k < NS → rng (V 4 k) 0 99 ∧ rng (V 5 k) 0 99 ∧ rng (V 6 k) 0 100 ∧ rng (V 7 k) 0 999 ∧ rng (V 8 k) 1 9) ∧
  (∀ k, k < NH → rng (V 9 k) 0 100 ∧ rng (V 10 k) 0 60 ∧ rng (V 11 k) 0 100 ∧ rng (V 12 k) 0 3)
theorem wd_le (s : Nat) : wd s ≤ 20 := by unfold wd; split <;> decide
theorem inb_nI {k n : Nat} (h : k < n) (hn : n ≤ 20000) : inb (nI k) n := by
  unfold inb
  rw [nI_toInt (by omega)]
  omega
theorem ixn_nI {k : Nat} (h : k < 2 ^ 31) : ixn (nI k) = k := by unfold ixn; rw [nI_toInt h]; rfl
theorem inb_nI' {k n : Nat} (h : k < n) (hn : n < 2 ^ 31) : inb (nI k) n := by
  unfold inb
  rw [nI_toInt (by omega)]
  omega
theorem inb_le {x : Int32} {a b : Nat} (h : inb x a) (hab : a ≤ b) : inb x b := ⟨h.1, by have := h.2; omega⟩
theorem ixn_lt {x : Int32} {a : Nat} (h : inb x a) : ixn x < a := by unfold ixn; have := h.1; have := h.2; omega
theorem atv_in {I : Nat → Nat → Int32} {a : Nat} {x : Int32} (h : inb x (shp a).2) : atv I a x = I a (ixn x) := by unfold atv; rw [if_pos h]
section
variable {I : Nat → Nat → Int32} {s so N NS NH : Nat} {V : Vw} {nw sp s2 ai p : Nat}
theorem a_srt (hB : SB nw sp s2 ai s so) (hC : CR I s so N NS NH V) (hp : p < N) : atv I (s + 20) (nI p) = V 0 p := by
  have h1 := hC.2.1.1; have h2 := wd_le s
  rw [atv_in (by rw [sh_s20 hB.1]; exact inb_nI (by show p < wd s; omega) (by show wd s ≤ _; omega)), ixn_nI (by omega)]
  exact (hC.2.2.1 p hp).1
theorem a_hat (hB : SB nw sp s2 ai s so) (hC : CR I s so N NS NH V) (hp : p < N) : atv I (s + 21) (nI p) = V 1 p := by
  have h1 := hC.2.1.1; have h2 := wd_le s
  rw [atv_in (by rw [sh_s21 hB.1]; exact inb_nI (by show p < wd s; omega) (by show wd s ≤ _; omega)), ixn_nI (by omega)]
  exact (hC.2.2.1 p hp).2.1
theorem a_hrs (hB : SB nw sp s2 ai s so) (hC : CR I s so N NS NH V) (hp : p < N) : atv I (s + 22) (nI p) = V 2 p := by
  have h1 := hC.2.1.1; have h2 := wd_le s
  rw [atv_in (by rw [sh_s22 hB.1]; exact inb_nI (by show p < wd s; omega) (by show wd s ≤ _; omega)), ixn_nI (by omega)]
  exact (hC.2.2.1 p hp).2.2.1
theorem a_mat (hB : SB nw sp s2 ai s so) (hC : CR I s so N NS NH V) (hp : p < N) : atv I (s + 24) (nI p) = V 3 p := by
  have h1 := hC.2.1.1; have h2 := wd_le s
  rw [atv_in (by rw [sh_s24 hB.1]; exact inb_nI (by show p < wd s; omega) (by show wd s ≤ _; omega)), ixn_nI (by omega)]
  exact (hC.2.2.1 p hp).2.2.2
theorem a_bri (hB : SB nw sp s2 ai s so) (hC : CR I s so N NS NH V) {x : Int32} (hx : inb x NS) : atv I (so + 2) x = V 4 (ixn x) := by
  rw [atv_in (by rw [sh_o2 hB.2.1]; exact inb_le hx hC.2.1.2.1)]; exact (hC.2.2.2.1 _ (ixn_lt hx)).1
theorem a_tir (hB : SB nw sp s2 ai s so) (hC : CR I s so N NS NH V) {x : Int32} (hx : inb x NS) : atv I (so + 3) x = V 5 (ixn x) := by
  rw [atv_in (by rw [sh_o3 hB.2.1]; exact inb_le hx hC.2.1.2.1)]; exact (hC.2.2.2.1 _ (ixn_lt hx)).2.1
theorem a_min (hB : SB nw sp s2 ai s so) (hC : CR I s so N NS NH V) {x : Int32} (hx : inb x NS) : atv I (so + 4) x = V 6 (ixn x) := by
  rw [atv_in (by rw [sh_o4 hB.2.1]; exact inb_le hx hC.2.1.2.1)]; exact (hC.2.2.2.1 _ (ixn_lt hx)).2.2.1
theorem a_pri (hB : SB nw sp s2 ai s so) (hC : CR I s so N NS NH V) {x : Int32} (hx : inb x NS) : atv I (so + 5) x = V 7 (ixn x) := by
  rw [atv_in (by rw [sh_o5 hB.2.1]; exact inb_le hx hC.2.1.2.1)]; exact (hC.2.2.2.1 _ (ixn_lt hx)).2.2.2.1
theorem a_nee (hB : SB nw sp s2 ai s so) (hC : CR I s so N NS NH V) {x : Int32} (hx : inb x NS) : atv I (so + 6) x = V 8 (ixn x) := by
  rw [atv_in (by rw [sh_o6 hB.2.1]; exact inb_le hx hC.2.1.2.1)]; exact (hC.2.2.2.1 _ (ixn_lt hx)).2.2.2.2
theorem a_kee (hB : SB nw sp s2 ai s so) (hC : CR I s so N NS NH V) {x : Int32} (hx : inb x NH) : atv I (s + 3) x = V 9 (ixn x) := by
  rw [atv_in (by rw [sh_s3 hB.1]; exact inb_le hx hC.2.1.2.2)]; exact (hC.2.2.2.2 _ (ixn_lt hx)).1
theorem a_lea (hB : SB nw sp s2 ai s so) (hC : CR I s so N NS NH V) {x : Int32} (hx : inb x NH) : atv I (s + 4) x = V 10 (ixn x) := by
  rw [atv_in (by rw [sh_s4 hB.1]; exact inb_le hx hC.2.1.2.2)]; exact (hC.2.2.2.2 _ (ixn_lt hx)).2.1
theorem a_loo (hB : SB nw sp s2 ai s so) (hC : CR I s so N NS NH V) {x : Int32} (hx : inb x NH) : atv I (s + 5) x = V 11 (ixn x) := by
  rw [atv_in (by rw [sh_s5 hB.1]; exact inb_le hx hC.2.1.2.2)]; exact (hC.2.2.2.2 _ (ixn_lt hx)).2.2.1
theorem a_kin (hB : SB nw sp s2 ai s so) (hC : CR I s so N NS NH V) {x : Int32} (hx : inb x NH) : atv I (s + 6) x = V 12 (ixn x) := by
  rw [atv_in (by rw [sh_s6 hB.1]; exact inb_le hx hC.2.1.2.2)]; exact (hC.2.2.2.2 _ (ixn_lt hx)).2.2.2
end
