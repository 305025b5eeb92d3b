/-! weeks: draws; slips drawn from a hat -/
def nxS (x : Nat) : Nat := (1103515245 * x + 12345) % 2147483648
def dwS (x m : Nat) : Nat := nxS x / 64 % m
theorem nxS_lt (x : Nat) : nxS x < 2 ^ 31 := Nat.mod_lt _ (by decide)
theorem land31 {a : Nat} : lN a &&& 2147483647 = lN (a % 2147483648) := by
  apply Int64.toBitVec_inj.mp
  rw [Int64.toBitVec_and]
  apply BitVec.eq_of_toNat_eq
  rw [BitVec.toNat_and]
  show (a % 2 ^ 64) &&& (2 ^ 31 - 1) = (a % 2147483648) % 2 ^ 64
  rw [Nat.and_two_pow_sub_one_eq_mod]
  omega
/-- the slips left, at the start: who is in h, in order -/
def lfS (V : Vw) (h : Int32) : Nat → Nat → Int32
  | 0 => fun _ => 0
  | j + 1 => if V 1 j = h then fun i => if i = cnN V h j then nI j else lfS V h j i else lfS V h j
/-- one draw: rows, how many, the seed, whose slip each has -/
def dhS (V : Vw) (h : Int32) (q : (Nat → Int32) × Nat × Nat × (Nat → Int32)) : Nat → (Nat → Int32) × Nat × Nat × (Nat → Int32)
  | 0 => q
  | j + 1 => if V 1 j = h then (fun i => if dwS (dhS V h q j).2.2.1 (dhS V h q j).2.1 ≤ i ∧ i < (dhS V h q j).2.1 - 1 then (dhS V h q j).1 (i + 1) else (dhS V h q j).1 i, (dhS V h q j).2.1 - 1, nxS (dhS V h q j).2.2.1, fun p => if p = j then (dhS V h q j).1 (dwS (dhS V h q j).2.2.1 (dhS V h q j).2.1) else (dhS V h q j).2.2.2 p) else dhS V h q j
section
variable {L : Nat} {xs : Nat → Int32} {σ : Mm} {r : Option Value × Mm} {I J K : Nat → Nat → Int32} {Lm : Nat → Nat → Int64} {Rm : Nat → Nat → Nat} {n s so t N NS NH m M P nw S U : Nat} {V W : Vw} {sp s2 ai p : Nat} {x y z h v : Int32}
theorem c_draw {x m : Nat} (hx : I 3 9 = nI x) (hx2 : x < 2 ^ 31) (hm : 0 < m) (hm2 : m < 2 ^ 31) (r : Option Value × Mm) : Em L xs 102 [.ref 3, .int (nI m)] (179, I, Lm, RG nw sp s2 ai) r ↔ r = (some (.int (nI (dwS x m))), 179, up2 I 3 9 (nI (nxS x)), Lm, RG nw sp s2 ai) := by
  have e1 : (1103515245 : Int64) * (nI x).toInt64 + 12345 &&& 2147483647 = lN (nxS x) := by
    rw [nI_l hx2, show (1103515245 : Int64) = lN 1103515245 from rfl, show (12345 : Int64) = lN 12345 from rfl, lN_mul, lN_add, land31]; rfl
  have hn := nxS_lt x
  have e2 : nI (nxS x) / 64 = nI (nxS x / 64) := by rw [show (64 : Int32) = nI 64 from rfl, pk_div hn (by decide) (by decide)]
  have e3 : nI (nxS x / 64) - nI (nxS x / 64) / nI m * nI m = nI (dwS x m) := pk_rem (by omega) hm hm2
  have z1 : ¬ nI m ≤ 0 := nI_nle hm hm2
  have z2 : ¬ nI m = 0 := nI_ne0 hm hm2
  have z3 : ¬ (64 : Int32) = 0 := by decide
  rw [em_102]
  simp only [x102_0, x102_1, x102_4, x102_5, x102_8, x102_9, x102_10, x102_13, x102_14, x102_17, x102_18, x102_19, x102_22, x102_23, x102_26, x102_27, x102_30, x102_32, x102_33, x102_34, x102_35, x102_38, x102_39, sh_3, lq_3, true_and, and_true, hx, e1, lN_i, up2_eq, z1, if_false, z3, not_false_eq_true, e2, z2, e3]
theorem r_draw {x m : Nat} (hx : Lm 112 89 = lN x) (hx2 : x < 2 ^ 31) (hm : 0 < m) (hm2 : m < 2 ^ 31) (r : Option Value × Mm) : Em L xs 275 [.ref 112, .int (nI m)] (179, I, Lm, RG nw sp s2 ai) r ↔ r = (some (.int (nI (dwS x m))), 179, I, up2 Lm 112 89 (lN (nxS x)), RG nw sp s2 ai) := by
  have hb : 1103515245 * x + 12345 < 2 ^ 63 := by omega
  have e1 : (1103515245 : Int64) * lN x + 12345 - ((1103515245 : Int64) * lN x + 12345) / 2147483648 * 2147483648 = lN (nxS x) := by
    rw [show (1103515245 : Int64) = lN 1103515245 from rfl, show (12345 : Int64) = lN 12345 from rfl, show (2147483648 : Int64) = lN 2147483648 from rfl, lN_mul, lN_add, pk_lRem hb (by decide) (by decide)]; rfl
  have hn := nxS_lt x
  have e2 : lN (nxS x) / 64 = lN (nxS x / 64) := by rw [show (64 : Int64) = lN 64 from rfl, pk_lDiv (by omega) (by decide) (by decide)]
  have e3 : lN (nxS x / 64) - lN (nxS x / 64) / (nI m).toInt64 * (nI m).toInt64 = lN (dwS x m) := by
    rw [nI_l hm2]; exact pk_lRem (by omega) hm (by omega)
  have z2 : ¬ (nI m).toInt64 = 0 := by rw [nI_l hm2, show (0 : Int64) = lN 0 from rfl, lN_eq (by omega) (by omega)]; omega
  have z3 : ¬ (64 : Int64) = 0 := by decide
  have z4 : ¬ (2147483648 : Int64) = 0 := by decide
  rw [em_275]
  simp only [x275_0, x275_1, x275_4, x275_5, x275_8, x275_9, x275_12, x275_13, x275_16, x275_17, x275_20, x275_21, x275_24, x275_27, x275_28, x275_29, x275_30, x275_31, x275_32, sh_112, lq_112, true_and, and_true, hx, e1, up2_eq, z4, z3, not_false_eq_true, e2, z2, e3, lN_i]
theorem lfS_nI : ∀ j i, i < cnN V h j → ∃ p, p < j ∧ lfS V h j i = nI p ∧ V 1 p = h
  | 0, i, hi => absurd hi (Nat.not_lt_zero i)
  | j + 1, i, hi => by
    have e2 : cnN V h (j + 1) = if V 1 j = h then cnN V h j + 1 else cnN V h j := rfl
    rw [e2] at hi
    by_cases c : V 1 j = h
    · rw [if_pos c] at hi
      have e3 : lfS V h (j + 1) i = if i = cnN V h j then nI j else lfS V h j i := by simp only [lfS, if_pos c]
      rw [e3]
      by_cases d : i = cnN V h j
      · rw [if_pos d]; exact ⟨j, by omega, rfl, c⟩
      · rw [if_neg d]
        obtain ⟨p, a, b⟩ := lfS_nI j i (by omega)
        exact ⟨p, by omega, b⟩
    · rw [if_neg c] at hi
      have e3 : lfS V h (j + 1) i = lfS V h j i := by simp only [lfS, if_neg c]
      rw [e3]
      obtain ⟨p, a, b⟩ := lfS_nI j i hi
      exact ⟨p, by omega, b⟩
/-- what holds while slips are drawn -/
theorem dhS_ok {q : (Nat → Int32) × Nat × Nat × (Nat → Int32)} (hq : q.2.1 = cnN V h N) (hx : q.2.2.1 < 2 ^ 31) (hl : ∀ i, i < q.2.1 → ∃ p, p < N ∧ q.1 i = nI p ∧ V 1 p = h) : ∀ j, j ≤ N → (dhS V h q j).2.1 + cnN V h j = cnN V h N ∧ (dhS V h q j).2.2.1 < 2 ^ 31 ∧ (∀ i, i < (dhS V h q j).2.1 → ∃ p, p < N ∧ (dhS V h q j).1 i = nI p ∧ V 1 p = h) ∧ (∀ p, p < j → V 1 p = h → ∃ k, k < N ∧ (dhS V h q j).2.2.2 p = nI k ∧ V 1 k = h) ∧ (∀ p, (j ≤ p ∨ ¬ V 1 p = h) → (dhS V h q j).2.2.2 p = q.2.2.2 p)
  | 0, _ => ⟨hq, hx, hl, fun p hp => absurd hp (Nat.not_lt_zero p), fun _ _ => rfl⟩
  | j + 1, hj => by
    obtain ⟨a, b, c, d, e⟩ := dhS_ok hq hx hl j (by omega)
    have e2 : cnN V h (j + 1) = if V 1 j = h then cnN V h j + 1 else cnN V h j := rfl
    have hle : cnN V h (j + 1) ≤ cnN V h N := by
      have mono : ∀ m, j + 1 + m ≤ N → cnN V h (j + 1) ≤ cnN V h (j + 1 + m) := by
        intro m
        induction m with
        | zero => intro _; exact Nat.le_refl _
        | succ m ih =>
          intro hm
          have e5 : cnN V h (j + 1 + (m + 1)) = if V 1 (j + 1 + m) = h then cnN V h (j + 1 + m) + 1 else cnN V h (j + 1 + m) := rfl
          have := ih (by omega)
          rw [e5]; split <;> omega
      have := mono (N - (j + 1)) (by omega)
      rw [show j + 1 + (N - (j + 1)) = N by omega] at this
      exact this
    by_cases k : V 1 j = h
    · rw [if_pos k] at e2
      have hn0 : 0 < (dhS V h q j).2.1 := by omega
      have hdw : dwS (dhS V h q j).2.2.1 (dhS V h q j).2.1 < (dhS V h q j).2.1 := Nat.mod_lt _ hn0
      simp only [dhS, if_pos k]
      refine ⟨by omega, nxS_lt _, fun i hi => ?_, fun p hp hv => ?_, fun p hp => ?_⟩
      · split
        · exact c (i + 1) (by omega)
        · exact c i (by omega)
      · by_cases z : p = j
        · rw [if_pos z]
          obtain ⟨w, w1, w2, w3⟩ := c _ hdw
          exact ⟨w, w1, w2, w3⟩
        · rw [if_neg z]; exact d p (by omega) hv
      · have z : p ≠ j := by
          rcases hp with g | g
          · omega
          · exact fun z => g (z ▸ k)
        rw [if_neg z]
        refine e p ?_
        rcases hp with g | g
        · left; omega
        · right; exact g
    · rw [if_neg k] at e2
      simp only [dhS, if_neg k]
      refine ⟨by omega, b, c, fun p hp hv => ?_, fun p hp => e p ?_⟩
      · by_cases z : p = j
        · exact absurd (z ▸ hv) k
        · exact d p (by omega) hv
      · rcases hp with g | g
        · left; omega
        · right; exact g
end
