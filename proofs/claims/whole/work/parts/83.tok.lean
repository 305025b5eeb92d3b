/-! tokens: where they begin and end -/
def pL (c : Nat) : Bool := decide (97 ≤ c ∧ c ≤ 122)
def pD (c : Nat) : Bool := decide (48 ≤ c ∧ c ≤ 57)
def pW (c : Nat) : Bool := decide (c = 10 ∨ c = 32)
/-- the end of a run, at most f on -/
def rnF (p : Nat → Bool) (T : Nat → Nat) : Nat → Nat → Nat
  | 0, i => i
  | f + 1, i => if p (T i) = true then rnF p T f (i + 1) else i
def rnN (p : Nat → Bool) (T : Nat → Nat) (n i : Nat) : Nat := rnF p T (n - i) i
theorem rnF_ge {p : Nat → Bool} {T : Nat → Nat} : ∀ f i, i ≤ rnF p T f i
  | 0, i => Nat.le_refl i
  | f + 1, i => by
    show i ≤ if p (T i) = true then rnF p T f (i + 1) else i
    by_cases c : p (T i) = true
    · rw [if_pos c]; have := rnF_ge (p := p) (T := T) f (i + 1); omega
    · rw [if_neg c]; exact Nat.le_refl i
theorem rnF_le {p : Nat → Bool} {T : Nat → Nat} : ∀ f i, rnF p T f i ≤ i + f
  | 0, i => Nat.le_refl i
  | f + 1, i => by
    show (if p (T i) = true then rnF p T f (i + 1) else i) ≤ i + (f + 1)
    by_cases c : p (T i) = true
    · rw [if_pos c]; have := rnF_le (p := p) (T := T) f (i + 1); omega
    · rw [if_neg c]; omega
theorem rnF_in {p : Nat → Bool} {T : Nat → Nat} : ∀ f i j, i ≤ j → j < rnF p T f i → p (T j) = true
  | 0, i, j, h1, h2 => by have h2 : j < i := h2; omega
  | f + 1, i, j, h1, h2 => by
    have h2 : j < if p (T i) = true then rnF p T f (i + 1) else i := h2
    by_cases c : p (T i) = true
    · rw [if_pos c] at h2
      by_cases d : j = i
      · rw [d]; exact c
      · exact rnF_in f (i + 1) j (by omega) h2
    · rw [if_neg c] at h2; omega
theorem rnF_at {p : Nat → Bool} {T : Nat → Nat} : ∀ f i, rnF p T f i < i + f → p (T (rnF p T f i)) = false
  | 0, i, h => by have h : i < i := h; omega
  | f + 1, i, h => by
    have h : (if p (T i) = true then rnF p T f (i + 1) else i) < i + (f + 1) := h
    show p (T (if p (T i) = true then rnF p T f (i + 1) else i)) = false
    by_cases c : p (T i) = true
    · rw [if_pos c] at h ⊢; exact rnF_at f (i + 1) (by omega)
    · rw [if_neg c]; exact Bool.eq_false_iff.mpr c
section
variable {p : Nat → Bool} {T : Nat → Nat} {n i j k : Nat}
theorem en_ge : i ≤ rnN p T n i := rnF_ge _ _
theorem en_le (h : i ≤ n) : rnN p T n i ≤ n := by have := rnF_le (p := p) (T := T) (n - i) i; unfold rnN; omega
theorem en_in (h1 : i ≤ j) (h2 : j < rnN p T n i) : p (T j) = true := rnF_in _ _ _ h1 h2
theorem en_at (h : rnN p T n i < n) : p (T (rnN p T n i)) = false := by
  have h1 : i ≤ rnN p T n i := en_ge
  exact rnF_at _ _ (by unfold rnN at h h1; omega)
theorem en_stop (h : p (T i) = false) : rnN p T n i = i := by
  unfold rnN
  cases n - i with
  | zero => rfl
  | succ f => show (if p (T i) = true then rnF p T f (i + 1) else i) = i; rw [if_neg (by rw [h]; decide)]
theorem en_step (hi : i < n) (h : p (T i) = true) : rnN p T n i = rnN p T n (i + 1) := by
  unfold rnN
  rw [show n - i = (n - (i + 1)) + 1 by omega]
  show (if p (T i) = true then rnF p T (n - (i + 1)) (i + 1) else i) = _
  rw [if_pos h]
theorem en_end (h : n ≤ i) : rnN p T n i = i := by
  unfold rnN
  rw [show n - i = 0 by omega]; rfl
theorem en_eq : ∀ d, i + d = k → k ≤ n → (∀ j, i ≤ j → j < k → p (T j) = true) → (k = n ∨ p (T k) = false) → rnN p T n i = k := by
  intro d
  induction d generalizing i with
  | zero =>
    intro h1 h2 h3 h4
    have e : i = k := h1
    rcases h4 with h4 | h4
    · rw [en_end (by omega), e]
    · rw [en_stop (by rw [e]; exact h4), e]
  | succ d ih =>
    intro h1 h2 h3 h4
    rw [en_step (by omega) (h3 i (Nat.le_refl i) (by omega))]
    exact ih (by omega) h2 (fun j a b => h3 j (by omega) b) h4
def skW (T : Nat → Nat) (n i : Nat) : Nat := rnN pW T n i
/-- the end of the token that begins at i -/
def teW (T : Nat → Nat) (n i : Nat) : Nat := if pL (T i) = true then rnN pL T n i else if pD (T i) = true then rnN pD T n i else i + 1
/-- where the k-th token begins -/
def frW (T : Nat → Nat) (n : Nat) : Nat → Nat
  | 0 => skW T n 0
  | k + 1 => if frW T n k < n then skW T n (teW T n (frW T n k)) else frW T n k
theorem te_gt (hi : i < n) : i < teW T n i := by
  unfold teW
  by_cases c : pL (T i) = true
  · rw [if_pos c, en_step hi c]; have : i + 1 ≤ rnN pL T n (i + 1) := en_ge; omega
  · rw [if_neg c]
    by_cases d : pD (T i) = true
    · rw [if_pos d, en_step hi d]; have : i + 1 ≤ rnN pD T n (i + 1) := en_ge; omega
    · rw [if_neg d]; omega
theorem te_le (hi : i < n) : teW T n i ≤ n := by
  unfold teW
  by_cases c : pL (T i) = true
  · rw [if_pos c]; exact en_le (by omega)
  · rw [if_neg c]
    by_cases d : pD (T i) = true
    · rw [if_pos d]; exact en_le (by omega)
    · rw [if_neg d]; omega
theorem fr_le : ∀ k, frW T n k ≤ n
  | 0 => en_le (Nat.zero_le n)
  | k + 1 => by
    show (if frW T n k < n then skW T n (teW T n (frW T n k)) else frW T n k) ≤ n
    by_cases c : frW T n k < n
    · rw [if_pos c]; exact en_le (te_le c)
    · rw [if_neg c]; exact fr_le k
theorem fr_s (h : frW T n k < n) : frW T n (k + 1) = skW T n (teW T n (frW T n k)) := if_pos h
theorem fr_end (h : ¬ frW T n k < n) : frW T n (k + 1) = frW T n k := if_neg h
theorem te_fr (h : frW T n k < n) : teW T n (frW T n k) ≤ frW T n (k + 1) := by rw [fr_s h]; exact en_ge
theorem fr_lt (h : frW T n k < n) : frW T n k < frW T n (k + 1) := Nat.lt_of_lt_of_le (te_gt h) (te_fr h)
theorem fr_mono : ∀ k, frW T n k ≤ frW T n (k + 1) := fun k => by
  by_cases c : frW T n k < n
  · exact Nat.le_of_lt (fr_lt c)
  · rw [fr_end c]; exact Nat.le_refl _
theorem fr_ge : ∀ k, (∀ j, j < k → frW T n j < n) → k ≤ frW T n k
  | 0, _ => Nat.zero_le _
  | k + 1, h => by
    have := fr_ge k (fun j hj => h j (by omega))
    have := fr_lt (h k (Nat.lt_succ_self k))
    omega
theorem sk_nw (hi : i ≤ n) (h : skW T n i < n) : pW (T (skW T n i)) = false := en_at h
theorem fr_nw : ∀ k, frW T n k < n → pW (T (frW T n k)) = false
  | 0, h => en_at h
  | k + 1, h => by
    have c : frW T n k < n := Nat.lt_of_le_of_lt (fr_mono k) h
    rw [fr_s c] at h ⊢
    exact en_at h
theorem fr_cnt : ∃ c, c ≤ n ∧ frW T n c = n ∧ ∀ k, k < c → frW T n k < n := by
  have h : ∀ d k, k + d = n + 1 → (∀ j, j < k → frW T n j < n) → ∃ c, c ≤ n ∧ frW T n c = n ∧ ∀ k, k < c → frW T n k < n := by
    intro d
    induction d with
    | zero =>
      intro k hk hj
      have h1 := fr_ge k hj
      have h2 := fr_le (T := T) (n := n) k
      omega
    | succ d ih =>
      intro k hk hj
      by_cases c : frW T n k < n
      · exact ih (k + 1) (by omega) (fun j h1 => by
          by_cases e : j = k
          · rw [e]; exact c
          · exact hj j (by omega))
      · have := fr_le (T := T) (n := n) k
        exact ⟨k, by omega, by omega, hj⟩
  exact h (n + 1) 0 (by omega) (fun j hj => absurd hj (Nat.not_lt_zero j))
end
