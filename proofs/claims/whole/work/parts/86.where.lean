/-! tokens: own words; where both readers stand -/
def nmD (d : Nat → Nat) : Nat → Nat
  | 0 => 0
  | i + 1 => 27 * nmD d i + d i
theorem nmD_inj {d e : Nat → Nat} : ∀ m, (∀ i, i < m → d i < 27 ∧ e i < 27) → nmD d m = nmD e m → ∀ i, i < m → d i = e i
  | 0, _, _, i, hi => absurd hi (Nat.not_lt_zero i)
  | m + 1, h, hq, i, hi => by
    have h1 := h m (Nat.lt_succ_self m)
    have h2 : 27 * nmD d m + d m = 27 * nmD e m + e m := hq
    have h3 : nmD d m = nmD e m := by omega
    by_cases c : i = m
    · rw [c]; omega
    · exact nmD_inj m (fun j hj => h j (by omega)) h3 i (by omega)
theorem nmD_lt {d : Nat → Nat} : ∀ m, (∀ i, i < m → d i < 27) → nmD d m < 27 ^ m
  | 0, _ => Nat.one_pos
  | m + 1, h => by
    have h1 := nmD_lt m (fun i hi => h i (by omega))
    have h2 := h m (Nat.lt_succ_self m)
    show 27 * nmD d m + d m < 27 ^ (m + 1)
    rw [Nat.pow_succ]; omega
theorem nmN_D {T : Nat → Nat} {p s : Nat} : ∀ i, nmN T p s i = nmD (fun i => if i < s then T (p + i) - 96 else 0) i
  | 0 => rfl
  | i + 1 => by
    show 27 * nmN T p s i + (if i < s then T (p + i) - 96 else 0) = 27 * nmD _ i + _
    rw [nmN_D i]
theorem wnm_D (l : List Nat) : wnm l = nmD (fun i => if i < l.length then l.getD i 0 - 96 else 0) 6 := rfl
theorem wd_ok : ∀ w, w < 33 → 1 ≤ (wdN w).length ∧ (wdN w).length ≤ 6 ∧ ∀ i, i < (wdN w).length → 97 ≤ (wdN w).getD i 0 ∧ (wdN w).getD i 0 ≤ 122 := by decide +kernel
theorem ow_inj : ∀ i, i < 33 → ∀ j, j < 33 → wnm (wdN i) = wnm (wdN j) → i = j := by decide +kernel
theorem dg_lt {T : Nat → Nat} {p s : Nat} (hl : ∀ j, j < s → pL (T (p + j)) = true) (i : Nat) : (if i < s then T (p + i) - 96 else 0) < 27 := by
  by_cases c : i < s
  · rw [if_pos c]; have := pL_iff.mp (hl i c); omega
  · rw [if_neg c]; decide
theorem nm6_lt {T : Nat → Nat} {p s : Nat} (hl : ∀ j, j < s → pL (T (p + j)) = true) : nmN T p s 6 < 2 ^ 31 := by
  rw [nmN_D]
  exact Nat.lt_trans (nmD_lt 6 (fun i _ => dg_lt hl i)) (by decide)
theorem wn_lt {w : Nat} (hw : w < 33) : wnm (wdN w) < 2 ^ 31 := by
  rw [wnm_D]
  refine Nat.lt_trans (nmD_lt 6 (fun i _ => ?_)) (by decide)
  by_cases c : i < (wdN w).length
  · show (if i < (wdN w).length then (wdN w).getD i 0 - 96 else 0) < 27
    rw [if_pos c]; have := (wd_ok w hw).2.2 i c; omega
  · show (if i < (wdN w).length then (wdN w).getD i 0 - 96 else 0) < 27
    rw [if_neg c]; decide
/-- a word of at most six letters has w's number: just w's letters -/
theorem nm_wd {T : Nat → Nat} {p s w : Nat} (hw : w < 33) (hs : s ≤ 6) (hl : ∀ j, j < s → pL (T (p + j)) = true) : nmN T p s 6 = wnm (wdN w) ↔ s = (wdN w).length ∧ ∀ i, i < s → T (p + i) = (wdN w).getD i 0 := by
  obtain ⟨w1, w2, w3⟩ := wd_ok w hw
  rw [nmN_D, wnm_D]
  constructor
  · intro h
    have k := nmD_inj 6 (fun i _ => ⟨dg_lt hl i, by
      by_cases c : i < (wdN w).length
      · show (if i < (wdN w).length then (wdN w).getD i 0 - 96 else 0) < 27
        rw [if_pos c]; have := w3 i c; omega
      · show (if i < (wdN w).length then (wdN w).getD i 0 - 96 else 0) < 27
        rw [if_neg c]; decide⟩) h
    have hlen : s = (wdN w).length := by
      rcases Nat.lt_trichotomy s (wdN w).length with c | c | c
      · have q := k s (by omega)
        have q : (if s < s then T (p + s) - 96 else 0) = (if s < (wdN w).length then (wdN w).getD s 0 - 96 else 0) := q
        rw [if_neg (Nat.lt_irrefl s), if_pos c] at q
        have := w3 s c; omega
      · exact c
      · have q := k (wdN w).length (by omega)
        have q : (if (wdN w).length < s then T (p + (wdN w).length) - 96 else 0) = (if (wdN w).length < (wdN w).length then (wdN w).getD (wdN w).length 0 - 96 else 0) := q
        rw [if_neg (Nat.lt_irrefl _), if_pos c] at q
        have := pL_iff.mp (hl _ c); omega
    refine ⟨hlen, fun i hi => ?_⟩
    have q := k i (by omega)
    have q : (if i < s then T (p + i) - 96 else 0) = (if i < (wdN w).length then (wdN w).getD i 0 - 96 else 0) := q
    rw [if_pos hi, if_pos (by omega)] at q
    have := pL_iff.mp (hl i hi); have := w3 i (by omega); omega
  · intro ⟨h1, h2⟩
    have e : (fun i => if i < s then T (p + i) - 96 else 0) = (fun i => if i < (wdN w).length then (wdN w).getD i 0 - 96 else 0) := by
      funext i
      rw [← h1]
      by_cases c : i < s
      · rw [if_pos c, if_pos c, h2 i c]
      · rw [if_neg c, if_neg c]
    rw [e]
theorem ixF_sp {f : Nat → Int32} {v : Int32} : ∀ c k, (ixF f v c k = k + c ∧ ∀ i, k ≤ i → i < k + c → f i ≠ v) ∨ (k ≤ ixF f v c k ∧ ixF f v c k < k + c ∧ f (ixF f v c k) = v ∧ ∀ i, k ≤ i → i < ixF f v c k → f i ≠ v)
  | 0, k => Or.inl ⟨rfl, fun i h1 h2 => by omega⟩
  | c + 1, k => by
    by_cases d : f k = v
    · have e : ixF f v (c + 1) k = k := if_pos d
      rw [e]
      exact Or.inr ⟨Nat.le_refl k, by omega, d, fun i h1 h2 => by omega⟩
    · have e : ixF f v (c + 1) k = ixF f v c (k + 1) := if_neg d
      rw [e]
      rcases ixF_sp (f := f) (v := v) c (k + 1) with ⟨h1, h2⟩ | ⟨h1, h2, h3, h4⟩
      · refine Or.inl ⟨by omega, fun i q1 q2 => ?_⟩
        by_cases z : i = k
        · rw [z]; exact d
        · exact h2 i (by omega) (by omega)
      · refine Or.inr ⟨by omega, by omega, h3, fun i q1 q2 => ?_⟩
        by_cases z : i = k
        · rw [z]; exact d
        · exact h4 i (by omega) q2
theorem ow_iff {T : Nat → Nat} {p s w : Nat} (hw : w < 33) (hl : ∀ j, j < s → pL (T (p + j)) = true) : owW T p s = w ↔ s = (wdN w).length ∧ ∀ i, i < s → T (p + i) = (wdN w).getD i 0 := by
  obtain ⟨w1, w2, w3⟩ := wd_ok w hw
  unfold owW
  by_cases c : 6 < s
  · rw [if_pos c]
    exact ⟨fun h => by omega, fun h => by omega⟩
  rw [if_neg c, ← nm_wd hw (by omega) hl]
  have h6 := nm6_lt hl
  rcases ixF_sp (f := owK) (v := nI (nmN T p s 6)) 33 0 with ⟨h1, h2⟩ | ⟨h1, h2, h3, h4⟩
  · rw [h1, if_pos rfl]
    refine ⟨fun h => by omega, fun h => ?_⟩
    exact absurd (show owK w = nI (nmN T p s 6) by rw [h]; rfl) (h2 w (Nat.zero_le w) (by omega))
  · rw [if_neg (by omega)]
    have h3' : wnm (wdN (ixF owK (nI (nmN T p s 6)) 33 0)) = nmN T p s 6 := (nI_eq (wn_lt (by omega)) h6).mp h3
    constructor
    · intro h; rw [← h]; exact h3'.symm
    · intro h
      exact ow_inj _ (by omega) w hw (h3'.trans h)
theorem ow_40 {T : Nat → Nat} {p s : Nat} : owW T p s = 40 ∨ owW T p s < 33 := by
  unfold owW
  by_cases c : 6 < s
  · rw [if_pos c]; exact Or.inl rfl
  · rw [if_neg c]
    rcases ixF_sp (f := owK) (v := nI (nmN T p s 6)) 33 0 with ⟨h1, h2⟩ | ⟨h1, h2, h3, h4⟩
    · rw [h1, if_pos rfl]; exact Or.inl rfl
    · rw [if_neg (by omega)]; exact Or.inr (by omega)
def TX (T : Nat → Nat) (n c : Nat) : Prop := n ≤ 1600 ∧ c ≤ n ∧ frW T n c = n ∧ (∀ j, j < c → frW T n j < n) ∧ (∀ i, i < 1600 → T i ≤ 255)
/-- what stands at token k -/
def wq (T : Nat → Nat) (n c k : Nat) : Nat := if k < c then whW T n k else 43
/-- a fault's kind (0: none), its place; the next token -/
abbrev Rz : Type := Nat × Nat × Nat
def tkz (T : Nat → Nat) (n c w : Nat) (q : Rz) : Rz := if q.1 = 0 ∧ wq T n c q.2.2 = w then (0, 0, q.2.2 + 1) else q
def asz (T : Nat → Nat) (n c w : Nat) (q : Rz) : Rz := if q.1 = 0 then (if wq T n c q.2.2 = w then (0, 0, q.2.2 + 1) else (1, frW T n q.2.2, 0)) else q
def nbW (T : Nat → Nat) (n k : Nat) : Nat := nbN T (frW T n k) (min (snW T n k) 4)
def nbz (T : Nat → Nat) (n c lo hi : Nat) (q : Rz) : Rz := if q.1 = 0 then (if wq T n c q.2.2 = 41 then (if 4 < snW T n q.2.2 then (1, frW T n q.2.2 + 4, 0) else if nbW T n q.2.2 < lo ∨ hi < nbW T n q.2.2 then (2, frW T n q.2.2, 0) else (0, 0, q.2.2 + 1)) else (1, frW T n q.2.2, 0)) else q
def nmz (T : Nat → Nat) (n c : Nat) (q : Rz) : Rz := if q.1 = 0 then (if wq T n c q.2.2 = 40 then (if 6 < snW T n q.2.2 then (1, frW T n q.2.2 + 6, 0) else (0, 0, q.2.2 + 1)) else (1, frW T n q.2.2, 0)) else q
/-- the place of a fault, or none -/
def plc (q : Rz) : Int32 := if q.1 = 0 then -1 else nI q.2.1
theorem plc_0 {q : Rz} (h : q.1 = 0) : plc q = -1 := if_pos h
theorem plc_b {q : Rz} (h : ¬ q.1 = 0) : plc q = nI q.2.1 := if_neg h
theorem plc_g {q : Rz} (h : q.1 = 0) (a b : Nat) : plc q = plc (0, a, b) := by unfold plc; rw [if_pos h, if_pos rfl]
/-- the reference stands at token k -/
def PS (G : Nat → Nat → Int32) (T : Nat → Nat) (n c k : Nat) : Prop := (∃ a, G 112 2 = nI a ∧ a ≤ frW T n k ∧ skW T n a = frW T n k ∧ (G 112 4).toInt ≤ (a : Int)) ∧ G 112 3 = nI n ∧ (G 112 4 = nI (frW T n k) ↔ stB T n k = true) ∧ k ≤ c
def RS (G : Nat → Nat → Int32) (T : Nat → Nat) (n c : Nat) (q : Rz) : Prop := G 112 5 = nI q.1 ∧ q.1 ≤ 5 ∧ (q.1 = 0 → PS G T n c q.2.2) ∧ G 112 6 = plc q
/-- the reader's places alone have changed -/
def RFr (I G : Nat → Nat → Int32) : Prop := (∀ p, p ≠ 112 → G p = I p) ∧ (∀ j, j ≠ 2 → j ≠ 4 → j ≠ 5 → j ≠ 6 → j ≠ 42 → G 112 j = I 112 j)
theorem wd_sh : ∀ w, w < 33 → shp (114 + w) = (2, (wdN w).length) := by decide +kernel
section
variable {I J K : Nat → Nat → Int32} {T : Nat → Nat} {n c k w : Nat} {q : Rz}
theorem rfRf : RFr I I := ⟨fun _ _ => rfl, fun _ _ _ _ _ _ => rfl⟩
theorem rfTr (h : RFr I J) (h2 : RFr J K) : RFr I K := ⟨fun p hp => (h2.1 p hp).trans (h.1 p hp), fun j a b c d e => (h2.2 j a b c d e).trans (h.2 j a b c d e)⟩
theorem RFr.tb (h : RFr I J) (hT : TB I T) : TB J T := fun i hi => by rw [h.1 1 (by decide), h.1 113 (by decide)]; exact hT i hi
theorem RFr.kt (h : RFr I J) (hK : KT I) : KT J := ktFr hK (h.1 107 (by decide)) (fun p h1 h2 => by
  by_cases e : p = 112
  · omega
  · exact h.1 p e)
theorem tx_fr (h : TX T n c) (k : Nat) (hk : k < c) : frW T n k < n := h.2.2.2.1 k hk
theorem wq_lt (h : TX T n c) (hk : k < c) : wq T n c k = whW T n k := if_pos hk
theorem tx_b (h : TX T n c) (hk : k < c) : T (frW T n k) ≤ 255 := h.2.2.2.2 _ (by have := h.1; have := tx_fr h k hk; omega)
theorem wq_word (h : TX T n c) (hw : w < 33) : wq T n c k = w ↔ k < c ∧ pL (T (frW T n k)) = true ∧ ¬ stB T n k = true ∧ snW T n k = (wdN w).length ∧ ∀ i, i < snW T n k → T (frW T n k + i) = (wdN w).getD i 0 := by
  unfold wq
  by_cases hk : k < c
  · rw [if_pos hk]
    unfold whW
    have hlt := tx_fr h k hk
    have tg := te_gt (T := T) hlt
    by_cases d : pL (T (frW T n k)) = true
    · rw [if_pos d]
      by_cases e : stB T n k = true
      · rw [if_pos e]
        exact ⟨fun z => by omega, fun z => (z.2.2.1 e).elim⟩
      · rw [if_neg e, ow_iff hw (fun j hj => te_in (n := n) d (Nat.le_add_right _ _) (by unfold snW at hj; omega))]
        exact ⟨fun z => ⟨hk, d, e, z⟩, fun z => z.2.2.2⟩
    · rw [if_neg d]
      refine ⟨fun z => ?_, fun z => (d z.2.1).elim⟩
      by_cases e : pD (T (frW T n k)) = true
      · rw [if_pos e] at z
        by_cases f : stB T n k = true
        · rw [if_pos f] at z; omega
        · rw [if_neg f] at z; omega
      · rw [if_neg e] at z; omega
  · rw [if_neg hk]
    exact ⟨fun z => by omega, fun z => (hk z.1).elim⟩
theorem wq_sign (h : TX T n c) (hw : w < 256) (h1 : pL w = false) (h2 : pD w = false) : wq T n c k = 256 + w ↔ k < c ∧ T (frW T n k) = w := by
  unfold wq
  by_cases hk : k < c
  · rw [if_pos hk]
    have hb := whW_lt (n := n) (k := k) (tx_b h hk)
    by_cases d : pL (T (frW T n k)) = true ∨ pD (T (frW T n k)) = true
    · refine ⟨fun z => ?_, fun z => ?_⟩
      · have := hb.2.mpr d; omega
      · rw [z.2, h1, h2] at d; rcases d with d | d <;> cases d
    · have e : whW T n k = 256 + T (frW T n k) := by
        unfold whW
        rw [if_neg (fun z => d (Or.inl z)), if_neg (fun z => d (Or.inr z))]
      rw [e]
      exact ⟨fun z => ⟨hk, by omega⟩, fun z => by omega⟩
  · rw [if_neg hk]
    exact ⟨fun z => by omega, fun z => (hk z.1).elim⟩
theorem wq_num (h : TX T n c) : wq T n c k = 41 ↔ k < c ∧ pD (T (frW T n k)) = true ∧ ¬ stB T n k = true := by
  unfold wq
  by_cases hk : k < c
  · rw [if_pos hk]
    unfold whW
    by_cases d : pL (T (frW T n k)) = true
    · rw [if_pos d]
      refine ⟨fun z => ?_, fun z => by rw [pL_D d] at z; cases z.2.1⟩
      by_cases e : stB T n k = true
      · rw [if_pos e] at z; omega
      · rw [if_neg e] at z
        rcases ow_40 (T := T) (p := frW T n k) (s := snW T n k) with y | y <;> omega
    · rw [if_neg d]
      by_cases e : pD (T (frW T n k)) = true
      · rw [if_pos e]
        by_cases f : stB T n k = true
        · rw [if_pos f]; exact ⟨fun z => by omega, fun z => (z.2.2 f).elim⟩
        · rw [if_neg f]; exact ⟨fun _ => ⟨hk, e, f⟩, fun _ => rfl⟩
      · rw [if_neg e]; exact ⟨fun z => by omega, fun z => (e z.2.1).elim⟩
  · rw [if_neg hk]; exact ⟨fun z => by omega, fun z => (hk z.1).elim⟩
theorem wq_name (h : TX T n c) : wq T n c k = 40 ↔ k < c ∧ pL (T (frW T n k)) = true ∧ ¬ stB T n k = true ∧ ∀ w, w < 33 → wq T n c k ≠ w := by
  by_cases hk : k < c
  · have e0 : wq T n c k = whW T n k := if_pos hk
    rw [e0]
    unfold whW
    by_cases d : pL (T (frW T n k)) = true
    · rw [if_pos d]
      by_cases e : stB T n k = true
      · rw [if_pos e]
        exact ⟨fun z => by omega, fun z => (z.2.2.1 e).elim⟩
      · rw [if_neg e]
        rcases ow_40 (T := T) (p := frW T n k) (s := snW T n k) with y | y
        · rw [y]; exact ⟨fun _ => ⟨hk, d, e, fun w hw z => by omega⟩, fun _ => rfl⟩
        · exact ⟨fun z => by omega, fun z => (z.2.2.2 _ y rfl).elim⟩
    · rw [if_neg d]
      refine ⟨fun z => ?_, fun z => (d z.2.1).elim⟩
      by_cases e : pD (T (frW T n k)) = true
      · rw [if_pos e] at z
        by_cases f : stB T n k = true
        · rw [if_pos f] at z; omega
        · rw [if_neg f] at z; omega
      · rw [if_neg e] at z; omega
  · have e0 : wq T n c k = 43 := if_neg hk
    rw [e0]
    exact ⟨fun z => by omega, fun z => (hk z.1).elim⟩
/-- behind a word or number that was taken -/
theorem ps_word (h : TX T n c) (hk : k < c) (hp : pL (T (frW T n k)) = true ∨ pD (T (frW T n k)) = true) (h2 : J 112 2 = nI (teW T n (frW T n k))) (h3 : J 112 3 = nI n) (h4 : J 112 4 = nI (teW T n (frW T n k))) : PS J T n c (k + 1) := by
  have hlt := tx_fr h k hk
  have tl := te_le (T := T) hlt
  have hn := h.1
  have f1 := fr_le (T := T) (n := n) (k + 1)
  refine ⟨⟨_, h2, te_fr hlt, (fr_s hlt).symm, ?_⟩, h3, ?_, hk⟩
  · rw [h4, nI_toInt (by omega)]; exact Int.le_refl _
  · rw [h4, nI_eq (by omega) (by omega), stB_s]
    exact ⟨fun z => ⟨hp, z⟩, fun z => z.2⟩
/-- behind a sign that was taken -/
theorem ps_sign (h : TX T n c) (hk : k < c) (hL : pL (T (frW T n k)) = false) (hD : pD (T (frW T n k)) = false) (h2 : J 112 2 = nI (frW T n k + 1)) (h3 : J 112 3 = nI n) (h4 : (J 112 4).toInt ≤ (frW T n k : Int)) : PS J T n c (k + 1) := by
  have hlt := tx_fr h k hk
  have hn := h.1
  have te : teW T n (frW T n k) = frW T n k + 1 := by unfold teW; rw [if_neg (by rw [hL]; decide), if_neg (by rw [hD]; decide)]
  have f0 := te_fr hlt
  have f1 := fr_le (T := T) (n := n) (k + 1)
  refine ⟨⟨_, h2, by rw [← te]; exact f0, by rw [← te]; exact (fr_s hlt).symm, by omega⟩, h3, ?_, hk⟩
  constructor
  · intro z
    rw [z, nI_toInt (by omega)] at h4
    omega
  · intro z
    have := (stB_s.mp z).1
    rw [hL, hD] at this
    rcases this with this | this <;> cases this
end
