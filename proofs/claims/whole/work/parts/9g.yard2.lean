/-! sums: both ways of reading say the same -/
section
variable {T : Nat → Nat} {n c g g0 k m w f : Nat} {p p2 z : Pz} {ws ws2 cs : List Nat} {F S : Pz → Pz} {b : Bool}
/-- no operator behind it -/
def EP (T : Nat → Nat) (n c : Nat) (F : Pz → Pz) : Prop := ∀ p, p.1.2.2 ≤ 1600 → (F p).1.1 = 0 → ¬ wq T n c (F p).1.2.2 = 298 ∧ ¬ wq T n c (F p).1.2.2 = 303
theorem loop_end {w1 m1 w2 m2 : Nat} (hF : SM F) : ∀ f p, (loopP T n c w1 m1 w2 m2 F f p).1.1 = 0 → p.1.2.2 + f ≤ (loopP T n c w1 m1 w2 m2 F f p).1.2.2 ∨ (¬ wq T n c (loopP T n c w1 m1 w2 m2 F f p).1.2.2 = w1 ∧ ¬ wq T n c (loopP T n c w1 m1 w2 m2 F f p).1.2.2 = w2) := by
  intro f
  induction f with
  | zero => intro p h; exact Or.inl (Nat.le_refl _)
  | succ f ih =>
    intro p h
    have two : ∀ m, (loopP T n c w1 m1 w2 m2 F f (adP m (F (nxP p)))).1.1 = 0 → p.1.2.2 + (f + 1) ≤ (loopP T n c w1 m1 w2 m2 F f (adP m (F (nxP p)))).1.2.2 ∨ (¬ wq T n c (loopP T n c w1 m1 w2 m2 F f (adP m (F (nxP p)))).1.2.2 = w1 ∧ ¬ wq T n c (loopP T n c w1 m1 w2 m2 F f (adP m (F (nxP p)))).1.2.2 = w2) := fun m h => by
      have j3 := (hF (nxP p) (sm_loop hF f _ h).1).2.2
      have e2 : (adP m (F (nxP p))).1 = (F (nxP p)).1 := rfl
      have e4 : (nxP p).1.2.2 = p.1.2.2 + 1 := rfl
      rw [e4] at j3
      rcases ih _ h with y | y
      · rw [e2] at y; exact Or.inl (by omega)
      · exact Or.inr y
    unfold loopP at h ⊢
    by_cases z : p.1.1 = 0
    · rw [if_pos z] at h ⊢
      by_cases y1 : wq T n c p.1.2.2 = w1
      · rw [if_pos y1] at h ⊢; exact two m1 h
      · rw [if_neg y1] at h ⊢
        by_cases y2 : wq T n c p.1.2.2 = w2
        · rw [if_pos y2] at h ⊢; exact two m2 h
        · rw [if_neg y2]; exact Or.inr ⟨y1, y2⟩
    · rw [if_neg z] at h; exact (z h).elim
/-- a run ends where no sign of its own follows -/
theorem run_end {w1 m1 w2 m2 : Nat} (hF : SM F) (hc : c ≤ 1600) (h1 : w1 ≠ 43) (h2 : w2 ≠ 43) (h : (loopP T n c w1 m1 w2 m2 F 1600 (F p)).1.1 = 0) : ¬ wq T n c (loopP T n c w1 m1 w2 m2 F 1600 (F p)).1.2.2 = w1 ∧ ¬ wq T n c (loopP T n c w1 m1 w2 m2 F 1600 (F p)).1.2.2 = w2 := by
  have j3 := (hF p (sm_loop hF 1600 _ h).1).2.2
  rcases loop_end hF 1600 _ h with y | y
  · have far : ∀ w, w ≠ 43 → ¬ wq T n c (loopP T n c w1 m1 w2 m2 F 1600 (F p)).1.2.2 = w := fun w hw e => by
      have := wq_c (T := T) (n := n) (c := c) (k := (loopP T n c w1 m1 w2 m2 F 1600 (F p)).1.2.2) (by rw [e]; exact hw)
      omega
    exact ⟨far w1 h1, far w2 h2⟩
  · exact y
/-- the end of what is run keeps what the end of a part keeps -/
theorem loop_keep {w1 m1 w2 m2 : Nat} {W : Nat → Prop} (hF : ∀ p, (F p).1.1 = 0 → W (F p).1.2.2) : ∀ f p, (p.1.1 = 0 → W p.1.2.2) → (loopP T n c w1 m1 w2 m2 F f p).1.1 = 0 → W (loopP T n c w1 m1 w2 m2 F f p).1.2.2 := by
  intro f
  induction f with
  | zero => intro p hp h; exact hp h
  | succ f ih =>
    intro p hp h
    unfold loopP at h ⊢
    by_cases z : p.1.1 = 0
    · rw [if_pos z] at h ⊢
      by_cases y1 : wq T n c p.1.2.2 = w1
      · rw [if_pos y1] at h ⊢; exact ih _ (fun z => hF _ z) h
      · rw [if_neg y1] at h ⊢
        by_cases y2 : wq T n c p.1.2.2 = w2
        · rw [if_pos y2] at h ⊢; exact ih _ (fun z => hF _ z) h
        · rw [if_neg y2]; exact hp z
    · rw [if_neg z]; rw [if_neg z] at h; exact hp h
/-- a way F of reading, on which the waiting way goes along -/
def YW (T : Nat → Nat) (n c g0 g : Nat) (F : Pz → Pz) : Prop := ∀ p ws z, p.1.1 = 0 → g0 = g + opnW ws → Yd T n c g0 true (F p) ws z → Yd T n c g0 false p ws z
theorem hd_ne {lo m : Nat} (h : ¬ (lo ≤ m ∧ m ≤ 4)) : drO lo cs (m :: ws) = (cs, m :: ws) := if_neg h
/-- nothing of this kind waits uppermost -/
def NT (lo : Nat) : List Nat → Prop
  | [] => True
  | m :: _ => ¬ (lo ≤ m ∧ m ≤ 4)
theorem nt_dr {lo : Nat} : ∀ {ws cs : List Nat}, NT lo ws → drO lo cs ws = (cs, ws)
  | [], _, _ => rfl
  | _ :: _, _, h => if_neg h
/-- an operator behind a piece -/
theorem go_op {lo m : Nat} (hp : p.1.1 = 0) (h : NT lo ws) (hw : (lo = 3 ∧ ((wq T n c p.1.2.2 = 298 ∧ m = 3) ∨ (wq T n c p.1.2.2 = 303 ∧ m = 4))) ∨ (lo = 1 ∧ ((wq T n c p.1.2.2 = 299 ∧ m = 1) ∨ (wq T n c p.1.2.2 = 301 ∧ m = 2)))) : goP T n c p ws = (nxP p, some (m :: ws)) := by
  rw [go_nc (fun z => by have := z.2.1; omega)]
  unfold opY
  rw [if_pos hp]
  rcases hw with ⟨rfl, h1⟩ | ⟨rfl, h1⟩
  · rw [if_pos (by omega), nt_dr h]
    rcases h1 with ⟨h2, rfl⟩ | ⟨h2, rfl⟩
    · rw [if_pos h2]; rfl
    · rw [if_neg (by omega)]; rfl
  · rw [if_neg (by omega), if_pos (by omega), nt_dr h]
    rcases h1 with ⟨h2, rfl⟩ | ⟨h2, rfl⟩
    · rw [if_pos h2]; rfl
    · rw [if_neg (by omega)]; rfl
theorem opn_lo (h : m < 20) : opnW (m :: ws) = opnW ws := by
  show opnW ws + (if isMk m then 1 else 0) = _
  rw [if_neg (by unfold isMk; omega)]
  exact Nat.add_zero _
/-- runs of parts -/
theorem yw_loop {lo w1 m1 w2 m2 : Nat} (hk : (lo = 3 ∧ w1 = 298 ∧ m1 = 3 ∧ w2 = 303 ∧ m2 = 4) ∨ (lo = 1 ∧ w1 = 299 ∧ m1 = 1 ∧ w2 = 301 ∧ m2 = 2)) (hF : ∀ p ws z, p.1.1 = 0 → g0 = g + opnW ws → (lo = 1 → NT 3 ws) → Yd T n c g0 true (F p) ws z → Yd T n c g0 false p ws z) (hE : lo = 1 → ∀ p, (F p).1.1 = 0 → ¬ wq T n c (F p).1.2.2 = 298 ∧ ¬ wq T n c (F p).1.2.2 = 303) : ∀ f p ws z, g0 = g + opnW ws → NT lo ws → Yd T n c g0 true (loopP T n c w1 m1 w2 m2 F f p) ws z → Yd T n c g0 true p ws z := by
  intro f
  induction f with
  | zero => intro p ws z _ _ h; exact h
  | succ f ih =>
    intro p ws z hg hn h
    have go : ∀ m, ((lo = 3 ∧ ((wq T n c p.1.2.2 = 298 ∧ m = 3) ∨ (wq T n c p.1.2.2 = 303 ∧ m = 4))) ∨ (lo = 1 ∧ ((wq T n c p.1.2.2 = 299 ∧ m = 1) ∨ (wq T n c p.1.2.2 = 301 ∧ m = 2)))) → p.1.1 = 0 → Yd T n c g0 true (loopP T n c w1 m1 w2 m2 F f (adP m (F (nxP p)))) ws z → Yd T n c g0 true p ws z := fun m hm hp h => by
      have h1 := ih _ _ _ hg hn h
      have h2 : Yd T n c g0 true (F (nxP p)) (m :: ws) z := yd_dr h1 (by
        by_cases l3 : lo = 3
        · omega
        · exact Or.inr (Or.inr ⟨by omega, fun y => hE (by omega) _ y⟩))
      have h3 : Yd T n c g0 false (nxP p) (m :: ws) z := hF _ _ _ rfl (by rw [opn_lo (by omega)]; exact hg) (fun l1 => by show ¬ (3 ≤ m ∧ m ≤ 4); omega) h2
      rw [yd_aft hp, go_op hp hn hm]
      exact Or.inl ⟨_, rfl, h3⟩
    unfold loopP at h
    by_cases hp : p.1.1 = 0
    · rw [if_pos hp] at h
      by_cases y1 : wq T n c p.1.2.2 = w1
      · rw [if_pos y1] at h
        exact go m1 (by omega) hp h
      · rw [if_neg y1] at h
        by_cases y2 : wq T n c p.1.2.2 = w2
        · rw [if_pos y2] at h
          exact go m2 (by omega) hp h
        · rw [if_neg y2] at h; exact h
    · rw [if_neg hp] at h; exact h
/-- a bracket that does not close -/
theorem go_open (hp : p.1.1 = 0) (h1 : ¬ wq T n c p.1.2.2 = 298 ∧ ¬ wq T n c p.1.2.2 = 303 ∧ ¬ wq T n c p.1.2.2 = 299 ∧ ¬ wq T n c p.1.2.2 = 301) (hm : isMk m) (h2 : (m = 21 ∨ m = 22) → ¬ wq T n c p.1.2.2 = 300) (h3 : ¬ (m = 21 ∨ m = 22) → ¬ wq T n c p.1.2.2 = 297) : goP T n c p (m :: ws) = (((1, frW T n p.1.2.2, 0), p.2 ++ m :: ws), none) := by
  have e1 : mkO (m :: ws) = m := if_pos hm
  rw [go_nc (fun z => by rw [e1] at z; have := z.2; omega)]
  unfold opY
  rw [if_pos hp, if_neg (by omega), if_neg (by omega), e1]
  by_cases y : m = 21 ∨ m = 22
  · rw [if_pos y, if_neg (h2 y)]
  · rw [if_neg y, if_neg (by unfold isMk at hm; omega)]
theorem go_comma (hp : p.1.1 = 0) (h1 : wq T n c p.1.2.2 = 300) (hm : m = 21 ∨ m = 22) : goP T n c p (m :: ws) = (nxP p, some ((m + 2) :: ws)) := by
  have e1 : mkO (m :: ws) = m := if_pos (by unfold isMk; omega)
  have e2 : drM p.2 (m :: ws) = (p.2, m :: ws) := if_pos (by unfold isMk; omega)
  rw [go_nc (fun z => by have := z.2.1; omega)]
  unfold opY
  rw [if_pos hp, if_neg (by omega), if_neg (by omega), e1, if_pos hm, if_pos h1, e2]
  rfl
end
