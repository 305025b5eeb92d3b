/-! sums again, as the reference reads them: what waits -/
abbrev isMk (w : Nat) : Prop := 20 ≤ w ∧ w ≤ 24
/-- the mark that waits uppermost (0: none) -/
def mkO : List Nat → Nat
  | [] => 0
  | w :: ws => if isMk w then w else mkO ws
/-- all drop that wait above the mark -/
def drM : List Nat → List Nat → List Nat × List Nat
  | cs, [] => (cs, [])
  | cs, w :: ws => if isMk w then (cs, w :: ws) else drM (cs ++ [w]) ws
/-- all drop that bind at least so -/
def drO (lo : Nat) : List Nat → List Nat → List Nat × List Nat
  | cs, [] => (cs, [])
  | cs, w :: ws => if lo ≤ w ∧ w ≤ 4 then drO lo (cs ++ [w]) ws else (cs, w :: ws)
def clP (T : Nat → Nat) (n c : Nat) : Nat → Pz → List Nat → Pz × List Nat
  | 0, p, ws => (p, ws)
  | f + 1, p, ws => if p.1.1 = 0 ∧ wq T n c p.1.2.2 = 297 ∧ (mkO ws = 20 ∨ mkO ws = 23 ∨ mkO ws = 24) then clP T n c f ((0, 0, p.1.2.2 + 1), (drM p.2 ws).1 ++ (if mkO ws = 20 then [] else [mkO ws - 18])) (drM p.2 ws).2.tail else (p, ws)
/-- behind a piece: what waits from now on (none: the sum ends, all drop) -/
def opY (T : Nat → Nat) (n c : Nat) (p : Pz) (ws : List Nat) : Pz × Option (List Nat) :=
  if p.1.1 = 0 then
    if wq T n c p.1.2.2 = 298 ∨ wq T n c p.1.2.2 = 303 then (((0, 0, p.1.2.2 + 1), (drO 3 p.2 ws).1), some ((if wq T n c p.1.2.2 = 298 then 3 else 4) :: (drO 3 p.2 ws).2))
    else if wq T n c p.1.2.2 = 299 ∨ wq T n c p.1.2.2 = 301 then (((0, 0, p.1.2.2 + 1), (drO 1 p.2 ws).1), some ((if wq T n c p.1.2.2 = 299 then 1 else 2) :: (drO 1 p.2 ws).2))
    else if mkO ws = 21 ∨ mkO ws = 22 then
      if wq T n c p.1.2.2 = 300 then (((0, 0, p.1.2.2 + 1), (drM p.2 ws).1), some ((mkO ws + 2) :: (drM p.2 ws).2.tail)) else (((1, frW T n p.1.2.2, 0), p.2 ++ ws), none)
    else if mkO ws = 0 then ((p.1, p.2 ++ ws), none)
    else (((1, frW T n p.1.2.2, 0), p.2 ++ ws), none)
  else ((p.1, p.2 ++ ws), none)
def goP (T : Nat → Nat) (n c : Nat) (p : Pz) (ws : List Nat) : Pz × Option (List Nat) := opY T n c (clP T n c ws.length p ws).1 (clP T n c ws.length p ws).2
/-- a piece without brackets -/
def onB (T : Nat → Nat) (n c : Nat) (p : Pz) : Pz := if isF (wq T n c p.1.2.2) then adP (fcN (wq T n c p.1.2.2)) (nxP p) else adP (1000 + nbW T n p.1.2.2) (qP (nbz T n c 0 9999) p)
/-- up to the next piece without brackets; g more may be open -/
def onP (T : Nat → Nat) (n c : Nat) : Nat → Pz → List Nat → Pz × List Nat
  | 0, p, ws =>
    if wq T n c p.1.2.2 = 296 then (dpP T n p, ws)
    else if wq T n c p.1.2.2 = 31 ∨ wq T n c p.1.2.2 = 32 then (if wq T n c (p.1.2.2 + 1) = 296 then (dpP T n (nxP p), ws) else (((1, frW T n (p.1.2.2 + 1), 0), p.2), ws))
    else (onB T n c p, ws)
  | g + 1, p, ws =>
    if wq T n c p.1.2.2 = 296 then onP T n c g (nxP p) (20 :: ws)
    else if wq T n c p.1.2.2 = 31 ∨ wq T n c p.1.2.2 = 32 then (if wq T n c (p.1.2.2 + 1) = 296 then onP T n c g (nxP (nxP p)) ((if wq T n c p.1.2.2 = 31 then 21 else 22) :: ws) else (((1, frW T n (p.1.2.2 + 1), 0), p.2), ws))
    else (onB T n c p, ws)
/-- how many brackets wait -/
def opnW : List Nat → Nat
  | [] => 0
  | w :: ws => opnW ws + (if isMk w then 1 else 0)
/-- a sum's way in f steps: before a piece (false), behind a piece (true) -/
def YdF (T : Nat → Nat) (n c g0 : Nat) : Nat → Bool → Pz → List Nat → Pz → Prop
  | 0, _, _, _, _ => False
  | f + 1, false, p, ws, z => p.1.1 = 0 ∧ YdF T n c g0 f true (onP T n c (g0 - opnW ws) p ws).1 (onP T n c (g0 - opnW ws) p ws).2 z
  | f + 1, true, p, ws, z => (¬ p.1.1 = 0 ∧ z.1 = p.1) ∨ (p.1.1 = 0 ∧ ((∃ ws2, (goP T n c p ws).2 = some ws2 ∧ YdF T n c g0 f false (goP T n c p ws).1 ws2 z) ∨ ((goP T n c p ws).2 = none ∧ z.1 = (goP T n c p ws).1.1 ∧ (z.1.1 = 0 → z.2 = (goP T n c p ws).1.2))))
def Yd (T : Nat → Nat) (n c g0 : Nat) (b : Bool) (p : Pz) (ws : List Nat) (z : Pz) : Prop := ∃ f, YdF T n c g0 f b p ws z
section
variable {T : Nat → Nat} {n c g g0 k m w f : Nat} {p p2 z : Pz} {ws ws2 cs : List Nat} {F S : Pz → Pz}
theorem drM_len : ∀ {ws cs : List Nat}, (drM cs ws).2.length ≤ ws.length
  | [], _ => Nat.le_refl _
  | w :: ws, cs => by
    unfold drM
    by_cases h : isMk w
    · rw [if_pos h]; exact Nat.le_refl _
    · rw [if_neg h]; exact Nat.le_succ_of_le drM_len
theorem tail_le {l : List Nat} {k : Nat} (h : l.length ≤ k + 1) : l.tail.length ≤ k := by
  rw [List.length_tail]; omega
theorem clP_s : clP T n c (f + 1) p ws = if p.1.1 = 0 ∧ wq T n c p.1.2.2 = 297 ∧ (mkO ws = 20 ∨ mkO ws = 23 ∨ mkO ws = 24) then clP T n c f ((0, 0, p.1.2.2 + 1), (drM p.2 ws).1 ++ (if mkO ws = 20 then [] else [mkO ws - 18])) (drM p.2 ws).2.tail else (p, ws) := rfl
theorem clP_f : ∀ {f : Nat} {p : Pz} {ws : List Nat}, ws.length ≤ f → clP T n c (f + 1) p ws = clP T n c f p ws
  | 0, p, ws, h => by
    have e : ws = [] := List.eq_nil_of_length_eq_zero (Nat.le_zero.mp h)
    subst e
    show (if _ then _ else _) = _
    rw [if_neg (fun z => by have := z.2.2; unfold mkO at this; omega)]
    rfl
  | f + 1, p, ws, h => by
    rw [clP_s (f := f + 1), clP_s (f := f) (p := p) (ws := ws)]
    by_cases e : p.1.1 = 0 ∧ wq T n c p.1.2.2 = 297 ∧ (mkO ws = 20 ∨ mkO ws = 23 ∨ mkO ws = 24)
    · rw [if_pos e, if_pos e]
      exact clP_f (tail_le (Nat.le_trans drM_len h))
    · rw [if_neg e, if_neg e]
/-- a bracket closes -/
theorem go_cl (hp : p.1.1 = 0) (h : wq T n c p.1.2.2 = 297) (hm : m = 20 ∨ m = 23 ∨ m = 24) : goP T n c p (m :: ws) = goP T n c (if m = 20 then nxP p else adP (m - 18) (nxP p)) ws := by
  have mk : isMk m := by unfold isMk; omega
  have e1 : mkO (m :: ws) = m := if_pos mk
  have e2 : drM p.2 (m :: ws) = (p.2, m :: ws) := if_pos mk
  have key : clP T n c (m :: ws).length p (m :: ws) = clP T n c ws.length (if m = 20 then nxP p else adP (m - 18) (nxP p)) ws := by
    show clP T n c (ws.length + 1) p (m :: ws) = _
    rw [clP, if_pos ⟨hp, h, by rw [e1]; exact hm⟩, e1, e2]
    by_cases z : m = 20
    · rw [if_pos z, if_pos z, List.append_nil]; rfl
    · rw [if_neg z, if_neg z]; rfl
  unfold goP
  rw [key]
/-- what has waited drops -/
theorem go_dr (hm : m = 3 ∨ m = 4 ∨ ((m = 1 ∨ m = 2) ∧ ¬ wq T n c p.1.2.2 = 298 ∧ ¬ wq T n c p.1.2.2 = 303)) : goP T n c p (m :: ws) = goP T n c (adP m p) ws := by
  have mk : ¬ isMk m := by unfold isMk; omega
  have e1 : mkO (m :: ws) = mkO ws := if_neg mk
  have e2 : drM p.2 (m :: ws) = drM (p.2 ++ [m]) ws := if_neg mk
  have eq1 : (adP m p).1 = p.1 := rfl
  have eq2 : (adP m p).2 = p.2 ++ [m] := rfl
  have fin : opY T n c p (m :: ws) = opY T n c (adP m p) ws := by
    unfold opY
    rw [eq1, eq2, e1, e2]
    by_cases hp : p.1.1 = 0
    · rw [if_pos hp, if_pos hp]
      by_cases a1 : wq T n c p.1.2.2 = 298 ∨ wq T n c p.1.2.2 = 303
      · have m3 : 3 ≤ m ∧ m ≤ 4 := by omega
        have e3 : drO 3 p.2 (m :: ws) = drO 3 (p.2 ++ [m]) ws := if_pos m3
        rw [if_pos a1, if_pos a1, e3]
      · rw [if_neg a1, if_neg a1]
        by_cases a2 : wq T n c p.1.2.2 = 299 ∨ wq T n c p.1.2.2 = 301
        · have m3 : 1 ≤ m ∧ m ≤ 4 := by omega
          have e3 : drO 1 p.2 (m :: ws) = drO 1 (p.2 ++ [m]) ws := if_pos m3
          rw [if_pos a2, if_pos a2, e3]
        · rw [if_neg a2, if_neg a2, List.append_assoc]; rfl
    · rw [if_neg hp, if_neg hp, List.append_assoc]; rfl
  unfold goP
  by_cases e : p.1.1 = 0 ∧ wq T n c p.1.2.2 = 297 ∧ (mkO ws = 20 ∨ mkO ws = 23 ∨ mkO ws = 24)
  · have key : clP T n c (m :: ws).length p (m :: ws) = clP T n c ws.length (adP m p) ws := by
      have e0 : clP T n c ws.length (adP m p) ws = clP T n c (ws.length + 1) (adP m p) ws := (clP_f (Nat.le_refl _)).symm
      rw [e0]
      show clP T n c (ws.length + 1) p (m :: ws) = _
      rw [clP, clP, e1, e2, eq1, eq2, if_pos e, if_pos e]
    rw [key]
  · have k1 : clP T n c (m :: ws).length p (m :: ws) = (p, m :: ws) := by
      show clP T n c (ws.length + 1) p (m :: ws) = _
      rw [clP, e1, if_neg e]
    have k2 : clP T n c ws.length (adP m p) ws = (adP m p, ws) := by
      rw [← clP_f (Nat.le_refl ws.length), clP, eq1, if_neg e]
    rw [k1, k2]
    exact fin
/-- no bracket closes -/
theorem go_nc (h : ¬ (p.1.1 = 0 ∧ wq T n c p.1.2.2 = 297 ∧ (mkO ws = 20 ∨ mkO ws = 23 ∨ mkO ws = 24))) : goP T n c p ws = opY T n c p ws := by
  unfold goP
  rw [← clP_f (Nat.le_refl ws.length), clP, if_neg h]
theorem yd_one : Yd T n c g0 false p ws z ↔ p.1.1 = 0 ∧ Yd T n c g0 true (onP T n c (g0 - opnW ws) p ws).1 (onP T n c (g0 - opnW ws) p ws).2 z := by
  constructor
  · intro h
    obtain ⟨f, h⟩ := h
    cases f with
    | zero => exact h.elim
    | succ f => exact ⟨h.1, f, h.2⟩
  · intro h
    obtain ⟨h1, f, h2⟩ := h
    exact ⟨f + 1, h1, h2⟩
theorem yd_aft (hp : p.1.1 = 0) : Yd T n c g0 true p ws z ↔ ((∃ ws2, (goP T n c p ws).2 = some ws2 ∧ Yd T n c g0 false (goP T n c p ws).1 ws2 z) ∨ ((goP T n c p ws).2 = none ∧ z.1 = (goP T n c p ws).1.1 ∧ (z.1.1 = 0 → z.2 = (goP T n c p ws).1.2))) := by
  constructor
  · intro h
    obtain ⟨f, h⟩ := h
    cases f with
    | zero => exact h.elim
    | succ f =>
      rcases h with h | h
      · exact (h.1 hp).elim
      · rcases h.2 with h | h
        · obtain ⟨ws2, h1, h2⟩ := h
          exact Or.inl ⟨ws2, h1, f, h2⟩
        · exact Or.inr h
  · intro h
    rcases h with h | h
    · obtain ⟨ws2, h1, f, h2⟩ := h
      exact ⟨f + 1, Or.inr ⟨hp, Or.inl ⟨ws2, h1, h2⟩⟩⟩
    · exact ⟨1, Or.inr ⟨hp, Or.inr h⟩⟩
theorem yd_badz (h : Yd T n c g0 true p ws z) (hp : ¬ p.1.1 = 0) : z.1 = p.1 := by
  obtain ⟨f, h⟩ := h
  cases f with
  | zero => exact h.elim
  | succ f =>
    rcases h with h | h
    · exact h.2
    · exact (hp h.1).elim
theorem yd_bad (hp : ¬ p.1.1 = 0) (hz : z.1 = p.1) : Yd T n c g0 true p ws z := ⟨1, Or.inl ⟨hp, hz⟩⟩
/-- where both go on alike -/
theorem yd_go (h : Yd T n c g0 true p2 ws2 z) (h1 : p.1.1 = 0) (h2 : p2.1.1 = 0) (he : goP T n c p ws = goP T n c p2 ws2) : Yd T n c g0 true p ws z := by
  rw [yd_aft h1, he, ← yd_aft h2]
  exact h
theorem yd_dr (h : Yd T n c g0 true (adP m p) ws z) (hm : m = 3 ∨ m = 4 ∨ ((m = 1 ∨ m = 2) ∧ (p.1.1 = 0 → ¬ wq T n c p.1.2.2 = 298 ∧ ¬ wq T n c p.1.2.2 = 303))) : Yd T n c g0 true p (m :: ws) z := by
  by_cases hp : p.1.1 = 0
  · exact yd_go h hp hp (go_dr (hm.elim Or.inl (fun y => y.elim (fun y => Or.inr (Or.inl y)) (fun y => Or.inr (Or.inr ⟨y.1, y.2 hp⟩)))))
  · exact yd_bad hp (yd_badz (p := adP m p) h hp)
end
