/-! tests, as the reference reads them: what waits -/
def hasS : List Nat → Bool
  | [] => false
  | w :: ws => if w = 25 then true else hasS ws
def drN : List Nat → List Nat → List Nat × List Nat
  | cs, [] => (cs, [])
  | cs, w :: ws => if w = 16 then drN (cs ++ [w]) ws else (cs, w :: ws)
/-- all drop above the square, and it goes -/
def drS : List Nat → List Nat → List Nat × List Nat
  | cs, [] => (cs, [])
  | cs, w :: ws => if w = 25 then (cs, ws) else drS (cs ++ [w]) ws
def drA (lo : Nat) : List Nat → List Nat → List Nat × List Nat
  | cs, [] => (cs, [])
  | cs, w :: ws => if w = 14 ∨ (w = 15 ∧ lo = 1) then drA lo (cs ++ [w]) ws else (cs, w :: ws)
def clT (T : Nat → Nat) (n c : Nat) : Nat → Pz → List Nat → Pz × List Nat
  | 0, p, ws => (p, ws)
  | f + 1, p, ws => if p.1.1 = 0 ∧ wq T n c p.1.2.2 = 349 ∧ hasS ws = true then clT T n c f ((0, 0, p.1.2.2 + 1), (drN (drS p.2 ws).1 (drS p.2 ws).2).1) (drN (drS p.2 ws).1 (drS p.2 ws).2).2 else (p, ws)
def opT (T : Nat → Nat) (n c : Nat) (p : Pz) (ws : List Nat) : Pz × Option (List Nat) :=
  if p.1.1 = 0 then
    if wq T n c p.1.2.2 = 21 then (((0, 0, p.1.2.2 + 1), (drA 0 p.2 ws).1), some (14 :: (drA 0 p.2 ws).2))
    else if wq T n c p.1.2.2 = 20 then (((0, 0, p.1.2.2 + 1), (drA 1 p.2 ws).1), some (15 :: (drA 1 p.2 ws).2))
    else if hasS ws = true then (((1, frW T n p.1.2.2, 0), p.2 ++ ws), none)
    else ((p.1, p.2 ++ ws), none)
  else ((p.1, p.2 ++ ws), none)
/-- behind a fact: what waits from now on (none: the test ends, all drop) -/
def goT (T : Nat → Nat) (n c : Nat) (p : Pz) (ws : List Nat) : Pz × Option (List Nat) := opT T n c (clT T n c ws.length (p.1, (drN p.2 ws).1) (drN p.2 ws).2).1 (clT T n c ws.length (p.1, (drN p.2 ws).1) (drN p.2 ws).2).2
def fcB (T : Nat → Nat) (n c g : Nat) (p : Pz) : Pz := if wq T n c p.1.2.2 = 23 then adP 17 (nxP p) else cmpP T n c (pSum T n c g) p
def onT (T : Nat → Nat) (n c : Nat) : Nat → Pz → List Nat → Pz × List Nat
  | 0, p, ws => if wq T n c p.1.2.2 = 347 ∨ wq T n c p.1.2.2 = 22 then (dpP T n p, ws) else (fcB T n c 0 p, ws)
  | g + 1, p, ws => if wq T n c p.1.2.2 = 347 then onT T n c g (nxP p) (25 :: ws) else if wq T n c p.1.2.2 = 22 then onT T n c g (nxP p) (16 :: ws) else (fcB T n c (g + 1) p, ws)
def opnT : List Nat → Nat
  | [] => 0
  | w :: ws => opnT ws + (if w = 25 ∨ w = 16 then 1 else 0)
def YtF (T : Nat → Nat) (n c g0 : Nat) : Nat → Bool → Pz → List Nat → Pz → Prop
  | 0, _, _, _, _ => False
  | f + 1, false, p, ws, z => p.1.1 = 0 ∧ YtF T n c g0 f true (onT T n c (g0 - opnT ws) p ws).1 (onT T n c (g0 - opnT ws) p ws).2 z
  | f + 1, true, p, ws, z => (¬ p.1.1 = 0 ∧ z.1 = p.1) ∨ (p.1.1 = 0 ∧ ((∃ ws2, (goT T n c p ws).2 = some ws2 ∧ YtF T n c g0 f false (goT T n c p ws).1 ws2 z) ∨ ((goT T n c p ws).2 = none ∧ z.1 = (goT T n c p ws).1.1 ∧ (z.1.1 = 0 → z.2 = (goT T n c p ws).1.2))))
def Yt (T : Nat → Nat) (n c g0 : Nat) (b : Bool) (p : Pz) (ws : List Nat) (z : Pz) : Prop := ∃ f, YtF T n c g0 f b p ws z
/-- no not waits uppermost, nor what binds so -/
def NN (lo : Nat) : List Nat → Prop
  | [] => True
  | w :: _ => w ≠ 16 ∧ w ≠ 14 ∧ ¬ (w = 15 ∧ lo = 1)
section
variable {T : Nat → Nat} {n c g g0 k m w f lo : Nat} {p p2 z y : Pz} {ws ws2 cs : List Nat} {F S : Pz → Pz}
theorem drN_len : ∀ {ws cs : List Nat}, (drN cs ws).2.length ≤ ws.length
  | [], _ => Nat.le_refl _
  | w :: ws, cs => by
    unfold drN
    by_cases h : w = 16
    · rw [if_pos h]; exact Nat.le_succ_of_le drN_len
    · rw [if_neg h]; exact Nat.le_refl _
theorem drS_len : ∀ {ws cs : List Nat}, hasS ws = true → (drS cs ws).2.length + 1 ≤ ws.length
  | [], _, h => by cases h
  | w :: ws, cs, h => by
    unfold drS
    unfold hasS at h
    by_cases e : w = 25
    · rw [if_pos e]; exact Nat.le_refl _
    · rw [if_neg e] at h
      rw [if_neg e]
      exact Nat.le_succ_of_le (drS_len h)
theorem clT_s : clT T n c (f + 1) p ws = if p.1.1 = 0 ∧ wq T n c p.1.2.2 = 349 ∧ hasS ws = true then clT T n c f ((0, 0, p.1.2.2 + 1), (drN (drS p.2 ws).1 (drS p.2 ws).2).1) (drN (drS p.2 ws).1 (drS p.2 ws).2).2 else (p, ws) := rfl
theorem clT_f : ∀ {f : Nat} {p : Pz} {ws : List Nat}, ws.length ≤ f → clT T n c (f + 1) p ws = clT T n c f p ws
  | 0, p, ws, h => by
    have e : ws = [] := List.eq_nil_of_length_eq_zero (Nat.le_zero.mp h)
    subst e
    rw [clT_s, if_neg (fun z => by cases z.2.2)]
    rfl
  | f + 1, p, ws, h => by
    rw [clT_s (f := f + 1), clT_s (f := f) (p := p) (ws := ws)]
    by_cases e : p.1.1 = 0 ∧ wq T n c p.1.2.2 = 349 ∧ hasS ws = true
    · rw [if_pos e, if_pos e]
      have l1 := drS_len (cs := p.2) e.2.2
      have l2 := drN_len (ws := (drS p.2 ws).2) (cs := (drS p.2 ws).1)
      exact clT_f (by omega)
    · rw [if_neg e, if_neg e]
/-- any length will do -/
theorem clT_le {f f2 : Nat} (h : ws.length ≤ f) (h2 : f ≤ f2) : clT T n c f2 p ws = clT T n c f p ws := by
  induction f2 with
  | zero => rw [show f = 0 by omega]
  | succ f2 ih =>
    by_cases e : f = f2 + 1
    · rw [e]
    · rw [clT_f (by omega)]; exact ih (by omega)
theorem goT_f {f : Nat} (h : ws.length ≤ f) : goT T n c p ws = opT T n c (clT T n c f (p.1, (drN p.2 ws).1) (drN p.2 ws).2).1 (clT T n c f (p.1, (drN p.2 ws).1) (drN p.2 ws).2).2 := by
  unfold goT
  rw [clT_le (f := ws.length) (f2 := f) drN_len h]
theorem nn_dr : ∀ {ws cs : List Nat}, NN lo ws → drN cs ws = (cs, ws)
  | [], _, _ => rfl
  | _ :: _, _, h => if_neg h.1
theorem nn_da : ∀ {ws cs : List Nat}, NN lo ws → drA lo cs ws = (cs, ws)
  | [], _, _ => rfl
  | w :: ws, _, h => if_neg (fun x => x.elim (fun y => h.2.1 y) (fun y => h.2.2 y))
/-- a not drops -/
theorem gt_n : goT T n c p (16 :: ws) = goT T n c (adP 16 p) ws := by
  rw [goT_f (Nat.le_refl _), goT_f (p := adP 16 p) (f := (16 :: ws).length) (Nat.le_succ _)]
  rfl
/-- and, or: they drop -/
theorem gt_dr (hn : NN 0 ws) (hm : m = 14 ∨ (m = 15 ∧ ¬ wq T n c p.1.2.2 = 21)) : goT T n c p (m :: ws) = goT T n c (adP m p) ws := by
  have eq1 : (adP m p).1 = p.1 := rfl
  have eq2 : (adP m p).2 = p.2 ++ [m] := rfl
  have dn : ∀ {cs}, drN cs (m :: ws) = (cs, m :: ws) := fun {cs} => if_neg (by omega)
  have hs : hasS (m :: ws) = hasS ws := if_neg (by omega)
  have ds : ∀ {cs}, drS cs (m :: ws) = drS (cs ++ [m]) ws := fun {cs} => if_neg (by omega)
  rw [goT_f (Nat.le_refl _), goT_f (p := adP m p) (f := (m :: ws).length) (Nat.le_succ _), dn, nn_dr hn]
  show opT T n c (clT T n c (ws.length + 1) (p.1, p.2) (m :: ws)).1 (clT T n c (ws.length + 1) (p.1, p.2) (m :: ws)).2 = opT T n c (clT T n c (ws.length + 1) (p.1, p.2 ++ [m]) ws).1 (clT T n c (ws.length + 1) (p.1, p.2 ++ [m]) ws).2
  rw [clT_s (p := (p.1, p.2)), clT_s (p := (p.1, p.2 ++ [m])), hs]
  by_cases e : p.1.1 = 0 ∧ wq T n c p.1.2.2 = 349 ∧ hasS ws = true
  · rw [if_pos e, if_pos e]
    show opT T n c (clT T n c ws.length ((0, 0, p.1.2.2 + 1), (drN (drS p.2 (m :: ws)).1 (drS p.2 (m :: ws)).2).1) (drN (drS p.2 (m :: ws)).1 (drS p.2 (m :: ws)).2).2).1 (clT T n c ws.length ((0, 0, p.1.2.2 + 1), (drN (drS p.2 (m :: ws)).1 (drS p.2 (m :: ws)).2).1) (drN (drS p.2 (m :: ws)).1 (drS p.2 (m :: ws)).2).2).2 = _
    rw [ds]
  · rw [if_neg e, if_neg e]
    show opT T n c (p.1, p.2) (m :: ws) = opT T n c (p.1, p.2 ++ [m]) ws
    unfold opT
    by_cases hp : p.1.1 = 0
    · rw [if_pos (show ((p.1, p.2) : Pz).1.1 = 0 from hp), if_pos (show ((p.1, p.2 ++ [m]) : Pz).1.1 = 0 from hp)]
      show (if wq T n c p.1.2.2 = 21 then _ else _) = (if wq T n c p.1.2.2 = 21 then _ else _)
      by_cases a1 : wq T n c p.1.2.2 = 21
      · have m4 : m = 14 := by omega
        have e3 : drA 0 p.2 (m :: ws) = drA 0 (p.2 ++ [m]) ws := if_pos (Or.inl m4)
        rw [if_pos a1, if_pos a1]
        show (((0, 0, p.1.2.2 + 1), (drA 0 p.2 (m :: ws)).1), some (14 :: (drA 0 p.2 (m :: ws)).2)) = _
        rw [e3]
      · rw [if_neg a1, if_neg a1]
        show (if wq T n c p.1.2.2 = 20 then _ else _) = (if wq T n c p.1.2.2 = 20 then _ else _)
        by_cases a2 : wq T n c p.1.2.2 = 20
        · have e3 : drA 1 p.2 (m :: ws) = drA 1 (p.2 ++ [m]) ws := if_pos (by omega)
          rw [if_pos a2, if_pos a2]
          show (((0, 0, p.1.2.2 + 1), (drA 1 p.2 (m :: ws)).1), some (15 :: (drA 1 p.2 (m :: ws)).2)) = _
          rw [e3]
        · rw [if_neg a2, if_neg a2, hs]
          show (if hasS ws = true then (((1, frW T n p.1.2.2, 0), p.2 ++ m :: ws), none) else ((p.1, p.2 ++ m :: ws), none)) = (if hasS ws = true then (((1, frW T n p.1.2.2, 0), (p.2 ++ [m]) ++ ws), none) else ((p.1, (p.2 ++ [m]) ++ ws), none))
          rw [List.append_assoc]; rfl
    · rw [if_neg (show ¬ ((p.1, p.2) : Pz).1.1 = 0 from hp), if_neg (show ¬ ((p.1, p.2 ++ [m]) : Pz).1.1 = 0 from hp)]
      show ((p.1, p.2 ++ m :: ws), none) = ((p.1, (p.2 ++ [m]) ++ ws), none)
      rw [List.append_assoc]; rfl
/-- a square closes -/
theorem gt_cl (hp : p.1.1 = 0) (h : wq T n c p.1.2.2 = 349) : goT T n c p (25 :: ws) = goT T n c (nxP p) ws := by
  have dn : drN p.2 (25 :: ws) = (p.2, 25 :: ws) := if_neg (by decide)
  have ds : drS p.2 (25 :: ws) = (p.2, ws) := if_pos rfl
  have hs : hasS (25 :: ws) = true := if_pos rfl
  rw [goT_f (Nat.le_refl _), goT_f (p := nxP p) (Nat.le_refl _), dn]
  show opT T n c (clT T n c (ws.length + 1) (p.1, p.2) (25 :: ws)).1 (clT T n c (ws.length + 1) (p.1, p.2) (25 :: ws)).2 = _
  rw [clT_s (p := (p.1, p.2)), if_pos ⟨hp, h, hs⟩]
  show opT T n c (clT T n c ws.length ((0, 0, p.1.2.2 + 1), (drN (drS p.2 (25 :: ws)).1 (drS p.2 (25 :: ws)).2).1) (drN (drS p.2 (25 :: ws)).1 (drS p.2 (25 :: ws)).2).2).1 (clT T n c ws.length ((0, 0, p.1.2.2 + 1), (drN (drS p.2 (25 :: ws)).1 (drS p.2 (25 :: ws)).2).1) (drN (drS p.2 (25 :: ws)).1 (drS p.2 (25 :: ws)).2).2).2 = _
  rw [ds]
  rfl
/-- a square that does not close -/
theorem gt_op (hp : p.1.1 = 0) (h : ¬ wq T n c p.1.2.2 = 349 ∧ ¬ wq T n c p.1.2.2 = 21 ∧ ¬ wq T n c p.1.2.2 = 20) : goT T n c p (25 :: ws) = (((1, frW T n p.1.2.2, 0), p.2 ++ 25 :: ws), none) := by
  have dn : drN p.2 (25 :: ws) = (p.2, 25 :: ws) := if_neg (by decide)
  have hs : hasS (25 :: ws) = true := if_pos rfl
  rw [goT_f (Nat.le_refl _), dn]
  show opT T n c (clT T n c (ws.length + 1) (p.1, p.2) (25 :: ws)).1 (clT T n c (ws.length + 1) (p.1, p.2) (25 :: ws)).2 = _
  rw [clT_s (p := (p.1, p.2)), if_neg (fun x => h.1 x.2.1)]
  show opT T n c (p.1, p.2) (25 :: ws) = _
  unfold opT
  rw [if_pos (show ((p.1, p.2) : Pz).1.1 = 0 from hp)]
  show (if wq T n c p.1.2.2 = 21 then _ else _) = _
  rw [if_neg h.2.1]
  show (if wq T n c p.1.2.2 = 20 then _ else _) = _
  rw [if_neg h.2.2, if_pos hs]
/-- and, or behind a fact -/
theorem gt_an (hp : p.1.1 = 0) (hn : NN 0 ws) (h : wq T n c p.1.2.2 = 21) : goT T n c p ws = (nxP p, some (14 :: ws)) := by
  rw [goT_f (f := ws.length + 1) (Nat.le_succ _), nn_dr hn]
  show opT T n c (clT T n c (ws.length + 1) (p.1, p.2) ws).1 (clT T n c (ws.length + 1) (p.1, p.2) ws).2 = _
  rw [clT_s (p := (p.1, p.2)), if_neg (fun x => by have := x.2.1; have h2 : wq T n c p.1.2.2 = 349 := this; omega)]
  show opT T n c (p.1, p.2) ws = _
  unfold opT
  rw [if_pos (show ((p.1, p.2) : Pz).1.1 = 0 from hp), if_pos (show wq T n c ((p.1, p.2) : Pz).1.2.2 = 21 from h), nn_da hn]
  rfl
theorem gt_or (hp : p.1.1 = 0) (hn : NN 1 ws) (h : wq T n c p.1.2.2 = 20) : goT T n c p ws = (nxP p, some (15 :: ws)) := by
  rw [goT_f (f := ws.length + 1) (Nat.le_succ _), nn_dr hn]
  show opT T n c (clT T n c (ws.length + 1) (p.1, p.2) ws).1 (clT T n c (ws.length + 1) (p.1, p.2) ws).2 = _
  rw [clT_s (p := (p.1, p.2)), if_neg (fun x => by have := x.2.1; have h2 : wq T n c p.1.2.2 = 349 := this; omega)]
  show opT T n c (p.1, p.2) ws = _
  unfold opT
  rw [if_pos (show ((p.1, p.2) : Pz).1.1 = 0 from hp), if_neg (show ¬ wq T n c ((p.1, p.2) : Pz).1.2.2 = 21 from fun x => by have : wq T n c p.1.2.2 = 21 := x; omega), if_pos (show wq T n c ((p.1, p.2) : Pz).1.2.2 = 20 from h), nn_da hn]
  rfl
end
