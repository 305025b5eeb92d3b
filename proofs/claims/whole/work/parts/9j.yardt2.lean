/-! tests: both ways of reading say the same -/
section
variable {T : Nat → Nat} {n c g g0 k m w f lo : Nat} {p p2 z y : Pz} {ws ws2 cs : List Nat} {F S : Pz → Pz}
theorem yt_one : Yt T n c g0 false p ws z ↔ p.1.1 = 0 ∧ Yt T n c g0 true (onT T n c (g0 - opnT ws) p ws).1 (onT T n c (g0 - opnT ws) p ws).2 z := by
  constructor
  · intro h
    obtain ⟨f, h⟩ := h
    cases f with
    | zero => exact h.elim
    | succ f => exact ⟨h.1, f, h.2⟩
  · intro h
    obtain ⟨h1, f, h2⟩ := h
    exact ⟨f + 1, h1, h2⟩
theorem yt_aft (hp : p.1.1 = 0) : Yt T n c g0 true p ws z ↔ ((∃ ws2, (goT T n c p ws).2 = some ws2 ∧ Yt T n c g0 false (goT T n c p ws).1 ws2 z) ∨ ((goT T n c p ws).2 = none ∧ z.1 = (goT T n c p ws).1.1 ∧ (z.1.1 = 0 → z.2 = (goT T n c p ws).1.2))) := by
  constructor
  · intro h
    obtain ⟨f, h⟩ := h
    cases f with
    | zero => exact h.elim
    | succ f =>
      rcases h with h | h
      · exact (h.1 hp).elim
      · rcases h.2 with h | h
        · obtain ⟨ws2, h1, h2⟩ := h
          exact Or.inl ⟨ws2, h1, f, h2⟩
        · exact Or.inr h
  · intro h
    rcases h with h | h
    · obtain ⟨ws2, h1, f, h2⟩ := h
      exact ⟨f + 1, Or.inr ⟨hp, Or.inl ⟨ws2, h1, h2⟩⟩⟩
    · exact ⟨1, Or.inr ⟨hp, Or.inr h⟩⟩
theorem yt_badz (h : Yt T n c g0 true p ws z) (hp : ¬ p.1.1 = 0) : z.1 = p.1 := by
  obtain ⟨f, h⟩ := h
  cases f with
  | zero => exact h.elim
  | succ f =>
    rcases h with h | h
    · exact h.2
    · exact (hp h.1).elim
theorem yt_bad (hp : ¬ p.1.1 = 0) (hz : z.1 = p.1) : Yt T n c g0 true p ws z := ⟨1, Or.inl ⟨hp, hz⟩⟩
/-- where both go on alike -/
theorem yt_go (h : Yt T n c g0 true p2 ws2 z) (h1 : p.1.1 = 0) (h2 : p2.1.1 = 0) (he : goT T n c p ws = goT T n c p2 ws2) : Yt T n c g0 true p ws z := by
  rw [yt_aft h1, he, ← yt_aft h2]
  exact h
theorem yt_n (h : Yt T n c g0 true (adP 16 p) ws z) : Yt T n c g0 true p (16 :: ws) z := by
  by_cases hp : p.1.1 = 0
  · exact yt_go h hp hp gt_n
  · exact yt_bad hp (yt_badz (p := adP 16 p) h hp)
theorem yt_dr (h : Yt T n c g0 true (adP m p) ws z) (hn : NN 0 ws) (hm : m = 14 ∨ (m = 15 ∧ (p.1.1 = 0 → ¬ wq T n c p.1.2.2 = 21))) : Yt T n c g0 true p (m :: ws) z := by
  by_cases hp : p.1.1 = 0
  · exact yt_go h hp hp (gt_dr hn (hm.elim Or.inl (fun y => Or.inr ⟨y.1, y.2 hp⟩)))
  · exact yt_bad hp (yt_badz (p := adP m p) h hp)
abbrev NOt (T : Nat → Nat) (n c : Nat) (p : Pz) : Prop := ¬ wq T n c p.1.2.2 = 21 ∧ ¬ wq T n c p.1.2.2 = 20
theorem sq_yt (hy : y.1.1 = 0 → NOt T n c y) (h : Yt T n c g0 true (qP (asz T n c 349) y) ws z) : Yt T n c g0 true y (25 :: ws) z := by
  by_cases hp : y.1.1 = 0
  · by_cases hc : wq T n c y.1.2.2 = 349
    · rw [asz_n hp hc] at h
      exact yt_go h hp rfl (gt_cl hp hc)
    · rw [asz_x hp hc] at h
      have hz : z.1 = (1, frW T n y.1.2.2, 0) := yt_badz h (fun x => by cases x)
      rw [yt_aft hp, gt_op hp ⟨hc, (hy hp).1, (hy hp).2⟩]
      exact Or.inr ⟨rfl, hz, fun x => by rw [hz] at x; cases x⟩
  · rw [asz_o hp] at h
    exact yt_bad hp (yt_badz h hp)
theorem nn_10 : ∀ {ws : List Nat}, NN 1 ws → NN 0 ws
  | [], _ => trivial
  | _ :: _, h => ⟨h.1, h.2.1, fun x => by cases x.2⟩
theorem ot_lo (h : m = 14 ∨ m = 15) : opnT (m :: ws) = opnT ws := by
  show opnT ws + (if m = 25 ∨ m = 16 then 1 else 0) = _
  rw [if_neg (by omega)]
  exact Nat.add_zero _
theorem ot_hi (h : m = 25 ∨ m = 16) : opnT (m :: ws) = opnT ws + 1 := by
  show opnT ws + (if m = 25 ∨ m = 16 then 1 else 0) = _
  rw [if_pos h]
/-- runs of facts -/
theorem yt_loop {lo w m : Nat} (hk : (lo = 0 ∧ w = 21 ∧ m = 14) ∨ (lo = 1 ∧ w = 20 ∧ m = 15)) (hF : ∀ p ws z, p.1.1 = 0 → g0 = g + opnT ws → (lo = 1 → NN 0 ws) → Yt T n c g0 true (F p) ws z → Yt T n c g0 false p ws z) (hE : lo = 1 → ∀ p, (F p).1.1 = 0 → ¬ wq T n c (F p).1.2.2 = 21) : ∀ f p ws z, g0 = g + opnT ws → NN lo ws → Yt T n c g0 true (loopP T n c w m w m F f p) ws z → Yt T n c g0 true p ws z := by
  intro f
  induction f with
  | zero => intro p ws z _ _ h; exact h
  | succ f ih =>
    intro p ws z hg hn h
    have n0 : NN 0 ws := by
      rcases hk with ⟨rfl, -, -⟩ | ⟨rfl, -, -⟩
      · exact hn
      · exact nn_10 hn
    have go : wq T n c p.1.2.2 = w → p.1.1 = 0 → Yt T n c g0 true (loopP T n c w m w m F f (adP m (F (nxP p)))) ws z → Yt T n c g0 true p ws z := fun hw hp h => by
      have h1 := ih _ _ _ hg hn h
      have h2 : Yt T n c g0 true (F (nxP p)) (m :: ws) z := yt_dr h1 n0 (by
        rcases hk with ⟨-, -, l⟩ | ⟨l1, -, l⟩
        · exact Or.inl l
        · exact Or.inr ⟨l, fun y => hE l1 _ y⟩)
      have h3 : Yt T n c g0 false (nxP p) (m :: ws) z := hF _ _ _ rfl (by rw [ot_lo (by omega)]; exact hg) (fun l1 => ⟨by omega, by omega, fun x => by cases x.2⟩) h2
      rw [yt_aft hp]
      rcases hk with ⟨rfl, rfl, rfl⟩ | ⟨rfl, rfl, rfl⟩
      · rw [gt_an hp hn hw]; exact Or.inl ⟨_, rfl, h3⟩
      · rw [gt_or hp hn hw]; exact Or.inl ⟨_, rfl, h3⟩
    unfold loopP at h
    by_cases hp : p.1.1 = 0
    · rw [if_pos hp] at h
      by_cases y1 : wq T n c p.1.2.2 = w
      · rw [if_pos y1] at h
        exact go y1 hp h
      · rw [if_neg y1, if_neg y1] at h; exact h
    · rw [if_neg hp] at h; exact h
theorem yt_run (hc : c ≤ 1600) (hM : SM F) (hF : ∀ p ws z, p.1.1 = 0 → g0 = g + opnT ws → Yt T n c g0 true (F p) ws z → Yt T n c g0 false p ws z) (p : Pz) (ws : List Nat) (z : Pz) (hp : p.1.1 = 0) (hg : g0 = g + opnT ws) (hn : NN 1 ws) (h : Yt T n c g0 true (testP T n c (bothP T n c F) p) ws z) : Yt T n c g0 false p ws z := by
  have pr : ∀ p ws z, p.1.1 = 0 → g0 = g + opnT ws → NN 0 ws → Yt T n c g0 true (bothP T n c F p) ws z → Yt T n c g0 false p ws z := fun p ws z hp hg hn h => hF p ws z hp hg (yt_loop (Or.inl ⟨rfl, rfl, rfl⟩) (fun p ws z a1 a2 _ a4 => hF p ws z a1 a2 a4) (fun x => by cases x) 1600 _ _ _ hg hn h)
  refine pr p ws z hp hg (nn_10 hn) ?_
  exact yt_loop (Or.inr ⟨rfl, rfl, rfl⟩) (fun p ws z a1 a2 a3 a4 => pr p ws z a1 a2 (a3 rfl) a4) (fun _ p x => (run_end hM hc (by decide) (by decide) x).1) 1600 _ _ _ hg hn h
theorem test_end (hc : c ≤ 1600) (hM : SM F) (h : (testP T n c (bothP T n c F) p).1.1 = 0) : NOt T n c (testP T n c (bothP T n c F) p) := by
  obtain ⟨h1, -⟩ := run_end (F := bothP T n c F) (sm_run hM) hc (by decide) (by decide) h
  have hk : ∀ p, (bothP T n c F p).1.1 = 0 → ¬ wq T n c (bothP T n c F p).1.2.2 = 21 := fun p x => (run_end hM hc (by decide) (by decide) x).1
  exact ⟨loop_keep (W := fun k => ¬ wq T n c k = 21) hk 1600 (bothP T n c F p) (fun x => hk p x) h, h1⟩
theorem yt_fact (hc : c ≤ 1600) : ∀ g p ws z, p.1.1 = 0 → g0 = g + opnT ws → Yt T n c g0 true (pFact T n c g p) ws z → Yt T n c g0 false p ws z
  | 0, p, ws, z, hp, hg, h => by
    have e : onT T n c 0 p ws = (pFact T n c 0 p, ws) := by
      show _ = (factP T n c false id id (pSum T n c 0) p, ws)
      unfold onT factP fcB
      rw [if_pos hp]
      by_cases a1 : wq T n c p.1.2.2 = 22
      · rw [if_pos (Or.inr a1), if_pos a1]; rfl
      · by_cases a2 : wq T n c p.1.2.2 = 347
        · rw [if_pos (Or.inl a2), if_neg a1, if_pos a2]; rfl
        · rw [if_neg (by omega), if_neg a1, if_neg a2]
    rw [yt_one, show g0 - opnT ws = 0 by omega, e]
    exact ⟨hp, h⟩
  | g + 1, p, ws, z, hp, hg, h => by
    have e0 : g0 - opnT ws = g + 1 := by omega
    have dn : ∀ m, (m = 25 ∨ m = 16) → onT T n c (g + 1) p ws = onT T n c g (nxP p) (m :: ws) → Yt T n c g0 false (nxP p) (m :: ws) z → Yt T n c g0 false p ws z := fun m hm he h => by
      rw [yt_one] at h
      rw [yt_one, e0, he]
      have e1 : g0 - opnT (m :: ws) = g := by rw [ot_hi hm]; omega
      rw [e1] at h
      exact ⟨hp, h.2⟩
    have hq : pFact T n c (g + 1) p = factP T n c true (pFact T n c g) (testP T n c (bothP T n c (pFact T n c g))) (pSum T n c (g + 1)) p := rfl
    by_cases a1 : wq T n c p.1.2.2 = 22
    · rw [hq, show factP T n c true (pFact T n c g) (testP T n c (bothP T n c (pFact T n c g))) (pSum T n c (g + 1)) p = adP 16 (pFact T n c g (nxP p)) from by unfold factP; rw [if_pos hp, if_pos a1, if_pos rfl]] at h
      exact dn 16 (Or.inr rfl) (by rw [onT, if_neg (by omega), if_pos a1]) (yt_fact hc g _ _ _ rfl (by rw [ot_hi (Or.inr rfl)]; omega) (yt_n h))
    · by_cases a2 : wq T n c p.1.2.2 = 347
      · rw [hq, show factP T n c true (pFact T n c g) (testP T n c (bothP T n c (pFact T n c g))) (pSum T n c (g + 1)) p = qP (asz T n c 349) (testP T n c (bothP T n c (pFact T n c g)) (nxP p)) from by unfold factP; rw [if_pos hp, if_neg a1, if_pos a2, if_pos rfl]] at h
        exact dn 25 (Or.inl rfl) (by rw [onT, if_pos a2]) (yt_run hc (sm_pFact g) (yt_fact hc g) _ _ _ rfl (by rw [ot_hi (Or.inl rfl)]; omega) ⟨by decide, by decide, fun x => by cases x.1⟩ (sq_yt (fun x => test_end hc (sm_pFact g) x) h))
      · have e : onT T n c (g + 1) p ws = (pFact T n c (g + 1) p, ws) := by
          rw [hq, onT, if_neg a2, if_neg a1]
          unfold factP fcB
          rw [if_pos hp, if_neg a1, if_neg a2]
        rw [yt_one, e0, e]
        exact ⟨hp, h⟩
/-- the waiting way of a test leads where the other leads -/
theorem yt_test (hc : c ≤ 1600) (hp : p.1.1 = 0) : Yt T n c g false p [] (pTest T n c g p) := by
  refine yt_run hc (sm_pFact g) (yt_fact hc g) p [] _ hp (by show g = g + 0; rfl) trivial ?_
  show Yt T n c g true (pTest T n c g p) [] (pTest T n c g p)
  by_cases h : (pTest T n c g p).1.1 = 0
  · obtain ⟨h1, h2⟩ : NOt T n c (pTest T n c g p) := test_end hc (sm_pFact g) h
    have e : goT T n c (pTest T n c g p) [] = (((pTest T n c g p).1, (pTest T n c g p).2 ++ []), none) := by
      show opT T n c ((pTest T n c g p).1, (pTest T n c g p).2) [] = _
      unfold opT
      rw [if_pos (show (((pTest T n c g p).1, (pTest T n c g p).2) : Pz).1.1 = 0 from h), if_neg (show ¬ wq T n c (((pTest T n c g p).1, (pTest T n c g p).2) : Pz).1.2.2 = 21 from h1), if_neg (show ¬ wq T n c (((pTest T n c g p).1, (pTest T n c g p).2) : Pz).1.2.2 = 20 from h2), if_neg (show ¬ hasS [] = true from fun x => by cases x)]
    rw [yt_aft h, e]
    exact Or.inr ⟨rfl, rfl, fun _ => (List.append_nil _).symm⟩
  · exact yt_bad h rfl
end
