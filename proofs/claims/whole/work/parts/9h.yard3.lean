/-! sums: both ways of reading say the same -/
section
variable {T : Nat → Nat} {n c g g0 k m w f : Nat} {p p2 z y : Pz} {ws ws2 cs : List Nat} {F S : Pz → Pz} {b : Bool}
abbrev NOp (T : Nat → Nat) (n c : Nat) (p : Pz) : Prop := ¬ wq T n c p.1.2.2 = 298 ∧ ¬ wq T n c p.1.2.2 = 303 ∧ ¬ wq T n c p.1.2.2 = 299 ∧ ¬ wq T n c p.1.2.2 = 301
theorem asz_n (hp : y.1.1 = 0) (h : wq T n c y.1.2.2 = w) : qP (asz T n c w) y = nxP y := by
  unfold qP asz
  rw [if_pos hp, if_pos h]
  rfl
theorem asz_x (hp : y.1.1 = 0) (h : ¬ wq T n c y.1.2.2 = w) : qP (asz T n c w) y = ((1, frW T n y.1.2.2, 0), y.2) := by
  unfold qP asz
  rw [if_pos hp, if_neg h]
theorem asz_o (hp : ¬ y.1.1 = 0) : qP (asz T n c w) y = y := by
  unfold qP asz
  rw [if_neg hp]
theorem cl_yd (hm : m = 20 ∨ m = 23 ∨ m = 24) (hy : y.1.1 = 0 → NOp T n c y) (h : Yd T n c g0 true (if m = 20 then qP (asz T n c 297) y else adP (m - 18) (qP (asz T n c 297) y)) ws z) : Yd T n c g0 true y (m :: ws) z := by
  by_cases hp : y.1.1 = 0
  · by_cases hc : wq T n c y.1.2.2 = 297
    · rw [asz_n hp hc] at h
      refine yd_go h hp ?_ (go_cl hp hc hm)
      by_cases e : m = 20
      · rw [if_pos e]; rfl
      · rw [if_neg e]; rfl
    · rw [asz_x hp hc] at h
      have hz : z.1 = (1, frW T n y.1.2.2, 0) := by
        by_cases e : m = 20
        · rw [if_pos e] at h; exact yd_badz h (fun x => by cases x)
        · rw [if_neg e] at h; exact yd_badz h (fun x => by cases x)
      rw [yd_aft hp, go_open hp (hy hp) (by unfold isMk; omega) (fun x => by omega) (fun _ => hc)]
      refine Or.inr ⟨rfl, hz, fun x => by rw [hz] at x; cases x⟩
  · rw [asz_o hp] at h
    refine yd_bad hp ?_
    by_cases e : m = 20
    · rw [if_pos e] at h; exact yd_badz h hp
    · rw [if_neg e] at h; exact yd_badz (p := adP (m - 18) y) h hp
theorem opn_hi (h : isMk m) : opnW (m :: ws) = opnW ws + 1 := by
  show opnW ws + (if isMk m then 1 else 0) = _
  rw [if_pos h]
/-- where no more may be open -/
theorem on_0 (hp : p.1.1 = 0) : onP T n c 0 p ws = (pieceP T n c false S p, ws) := by
  unfold onP pieceP twoP onB
  rw [if_pos hp]
  by_cases a1 : wq T n c p.1.2.2 = 296
  · rw [if_pos a1, if_neg (by omega), if_neg (by omega), if_neg (by unfold isF; omega), if_pos a1]; rfl
  · rw [if_neg a1]
    by_cases a2 : wq T n c p.1.2.2 = 31
    · rw [if_pos (Or.inl a2), if_pos a2]
      by_cases a3 : wq T n c (p.1.2.2 + 1) = 296
      · rw [if_pos a3, if_pos (show wq T n c (nxP p).1.2.2 = 296 from a3)]; rfl
      · rw [if_neg a3, if_neg (show ¬ wq T n c (nxP p).1.2.2 = 296 from a3)]; rfl
    · rw [if_neg a2]
      by_cases a4 : wq T n c p.1.2.2 = 32
      · rw [if_pos (Or.inr a4), if_pos a4]
        by_cases a3 : wq T n c (p.1.2.2 + 1) = 296
        · rw [if_pos a3, if_pos (show wq T n c (nxP p).1.2.2 = 296 from a3)]; rfl
        · rw [if_neg a3, if_neg (show ¬ wq T n c (nxP p).1.2.2 = 296 from a3)]; rfl
      · rw [if_neg (by omega), if_neg a4]
        by_cases a5 : isF (wq T n c p.1.2.2)
        · rw [if_pos a5, if_pos a5]
        · rw [if_neg a5, if_neg a5, if_neg a1]
theorem yw_piece0 (hp : p.1.1 = 0) (hg : g0 = 0 + opnW ws) (h : Yd T n c g0 true (pieceP T n c false S p) ws z) : Yd T n c g0 false p ws z := by
  rw [yd_one, show g0 - opnW ws = 0 by omega, on_0 (S := S) hp]
  exact ⟨hp, h⟩
theorem yw_piece (hS : ∀ p ws z, p.1.1 = 0 → g0 = g + opnW ws → NT 1 ws → Yd T n c g0 true (S p) ws z → Yd T n c g0 false p ws z) (hE : ∀ p, (S p).1.1 = 0 → NOp T n c (S p)) (hB : ∀ p, ¬ p.1.1 = 0 → S p = p) (hp : p.1.1 = 0) (hg : g0 = (g + 1) + opnW ws) (h : Yd T n c g0 true (pieceP T n c true S p) ws z) : Yd T n c g0 false p ws z := by
  have e0 : g0 - opnW ws = g + 1 := by omega
  have nt : ∀ m, isMk m → NT 1 (m :: ws) := fun m hm => by show ¬ (1 ≤ m ∧ m ≤ 4); unfold isMk at hm; omega
  have dn : ∀ (p2 : Pz) m, isMk m → onP T n c (g + 1) p ws = onP T n c g p2 (m :: ws) → Yd T n c g0 false p2 (m :: ws) z → Yd T n c g0 false p ws z := fun p2 m hm he h => by
    rw [yd_one] at h
    rw [yd_one, e0, he]
    have e1 : g0 - opnW (m :: ws) = g := by rw [opn_hi hm]; omega
    rw [e1] at h
    exact ⟨hp, h.2⟩
  have st : onP T n c (g + 1) p ws = (pieceP T n c true S p, ws) → Yd T n c g0 false p ws z := fun he => by
    rw [yd_one, e0, he]
    exact ⟨hp, h⟩
  -- min and max
  have two : ∀ m m', (m = 21 ∧ m' = 5) ∨ (m = 22 ∧ m' = 6) → pieceP T n c true S p = twoP T n c true S m' (nxP p) → wq T n c (p.1.2.2 + 1) = 296 → onP T n c (g + 1) p ws = onP T n c g (nxP (nxP p)) (m :: ws) → Yd T n c g0 false p ws z := fun m m' hm hq h6 he => by
    rw [hq] at h
    unfold twoP at h
    rw [if_pos (show wq T n c (nxP p).1.2.2 = 296 from h6), if_pos rfl] at h
    have mk : isMk m := by unfold isMk; omega
    have mk2 : isMk (m + 2) := by unfold isMk; omega
    refine dn _ m mk he (hS _ _ _ rfl (by rw [opn_hi mk]; omega) (nt m mk) ?_)
    obtain ⟨y1, hy1⟩ : ∃ y1, S (nxP (nxP p)) = y1 := ⟨_, rfl⟩
    have en1 : y1.1.1 = 0 → NOp T n c y1 := fun x => by rw [← hy1] at x ⊢; exact hE _ x
    rw [hy1] at h ⊢
    by_cases b1 : y1.1.1 = 0
    · by_cases b2 : wq T n c y1.1.2.2 = 300
      · rw [asz_n b1 b2] at h
        rw [yd_aft b1, go_comma b1 b2 (by omega)]
        refine Or.inl ⟨_, rfl, hS _ _ _ rfl (by rw [opn_hi mk2]; omega) (nt _ mk2) (cl_yd (by omega) (fun x => hE _ x) ?_)⟩
        rw [if_neg (by omega), show m + 2 - 18 = m' by omega]
        exact h
      · rw [asz_x b1 b2, hB _ (fun x => by cases x), asz_o (fun x => by cases x)] at h
        have hz : z.1 = (1, frW T n y1.1.2.2, 0) := yd_badz (p := adP m' ((1, frW T n y1.1.2.2, 0), y1.2)) h (fun x => by cases x)
        rw [yd_aft b1, go_open b1 (en1 b1) mk (fun _ => b2) (fun x => by omega)]
        exact Or.inr ⟨rfl, hz, fun x => by rw [hz] at x; cases x⟩
    · rw [asz_o b1, hB _ b1, asz_o b1] at h
      exact yd_bad b1 (yd_badz (p := adP m' y1) h b1)
  by_cases a1 : wq T n c p.1.2.2 = 296
  · have hq : pieceP T n c true S p = qP (asz T n c 297) (S (nxP p)) := by
      unfold pieceP
      rw [if_pos hp, if_neg (by omega), if_neg (by omega), if_neg (by unfold isF; omega), if_pos a1, if_pos rfl]
    rw [hq] at h
    have he : onP T n c (g + 1) p ws = onP T n c g (nxP p) (20 :: ws) := by rw [onP, if_pos a1]
    have mk : isMk 20 := by decide
    refine dn _ 20 mk he (hS _ _ _ rfl (by rw [opn_hi mk]; omega) (nt _ mk) (cl_yd (Or.inl rfl) (fun x => hE _ x) ?_))
    rw [if_pos rfl]
    exact h
  by_cases a2 : wq T n c p.1.2.2 = 31
  · have hq : pieceP T n c true S p = twoP T n c true S 5 (nxP p) := by
      unfold pieceP
      rw [if_pos hp, if_pos a2]
    by_cases a3 : wq T n c (p.1.2.2 + 1) = 296
    · exact two 21 5 (Or.inl ⟨rfl, rfl⟩) hq a3 (by rw [onP, if_neg a1, if_pos (Or.inl a2), if_pos a3, if_pos a2])
    · refine st ?_
      rw [hq, onP, if_neg a1, if_pos (Or.inl a2), if_neg a3]
      unfold twoP
      rw [if_neg (show ¬ wq T n c (nxP p).1.2.2 = 296 from a3)]
      rfl
  by_cases a4 : wq T n c p.1.2.2 = 32
  · have hq : pieceP T n c true S p = twoP T n c true S 6 (nxP p) := by
      unfold pieceP
      rw [if_pos hp, if_neg a2, if_pos a4]
    by_cases a3 : wq T n c (p.1.2.2 + 1) = 296
    · exact two 22 6 (Or.inr ⟨rfl, rfl⟩) hq a3 (by rw [onP, if_neg a1, if_pos (Or.inr a4), if_pos a3, if_neg a2])
    · refine st ?_
      rw [hq, onP, if_neg a1, if_pos (Or.inr a4), if_neg a3]
      unfold twoP
      rw [if_neg (show ¬ wq T n c (nxP p).1.2.2 = 296 from a3)]
      rfl
  refine st ?_
  rw [onP, if_neg a1, if_neg (by omega)]
  unfold pieceP onB
  rw [if_pos hp, if_neg a2, if_neg a4]
  by_cases a5 : isF (wq T n c p.1.2.2)
  · rw [if_pos a5, if_pos a5]
  · rw [if_neg a5, if_neg a5, if_neg a1]
theorem nt_31 : ∀ {ws : List Nat}, NT 1 ws → NT 3 ws
  | [], _ => trivial
  | _ :: _, h => fun x => h (by omega)
/-- products and sums of such pieces -/
theorem yw_sum (hc : c ≤ 1600) (hM : SM F) (hF : ∀ p ws z, p.1.1 = 0 → g0 = g + opnW ws → Yd T n c g0 true (F p) ws z → Yd T n c g0 false p ws z) (p : Pz) (ws : List Nat) (z : Pz) (hp : p.1.1 = 0) (hg : g0 = g + opnW ws) (hn : NT 1 ws) (h : Yd T n c g0 true (sumP T n c (prodP T n c F) p) ws z) : Yd T n c g0 false p ws z := by
  have pr : ∀ p ws z, p.1.1 = 0 → g0 = g + opnW ws → NT 3 ws → Yd T n c g0 true (prodP T n c F p) ws z → Yd T n c g0 false p ws z := fun p ws z hp hg hn h => hF p ws z hp hg (yw_loop (Or.inl ⟨rfl, rfl, rfl, rfl, rfl⟩) (fun p ws z a1 a2 _ a4 => hF p ws z a1 a2 a4) (fun x => by cases x) 1600 _ _ _ hg hn h)
  refine pr p ws z hp hg (nt_31 hn) ?_
  refine yw_loop (Or.inr ⟨rfl, rfl, rfl, rfl, rfl⟩) (fun p ws z a1 a2 a3 a4 => pr p ws z a1 a2 (a3 rfl) a4) (fun _ p x => run_end hM hc (by decide) (by decide) x) 1600 _ _ _ hg hn h
theorem sum_end (hc : c ≤ 1600) (hM : SM F) (h : (sumP T n c (prodP T n c F) p).1.1 = 0) : NOp T n c (sumP T n c (prodP T n c F) p) := by
  obtain ⟨h1, h2⟩ := run_end (F := prodP T n c F) (sm_run hM) hc (by decide) (by decide) h
  have hk : ∀ p, (prodP T n c F p).1.1 = 0 → ¬ wq T n c (prodP T n c F p).1.2.2 = 298 ∧ ¬ wq T n c (prodP T n c F p).1.2.2 = 303 := fun p x => run_end hM hc (by decide) (by decide) x
  obtain ⟨h3, h4⟩ := loop_keep (W := fun k => ¬ wq T n c k = 298 ∧ ¬ wq T n c k = 303) hk 1600 (prodP T n c F p) (fun x => hk p x) h
  exact ⟨h3, h4, h1, h2⟩
theorem pSum_end (hc : c ≤ 1600) : ∀ g p, (pSum T n c g p).1.1 = 0 → NOp T n c (pSum T n c g p)
  | 0, _, h => sum_end hc (sm_piece (fun z => by cases z)) h
  | g + 1, _, h => sum_end hc (sm_piece (fun _ => sm_sum g)) h
theorem yw_pSum (hc : c ≤ 1600) : ∀ g p ws z, p.1.1 = 0 → g0 = g + opnW ws → NT 1 ws → Yd T n c g0 true (pSum T n c g p) ws z → Yd T n c g0 false p ws z
  | 0, p, ws, z, hp, hg, hn, h => yw_sum hc (sm_piece (fun z => by cases z)) (fun _ _ _ a1 a2 a3 => yw_piece0 a1 a2 a3) p ws z hp hg hn h
  | g + 1, p, ws, z, hp, hg, hn, h => yw_sum (g := g + 1) hc (sm_piece (fun _ => sm_sum g)) (fun _ _ _ a1 a2 a3 => yw_piece (yw_pSum hc g) (pSum_end hc g) (bd_sum g) a1 a2 a3) p ws z hp hg hn h
/-- the waiting way of a sum leads where the other leads -/
theorem yd_sum (hc : c ≤ 1600) (hp : p.1.1 = 0) : Yd T n c g false p [] (pSum T n c g p) := by
  refine yw_pSum hc g p [] _ hp (by show g = g + 0; rfl) trivial ?_
  by_cases h : (pSum T n c g p).1.1 = 0
  · obtain ⟨h1, h2, h3, h4⟩ := pSum_end hc g p h
    have e : goP T n c (pSum T n c g p) [] = (((pSum T n c g p).1, (pSum T n c g p).2 ++ []), none) := by
      show opY T n c (pSum T n c g p) [] = _
      unfold opY
      rw [if_pos h, if_neg (by omega), if_neg (by omega), if_neg (by decide), if_pos (show mkO [] = 0 from rfl)]
    rw [yd_aft h, e]
    exact Or.inr ⟨rfl, rfl, fun _ => (List.append_nil _).symm⟩
  · exact yd_bad h rfl
end
