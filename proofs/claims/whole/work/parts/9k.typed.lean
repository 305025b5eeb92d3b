/-! the codes of sums and tests are in order -/
def tyL : List Nat → List Bool → Option (List Bool)
  | [], ts => some ts
  | m :: l, ts => (tyS m ts).bind (tyL l)
/-- F writes what leaves one value of its kind -/
def TyF (b : Bool) (B : Nat) (F : Pz → Pz) : Prop := ∀ p, (F p).1.1 = 0 → ∃ l, (F p).2 = p.2 ++ l ∧ ∀ ts : List Bool, ts.length + B ≤ 64 → tyL l ts = some (b :: ts)
section
variable {T : Nat → Nat} {n c g k m w f B : Nat} {p : Pz} {l l2 : List Nat} {ts : List Bool} {F S Fi Ti : Pz → Pz} {b : Bool}
theorem tyL_app : ∀ {l ts}, tyL (l ++ l2) ts = (tyL l ts).bind (tyL l2)
  | [], _ => rfl
  | m :: l, ts => by
    show (tyS m ts).bind (tyL (l ++ l2)) = ((tyS m ts).bind (tyL l)).bind (tyL l2)
    cases tyS m ts with
    | none => rfl
    | some t => exact tyL_app
theorem tyL_one : tyL [m] ts = tyS m ts := by
  show (tyS m ts).bind (tyL []) = _
  cases tyS m ts with
  | none => rfl
  | some t => rfl
theorem tyS_num (h : m ≤ 9999) (ht : ts.length < 64) : tyS (1000 + m) ts = some (false :: ts) := by
  unfold tyS
  rw [if_pos ⟨by omega, by omega, ht⟩]
theorem tyS_ask (h : isF w) (ht : ts.length < 64) : tyS (fcN w) ts = some (false :: ts) := by
  have : w = 2 ∨ w = 24 ∨ w = 25 ∨ w = 26 ∨ w = 27 ∨ w = 28 ∨ w = 29 ∨ w = 30 := by unfold isF at h; omega
  have ha : isAsk (fcN w) := by rcases this with rfl | rfl | rfl | rfl | rfl | rfl | rfl | rfl <;> decide
  have hl : fcN w < 1000 ∧ fcN w ≠ 17 := by rcases this with rfl | rfl | rfl | rfl | rfl | rfl | rfl | rfl <;> decide
  unfold tyS
  rw [if_neg (by omega), if_neg (fun z => hl.2 z.1), if_pos ⟨ha, ht⟩]
theorem tyS_ar (h : 1 ≤ m ∧ m ≤ 6) : tyS m (false :: false :: ts) = some (false :: ts) := by
  unfold tyS
  rw [if_neg (by omega), if_neg (by omega), if_neg (fun z => by have := z.1; unfold isAsk at this; omega), if_neg (by omega), if_pos h]
  rfl
theorem tyS_cm (h : 11 ≤ m ∧ m ≤ 13) : tyS m (false :: false :: ts) = some (true :: ts) := by
  unfold tyS
  rw [if_neg (by omega), if_neg (by omega), if_neg (fun z => by have := z.1; unfold isAsk at this; omega), if_neg (by omega), if_neg (by omega), if_pos h]
  rfl
theorem tyS_ao (h : m = 14 ∨ m = 15) : tyS m (true :: true :: ts) = some (true :: ts) := by
  unfold tyS
  rw [if_neg (by omega), if_neg (by omega), if_neg (fun z => by have := z.1; unfold isAsk at this; omega), if_neg (by omega), if_neg (by omega), if_neg (by omega), if_pos h]
  rfl
theorem tyS_nt : tyS 16 (true :: ts) = some (true :: ts) := by
  unfold tyS
  rw [if_neg (by omega), if_neg (by omega), if_neg (fun z => by have := z.1; unfold isAsk at this; omega), if_pos ⟨rfl, rfl⟩]
theorem tyS_al (ht : ts.length < 64) : tyS 17 ts = some (true :: ts) := by
  unfold tyS
  rw [if_neg (by omega), if_pos ⟨rfl, ht⟩]
theorem ty_mono {B2 : Nat} (h : TyF b B F) (hB : B ≤ B2) : TyF b B2 F := fun p hp => by
  obtain ⟨l, a1, a2⟩ := h p hp
  exact ⟨l, a1, fun ts ht => a2 ts (by omega)⟩
/-- runs -/
theorem ty_loop {w1 m1 w2 m2 : Nat} (hF : TyF b B F) (hM : SM F) (hm : ∀ ts, tyS m1 (b :: b :: ts) = some (b :: ts) ∧ tyS m2 (b :: b :: ts) = some (b :: ts)) : ∀ f p, (loopP T n c w1 m1 w2 m2 F f p).1.1 = 0 → ∃ l, (loopP T n c w1 m1 w2 m2 F f p).2 = p.2 ++ l ∧ ∀ ts : List Bool, ts.length + (B + 1) ≤ 64 → tyL l (b :: ts) = some (b :: ts) := by
  intro f
  induction f with
  | zero => intro p _; exact ⟨[], (List.append_nil _).symm, fun ts _ => rfl⟩
  | succ f ih =>
    intro p h
    have two : ∀ m, (∀ ts, tyS m (b :: b :: ts) = some (b :: ts)) → (loopP T n c w1 m1 w2 m2 F f (adP m (F (nxP p)))).1.1 = 0 → ∃ l, (loopP T n c w1 m1 w2 m2 F f (adP m (F (nxP p)))).2 = p.2 ++ l ∧ ∀ ts : List Bool, ts.length + (B + 1) ≤ 64 → tyL l (b :: ts) = some (b :: ts) := fun m hm h => by
      obtain ⟨l1, a1, a2⟩ := ih _ h
      obtain ⟨l0, b1, b2⟩ := hF (nxP p) (sm_loop hM f _ h).1
      have b1 : (F (nxP p)).2 = p.2 ++ l0 := b1
      refine ⟨l0 ++ ([m] ++ l1), ?_, fun ts ht => ?_⟩
      · rw [a1]
        show ((F (nxP p)).2 ++ [m]) ++ l1 = _
        rw [b1, List.append_assoc, List.append_assoc]
      · rw [tyL_app, b2 (b :: ts) (by show ts.length + 1 + B ≤ 64; omega)]
        show tyL ([m] ++ l1) (b :: b :: ts) = _
        rw [tyL_app, tyL_one, hm ts]
        exact a2 ts ht
    unfold loopP at h ⊢
    by_cases z : p.1.1 = 0
    · rw [if_pos z] at h ⊢
      by_cases y1 : wq T n c p.1.2.2 = w1
      · rw [if_pos y1] at h ⊢; exact two m1 (fun ts => (hm ts).1) h
      · rw [if_neg y1] at h ⊢
        by_cases y2 : wq T n c p.1.2.2 = w2
        · rw [if_pos y2] at h ⊢; exact two m2 (fun ts => (hm ts).2) h
        · rw [if_neg y2]; exact ⟨[], (List.append_nil _).symm, fun ts _ => rfl⟩
    · rw [if_neg z]; exact ⟨[], (List.append_nil _).symm, fun ts _ => rfl⟩
theorem ty_run {w1 m1 w2 m2 : Nat} (hF : TyF b B F) (hM : SM F) (hm : ∀ ts, tyS m1 (b :: b :: ts) = some (b :: ts) ∧ tyS m2 (b :: b :: ts) = some (b :: ts)) : TyF b (B + 1) (fun p => loopP T n c w1 m1 w2 m2 F f (F p)) := fun p h => by
  obtain ⟨l1, a1, a2⟩ := ty_loop hF hM hm f (F p) h
  obtain ⟨l0, b1, b2⟩ := hF p (sm_loop hM f _ h).1
  refine ⟨l0 ++ l1, ?_, fun ts ht => ?_⟩
  · show (loopP T n c w1 m1 w2 m2 F f (F p)).2 = _
    rw [a1, b1, List.append_assoc]
  · rw [tyL_app, b2 ts (by omega)]
    exact a2 ts ht
theorem ty_two {m : Nat} (hm : m = 5 ∨ m = 6) (hS : b = true → TyF false B S) (hM : b = true → SM S) (hp : p.1.1 = 0) (h : (twoP T n c b S m p).1.1 = 0) : ∃ l, (twoP T n c b S m p).2 = p.2 ++ l ∧ ∀ ts : List Bool, ts.length + (B + 1) ≤ 64 → tyL l ts = some (false :: ts) := by
  unfold twoP at h ⊢
  by_cases z : wq T n c p.1.2.2 = 296
  · rw [if_pos z] at h ⊢
    by_cases y : b = true
    · rw [if_pos y] at h ⊢
      have a1 : (asz T n c 297 (S (qP (asz T n c 300) (S (nxP p)))).1).1 = 0 := h
      have g1 := (asz_g a1).1
      have g2 := (hM y _ g1).1
      have g3 := (asz_g (show (asz T n c 300 (S (nxP p)).1).1 = 0 from g2)).1
      obtain ⟨l1, b1, b2⟩ := hS y _ g3
      obtain ⟨l2, d1, d2⟩ := hS y _ g1
      have b1 : (S (nxP p)).2 = p.2 ++ l1 := b1
      have d1 : (S (qP (asz T n c 300) (S (nxP p)))).2 = (S (nxP p)).2 ++ l2 := d1
      refine ⟨l1 ++ (l2 ++ [m]), ?_, fun ts ht => ?_⟩
      · show (S (qP (asz T n c 300) (S (nxP p)))).2 ++ [m] = _
        rw [d1, b1, List.append_assoc, List.append_assoc]
      · rw [tyL_app, b2 ts (by omega)]
        show tyL (l2 ++ [m]) (false :: ts) = _
        rw [tyL_app, d2 (false :: ts) (by show ts.length + 1 + B ≤ 64; omega)]
        show tyL [m] (false :: false :: ts) = _
        rw [tyL_one]
        exact tyS_ar (by omega)
    · rw [if_neg y] at h; cases h
  · rw [if_neg z] at h
    have h : (flz T n 1 0 p.1).1 = 0 := h
    rw [show flz T n 1 0 p.1 = (1, frW T n p.1.2.2, 0) from if_pos hp] at h
    cases h
theorem ty_piece (hB : 0 < B) (hS : b = true → TyF false B S) (hM : b = true → SM S) : TyF false (B + 1) (pieceP T n c b S) := fun p h => by
  unfold pieceP at h ⊢
  by_cases z : p.1.1 = 0
  · rw [if_pos z] at h ⊢
    by_cases y1 : wq T n c p.1.2.2 = 31
    · rw [if_pos y1] at h ⊢; exact ty_two (Or.inl rfl) hS hM rfl h
    rw [if_neg y1] at h ⊢
    by_cases y2 : wq T n c p.1.2.2 = 32
    · rw [if_pos y2] at h ⊢; exact ty_two (Or.inr rfl) hS hM rfl h
    rw [if_neg y2] at h ⊢
    by_cases y3 : isF (wq T n c p.1.2.2)
    · rw [if_pos y3]
      exact ⟨[fcN (wq T n c p.1.2.2)], rfl, fun ts ht => by rw [tyL_one]; exact tyS_ask y3 (by omega)⟩
    rw [if_neg y3] at h ⊢
    by_cases y4 : wq T n c p.1.2.2 = 296
    · rw [if_pos y4] at h ⊢
      by_cases y : b = true
      · rw [if_pos y] at h ⊢
        obtain ⟨l, a1, a2⟩ := hS y _ (asz_g (show (asz T n c 297 (S (nxP p)).1).1 = 0 from h)).1
        exact ⟨l, a1, fun ts ht => a2 ts (by omega)⟩
      · rw [if_neg y] at h; cases h
    · rw [if_neg y4] at h ⊢
      have hb := (nbz_0 (show (nbz T n c 0 9999 p.1).1 = 0 from h)).2.2.2.2.1
      exact ⟨[1000 + nbW T n p.1.2.2], rfl, fun ts ht => by rw [tyL_one]; exact tyS_num hb (by omega)⟩
  · rw [if_neg z] at h; exact (z h).elim
theorem ty_ar (m1 m2 : Nat) (h1 : 1 ≤ m1 ∧ m1 ≤ 6) (h2 : 1 ≤ m2 ∧ m2 ≤ 6) : ∀ ts, tyS m1 (false :: false :: ts) = some (false :: ts) ∧ tyS m2 (false :: false :: ts) = some (false :: ts) := fun ts => ⟨tyS_ar h1, tyS_ar h2⟩
theorem ty_sum : ∀ g, TyF false (4 + 3 * g) (pSum T n c g)
  | 0 => ty_run (ty_run (ty_piece (B := 1) (by decide) (fun z => by cases z) (fun z => by cases z)) (sm_piece (fun z => by cases z)) (ty_ar 3 4 (by decide) (by decide))) (sm_run (sm_piece (fun z => by cases z))) (ty_ar 1 2 (by decide) (by decide))
  | g + 1 => ty_mono (ty_run (ty_run (ty_piece (B := 4 + 3 * g) (by omega) (fun _ => ty_sum g) (fun _ => sm_sum g)) (sm_piece (fun _ => sm_sum g)) (ty_ar 3 4 (by decide) (by decide))) (sm_run (sm_piece (fun _ => sm_sum g))) (ty_ar 1 2 (by decide) (by decide))) (by omega)
theorem ty_fact {Bs : Nat} (hB : 0 < B) (hBs : Bs + 1 ≤ B) (hF : b = true → TyF true B Fi) (hT : b = true → TyF true B Ti) (hS : TyF false Bs S) (hM : SM S) : TyF true B (factP T n c b Fi Ti S) := fun p h => by
  unfold factP at h ⊢
  by_cases z : p.1.1 = 0
  · rw [if_pos z] at h ⊢
    by_cases y1 : wq T n c p.1.2.2 = 22
    · rw [if_pos y1] at h ⊢
      by_cases y : b = true
      · rw [if_pos y] at h ⊢
        obtain ⟨l, a1, a2⟩ := hF y _ (show (Fi (nxP p)).1.1 = 0 from h)
        have a1 : (Fi (nxP p)).2 = p.2 ++ l := a1
        refine ⟨l ++ [16], ?_, fun ts ht => ?_⟩
        · show (Fi (nxP p)).2 ++ [16] = _
          rw [a1, List.append_assoc]
        · rw [tyL_app, a2 ts ht]
          show tyL [16] (true :: ts) = _
          rw [tyL_one]
          exact tyS_nt
      · rw [if_neg y] at h; cases h
    rw [if_neg y1] at h ⊢
    by_cases y4 : wq T n c p.1.2.2 = 347
    · rw [if_pos y4] at h ⊢
      by_cases y : b = true
      · rw [if_pos y] at h ⊢
        obtain ⟨l, a1, a2⟩ := hT y _ (asz_g (show (asz T n c 349 (Ti (nxP p)).1).1 = 0 from h)).1
        exact ⟨l, a1, a2⟩
      · rw [if_neg y] at h; cases h
    rw [if_neg y4] at h ⊢
    by_cases y3 : wq T n c p.1.2.2 = 23
    · rw [if_pos y3]
      exact ⟨[17], rfl, fun ts ht => by rw [tyL_one]; exact tyS_al (by omega)⟩
    rw [if_neg y3] at h ⊢
    obtain ⟨-, -, -, g1⟩ := sm_cmp hM h
    obtain ⟨l1, b1, b2⟩ := hS _ g1
    obtain ⟨l2, d1, d2⟩ := hS _ (show (S (qP (cmQ T n c) (S p))).1.1 = 0 from h)
    have d1 : (S (qP (cmQ T n c) (S p))).2 = (S p).2 ++ l2 := d1
    refine ⟨l1 ++ (l2 ++ [cmN T n c (S p).1]), ?_, fun ts ht => ?_⟩
    · show (S (qP (cmQ T n c) (S p))).2 ++ [cmN T n c (S p).1] = _
      rw [d1, b1, List.append_assoc, List.append_assoc]
    · rw [tyL_app, b2 ts (by omega)]
      show tyL (l2 ++ [cmN T n c (S p).1]) (false :: ts) = _
      rw [tyL_app, d2 (false :: ts) (by show ts.length + 1 + Bs ≤ 64; omega)]
      show tyL [cmN T n c (S p).1] (false :: false :: ts) = _
      rw [tyL_one]
      refine tyS_cm ?_
      unfold cmN
      by_cases e1 : (S p).1.1 = 0 ∧ wq T n c (S p).1.2.2 = 316
      · rw [if_pos e1]; decide
      · rw [if_neg e1]
        by_cases e2 : (S p).1.1 = 0 ∧ wq T n c (S p).1.2.2 = 318
        · rw [if_pos e2]; decide
        · rw [if_neg e2]; decide
  · rw [if_neg z] at h; exact (z h).elim
theorem ty_pFact : ∀ g, TyF true (5 + 3 * g) (pFact T n c g)
  | 0 => ty_fact (by decide) (by decide) (fun z => by cases z) (fun z => by cases z) (ty_sum 0) (sm_sum 0)
  | g + 1 => ty_fact (by omega) (by omega) (fun _ => ty_mono (ty_pFact g) (by omega)) (fun _ => ty_mono (ty_run (ty_run (ty_pFact g) (sm_pFact g) (fun ts => ⟨tyS_ao (Or.inl rfl), tyS_ao (Or.inl rfl)⟩)) (sm_run (sm_pFact g)) (fun ts => ⟨tyS_ao (Or.inr rfl), tyS_ao (Or.inr rfl)⟩)) (by omega)) (ty_sum (g + 1)) (sm_sum (g + 1))
theorem ty_test (g : Nat) : TyF true (7 + 3 * g) (pTest T n c g) := ty_mono (ty_run (ty_run (ty_pFact g) (sm_pFact g) (fun ts => ⟨tyS_ao (Or.inl rfl), tyS_ao (Or.inl rfl)⟩)) (sm_run (sm_pFact g)) (fun ts => ⟨tyS_ao (Or.inr rfl), tyS_ao (Or.inr rfl)⟩)) (by omega)
/-- a row of codes says what the list says -/
theorem tyR_L {cd : Nat → Nat} : ∀ {l : List Nat} {a : Nat} {ts : List Bool}, (∀ i, i < l.length → cd (a + i) = l.getD i 0) → tyRun cd a l.length ts = tyL l ts
  | [], _, _, _ => rfl
  | m :: l, a, ts, h => by
    show (tyS (cd a) ts).bind (tyRun cd (a + 1) l.length) = (tyS m ts).bind (tyL l)
    have e0 : cd a = m := h 0 (Nat.succ_pos _)
    rw [e0]
    cases tyS m ts with
    | none => rfl
    | some t => exact tyR_L (fun i hi => by
        have := h (i + 1) (Nat.succ_lt_succ hi)
        rw [show a + 1 + i = a + (i + 1) by omega, this]; rfl)
end
