/-! sums and tests: what they read; the class's codes -/
/-- where the reader stands, and the codes so far -/
abbrev Pz : Type := Rz × List Nat
def nxP (p : Pz) : Pz := ((0, 0, p.1.2.2 + 1), p.2)
def adP (m : Nat) (p : Pz) : Pz := (p.1, p.2 ++ [m])
def qP (f : Rz → Rz) (p : Pz) : Pz := (f p.1, p.2)
/-- too many are open -/
def dpP (T : Nat → Nat) (n : Nat) (p : Pz) : Pz := ((4, frW T n p.1.2.2, 0), p.2)
abbrev isF (w : Nat) : Prop := w = 2 ∨ (24 ≤ w ∧ w ≤ 30)
def fcN : Nat → Nat
  | 2 => 8
  | 24 => 7
  | 25 => 9
  | 26 => 10
  | 27 => 18
  | 28 => 30
  | 29 => 31
  | _ => 32
def twoP (T : Nat → Nat) (n c : Nat) (b : Bool) (S : Pz → Pz) (m : Nat) (p : Pz) : Pz :=
  if wq T n c p.1.2.2 = 296 then (if b = true then adP m (qP (asz T n c 297) (S (qP (asz T n c 300) (S (nxP p))))) else dpP T n p) else qP (flz T n 1 0) p
def pieceP (T : Nat → Nat) (n c : Nat) (b : Bool) (S : Pz → Pz) (p : Pz) : Pz :=
  if p.1.1 = 0 then
    if wq T n c p.1.2.2 = 31 then twoP T n c b S 5 (nxP p)
    else if wq T n c p.1.2.2 = 32 then twoP T n c b S 6 (nxP p)
    else if isF (wq T n c p.1.2.2) then adP (fcN (wq T n c p.1.2.2)) (nxP p)
    else if wq T n c p.1.2.2 = 296 then (if b = true then qP (asz T n c 297) (S (nxP p)) else dpP T n p)
    else adP (1000 + nbW T n p.1.2.2) (qP (nbz T n c 0 9999) p)
  else p
def loopP (T : Nat → Nat) (n c w1 m1 w2 m2 : Nat) (F : Pz → Pz) : Nat → Pz → Pz
  | 0, p => p
  | f + 1, p => if p.1.1 = 0 then (if wq T n c p.1.2.2 = w1 then loopP T n c w1 m1 w2 m2 F f (adP m1 (F (nxP p))) else if wq T n c p.1.2.2 = w2 then loopP T n c w1 m1 w2 m2 F f (adP m2 (F (nxP p))) else p) else p
def prodP (T : Nat → Nat) (n c : Nat) (F : Pz → Pz) (p : Pz) : Pz := loopP T n c 298 3 303 4 F 1600 (F p)
def sumP (T : Nat → Nat) (n c : Nat) (F : Pz → Pz) (p : Pz) : Pz := loopP T n c 299 1 301 2 F 1600 (F p)
def bothP (T : Nat → Nat) (n c : Nat) (F : Pz → Pz) (p : Pz) : Pz := loopP T n c 21 14 21 14 F 1600 (F p)
def testP (T : Nat → Nat) (n c : Nat) (F : Pz → Pz) (p : Pz) : Pz := loopP T n c 20 15 20 15 F 1600 (F p)
def pSum (T : Nat → Nat) (n c : Nat) : Nat → Pz → Pz
  | 0 => sumP T n c (prodP T n c (pieceP T n c false id))
  | g + 1 => sumP T n c (prodP T n c (pieceP T n c true (pSum T n c g)))
/-- the sign of a comparison, and its code -/
def cmQ (T : Nat → Nat) (n c : Nat) (q : Rz) : Rz := if q.1 = 0 then (if wq T n c q.2.2 = 316 ∨ wq T n c q.2.2 = 318 then (0, 0, q.2.2 + 1) else asz T n c 317 q) else q
def cmN (T : Nat → Nat) (n c : Nat) (q : Rz) : Nat := if q.1 = 0 ∧ wq T n c q.2.2 = 316 then 11 else if q.1 = 0 ∧ wq T n c q.2.2 = 318 then 12 else 13
def cmpP (T : Nat → Nat) (n c : Nat) (S : Pz → Pz) (p : Pz) : Pz := adP (cmN T n c (S p).1) (S (qP (cmQ T n c) (S p)))
def factP (T : Nat → Nat) (n c : Nat) (b : Bool) (Fi Ti S : Pz → Pz) (p : Pz) : Pz :=
  if p.1.1 = 0 then
    if wq T n c p.1.2.2 = 22 then (if b = true then adP 16 (Fi (nxP p)) else dpP T n p)
    else if wq T n c p.1.2.2 = 347 then (if b = true then qP (asz T n c 349) (Ti (nxP p)) else dpP T n p)
    else if wq T n c p.1.2.2 = 23 then adP 17 (nxP p)
    else cmpP T n c S p
  else p
def pFact (T : Nat → Nat) (n c : Nat) : Nat → Pz → Pz
  | 0 => factP T n c false id id (pSum T n c 0)
  | g + 1 => factP T n c true (pFact T n c g) (testP T n c (bothP T n c (pFact T n c g))) (pSum T n c (g + 1))
def pTest (T : Nat → Nat) (n c g : Nat) : Pz → Pz := testP T n c (bothP T n c (pFact T n c g))
/-- each code has a token of its own; nothing good comes of what is bad -/
def SM (F : Pz → Pz) : Prop := ∀ p, (F p).1.1 = 0 → p.1.1 = 0 ∧ (F p).2.length + p.1.2.2 ≤ (F p).1.2.2 + p.2.length ∧ p.1.2.2 < (F p).1.2.2
/-- the class's codes at u -/
def CDX (J : Nat → Nat → Int32) (T : Nat → Nat) (n c u : Nat) (p : Pz) : Prop := CS J T n c p.1 ∧ (∃ l, J u 7 = nI l ∧ l ≤ 1600) ∧ (p.1.1 = 0 → J u 7 = nI p.2.length ∧ p.2.length ≤ p.1.2.2 ∧ ∀ i, i < p.2.length → J (u + 5) i = cOf (p.2.getD i 0))
def EX (u p k : Nat) : Prop := E0 p k ∨ p = u + 5 ∨ (p = u ∧ k = 7)
/-- a method that reads as F does, when o are open -/
def CM (L : Nat) (xs : Nat → Int32) (Lm : Nat → Nat → Int64) (nw sp s2 ai : Nat) (T : Nat → Nat) (n c u K o : Nat) (F : Pz → Pz) : Prop := ∀ I p, TKs I T n c → CDX I T n c u p → ∃ J, (∀ r, Em L xs K [.ref 105, .int (nI o)] (179, I, Lm, RG nw sp s2 ai) r ↔ r = (none, 179, J, Lm, RG nw sp s2 ai)) ∧ CDX J T n c u (F p) ∧ FX I J (EX u)
section
variable {L : Nat} {xs : Nat → Int32} {σ : Mm} {r : Option Value × Mm} {I J K : Nat → Nat → Int32} {Lm : Nat → Nat → Int64} {Rm : Nat → Nat → Nat} {n s so t N NS NH m M P nw S U : Nat} {V W : Vw} {sp s2 ai p : Nat} {x y z h v : Int32} {k c w lo hi a u o g : Nat} {T : Nat → Nat} {q : Rz} {p p2 : Pz} {F F2 : Pz → Pz} {E E2 : Nat → Nat → Prop}

theorem nI_lF {a b : Nat} (ha : a < 2 ^ 31) (hb : b < 2 ^ 31) (h : b ≤ a) : (nI a < nI b) = False := (nI_gt ha hb).trans (eq_false (by omega))
theorem nI_lT {a b : Nat} (ha : a < 2 ^ 31) (hb : b < 2 ^ 31) (h : a < b) : (nI a < nI b) = True := (nI_gt ha hb).trans (eq_true h)
theorem eX0 : ∀ p k, E0 p k → EX u p k := fun p k z => Or.inl z
theorem FX.tksX (h : FX I J (EX u)) (hu : u = 64 ∨ u = 98) (hT : TKs I T n c) : TKs J T n c := by
  have rw_ : ∀ p, p = 108 ∨ p = 109 ∨ p = 110 ∨ p = 111 → J p = I p := fun p hp => h.row (fun k z => by
    rcases z with z | z | z
    · have := z.1; omega
    · omega
    · omega)
  obtain ⟨a, b, d⟩ := hT
  refine ⟨fun j hj => ?_, by rw [rw_ 108 (by omega)]; exact b, by rw [rw_ 109 (by omega)]; exact d⟩
  rw [rw_ 108 (by omega), rw_ 109 (by omega), rw_ 110 (by omega), rw_ 111 (by omega)]
  exact a j hj
/-- only the place has changed -/
theorem cxCF (h : CDX I T n c u p) (hu : u = 64 ∨ u = 98) (hC : CF I J) (hq : CS J T n c q) (hb : q.1 = 0 → p.1.1 = 0 ∧ p.1.2.2 ≤ q.2.2) : CDX J T n c u (q, p.2) := by
  obtain ⟨-, h2, h3⟩ := h
  have e1 : J u = I u := hC.1 u (by omega)
  have e2 : J (u + 5) = I (u + 5) := hC.1 (u + 5) (by omega)
  refine ⟨hq, by rw [e1]; exact h2, fun z => ?_⟩
  obtain ⟨b1, b2, b3⟩ := h3 (hb z).1
  rw [e1, e2]
  exact ⟨b1, Nat.le_trans b2 (hb z).2, b3⟩
theorem tkz_g {w : Nat} (h : (tkz T n c w q).1 = 0) : q.1 = 0 ∧ q.2.2 ≤ (tkz T n c w q).2.2 := by
  unfold tkz at h ⊢
  by_cases z : q.1 = 0 ∧ wq T n c q.2.2 = w
  · rw [if_pos z]; exact ⟨z.1, Nat.le_succ _⟩
  · rw [if_neg z] at h ⊢; exact ⟨h, Nat.le_refl _⟩
theorem asz_g {w : Nat} (h : (asz T n c w q).1 = 0) : q.1 = 0 ∧ (asz T n c w q).2.2 = q.2.2 + 1 := by
  obtain ⟨a, b, d⟩ := asz_0 h
  rw [d]
  exact ⟨a, rfl⟩
theorem nbz_g {lo hi : Nat} (h : (nbz T n c lo hi q).1 = 0) : q.1 = 0 ∧ (nbz T n c lo hi q).2.2 = q.2.2 + 1 := by
  obtain ⟨a, -, -, -, -, d⟩ := nbz_0 h
  rw [d]
  exact ⟨a, rfl⟩
theorem getD_ap {l : List Nat} {m i : Nat} : i < l.length → (l ++ [m]).getD i 0 = l.getD i 0 := fun h => by
  rw [List.getD_eq_getElem?_getD, List.getD_eq_getElem?_getD, List.getElem?_append_left h]
theorem getD_la {l : List Nat} {m : Nat} : (l ++ [m]).getD l.length 0 = m := by
  rw [List.getD_eq_getElem?_getD, List.getElem?_append_right (Nat.le_refl _), Nat.sub_self]; rfl
theorem c_add {m : Nat} (hu : u = 64 ∨ u = 98) (h : CDX I T n c u p) (hl : p.1.1 = 0 → p.2.length < p.1.2.2 ∧ p.1.2.2 ≤ 1600 ∧ x = cOf m) : ∃ J, (∀ r, Em L xs 52 [.ref u, .int x] (179, I, Lm, RG nw sp s2 ai) r ↔ r = (none, 179, J, Lm, RG nw sp s2 ai)) ∧ CDX J T n c u (adP m p) ∧ FX I J (EX u) := by
  obtain ⟨h1, ⟨l, l1, l2⟩, h3⟩ := h
  obtain ⟨y1, y2, -, y3, y4, -⟩ := ru_sh hu
  have y5 := (ru_rg (nw := nw) (sp := sp) (s2 := s2) (ai := ai) hu).2.2.2.2.1
  have n10 : ((1 : Nat) ≠ 0) = True := eq_true Nat.one_ne_zero
  have len : p.1.1 = 0 → l = p.2.length := fun z => by
    have a := (h3 z).1
    have b := hl z
    rw [l1] at a
    exact (nI_eq (by omega) (by omega)).mp a
  by_cases e : l < 1600
  · have c1 : (Int32.ofNat 1600 ≤ nI l) = False := eq_false (nI_ge (show l < 1600 from e) (by decide))
    have i1 : inb (nI l) 1600 = True := inb_i e (by decide)
    have i2 : ixn (nI l) = l := ixn_nI (by omega)
    have u7 : up2 I (u + 5) l x u 7 = nI l := by rw [up2_p (by omega)]; exact l1
    refine ⟨up2 (up2 I (u + 5) l x) u 7 (nI (l + 1)), fun r => ?_, ⟨csUp (csUp h1 (by omega)) (by omega), ⟨l + 1, up2_eq, by omega⟩, fun z => ?_⟩, fxTr (fxUp (Or.inr (Or.inl rfl))) (fxUp (Or.inr (Or.inr ⟨rfl, rfl⟩)))⟩
    · rw [em_52]
      simp only [x52_0, x52_1, x52_4, x52_5, x52_8, x52_9, x52_12, x52_13, x52_16, x52_17, x52_20, x52_21, x52_22, x52_23, x52_24, x52_27, x52_28, x52_29, x52_32, ex5, Option.toList_some, Option.toList_none, List.cons_append, List.nil_append, true_and, and_true, nI_1, p_at, p_set, p_isIn, p_max, p_min, p_abs, y1, y2, y3, y4, y5, n10, l1, c1, if_false, i1, i2, u7]
    · have z : p.1.1 = 0 := z
      obtain ⟨b1, b2, b3⟩ := h3 z
      have ez := len z
      have e2 : (adP m p).2 = p.2 ++ [m] := rfl
      have e3 : (p.2 ++ [m]).length = p.2.length + 1 := by rw [List.length_append]; rfl
      rw [e2, e3, up2_eq, ez]
      refine ⟨rfl, (hl z).1, fun i hi => ?_⟩
      rw [up2_p (show u + 5 ≠ u by omega), up2_at]
      by_cases d : i = p.2.length
      · rw [if_pos d, d, getD_la]; exact (hl z).2.2
      · rw [if_neg d, getD_ap (by omega)]; exact b3 i (by omega)
  · have c1 : (Int32.ofNat 1600 ≤ nI l) = True := eq_true (nI_le (a := 1600) (by omega) (by omega))
    refine ⟨I, fun r => ?_, ⟨h1, ⟨l, l1, l2⟩, fun z => ?_⟩, fxRf⟩
    · rw [em_52]
      simp only [x52_0, x52_1, x52_4, x52_5, x52_8, x52_9, x52_12, x52_13, x52_16, x52_17, x52_20, x52_21, x52_22, x52_23, x52_24, x52_27, x52_28, x52_29, x52_32, ex5, Option.toList_some, Option.toList_none, List.cons_append, List.nil_append, true_and, and_true, nI_1, p_at, p_set, p_isIn, p_max, p_min, p_abs, y1, y2, y3, y4, y5, n10, l1, c1, if_true]
    · have := hl z
      have := len z
      omega
theorem c_opens (ho : o ≤ 6) (hX : TX T n c) (hT : TKs I T n c) (h : CS I T n c q) (hb : q.1 = 0) (hk : q.2.2 < c) : ∃ J, (∀ r, Em L xs 44 [.ref 105, .int (nI o)] (179, I, Lm, RG nw sp s2 ai) r ↔ r = (some (.int (if o < 6 then 1 else 0)), 179, J, Lm, RG nw sp s2 ai)) ∧ CS J T n c (if o < 6 then (0, 0, q.2.2 + 1) else (4, frW T n q.2.2, 0)) ∧ CF I J := by
  have n4 : nI 4 = 4 := rfl
  by_cases e : o < 6
  · have c1 : (nI o < (6 : Int32)) = True := nI_lT (b := 6) (by omega) (by decide) e
    obtain ⟨b1, b2⟩ := cs_nx h (fun _ => hk)
    rw [show nxz q = (0, 0, q.2.2 + 1) from if_pos hb] at b1
    have gd := fun r => c_isGood (Lm := Lm) (L := L) (xs := xs) (nw := nw) (sp := sp) (s2 := s2) (ai := ai) b1 r
    rw [if_pos (show ((0, 0, q.2.2 + 1) : Rz).1 = 0 from rfl)] at gd
    rw [if_pos e, if_pos e]
    refine ⟨_, fun r => ?_, b1, b2⟩
    rw [em_44]
    simp only [x44_0, x44_1, x44_3, x44_6, x44_7, x44_8, x44_9, x44_12, x44_13, x44_14, x44_17, x44_18, x44_19, x44_22, x44_23, x44_26, sh_105, lq_105, sh_106, lq_106, sh_108, lq_108, sh_109, lq_109, sh_110, lq_110, sh_111, lq_111, rg_105_0, rg_106_1, rg_106_2, rg_106_3, rg_106_4, ex5, Option.toList_some, Option.toList_none, List.cons_append, List.nil_append, true_and, and_true, nI_1, p_at, p_set, p_isIn, p_max, p_min, p_abs, c1, if_true, gd, or_true]
  · have c1 : (nI o < (6 : Int32)) = False := nI_lF (b := 6) (by omega) (by decide) (by omega)
    obtain ⟨J1, f1, f2, f3⟩ := c_fail (kd := 4) (fu := 0) (L := L) (xs := xs) (Lm := Lm) (nw := nw) (sp := sp) (s2 := s2) (ai := ai) (by decide) (by decide) hX hT h
    rw [show flz T n 4 0 q = (4, frW T n q.2.2, 0) from if_pos hb] at f2
    rw [n4, nI_0] at f1
    obtain ⟨b1, b2⟩ := cs_nx f2 (fun z => by cases z)
    rw [show nxz (4, frW T n q.2.2, 0) = (4, frW T n q.2.2, 0) from rfl] at b1
    have gd := fun r => c_isGood (Lm := Lm) (L := L) (xs := xs) (nw := nw) (sp := sp) (s2 := s2) (ai := ai) b1 r
    rw [if_neg (show ¬ ((4, frW T n q.2.2, 0) : Rz).1 = 0 from fun z => by cases z)] at gd
    rw [if_neg e, if_neg e]
    refine ⟨_, fun r => ?_, b1, cfTr f3 b2⟩
    rw [em_44]
    simp only [x44_0, x44_1, x44_3, x44_6, x44_7, x44_8, x44_9, x44_12, x44_13, x44_14, x44_17, x44_18, x44_19, x44_22, x44_23, x44_26, sh_105, lq_105, sh_106, lq_106, sh_108, lq_108, sh_109, lq_109, sh_110, lq_110, sh_111, lq_111, rg_105_0, rg_106_1, rg_106_2, rg_106_3, rg_106_4, ex5, Option.toList_some, Option.toList_none, List.cons_append, List.nil_append, true_and, and_true, nI_1, p_at, p_set, p_isIn, p_max, p_min, p_abs, c1, if_false, f1, gd, true_or]
theorem c_factOf (hw : w < 512) (r : Option Value × Mm) : Em L xs 49 [.int (nI w)] σ r ↔ r = (some (.int (if isF w then cOf (fcN w) - 10000 else -1)), σ) := by
  rw [em_49]
  by_cases e2 : w = 2
  · subst e2
    rw [if_pos (Or.inl rfl)]
    have c0 : nI 2 = 2 := rfl
    simp only [x49_0, x49_1, x49_2, x49_5, x49_7, x49_8, x49_9, x49_11, x49_14, x49_15, x49_17, x49_20, x49_21, x49_23, x49_24, x49_27, x49_28, ex5, Option.toList_some, Option.toList_none, List.cons_append, List.nil_append, true_and, and_true, nI_1, p_at, p_set, p_isIn, p_max, p_min, p_abs, c0, if_true]
    exact Iff.rfl
  · have c0 : (nI w = 2) = False := eq_false (fun z => e2 ((nI_eq (b := 2) (by omega) (by decide)).mp z))
    by_cases e3 : 24 ≤ w
    · have c1 : (nI w < (24 : Int32)) = False := nI_lF (b := 24) (by omega) (by decide) (by omega)
      by_cases e4 : w ≤ 30
      · have c2 : ((30 : Int32) < nI w) = False := nI_lF (a := 30) (by decide) (by omega) (by omega)
        have e5 : nI w - 24 = cOf (fcN w) - 10000 := by
          have : w = 24 ∨ w = 25 ∨ w = 26 ∨ w = 27 ∨ w = 28 ∨ w = 29 ∨ w = 30 := by omega
          rcases this with rfl | rfl | rfl | rfl | rfl | rfl | rfl <;> decide
        rw [if_pos (Or.inr ⟨e3, e4⟩)]
        simp only [x49_0, x49_1, x49_2, x49_5, x49_7, x49_8, x49_9, x49_11, x49_14, x49_15, x49_17, x49_20, x49_21, x49_23, x49_24, x49_27, x49_28, ex5, Option.toList_some, Option.toList_none, List.cons_append, List.nil_append, true_and, and_true, nI_1, p_at, p_set, p_isIn, p_max, p_min, p_abs, c0, c1, c2, if_false, e5]
      · have c2 : ((30 : Int32) < nI w) = True := nI_lT (a := 30) (by decide) (by omega) (by omega)
        rw [if_neg (by unfold isF; omega)]
        simp only [x49_0, x49_1, x49_2, x49_5, x49_7, x49_8, x49_9, x49_11, x49_14, x49_15, x49_17, x49_20, x49_21, x49_23, x49_24, x49_27, x49_28, ex5, Option.toList_some, Option.toList_none, List.cons_append, List.nil_append, true_and, and_true, nI_1, p_at, p_set, p_isIn, p_max, p_min, p_abs, c0, c1, c2, if_false, if_true]
    · have c1 : (nI w < (24 : Int32)) = True := nI_lT (b := 24) (by omega) (by decide) (by omega)
      rw [if_neg (by unfold isF; omega)]
      simp only [x49_0, x49_1, x49_2, x49_5, x49_7, x49_8, x49_9, x49_11, x49_14, x49_15, x49_17, x49_20, x49_21, x49_23, x49_24, x49_27, x49_28, ex5, Option.toList_some, Option.toList_none, List.cons_append, List.nil_append, true_and, and_true, nI_1, p_at, p_set, p_isIn, p_max, p_min, p_abs, c0, c1, if_false, if_true]
theorem c_compare (hX : TX T n c) (hT : TKs I T n c) (h : CS I T n c q) : ∃ v J, (∀ r, Em L xs 43 [.ref 105] (179, I, Lm, RG nw sp s2 ai) r ↔ r = (some (.int v), 179, J, Lm, RG nw sp s2 ai)) ∧ CS J T n c (cmQ T n c q) ∧ CF I J ∧ v = cOf (cmN T n c q) := by
  obtain ⟨J1, a1, a2, a3⟩ := c_takes (w := 316) (L := L) (xs := xs) (Lm := Lm) (nw := nw) (sp := sp) (s2 := s2) (ai := ai) (by decide) (by decide) hX hT h
  have a1 : ∀ r, Em L xs 22 [.ref 105, .int 316] (179, I, Lm, RG nw sp s2 ai) r ↔ r = (some (.int (if q.1 = 0 ∧ wq T n c q.2.2 = 316 then 1 else 0)), 179, J1, Lm, RG nw sp s2 ai) := fun r => a1 r
  by_cases d1 : q.1 = 0 ∧ wq T n c q.2.2 = 316
  · rw [if_pos d1] at a1
    rw [show tkz T n c 316 q = (0, 0, q.2.2 + 1) from if_pos d1] at a2
    rw [show cmQ T n c q = (0, 0, q.2.2 + 1) from by unfold cmQ; rw [if_pos d1.1, if_pos (Or.inl d1.2)], show cmN T n c q = 11 from if_pos d1]
    refine ⟨_, J1, fun r => ?_, a2, a3, rfl⟩
    rw [em_43]
    simp only [x43_0, x43_1, x43_4, x43_7, x43_10, x43_13, x43_14, x43_15, x43_18, x43_21, x43_24, x43_27, x43_28, x43_29, x43_32, x43_35, x43_38, sh_105, lq_105, sh_106, lq_106, sh_108, lq_108, sh_109, lq_109, sh_110, lq_110, sh_111, lq_111, rg_105_0, rg_106_1, rg_106_2, rg_106_3, rg_106_4, ex5, Option.toList_some, Option.toList_none, List.cons_append, List.nil_append, true_and, and_true, nI_1, p_at, p_set, p_isIn, p_max, p_min, p_abs, a1, one_ne, if_false]
    exact Iff.rfl
  rw [if_neg d1] at a1
  rw [show tkz T n c 316 q = q from if_neg d1] at a2
  obtain ⟨J2, b1, b2, b3⟩ := c_takes (w := 318) (L := L) (xs := xs) (Lm := Lm) (nw := nw) (sp := sp) (s2 := s2) (ai := ai) (by decide) (by decide) hX (a3.tks hT) a2
  have b1 : ∀ r, Em L xs 22 [.ref 105, .int 318] (179, J1, Lm, RG nw sp s2 ai) r ↔ r = (some (.int (if q.1 = 0 ∧ wq T n c q.2.2 = 318 then 1 else 0)), 179, J2, Lm, RG nw sp s2 ai) := fun r => b1 r
  have b3 := cfTr a3 b3
  by_cases d2 : q.1 = 0 ∧ wq T n c q.2.2 = 318
  · rw [if_pos d2] at b1
    rw [show tkz T n c 318 q = (0, 0, q.2.2 + 1) from if_pos d2] at b2
    rw [show cmQ T n c q = (0, 0, q.2.2 + 1) from by unfold cmQ; rw [if_pos d2.1, if_pos (Or.inr d2.2)], show cmN T n c q = 12 from by unfold cmN; rw [if_neg d1, if_pos d2]]
    refine ⟨_, J2, fun r => ?_, b2, b3, rfl⟩
    rw [em_43]
    simp only [x43_0, x43_1, x43_4, x43_7, x43_10, x43_13, x43_14, x43_15, x43_18, x43_21, x43_24, x43_27, x43_28, x43_29, x43_32, x43_35, x43_38, sh_105, lq_105, sh_106, lq_106, sh_108, lq_108, sh_109, lq_109, sh_110, lq_110, sh_111, lq_111, rg_105_0, rg_106_1, rg_106_2, rg_106_3, rg_106_4, ex5, Option.toList_some, Option.toList_none, List.cons_append, List.nil_append, true_and, and_true, nI_1, p_at, p_set, p_isIn, p_max, p_min, p_abs, a1, if_true, b1, one_ne, if_false]
    exact Iff.rfl
  rw [if_neg d2] at b1
  rw [show tkz T n c 318 q = q from if_neg d2] at b2
  obtain ⟨J3, e1, e2, e3⟩ := c_need (w := 317) (L := L) (xs := xs) (Lm := Lm) (nw := nw) (sp := sp) (s2 := s2) (ai := ai) (by decide) (by decide) hX (b3.tks hT) b2
  have e1 : ∀ r, Em L xs 23 [.ref 105, .int 317] (179, J2, Lm, RG nw sp s2 ai) r ↔ r = (none, 179, J3, Lm, RG nw sp s2 ai) := fun r => e1 r
  have ez : cmQ T n c q = asz T n c 317 q := by
    unfold cmQ
    by_cases hb : q.1 = 0
    · rw [if_pos hb, if_neg (fun z => z.elim (fun y => d1 ⟨hb, y⟩) (fun y => d2 ⟨hb, y⟩))]
    · rw [if_neg hb]; exact (if_neg hb).symm
  rw [ez, show cmN T n c q = 13 from by unfold cmN; rw [if_neg d1, if_neg d2]]
  refine ⟨_, J3, fun r => ?_, e2, cfTr b3 e3, rfl⟩
  rw [em_43]
  simp only [x43_0, x43_1, x43_4, x43_7, x43_10, x43_13, x43_14, x43_15, x43_18, x43_21, x43_24, x43_27, x43_28, x43_29, x43_32, x43_35, x43_38, sh_105, lq_105, sh_106, lq_106, sh_108, lq_108, sh_109, lq_109, sh_110, lq_110, sh_111, lq_111, rg_105_0, rg_106_1, rg_106_2, rg_106_3, rg_106_4, ex5, Option.toList_some, Option.toList_none, List.cons_append, List.nil_append, true_and, and_true, nI_1, p_at, p_set, p_isIn, p_max, p_min, p_abs, a1, if_true, b1, e1]
  exact Iff.rfl
end
