/-! the class reads: tokens ahead, faults, words, numbers -/
/-- the class's reader stands so -/
def CS (J : Nat → Nat → Int32) (T : Nat → Nat) (n c : Nat) (q : Rz) : Prop := J 105 8 = nI q.1 ∧ q.1 ≤ 5 ∧ (q.1 = 0 → J 105 6 = nI q.2.2 ∧ q.2.2 ≤ c) ∧ J 105 9 = plc q
/-- the class's tokens, and their end -/
def TKs (J : Nat → Nat → Int32) (T : Nat → Nat) (n c : Nat) : Prop := TK J T n c ∧ J 108 c = 43 ∧ J 109 c = nI n
def CF (I J : Nat → Nat → Int32) : Prop := (∀ p, p ≠ 105 → J p = I p) ∧ (∀ j, j ≠ 6 → j ≠ 8 → j ≠ 9 → J 105 j = I 105 j)
def ahV (T : Nat → Nat) (n c : Nat) (q : Rz) : Nat := if q.1 = 0 then wq T n c q.2.2 else 43
/-- a name ahead: its faults -/
def nm1 (T : Nat → Nat) (n c : Nat) (q : Rz) : Rz := if q.1 = 0 then (if wq T n c q.2.2 = 40 then (if 6 < snW T n q.2.2 then (1, frW T n q.2.2 + 6, 0) else q) else (1, frW T n q.2.2, 0)) else q
def flz (T : Nat → Nat) (n kd fu : Nat) (q : Rz) : Rz := if q.1 = 0 then (kd, frW T n q.2.2 + fu, 0) else q
def nxz (q : Rz) : Rz := if q.1 = 0 then (0, 0, q.2.2 + 1) else q
section
variable {L : Nat} {xs : Nat → Int32} {σ : Mm} {r : Option Value × Mm} {I J K : Nat → Nat → Int32} {Lm : Nat → Nat → Int64} {Rm : Nat → Nat → Nat} {n s so t N NS NH m M P nw S U : Nat} {V W : Vw} {sp s2 ai p : Nat} {x y z h v : Int32} {k c w lo hi fu : Nat} {T : Nat → Nat} {q : Rz}
theorem cfRf : CF I I := ⟨fun _ _ => rfl, fun _ _ _ _ => rfl⟩
theorem cfTr (h : CF I J) (h2 : CF J K) : CF I K := ⟨fun p hp => (h2.1 p hp).trans (h.1 p hp), fun j a b d => (h2.2 j a b d).trans (h.2 j a b d)⟩
theorem CF.tks (h : CF I J) (hT : TKs I T n c) : TKs J T n c := by
  obtain ⟨a, b, d⟩ := hT
  refine ⟨fun j hj => ?_, by rw [h.1 108 (by decide)]; exact b, by rw [h.1 109 (by decide)]; exact d⟩
  rw [h.1 108 (by decide), h.1 109 (by decide), h.1 110 (by decide), h.1 111 (by decide)]
  exact a j hj
theorem wq_b (hX : TX T n c) (k : Nat) : wq T n c k < 512 := by
  unfold wq
  by_cases hk : k < c
  · rw [if_pos hk]; exact (whW_lt (tx_b hX hk)).1
  · rw [if_neg hk]; decide
theorem tk_wh (hX : TX T n c) (hT : TKs I T n c) (hk : k ≤ c) : atv I 108 (nI k) = nI (wq T n c k) ∧ atv I 109 (nI k) = nI (frW T n k) := by
  have hn := hX.1; have hc := hX.2.1
  rw [atv_lt (show k < 1601 by omega), atv_lt (show k < 1601 by omega)]
  unfold wq
  by_cases e : k < c
  · rw [if_pos e]
    exact ⟨(hT.1 k e).1, (hT.1 k e).2.1⟩
  · have e2 : k = c := by omega
    rw [if_neg e, e2, hX.2.2.1]
    exact ⟨hT.2.1, hT.2.2⟩
theorem cs_bad (h : CS I T n c q) (hb : q.1 ≠ 0) : I 105 8 = nI q.1 ∧ ¬ nI q.1 = 0 := ⟨h.1, nI_ne0 (by omega) (by have := h.2.1; omega)⟩
theorem cs_good (h : CS I T n c q) (hb : q.1 = 0) : I 105 8 = 0 ∧ I 105 6 = nI q.2.2 ∧ q.2.2 ≤ c := ⟨by rw [h.1, hb]; rfl, h.2.2.1 hb⟩
theorem c_ahead (hX : TX T n c) (hT : TKs I T n c) (h : CS I T n c q) (r : Option Value × Mm) : Em L xs 20 [.ref 105] (179, I, Lm, RG nw sp s2 ai) r ↔ r = (some (.int (nI (ahV T n c q))), 179, I, Lm, RG nw sp s2 ai) := by
  rw [em_20]
  by_cases hb : q.1 = 0
  · obtain ⟨g1, g2, g3⟩ := cs_good h hb
    rw [show ahV T n c q = wq T n c q.2.2 from if_pos hb]
    simp only [x20_0, x20_1, x20_4, x20_7, x20_8, x20_11, x20_14, x20_15, x20_18, x20_21, x20_24, x20_26, sh_105, lq_105, sh_106, lq_106, sh_108, lq_108, sh_109, lq_109, sh_110, lq_110, sh_111, lq_111, rg_105_0, rg_106_1, rg_106_2, rg_106_3, rg_106_4, p_at (n := 179) (a := 108) (by decide) rfl, p_at (n := 179) (a := 109) (by decide) rfl, p_at (n := 179) (a := 110) (by decide) rfl, p_at (n := 179) (a := 111) (by decide) rfl, ex5, Option.toList_some, Option.toList_none, List.cons_append, List.nil_append, true_and, and_true, nI_1, p_at, p_set, p_isIn, p_max, p_min, p_abs, g1, if_true, g2, (tk_wh hX hT g3).1]
  · obtain ⟨b1, b2⟩ := cs_bad h hb
    rw [show ahV T n c q = 43 from if_neg hb]
    simp only [x20_0, x20_1, x20_4, x20_7, x20_8, x20_11, x20_14, x20_15, x20_18, x20_21, x20_24, x20_26, sh_105, lq_105, sh_106, lq_106, sh_108, lq_108, sh_109, lq_109, sh_110, lq_110, sh_111, lq_111, rg_105_0, rg_106_1, rg_106_2, rg_106_3, rg_106_4, ex5, Option.toList_some, Option.toList_none, List.cons_append, List.nil_append, true_and, and_true, nI_1, p_at, p_set, p_isIn, p_max, p_min, p_abs, b1, b2, if_false]
    exact Iff.rfl
theorem c_fail {kd : Nat} (h1 : kd ≠ 0) (h2 : kd ≤ 5) (hX : TX T n c) (hT : TKs I T n c) (h : CS I T n c q) : ∃ J, (∀ r, Em L xs 21 [.ref 105, .int (nI kd), .int (nI fu)] (179, I, Lm, RG nw sp s2 ai) r ↔ r = (none, 179, J, Lm, RG nw sp s2 ai)) ∧ CS J T n c (flz T n kd fu q) ∧ CF I J := by
  by_cases hb : q.1 = 0
  · obtain ⟨g1, g2, g3⟩ := cs_good h hb
    have u1 : ∀ (J : Nat → Nat → Int32) v, up2 J 105 8 v 105 6 = J 105 6 := fun J v => up2_k (by decide)
    have a9 : atv (up2 I 105 8 (nI kd)) 109 (nI q.2.2) = nI (frW T n q.2.2) := (atv_up (by decide)).trans (tk_wh hX hT g3).2
    have ez : flz T n kd fu q = (kd, frW T n q.2.2 + fu, 0) := if_pos hb
    rw [ez]
    refine ⟨up2 (up2 I 105 8 (nI kd)) 105 9 (nI (frW T n q.2.2 + fu)), fun r => ?_, ⟨by rw [up2_k (by decide), up2_eq], h2, fun z => (h1 z).elim, up2_eq.trans (plc_b (q := (kd, frW T n q.2.2 + fu, 0)) h1).symm⟩, fun p hp => funext fun j => by rw [up2_p hp, up2_p hp], fun j _ j8 j9 => by rw [up2_k j9, up2_k j8]⟩
    rw [em_21]
    simp only [x21_0, x21_1, x21_4, x21_7, x21_8, x21_9, x21_12, x21_13, x21_14, x21_17, x21_20, x21_21, x21_24, x21_27, x21_28, x21_29, x21_32, sh_105, lq_105, sh_106, lq_106, sh_108, lq_108, sh_109, lq_109, sh_110, lq_110, sh_111, lq_111, rg_105_0, rg_106_1, rg_106_2, rg_106_3, rg_106_4, p_at (n := 179) (a := 108) (by decide) rfl, p_at (n := 179) (a := 109) (by decide) rfl, p_at (n := 179) (a := 110) (by decide) rfl, p_at (n := 179) (a := 111) (by decide) rfl, ex5, Option.toList_some, Option.toList_none, List.cons_append, List.nil_append, true_and, and_true, nI_1, p_at, p_set, p_isIn, p_max, p_min, p_abs, g1, if_true, u1, g2, a9, nI_add]
  · obtain ⟨b1, b2⟩ := cs_bad h hb
    have ez : flz T n kd fu q = q := if_neg hb
    rw [ez]
    refine ⟨I, fun r => ?_, h, cfRf⟩
    rw [em_21]
    simp only [x21_0, x21_1, x21_4, x21_7, x21_8, x21_9, x21_12, x21_13, x21_14, x21_17, x21_20, x21_21, x21_24, x21_27, x21_28, x21_29, x21_32, sh_105, lq_105, sh_106, lq_106, sh_108, lq_108, sh_109, lq_109, sh_110, lq_110, sh_111, lq_111, rg_105_0, rg_106_1, rg_106_2, rg_106_3, rg_106_4, ex5, Option.toList_some, Option.toList_none, List.cons_append, List.nil_append, true_and, and_true, nI_1, p_at, p_set, p_isIn, p_max, p_min, p_abs, b1, b2, if_false]
theorem cs_nx (h : CS I T n c q) (hl : q.1 = 0 → q.2.2 < c) : CS (up2 I 105 6 (I 105 6 + 1)) T n c (nxz q) ∧ CF I (up2 I 105 6 (I 105 6 + 1)) := by
  refine ⟨?_, fun p hp => funext fun j => up2_p hp, fun j j6 _ _ => up2_k j6⟩
  by_cases hb : q.1 = 0
  · obtain ⟨g1, g2, g3⟩ := cs_good h hb
    have ez : nxz q = (0, 0, q.2.2 + 1) := if_pos hb
    rw [ez]
    exact ⟨by rw [up2_k (by decide), g1]; rfl, Nat.zero_le 5, fun _ => ⟨by rw [up2_eq, g2, nI_1], hl hb⟩, (up2_k (by decide)).trans (h.2.2.2.trans (plc_g hb _ _))⟩
  · have ez : nxz q = q := if_neg hb
    rw [ez]
    exact ⟨by rw [up2_k (by decide)]; exact h.1, h.2.1, fun z => (hb z).elim, by rw [up2_k (by decide)]; exact h.2.2.2⟩
theorem wq_c (h : wq T n c k ≠ 43) : k < c := by
  unfold wq at h
  by_cases e : k < c
  · exact e
  · rw [if_neg e] at h; exact (h rfl).elim
theorem c_takes (hw : w ≠ 43) (hw2 : w < 512) (hX : TX T n c) (hT : TKs I T n c) (h : CS I T n c q) : ∃ J, (∀ r, Em L xs 22 [.ref 105, .int (nI w)] (179, I, Lm, RG nw sp s2 ai) r ↔ r = (some (.int (if q.1 = 0 ∧ wq T n c q.2.2 = w then 1 else 0)), 179, J, Lm, RG nw sp s2 ai)) ∧ CS J T n c (tkz T n c w q) ∧ CF I J := by
  have ah := fun r => c_ahead (L := L) (xs := xs) (Lm := Lm) (nw := nw) (sp := sp) (s2 := s2) (ai := ai) hX hT h r
  have b := wq_b hX q.2.2
  by_cases hc : q.1 = 0 ∧ wq T n c q.2.2 = w
  · have e1 : ahV T n c q = w := by unfold ahV; rw [if_pos hc.1, hc.2]
    rw [e1] at ah
    have e2 : tkz T n c w q = nxz q := by unfold tkz nxz; rw [if_pos hc, if_pos hc.1]
    obtain ⟨f1, f2⟩ := cs_nx h (fun _ => wq_c (by rw [hc.2]; exact hw))
    rw [if_pos hc, e2]
    refine ⟨_, fun r => ?_, f1, f2⟩
    rw [em_22]
    simp only [x22_0, x22_1, x22_4, x22_5, x22_8, x22_9, x22_10, x22_11, x22_12, x22_15, x22_16, x22_17, x22_20, x22_21, sh_105, lq_105, sh_106, lq_106, sh_108, lq_108, sh_109, lq_109, sh_110, lq_110, sh_111, lq_111, rg_105_0, rg_106_1, rg_106_2, rg_106_3, rg_106_4, ex5, Option.toList_some, Option.toList_none, List.cons_append, List.nil_append, true_and, and_true, nI_1, p_at, p_set, p_isIn, p_max, p_min, p_abs, ah, if_true, or_true]
  · have e1 : (nI (ahV T n c q) = nI w) = False := eq_false (fun z => by
      unfold ahV at z
      by_cases hb : q.1 = 0
      · rw [if_pos hb] at z
        exact hc ⟨hb, (nI_eq (by omega) (by omega)).mp z⟩
      · rw [if_neg hb] at z
        exact hw ((nI_eq (by decide) (by omega)).mp z).symm)
    have e2 : tkz T n c w q = q := if_neg hc
    rw [if_neg hc, e2]
    refine ⟨I, fun r => ?_, h, cfRf⟩
    rw [em_22]
    simp only [x22_0, x22_1, x22_4, x22_5, x22_8, x22_9, x22_10, x22_11, x22_12, x22_15, x22_16, x22_17, x22_20, x22_21, sh_105, lq_105, sh_106, lq_106, sh_108, lq_108, sh_109, lq_109, sh_110, lq_110, sh_111, lq_111, rg_105_0, rg_106_1, rg_106_2, rg_106_3, rg_106_4, ex5, Option.toList_some, Option.toList_none, List.cons_append, List.nil_append, true_and, and_true, nI_1, p_at, p_set, p_isIn, p_max, p_min, p_abs, ah, e1, if_false, true_or]
theorem c_need (hw : w ≠ 43) (hw2 : w < 512) (hX : TX T n c) (hT : TKs I T n c) (h : CS I T n c q) : ∃ J, (∀ r, Em L xs 23 [.ref 105, .int (nI w)] (179, I, Lm, RG nw sp s2 ai) r ↔ r = (none, 179, J, Lm, RG nw sp s2 ai)) ∧ CS J T n c (asz T n c w q) ∧ CF I J := by
  have ah := fun r => c_ahead (L := L) (xs := xs) (Lm := Lm) (nw := nw) (sp := sp) (s2 := s2) (ai := ai) hX hT h r
  have b := wq_b hX q.2.2
  by_cases hc : q.1 = 0 ∧ wq T n c q.2.2 = w
  · have e1 : ahV T n c q = w := by unfold ahV; rw [if_pos hc.1, hc.2]
    rw [e1] at ah
    have e2 : asz T n c w q = nxz q := by unfold asz nxz; rw [if_pos hc.1, if_pos hc.2, if_pos hc.1]
    obtain ⟨f1, f2⟩ := cs_nx h (fun _ => wq_c (by rw [hc.2]; exact hw))
    rw [e2]
    refine ⟨_, fun r => ?_, f1, f2⟩
    rw [em_23]
    simp only [x23_0, x23_1, x23_4, x23_5, x23_8, x23_9, x23_10, x23_13, x23_14, x23_15, x23_18, x23_21, x23_22, x23_23, x23_24, x23_27, sh_105, lq_105, sh_106, lq_106, sh_108, lq_108, sh_109, lq_109, sh_110, lq_110, sh_111, lq_111, rg_105_0, rg_106_1, rg_106_2, rg_106_3, rg_106_4, ex5, Option.toList_some, Option.toList_none, List.cons_append, List.nil_append, true_and, and_true, nI_1, p_at, p_set, p_isIn, p_max, p_min, p_abs, ah, if_true]
  · have e1 : (nI (ahV T n c q) = nI w) = False := eq_false (fun z => by
      unfold ahV at z
      by_cases hb : q.1 = 0
      · rw [if_pos hb] at z
        exact hc ⟨hb, (nI_eq (by omega) (by omega)).mp z⟩
      · rw [if_neg hb] at z
        exact hw ((nI_eq (by decide) (by omega)).mp z).symm)
    have e2 : asz T n c w q = flz T n 1 0 q := by
      unfold asz flz
      by_cases hb : q.1 = 0
      · rw [if_pos hb, if_pos hb, if_neg (fun z => hc ⟨hb, z⟩)]; rfl
      · rw [if_neg hb, if_neg hb]
    obtain ⟨J, f1, f2, f3⟩ := c_fail (fu := 0) (kd := 1) (L := L) (xs := xs) (Lm := Lm) (nw := nw) (sp := sp) (s2 := s2) (ai := ai) (by decide) (by decide) hX hT h
    have n1 : nI 1 = 1 := rfl
    rw [n1, nI_0] at f1
    rw [e2]
    refine ⟨J, fun r => ?_, f2, f3⟩
    rw [em_23]
    simp only [x23_0, x23_1, x23_4, x23_5, x23_8, x23_9, x23_10, x23_13, x23_14, x23_15, x23_18, x23_21, x23_22, x23_23, x23_24, x23_27, sh_105, lq_105, sh_106, lq_106, sh_108, lq_108, sh_109, lq_109, sh_110, lq_110, sh_111, lq_111, rg_105_0, rg_106_1, rg_106_2, rg_106_3, rg_106_4, ex5, Option.toList_some, Option.toList_none, List.cons_append, List.nil_append, true_and, and_true, nI_1, p_at, p_set, p_isIn, p_max, p_min, p_abs, ah, e1, if_false, f1]
theorem c_isGood (h : CS I T n c q) (r : Option Value × Mm) : Em L xs 18 [.ref 105] (179, I, Lm, RG nw sp s2 ai) r ↔ r = (some (.int (if q.1 = 0 then 1 else 0)), 179, I, Lm, RG nw sp s2 ai) := by
  rw [em_18]
  by_cases hb : q.1 = 0
  · obtain ⟨g1, g2, g3⟩ := cs_good h hb
    rw [if_pos hb]
    simp only [x18_0, x18_1, x18_4, x18_7, x18_8, x18_11, x18_12, sh_105, lq_105, sh_106, lq_106, sh_108, lq_108, sh_109, lq_109, sh_110, lq_110, sh_111, lq_111, rg_105_0, rg_106_1, rg_106_2, rg_106_3, rg_106_4, ex5, Option.toList_some, Option.toList_none, List.cons_append, List.nil_append, true_and, and_true, nI_1, p_at, p_set, p_isIn, p_max, p_min, p_abs, g1, if_true, or_true]
  · obtain ⟨b1, b2⟩ := cs_bad h hb
    rw [if_neg hb]
    simp only [x18_0, x18_1, x18_4, x18_7, x18_8, x18_11, x18_12, sh_105, lq_105, sh_106, lq_106, sh_108, lq_108, sh_109, lq_109, sh_110, lq_110, sh_111, lq_111, rg_105_0, rg_106_1, rg_106_2, rg_106_3, rg_106_4, ex5, Option.toList_some, Option.toList_none, List.cons_append, List.nil_append, true_and, and_true, nI_1, p_at, p_set, p_isIn, p_max, p_min, p_abs, b1, b2, if_false, true_or]
theorem c_number (hlo : lo < 2 ^ 31) (hhi : hi < 2 ^ 31) (hX : TX T n c) (hT : TKs I T n c) (h : CS I T n c q) : ∃ v J, (∀ r, Em L xs 24 [.ref 105, .int (nI lo), .int (nI hi)] (179, I, Lm, RG nw sp s2 ai) r ↔ r = (some (.int v), 179, J, Lm, RG nw sp s2 ai)) ∧ CS J T n c (nbz T n c lo hi q) ∧ CF I J ∧ ((nbz T n c lo hi q).1 = 0 → v = nI (nbW T n q.2.2)) := by
  have ah := fun r => c_ahead (L := L) (xs := xs) (Lm := Lm) (nw := nw) (sp := sp) (s2 := s2) (ai := ai) hX hT h r
  have n1 : nI 1 = 1 := rfl
  have n2 : nI 2 = 2 := rfl
  have n4 : nI 4 = 4 := rfl
  have bad : ∀ {kd fu : Nat}, kd ≠ 0 → kd ≤ 5 → ∃ J, (∀ r, Em L xs 21 [.ref 105, .int (nI kd), .int (nI fu)] (179, I, Lm, RG nw sp s2 ai) r ↔ r = (none, 179, J, Lm, RG nw sp s2 ai)) ∧ CS (up2 J 105 6 (J 105 6 + 1)) T n c (flz T n kd fu q) ∧ CF I (up2 J 105 6 (J 105 6 + 1)) := fun {kd fu} h1 h2 => by
    obtain ⟨J, f1, f2, f3⟩ := c_fail (fu := fu) (kd := kd) (L := L) (xs := xs) (Lm := Lm) (nw := nw) (sp := sp) (s2 := s2) (ai := ai) h1 h2 hX hT h
    have hq : ¬ (flz T n kd fu q).1 = 0 := by
      unfold flz
      by_cases hb : q.1 = 0
      · rw [if_pos hb]; exact h1
      · rw [if_neg hb]; exact hb
    obtain ⟨k1, k2⟩ := cs_nx f2 (fun z => (hq z).elim)
    rw [show nxz (flz T n kd fu q) = flz T n kd fu q from if_neg hq] at k1
    exact ⟨J, f1, k1, cfTr f3 k2⟩
  by_cases hb : q.1 = 0
  · obtain ⟨g1, g2, g3⟩ := cs_good h hb
    have ea : ahV T n c q = wq T n c q.2.2 := if_pos hb
    rw [ea] at ah
    by_cases hc : wq T n c q.2.2 = 41
    · obtain ⟨k1, k2, k3⟩ := (wq_num hX).mp hc
      have hn := hX.1; have hcn := hX.2.1
      have hlt := tx_fr hX _ k1
      have tl := te_le (T := T) hlt
      have a10 : atv I 110 (nI q.2.2) = nI (snW T n q.2.2) := (atv_lt (show q.2.2 < 1601 by omega)).trans (hT.1 _ k1).2.2.1
      have a11 : atv I 111 (nI q.2.2) = nI (nbW T n q.2.2) := (atv_lt (show q.2.2 < 1601 by omega)).trans ((hT.1 _ k1).2.2.2.2 k2)
      have e41 : nI (wq T n c q.2.2) = 41 := by rw [hc]; rfl
      have hs : snW T n q.2.2 < 2 ^ 31 := by unfold snW; omega
      have ez : nbz T n c lo hi q = if 4 < snW T n q.2.2 then (1, frW T n q.2.2 + 4, 0) else if nbW T n q.2.2 < lo ∨ hi < nbW T n q.2.2 then (2, frW T n q.2.2, 0) else (0, 0, q.2.2 + 1) := by unfold nbz; rw [if_pos hb, if_pos hc]
      rw [ez]
      by_cases c4 : 4 < snW T n q.2.2
      · have s4 : (nI (snW T n q.2.2) ≤ 4) = False := eq_false (nI_ge (a := 4) c4 hs)
        obtain ⟨J, f1, f2, f3⟩ := bad (kd := 1) (fu := 4) (by decide) (by decide)
        rw [n1, n4] at f1
        rw [show flz T n 1 4 q = (1, frW T n q.2.2 + 4, 0) from if_pos hb] at f2
        rw [if_pos c4]
        refine ⟨nI (nbW T n q.2.2), _, fun r => ?_, f2, f3, fun _ => rfl⟩
        rw [em_24]
        simp only [x24_0, x24_1, x24_4, x24_7, x24_8, x24_11, x24_14, x24_15, x24_16, x24_19, x24_21, x24_24, x24_25, x24_26, x24_27, x24_30, x24_33, x24_34, x24_37, x24_40, x24_41, x24_44, x24_47, x24_48, x24_51, x24_52, x24_53, x24_54, x24_57, x24_60, x24_61, x24_62, x24_65, x24_66, x24_67, x24_70, x24_71, x24_72, x24_73, x24_76, x24_77, x24_78, x24_81, x24_82, x24_83, x24_86, x24_87, sh_105, lq_105, sh_106, lq_106, sh_108, lq_108, sh_109, lq_109, sh_110, lq_110, sh_111, lq_111, rg_105_0, rg_106_1, rg_106_2, rg_106_3, rg_106_4, p_at (n := 179) (a := 108) (by decide) rfl, p_at (n := 179) (a := 109) (by decide) rfl, p_at (n := 179) (a := 110) (by decide) rfl, p_at (n := 179) (a := 111) (by decide) rfl, ex5, Option.toList_some, Option.toList_none, List.cons_append, List.nil_append, true_and, and_true, nI_1, p_at, p_set, p_isIn, p_max, p_min, p_abs, g2, a11, ah, e41, if_true, if_false, a10, s4, f1]
      · have s4 : (nI (snW T n q.2.2) ≤ 4) = True := eq_true (nI_le (b := 4) (by omega) (by decide))
        have nv : nbW T n q.2.2 < 2 ^ 31 := by
          have := nb_lt (T := T) (p := frW T n q.2.2) (min (snW T n q.2.2) 4) (fun j hj => te_inD (n := n) (fun z => by rw [pL_D z] at k2; cases k2) k2 (Nat.le_add_right _ _) (by unfold snW at hj; omega))
          have h2 : 10 ^ (min (snW T n q.2.2) 4) ≤ 10 ^ 4 := Nat.pow_le_pow_right (by decide) (Nat.min_le_right _ _)
          unfold nbW
          omega
        rw [if_neg c4]
        by_cases cr : nbW T n q.2.2 < lo ∨ hi < nbW T n q.2.2
        · obtain ⟨J, f1, f2, f3⟩ := bad (kd := 2) (fu := 0) (by decide) (by decide)
          rw [n2, nI_0] at f1
          rw [show flz T n 2 0 q = (2, frW T n q.2.2, 0) from if_pos hb] at f2
          rw [if_pos cr]
          refine ⟨nI (nbW T n q.2.2), _, fun r => ?_, f2, f3, fun _ => rfl⟩
          rw [em_24]
          by_cases cl : nbW T n q.2.2 < lo
          · have l1 : (nI (nbW T n q.2.2) < nI lo) = True := eq_true (nI_lt cl hlo)
            simp only [x24_0, x24_1, x24_4, x24_7, x24_8, x24_11, x24_14, x24_15, x24_16, x24_19, x24_21, x24_24, x24_25, x24_26, x24_27, x24_30, x24_33, x24_34, x24_37, x24_40, x24_41, x24_44, x24_47, x24_48, x24_51, x24_52, x24_53, x24_54, x24_57, x24_60, x24_61, x24_62, x24_65, x24_66, x24_67, x24_70, x24_71, x24_72, x24_73, x24_76, x24_77, x24_78, x24_81, x24_82, x24_83, x24_86, x24_87, sh_105, lq_105, sh_106, lq_106, sh_108, lq_108, sh_109, lq_109, sh_110, lq_110, sh_111, lq_111, rg_105_0, rg_106_1, rg_106_2, rg_106_3, rg_106_4, p_at (n := 179) (a := 108) (by decide) rfl, p_at (n := 179) (a := 109) (by decide) rfl, p_at (n := 179) (a := 110) (by decide) rfl, p_at (n := 179) (a := 111) (by decide) rfl, ex5, Option.toList_some, Option.toList_none, List.cons_append, List.nil_append, true_and, and_true, nI_1, p_at, p_set, p_isIn, p_max, p_min, p_abs, g2, a11, ah, e41, if_true, if_false, a10, s4, l1, f1]
          · have l1 : (nI (nbW T n q.2.2) < nI lo) = False := eq_false (nI_nlt (by omega) nv)
            have l2 : (nI (nbW T n q.2.2) ≤ nI hi) = False := eq_false (nI_ge (by omega) nv)
            simp only [x24_0, x24_1, x24_4, x24_7, x24_8, x24_11, x24_14, x24_15, x24_16, x24_19, x24_21, x24_24, x24_25, x24_26, x24_27, x24_30, x24_33, x24_34, x24_37, x24_40, x24_41, x24_44, x24_47, x24_48, x24_51, x24_52, x24_53, x24_54, x24_57, x24_60, x24_61, x24_62, x24_65, x24_66, x24_67, x24_70, x24_71, x24_72, x24_73, x24_76, x24_77, x24_78, x24_81, x24_82, x24_83, x24_86, x24_87, sh_105, lq_105, sh_106, lq_106, sh_108, lq_108, sh_109, lq_109, sh_110, lq_110, sh_111, lq_111, rg_105_0, rg_106_1, rg_106_2, rg_106_3, rg_106_4, p_at (n := 179) (a := 108) (by decide) rfl, p_at (n := 179) (a := 109) (by decide) rfl, p_at (n := 179) (a := 110) (by decide) rfl, p_at (n := 179) (a := 111) (by decide) rfl, ex5, Option.toList_some, Option.toList_none, List.cons_append, List.nil_append, true_and, and_true, nI_1, p_at, p_set, p_isIn, p_max, p_min, p_abs, g2, a11, ah, e41, if_true, if_false, a10, s4, l1, l2, f1]
        · obtain ⟨f1, f2⟩ := cs_nx h (fun _ => k1)
          have l1 : (nI (nbW T n q.2.2) < nI lo) = False := eq_false (nI_nlt (by omega) nv)
          have l2 : (nI (nbW T n q.2.2) ≤ nI hi) = True := eq_true (nI_le (by omega) hhi)
          rw [show nxz q = (0, 0, q.2.2 + 1) from if_pos hb] at f1
          rw [if_neg cr]
          rw [g2] at f1 f2
          refine ⟨nI (nbW T n q.2.2), _, fun r => ?_, f1, f2, fun _ => rfl⟩
          rw [em_24]
          simp only [x24_0, x24_1, x24_4, x24_7, x24_8, x24_11, x24_14, x24_15, x24_16, x24_19, x24_21, x24_24, x24_25, x24_26, x24_27, x24_30, x24_33, x24_34, x24_37, x24_40, x24_41, x24_44, x24_47, x24_48, x24_51, x24_52, x24_53, x24_54, x24_57, x24_60, x24_61, x24_62, x24_65, x24_66, x24_67, x24_70, x24_71, x24_72, x24_73, x24_76, x24_77, x24_78, x24_81, x24_82, x24_83, x24_86, x24_87, sh_105, lq_105, sh_106, lq_106, sh_108, lq_108, sh_109, lq_109, sh_110, lq_110, sh_111, lq_111, rg_105_0, rg_106_1, rg_106_2, rg_106_3, rg_106_4, p_at (n := 179) (a := 108) (by decide) rfl, p_at (n := 179) (a := 109) (by decide) rfl, p_at (n := 179) (a := 110) (by decide) rfl, p_at (n := 179) (a := 111) (by decide) rfl, ex5, Option.toList_some, Option.toList_none, List.cons_append, List.nil_append, true_and, and_true, nI_1, p_at, p_set, p_isIn, p_max, p_min, p_abs, g2, a11, ah, e41, if_true, if_false, a10, s4, l1, l2]
    · have e41 : (nI (wq T n c q.2.2) = 41) = False := eq_false (fun z => hc ((nI_eq (b := 41) (by have := wq_b hX q.2.2; omega) (by decide)).mp z))
      obtain ⟨J, f1, f2, f3⟩ := bad (kd := 1) (fu := 0) (by decide) (by decide)
      rw [n1, nI_0] at f1
      rw [show flz T n 1 0 q = (1, frW T n q.2.2, 0) from if_pos hb] at f2
      have ez : nbz T n c lo hi q = (1, frW T n q.2.2, 0) := by unfold nbz; rw [if_pos hb, if_neg hc]
      rw [ez]
      refine ⟨atv I 111 (I 105 6), _, fun r => ?_, f2, f3, fun z => by cases z⟩
      rw [em_24]
      simp only [x24_0, x24_1, x24_4, x24_7, x24_8, x24_11, x24_14, x24_15, x24_16, x24_19, x24_21, x24_24, x24_25, x24_26, x24_27, x24_30, x24_33, x24_34, x24_37, x24_40, x24_41, x24_44, x24_47, x24_48, x24_51, x24_52, x24_53, x24_54, x24_57, x24_60, x24_61, x24_62, x24_65, x24_66, x24_67, x24_70, x24_71, x24_72, x24_73, x24_76, x24_77, x24_78, x24_81, x24_82, x24_83, x24_86, x24_87, sh_105, lq_105, sh_106, lq_106, sh_108, lq_108, sh_109, lq_109, sh_110, lq_110, sh_111, lq_111, rg_105_0, rg_106_1, rg_106_2, rg_106_3, rg_106_4, p_at (n := 179) (a := 108) (by decide) rfl, p_at (n := 179) (a := 109) (by decide) rfl, p_at (n := 179) (a := 110) (by decide) rfl, p_at (n := 179) (a := 111) (by decide) rfl, ex5, Option.toList_some, Option.toList_none, List.cons_append, List.nil_append, true_and, and_true, nI_1, p_at, p_set, p_isIn, p_max, p_min, p_abs, ah, e41, if_false, f1]
  · have ea : ahV T n c q = 43 := if_neg hb
    rw [ea] at ah
    have e41 : (nI 43 = 41) = False := eq_false (by decide)
    obtain ⟨J, f1, f2, f3⟩ := bad (kd := 1) (fu := 0) (by decide) (by decide)
    rw [n1, nI_0] at f1
    rw [show flz T n 1 0 q = q from if_neg hb] at f2
    have ez : nbz T n c lo hi q = q := if_neg hb
    rw [ez]
    refine ⟨atv I 111 (I 105 6), _, fun r => ?_, f2, f3, fun z => (hb z).elim⟩
    rw [em_24]
    simp only [x24_0, x24_1, x24_4, x24_7, x24_8, x24_11, x24_14, x24_15, x24_16, x24_19, x24_21, x24_24, x24_25, x24_26, x24_27, x24_30, x24_33, x24_34, x24_37, x24_40, x24_41, x24_44, x24_47, x24_48, x24_51, x24_52, x24_53, x24_54, x24_57, x24_60, x24_61, x24_62, x24_65, x24_66, x24_67, x24_70, x24_71, x24_72, x24_73, x24_76, x24_77, x24_78, x24_81, x24_82, x24_83, x24_86, x24_87, sh_105, lq_105, sh_106, lq_106, sh_108, lq_108, sh_109, lq_109, sh_110, lq_110, sh_111, lq_111, rg_105_0, rg_106_1, rg_106_2, rg_106_3, rg_106_4, p_at (n := 179) (a := 108) (by decide) rfl, p_at (n := 179) (a := 109) (by decide) rfl, p_at (n := 179) (a := 110) (by decide) rfl, p_at (n := 179) (a := 111) (by decide) rfl, ex5, Option.toList_some, Option.toList_none, List.cons_append, List.nil_append, true_and, and_true, nI_1, p_at, p_set, p_isIn, p_max, p_min, p_abs, ah, e41, if_false, f1]
end
