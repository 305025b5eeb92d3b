/-! names: one number for the class, one for the reference -/
theorem te_L {T : Nat → Nat} {n i : Nat} (h : pL (T i) = true) : teW T n i = rnN pL T n i := if_pos h
theorem nmR_inj {x x' : Int32} {l l' : Int64} (h : nmR x l) (h' : nmR x' l') : x = x' ↔ l = l' := by
  obtain ⟨n, v, a1, a2, a3, a4, a5, a6, a7⟩ := h
  obtain ⟨n', v', b1, b2, b3, b4, b5, b6, b7⟩ := h'
  have hv : v < 2 ^ 31 := Nat.lt_trans a4 (Nat.lt_of_le_of_lt (Nat.pow_le_pow_right (by decide) a2) (by decide))
  have hv' : v' < 2 ^ 31 := Nat.lt_trans b4 (Nat.lt_of_le_of_lt (Nat.pow_le_pow_right (by decide) b2) (by decide))
  rw [a6, b6, a7, b7, nI_eq (nm_lt a2 a4) (nm_lt b2 b4), lN_eq hv hv']
  constructor
  · intro e
    have key : ∀ {n n' v v' : Nat}, n ≤ 6 → n' ≤ 6 → n < n' → v' % 27 ≠ 0 → v * 27 ^ (6 - n) = v' * 27 ^ (6 - n') → False := fun {n n' v v'} h1 h2 h3 h4 e => by
      have e2 : 6 - n = (6 - n') + (n' - n - 1 + 1) := by omega
      rw [e2, Nat.pow_add, ← Nat.mul_assoc, Nat.mul_right_comm] at e
      have e3 := Nat.eq_of_mul_eq_mul_right (Nat.pow_pos (n := 6 - n') (show 0 < 27 by decide)) e
      rw [Nat.pow_succ, ← Nat.mul_assoc] at e3
      exact h4 (by rw [← e3]; exact Nat.mul_mod_left _ _)
    rcases Nat.lt_trichotomy n n' with c | c | c
    · exact (key a2 b2 c b5 e).elim
    · rw [c] at e
      exact Nat.eq_of_mul_eq_mul_right (Nat.pow_pos (by decide)) e
    · exact (key b2 a2 c a5 e.symm).elim
  · intro e
    have hn : n = n' := by
      rcases Nat.lt_trichotomy n n' with c | c | c
      · have := Nat.pow_le_pow_right (n := 27) (by decide) (show n ≤ n' - 1 by omega); omega
      · exact c
      · have := Nat.pow_le_pow_right (n := 27) (by decide) (show n' ≤ n - 1 by omega); omega
    rw [e, hn]
theorem nmN_pad {T : Nat → Nat} {p s : Nat} : ∀ d, nmN T p s (s + d) = nmN T p s s * 27 ^ d
  | 0 => (Nat.mul_one _).symm
  | d + 1 => by
    show 27 * nmN T p s (s + d) + (if s + d < s then T (p + (s + d)) - 96 else 0) = _
    rw [if_neg (by omega), nmN_pad d, Nat.pow_succ, Nat.add_zero, Nat.mul_comm 27, Nat.mul_assoc]
/-- a word of one to six letters -/
theorem nmR_tok {T : Nat → Nat} {p s : Nat} (h1 : 1 ≤ s) (h6 : s ≤ 6) (hl : ∀ j, j < s → pL (T (p + j)) = true) : nmR (nI (nmN T p s 6)) (lN (nmN T p s s)) := by
  have dl : ∀ i, i < s → 1 ≤ (if i < s then T (p + i) - 96 else 0) ∧ (if i < s then T (p + i) - 96 else 0) < 27 := fun i hi => by
    rw [if_pos hi]; have := pL_iff.mp (hl i hi); omega
  have lo : ∀ i, 1 ≤ i → i ≤ s → 27 ^ (i - 1) ≤ nmN T p s i ∧ nmN T p s i < 27 ^ i ∧ nmN T p s i % 27 ≠ 0 := by
    intro i
    induction i with
    | zero => intro h; omega
    | succ i ih =>
      intro _ hi
      have d := dl i (by omega)
      have e : nmN T p s (i + 1) = 27 * nmN T p s i + (if i < s then T (p + i) - 96 else 0) := rfl
      rw [e]
      by_cases z : i = 0
      · subst z
        have e0 : nmN T p s 0 = 0 := rfl
        rw [e0]
        refine ⟨by show 1 ≤ _; omega, by show _ < 27; omega, by omega⟩
      · obtain ⟨i1, i2, i3⟩ := ih (by omega) (by omega)
        have e1 : 27 ^ (i + 1 - 1) = 27 * 27 ^ (i - 1) := by rw [show i + 1 - 1 = (i - 1) + 1 by omega, Nat.pow_succ, Nat.mul_comm]
        have e2 : 27 ^ (i + 1) = 27 * 27 ^ i := by rw [Nat.pow_succ, Nat.mul_comm]
        rw [e1, e2]
        refine ⟨by omega, by omega, by omega⟩
  obtain ⟨l1, l2, l3⟩ := lo s h1 (Nat.le_refl s)
  refine ⟨s, nmN T p s s, h1, h6, l1, l2, l3, ?_, rfl⟩
  have := nmN_pad (T := T) (p := p) (s := s) (6 - s)
  rw [show s + (6 - s) = 6 by omega] at this
  rw [this]
def ixL (f : Nat → Int64) (v : Int64) : Nat → Nat → Nat
  | 0, k => k
  | c + 1, k => if f k = v then k else ixL f v c (k + 1)
theorem ixL_F {f : Nat → Int32} {g : Nat → Int64} {x : Int32} {l : Int64} (h : nmR x l) : ∀ c k, (∀ j, k ≤ j → j < k + c → nmR (f j) (g j)) → ixL g l c k = ixF f x c k
  | 0, _, _ => rfl
  | c + 1, k, hf => by
    have e := nmR_inj (hf k (Nat.le_refl k) (by omega)) h
    have ih := ixL_F (f := f) (g := g) h c (k + 1) (fun j a b => hf j (by omega) (by omega))
    show (if g k = l then k else ixL g l c (k + 1)) = (if f k = x then k else ixF f x c (k + 1))
    by_cases z : f k = x
    · rw [if_pos z, if_pos (e.mp z)]
    · rw [if_neg z, if_neg (fun y => z (e.mpr y)), ih]
section
variable {L : Nat} {xs : Nat → Int32} {σ : Mm} {r : Option Value × Mm} {I J K : Nat → Nat → Int32} {Lm : Nat → Nat → Int64} {Rm : Nat → Nat → Nat} {n s so t N NS NH m M P nw S U : Nat} {V W : Vw} {sp s2 ai p : Nat} {x y z h v : Int32} {k c w lo hi : Nat} {T : Nat → Nat} {q : Rz}
theorem r_name (hTB : TB I T) (hKT : KT I) (hX : TX T n c) (h : RS I T n c q) : ∃ u G, (∀ r, Em L xs 181 [.ref 112] (179, I, Lm, RG nw sp s2 ai) r ↔ r = (some (.long u), 179, G, Lm, RG nw sp s2 ai)) ∧ RS G T n c (nmz T n c q) ∧ RFr I G ∧ ((nmz T n c q).1 = 0 → u = lN (nmN T (frW T n q.2.2) (snW T n q.2.2) (snW T n q.2.2)) ∧ G 112 42 = nI (frW T n q.2.2)) := by
  by_cases hb : q.1 = 0
  · obtain ⟨g5, hP⟩ := rs_good h hb
    have hk : q.2.2 ≤ c := hP.2.2.2
    have hn := hX.1
    obtain ⟨G, l1, l2, l3, l4, l5⟩ := r_look (L := L) (xs := xs) (Lm := Lm) (nw := nw) (sp := sp) (s2 := s2) (ai := ai) hTB hX hP
    have hRF : RFr I G := ⟨l4, fun j j1 _ _ _ _ => l5 j j1⟩
    have h5 : G 112 5 = 0 := by rw [l5 5 (by decide)]; exact g5
    have hTG := hRF.tb hTB
    have hKG := hRF.kt hKT
    have hRG : RS G T n c q := ⟨by rw [h5, hb]; rfl, h.2.1, fun _ => l3, (l5 6 (by decide)).trans h.2.2.2⟩
    have ow := fun r => r_own (L := L) (xs := xs) (Lm := Lm) (nw := nw) (sp := sp) (s2 := s2) (ai := ai) hTG hKG hX hRG hb l2 r
    obtain ⟨f1, f2⟩ := rs_fail (I := G) (T := T) (n := n) (c := c) (kd := 1) (pl := frW T n q.2.2) (by decide) (by decide)
    have fl := r_fail (L := L) (xs := xs) (Lm := Lm) (nw := nw) (sp := sp) (s2 := s2) (ai := ai) (kd := 1) (pl := frW T n q.2.2) h5
    have n1 : nI 1 = 1 := rfl
    rw [n1] at fl f1 f2
    by_cases hc : wq T n c q.2.2 = 40
    · obtain ⟨k1, k2, k3, k4⟩ := (wq_name hX).mp hc
      have hlt := tx_fr hX _ k1
      have tg := te_gt (T := T) hlt
      have tl := te_le (T := T) hlt
      have tb := tx_b hX k1
      have lk : lkR T n c q.2.2 = nI (T (frW T n q.2.2)) := if_pos k1
      rw [lk] at l1
      have iL := fun r => r_isL (L := L) (xs := xs) (σ := (179, G, Lm, RG nw sp s2 ai)) (d := T (frW T n q.2.2)) (by omega) r
      rw [if_pos k2] at iL
      have e4 : (nI (frW T n q.2.2) = G 112 4) = False := eq_false (fun z => k3 (l3.2.2.1.mp z.symm))
      rw [if_neg (show ¬ wq T n c q.2.2 < 33 by omega)] at ow
      have h3 : G 112 3 = nI n := l3.2.1
      have te_e := te_L (n := n) k2
      have dig : ∀ j, frW T n q.2.2 ≤ j → j < teW T n (frW T n q.2.2) → pL (T j) = true := fun j h1 h2 => by rw [te_e] at h2; exact en_in h1 h2
      have ndg : teW T n (frW T n q.2.2) < n → pL (T (teW T n (frW T n q.2.2))) = false := fun z => by rw [te_e] at z ⊢; exact en_at z
      have t113 : ∀ i, i < 1600 → G 113 i = nI (T i) ∧ T i < 2 ^ 31 := fun i hi => ⟨(hTG i hi).2.1, by have := (hTG i hi).2.2; omega⟩
      have sn : snW T n q.2.2 = teW T n (frW T n q.2.2) - frW T n q.2.2 := rfl
      have pw := fun (J : Nat → Nat → Int32) a b d => ps_word (J := J) hX k1 (Or.inl k2) a b d
      have ez : nmz T n c q = if 6 < snW T n q.2.2 then (1, frW T n q.2.2 + 6, 0) else (0, 0, q.2.2 + 1) := by unfold nmz; rw [if_pos hb, if_pos hc]
      rw [ez]
      obtain ⟨p, hp⟩ : ∃ p, frW T n q.2.2 = p := ⟨_, rfl⟩
      obtain ⟨s, hs⟩ : ∃ s, snW T n q.2.2 = s := ⟨_, rfl⟩
      rw [hp] at hlt tg tl tb l1 iL e4 dig ndg sn pw l2
      rw [hs] at sn
      rw [hp, hs]
      have es : teW T n p = p + s := by omega
      rw [es] at tg tl dig ndg pw
      have key : ∀ r i, i ≤ min s 6 → (Ev L xs 3 181 58 [some (.ref 112), some (.long (lN (nmN T p s i))), none] [] (179, up2 (up2 G 112 42 (nI p)) 112 2 (nI (p + i)), Lm, RG nw sp s2 ai) r ↔ Ev L xs 3 181 58 [some (.ref 112), some (.long (lN (nmN T p s (min s 6)))), none] [] (179, up2 (up2 G 112 42 (nI p)) 112 2 (nI (p + min s 6)), Lm, RG nw sp s2 ai) r) := by
        intro r
        refine up_ind Iff.rfl ?_
        intro j hj ih
        have u2 : up2 (up2 G 112 42 (nI p)) 112 2 (nI (p + j)) 112 2 = nI (p + j) := up2_eq
        have u3 : up2 (up2 G 112 42 (nI p)) 112 2 (nI (p + j)) 112 3 = nI n := by rw [up2_k (by decide), up2_k (by decide)]; exact h3
        have u42 : up2 (up2 G 112 42 (nI p)) 112 2 (nI (p + j)) 112 42 = nI p := by rw [up2_k (by decide), up2_eq]
        have c1 : (nI n ≤ nI (p + j)) = False := eq_false (nI_ge (by omega) (by omega))
        have i1 : inb (nI (p + j)) 1600 = True := inb_i (by omega) (by decide)
        have i2 : ixn (nI (p + j)) = p + j := ixn_nI (by omega)
        obtain ⟨t1, t2⟩ := t113 (p + j) (by omega)
        have t1' : up2 (up2 G 112 42 (nI p)) 112 2 (nI (p + j)) 113 (p + j) = nI (T (p + j)) := by rw [up2_p (by decide), up2_p (by decide)]; exact t1
        have dj := dig (p + j) (by omega) (by omega)
        have iD2 := fun r => r_isL (L := L) (xs := xs) (σ := (179, up2 (up2 G 112 42 (nI p)) 112 2 (nI (p + j)), Lm, RG nw sp s2 ai)) t2 r
        rw [if_pos dj] at iD2
        have s1 : nI (p + j) - nI p = nI j := (pk_sub (by omega)).trans (congrArg nI (by omega))
        have s6 : (nI j = 6) = False := eq_false (fun z => by have := (nI_eq (b := 6) (by omega) (by decide)).mp z; omega)
        have db := pL_iff.mp dj
        have m2 : (27 : Int64) * lN (nmN T p s j) + (nI (T (p + j))).toInt64 - 97 + 1 = lN (nmN T p s (j + 1)) := by
          have e : nmN T p s (j + 1) = 27 * nmN T p s j + (if j < s then T (p + j) - 96 else 0) := rfl
          rw [nI_l t2, show (27 : Int64) = lN 27 from rfl, lN_mul, lN_add, show (97 : Int64) = lN 97 from rfl, lN_sub (by omega), lN_1, e, if_pos (by omega)]
          exact congrArg lN (by omega)
        have u4 : up2 (up2 (up2 G 112 42 (nI p)) 112 2 (nI (p + j))) 112 2 (nI (p + j + 1)) = up2 (up2 G 112 42 (nI p)) 112 2 (nI (p + (j + 1))) := up2_up2
        refine Iff.trans ?_ ih
        rw [x181_58]
        simp only [x181_0, x181_1, x181_4, x181_7, x181_8, x181_9, x181_10, x181_13, x181_16, x181_19, x181_20, x181_23, x181_24, x181_27, x181_30, x181_31, x181_34, x181_37, x181_38, x181_39, x181_40, x181_43, x181_46, x181_47, x181_48, x181_49, x181_50, x181_53, x181_56, x181_57, x181_59, x181_62, x181_63, x181_66, x181_69, x181_70, x181_73, x181_74, x181_77, x181_78, x181_81, x181_84, x181_85, x181_88, x181_89, x181_92, x181_93, x181_95, x181_98, x181_99, x181_100, x181_101, x181_104, x181_107, x181_108, x181_109, x181_112, x181_113, x181_114, x181_115, x181_118, x181_119, x181_122, x181_123, x181_124, x181_125, x181_128, x181_129, x181_130, x181_131, x181_132, x181_133, x181_134, x181_137, x181_138, x181_139, x181_142, x181_146, x181_147, x181_150, x181_153, x181_154, sh_112, sh_113, sh_114, sh_115, sh_116, sh_117, sh_118, sh_119, sh_120, sh_121, sh_122, sh_123, sh_124, sh_125, sh_126, sh_127, sh_128, sh_129, sh_130, sh_131, sh_132, sh_133, sh_134, sh_135, sh_136, sh_137, sh_138, sh_139, sh_140, sh_141, sh_142, sh_143, sh_144, sh_145, sh_146, sh_147, sh_148, sh_149, sh_150, sh_151, sh_152, sh_153, sh_154, sh_155, sh_156, sh_157, sh_158, sh_159, sh_160, sh_161, sh_162, sh_163, sh_164, sh_165, sh_166, sh_167, sh_168, sh_169, sh_170, sh_171, sh_172, sh_173, sh_174, sh_175, sh_176, sh_177, sh_178, lq_112, lq_113, lq_114, lq_115, lq_116, lq_117, lq_118, lq_119, lq_120, lq_121, lq_122, lq_123, lq_124, lq_125, lq_126, lq_127, lq_128, lq_129, lq_130, lq_131, lq_132, lq_133, lq_134, lq_135, lq_136, lq_137, lq_138, lq_139, lq_140, lq_141, lq_142, lq_143, lq_144, lq_145, lq_146, lq_147, lq_148, lq_149, lq_150, lq_151, lq_152, lq_153, lq_154, lq_155, lq_156, lq_157, lq_158, lq_159, lq_160, lq_161, lq_162, lq_163, lq_164, lq_165, lq_166, lq_167, lq_168, lq_169, lq_170, lq_171, lq_172, lq_173, lq_174, lq_175, lq_176, lq_177, lq_178, rg_112_0, rg_112_9, rg_112_10, rg_112_11, rg_112_12, rg_112_13, rg_112_14, rg_112_15, rg_112_16, rg_112_17, rg_112_18, rg_112_19, rg_112_20, rg_112_21, rg_112_22, rg_112_23, rg_112_24, rg_112_25, rg_112_26, rg_112_27, rg_112_28, rg_112_29, rg_112_30, rg_112_31, rg_112_32, rg_112_33, rg_112_34, rg_112_35, rg_112_36, rg_112_37, rg_112_38, rg_112_39, rg_112_40, rg_112_41, rg_112_43, rg_112_44, rg_112_45, rg_112_46, rg_112_47, rg_112_48, rg_112_49, rg_112_51, rg_112_55, rg_112_57, rg_112_60, rg_112_61, rg_112_62, rg_112_63, rg_112_64, rg_112_66, rg_112_67, rg_112_68, rg_112_69, rg_112_70, rg_112_71, rg_112_72, rg_112_73, rg_112_74, rg_112_80, rg_112_83, rg_112_84, rg_112_85, rg_112_86, rg_112_90, rg_112_91, rg_112_92, ex5, Option.toList_some, Option.toList_none, List.cons_append, List.nil_append, true_and, and_true, nI_1, p_at, p_set, p_isIn, p_max, p_min, p_abs, u2, u3, u42, c1, if_false, i1, i2, t1', iD2, one_ne, s1, s6, m2, u4]
      have enter : ∀ r, Em L xs 181 [.ref 112] (179, I, Lm, RG nw sp s2 ai) r ↔ Ev L xs 3 181 58 [some (.ref 112), some (.long (lN (nmN T p s (min s 6)))), none] [] (179, up2 (up2 G 112 42 (nI p)) 112 2 (nI (p + min s 6)), Lm, RG nw sp s2 ai) r := fun r => by
        have kk := key r 0 (Nat.zero_le _)
        have u : up2 (up2 G 112 42 (nI p)) 112 2 (nI (p + 0)) = up2 G 112 42 (nI p) := by
          have e : nI (p + 0) = up2 G 112 42 (nI p) 112 2 := by rw [up2_k (by decide)]; exact l2.symm
          rw [e]; exact up2_same
        rw [u] at kk
        rw [em_181]
        simp only [x181_0, x181_1, x181_4, x181_7, x181_8, x181_9, x181_10, x181_13, x181_16, x181_19, x181_20, x181_23, x181_24, x181_27, x181_30, x181_31, x181_34, x181_37, x181_38, x181_39, x181_40, x181_43, x181_46, x181_47, x181_48, x181_49, x181_50, x181_53, x181_56, x181_57, x181_59, x181_62, x181_63, x181_66, x181_69, x181_70, x181_73, x181_74, x181_77, x181_78, x181_81, x181_84, x181_85, x181_88, x181_89, x181_92, x181_93, x181_95, x181_98, x181_99, x181_100, x181_101, x181_104, x181_107, x181_108, x181_109, x181_112, x181_113, x181_114, x181_115, x181_118, x181_119, x181_122, x181_123, x181_124, x181_125, x181_128, x181_129, x181_130, x181_131, x181_132, x181_133, x181_134, x181_137, x181_138, x181_139, x181_142, x181_146, x181_147, x181_150, x181_153, x181_154, sh_112, sh_113, sh_114, sh_115, sh_116, sh_117, sh_118, sh_119, sh_120, sh_121, sh_122, sh_123, sh_124, sh_125, sh_126, sh_127, sh_128, sh_129, sh_130, sh_131, sh_132, sh_133, sh_134, sh_135, sh_136, sh_137, sh_138, sh_139, sh_140, sh_141, sh_142, sh_143, sh_144, sh_145, sh_146, sh_147, sh_148, sh_149, sh_150, sh_151, sh_152, sh_153, sh_154, sh_155, sh_156, sh_157, sh_158, sh_159, sh_160, sh_161, sh_162, sh_163, sh_164, sh_165, sh_166, sh_167, sh_168, sh_169, sh_170, sh_171, sh_172, sh_173, sh_174, sh_175, sh_176, sh_177, sh_178, lq_112, lq_113, lq_114, lq_115, lq_116, lq_117, lq_118, lq_119, lq_120, lq_121, lq_122, lq_123, lq_124, lq_125, lq_126, lq_127, lq_128, lq_129, lq_130, lq_131, lq_132, lq_133, lq_134, lq_135, lq_136, lq_137, lq_138, lq_139, lq_140, lq_141, lq_142, lq_143, lq_144, lq_145, lq_146, lq_147, lq_148, lq_149, lq_150, lq_151, lq_152, lq_153, lq_154, lq_155, lq_156, lq_157, lq_158, lq_159, lq_160, lq_161, lq_162, lq_163, lq_164, lq_165, lq_166, lq_167, lq_168, lq_169, lq_170, lq_171, lq_172, lq_173, lq_174, lq_175, lq_176, lq_177, lq_178, rg_112_0, rg_112_9, rg_112_10, rg_112_11, rg_112_12, rg_112_13, rg_112_14, rg_112_15, rg_112_16, rg_112_17, rg_112_18, rg_112_19, rg_112_20, rg_112_21, rg_112_22, rg_112_23, rg_112_24, rg_112_25, rg_112_26, rg_112_27, rg_112_28, rg_112_29, rg_112_30, rg_112_31, rg_112_32, rg_112_33, rg_112_34, rg_112_35, rg_112_36, rg_112_37, rg_112_38, rg_112_39, rg_112_40, rg_112_41, rg_112_43, rg_112_44, rg_112_45, rg_112_46, rg_112_47, rg_112_48, rg_112_49, rg_112_51, rg_112_55, rg_112_57, rg_112_60, rg_112_61, rg_112_62, rg_112_63, rg_112_64, rg_112_66, rg_112_67, rg_112_68, rg_112_69, rg_112_70, rg_112_71, rg_112_72, rg_112_73, rg_112_74, rg_112_80, rg_112_83, rg_112_84, rg_112_85, rg_112_86, rg_112_90, rg_112_91, rg_112_92, ex5, Option.toList_some, Option.toList_none, List.cons_append, List.nil_append, true_and, and_true, nI_1, p_at, p_set, p_isIn, p_max, p_min, p_abs, g5, if_true, if_false, l1, iL, one_ne, l2, e4, ow]
        exact kk
      have u2 : up2 (up2 G 112 42 (nI p)) 112 2 (nI (p + min s 6)) 112 2 = nI (p + min s 6) := up2_eq
      have u3 : up2 (up2 G 112 42 (nI p)) 112 2 (nI (p + min s 6)) 112 3 = nI n := by rw [up2_k (by decide), up2_k (by decide)]; exact h3
      have u5 : up2 (up2 G 112 42 (nI p)) 112 2 (nI (p + min s 6)) 112 5 = 0 := by rw [up2_k (by decide), up2_k (by decide)]; exact h5
      have u42 : up2 (up2 G 112 42 (nI p)) 112 2 (nI (p + min s 6)) 112 42 = nI p := by rw [up2_k (by decide), up2_eq]
      have fr0 : RFr I (up2 (up2 G 112 42 (nI p)) 112 2 (nI (p + min s 6))) := rfTr hRF ⟨fun a ha => funext fun j => by rw [up2_p ha, up2_p ha], fun j j2 _ _ _ j42 => by rw [up2_k j2, up2_k j42]⟩
      by_cases c6 : 6 < s
      · have em6 : min s 6 = 6 := by omega
        rw [em6] at enter u2 u3 u5 u42 fr0
        have c1 : (nI n ≤ nI (p + 6)) = False := eq_false (nI_ge (by omega) (by omega))
        have i1 : inb (nI (p + 6)) 1600 = True := inb_i (by omega) (by decide)
        have i2 : ixn (nI (p + 6)) = p + 6 := ixn_nI (by omega)
        obtain ⟨t1, t2⟩ := t113 (p + 6) (by omega)
        have t1' : up2 (up2 G 112 42 (nI p)) 112 2 (nI (p + 6)) 113 (p + 6) = nI (T (p + 6)) := by rw [up2_p (by decide), up2_p (by decide)]; exact t1
        have iD2 := fun r => r_isL (L := L) (xs := xs) (σ := (179, up2 (up2 G 112 42 (nI p)) 112 2 (nI (p + 6)), Lm, RG nw sp s2 ai)) t2 r
        rw [if_pos (dig (p + 6) (by omega) (by omega))] at iD2
        have s1 : nI (p + 6) - nI p = 6 := (pk_sub (by omega)).trans ((congrArg nI (show p + 6 - p = 6 by omega)).trans rfl)
        have fl2 := r_fail (I := up2 (up2 G 112 42 (nI p)) 112 2 (nI (p + 6))) (L := L) (xs := xs) (Lm := Lm) (nw := nw) (sp := sp) (s2 := s2) (ai := ai) (kd := 1) (pl := p + 6) u5
        obtain ⟨f3, f4⟩ := rs_fail (I := up2 (up2 G 112 42 (nI p)) 112 2 (nI (p + 6))) (T := T) (n := n) (c := c) (kd := 1) (pl := p + 6) (by decide) (by decide)
        rw [n1] at fl2 f3 f4
        rw [if_pos c6]
        refine ⟨0, _, fun r => ?_, f3, rfTr fr0 f4, fun z => by cases z⟩
        refine (enter r).trans ?_
        rw [x181_58]
        simp only [x181_0, x181_1, x181_4, x181_7, x181_8, x181_9, x181_10, x181_13, x181_16, x181_19, x181_20, x181_23, x181_24, x181_27, x181_30, x181_31, x181_34, x181_37, x181_38, x181_39, x181_40, x181_43, x181_46, x181_47, x181_48, x181_49, x181_50, x181_53, x181_56, x181_57, x181_59, x181_62, x181_63, x181_66, x181_69, x181_70, x181_73, x181_74, x181_77, x181_78, x181_81, x181_84, x181_85, x181_88, x181_89, x181_92, x181_93, x181_95, x181_98, x181_99, x181_100, x181_101, x181_104, x181_107, x181_108, x181_109, x181_112, x181_113, x181_114, x181_115, x181_118, x181_119, x181_122, x181_123, x181_124, x181_125, x181_128, x181_129, x181_130, x181_131, x181_132, x181_133, x181_134, x181_137, x181_138, x181_139, x181_142, x181_146, x181_147, x181_150, x181_153, x181_154, sh_112, sh_113, sh_114, sh_115, sh_116, sh_117, sh_118, sh_119, sh_120, sh_121, sh_122, sh_123, sh_124, sh_125, sh_126, sh_127, sh_128, sh_129, sh_130, sh_131, sh_132, sh_133, sh_134, sh_135, sh_136, sh_137, sh_138, sh_139, sh_140, sh_141, sh_142, sh_143, sh_144, sh_145, sh_146, sh_147, sh_148, sh_149, sh_150, sh_151, sh_152, sh_153, sh_154, sh_155, sh_156, sh_157, sh_158, sh_159, sh_160, sh_161, sh_162, sh_163, sh_164, sh_165, sh_166, sh_167, sh_168, sh_169, sh_170, sh_171, sh_172, sh_173, sh_174, sh_175, sh_176, sh_177, sh_178, lq_112, lq_113, lq_114, lq_115, lq_116, lq_117, lq_118, lq_119, lq_120, lq_121, lq_122, lq_123, lq_124, lq_125, lq_126, lq_127, lq_128, lq_129, lq_130, lq_131, lq_132, lq_133, lq_134, lq_135, lq_136, lq_137, lq_138, lq_139, lq_140, lq_141, lq_142, lq_143, lq_144, lq_145, lq_146, lq_147, lq_148, lq_149, lq_150, lq_151, lq_152, lq_153, lq_154, lq_155, lq_156, lq_157, lq_158, lq_159, lq_160, lq_161, lq_162, lq_163, lq_164, lq_165, lq_166, lq_167, lq_168, lq_169, lq_170, lq_171, lq_172, lq_173, lq_174, lq_175, lq_176, lq_177, lq_178, rg_112_0, rg_112_9, rg_112_10, rg_112_11, rg_112_12, rg_112_13, rg_112_14, rg_112_15, rg_112_16, rg_112_17, rg_112_18, rg_112_19, rg_112_20, rg_112_21, rg_112_22, rg_112_23, rg_112_24, rg_112_25, rg_112_26, rg_112_27, rg_112_28, rg_112_29, rg_112_30, rg_112_31, rg_112_32, rg_112_33, rg_112_34, rg_112_35, rg_112_36, rg_112_37, rg_112_38, rg_112_39, rg_112_40, rg_112_41, rg_112_43, rg_112_44, rg_112_45, rg_112_46, rg_112_47, rg_112_48, rg_112_49, rg_112_51, rg_112_55, rg_112_57, rg_112_60, rg_112_61, rg_112_62, rg_112_63, rg_112_64, rg_112_66, rg_112_67, rg_112_68, rg_112_69, rg_112_70, rg_112_71, rg_112_72, rg_112_73, rg_112_74, rg_112_80, rg_112_83, rg_112_84, rg_112_85, rg_112_86, rg_112_90, rg_112_91, rg_112_92, ex5, Option.toList_some, Option.toList_none, List.cons_append, List.nil_append, true_and, and_true, nI_1, p_at, p_set, p_isIn, p_max, p_min, p_abs, u2, u3, u42, c1, if_false, if_true, i1, i2, t1', iD2, one_ne, s1, fl2]
      · have em6 : min s 6 = s := by omega
        rw [em6] at enter u2 u3 u5 u42 fr0
        rw [if_neg c6]
        have exit : ∀ r, Em L xs 181 [.ref 112] (179, I, Lm, RG nw sp s2 ai) r ↔ Ev L xs 3 181 145 [some (.ref 112), some (.long (lN (nmN T p s s))), none] [] (179, up2 (up2 G 112 42 (nI p)) 112 2 (nI (p + s)), Lm, RG nw sp s2 ai) r := fun r => by
          refine (enter r).trans ?_
          rw [x181_58]
          by_cases cn : p + s < n
          · have c1 : (nI n ≤ nI (p + s)) = False := eq_false (nI_ge cn (by omega))
            have i1 : inb (nI (p + s)) 1600 = True := inb_i (by omega) (by decide)
            have i2 : ixn (nI (p + s)) = p + s := ixn_nI (by omega)
            obtain ⟨t1, t2⟩ := t113 (p + s) (by omega)
            have t1' : up2 (up2 G 112 42 (nI p)) 112 2 (nI (p + s)) 113 (p + s) = nI (T (p + s)) := by rw [up2_p (by decide), up2_p (by decide)]; exact t1
            have iD2 := fun r => r_isL (L := L) (xs := xs) (σ := (179, up2 (up2 G 112 42 (nI p)) 112 2 (nI (p + s)), Lm, RG nw sp s2 ai)) t2 r
            rw [if_neg (by rw [ndg cn]; decide)] at iD2
            simp only [x181_0, x181_1, x181_4, x181_7, x181_8, x181_9, x181_10, x181_13, x181_16, x181_19, x181_20, x181_23, x181_24, x181_27, x181_30, x181_31, x181_34, x181_37, x181_38, x181_39, x181_40, x181_43, x181_46, x181_47, x181_48, x181_49, x181_50, x181_53, x181_56, x181_57, x181_59, x181_62, x181_63, x181_66, x181_69, x181_70, x181_73, x181_74, x181_77, x181_78, x181_81, x181_84, x181_85, x181_88, x181_89, x181_92, x181_93, x181_95, x181_98, x181_99, x181_100, x181_101, x181_104, x181_107, x181_108, x181_109, x181_112, x181_113, x181_114, x181_115, x181_118, x181_119, x181_122, x181_123, x181_124, x181_125, x181_128, x181_129, x181_130, x181_131, x181_132, x181_133, x181_134, x181_137, x181_138, x181_139, x181_142, x181_146, x181_147, x181_150, x181_153, x181_154, sh_112, sh_113, sh_114, sh_115, sh_116, sh_117, sh_118, sh_119, sh_120, sh_121, sh_122, sh_123, sh_124, sh_125, sh_126, sh_127, sh_128, sh_129, sh_130, sh_131, sh_132, sh_133, sh_134, sh_135, sh_136, sh_137, sh_138, sh_139, sh_140, sh_141, sh_142, sh_143, sh_144, sh_145, sh_146, sh_147, sh_148, sh_149, sh_150, sh_151, sh_152, sh_153, sh_154, sh_155, sh_156, sh_157, sh_158, sh_159, sh_160, sh_161, sh_162, sh_163, sh_164, sh_165, sh_166, sh_167, sh_168, sh_169, sh_170, sh_171, sh_172, sh_173, sh_174, sh_175, sh_176, sh_177, sh_178, lq_112, lq_113, lq_114, lq_115, lq_116, lq_117, lq_118, lq_119, lq_120, lq_121, lq_122, lq_123, lq_124, lq_125, lq_126, lq_127, lq_128, lq_129, lq_130, lq_131, lq_132, lq_133, lq_134, lq_135, lq_136, lq_137, lq_138, lq_139, lq_140, lq_141, lq_142, lq_143, lq_144, lq_145, lq_146, lq_147, lq_148, lq_149, lq_150, lq_151, lq_152, lq_153, lq_154, lq_155, lq_156, lq_157, lq_158, lq_159, lq_160, lq_161, lq_162, lq_163, lq_164, lq_165, lq_166, lq_167, lq_168, lq_169, lq_170, lq_171, lq_172, lq_173, lq_174, lq_175, lq_176, lq_177, lq_178, rg_112_0, rg_112_9, rg_112_10, rg_112_11, rg_112_12, rg_112_13, rg_112_14, rg_112_15, rg_112_16, rg_112_17, rg_112_18, rg_112_19, rg_112_20, rg_112_21, rg_112_22, rg_112_23, rg_112_24, rg_112_25, rg_112_26, rg_112_27, rg_112_28, rg_112_29, rg_112_30, rg_112_31, rg_112_32, rg_112_33, rg_112_34, rg_112_35, rg_112_36, rg_112_37, rg_112_38, rg_112_39, rg_112_40, rg_112_41, rg_112_43, rg_112_44, rg_112_45, rg_112_46, rg_112_47, rg_112_48, rg_112_49, rg_112_51, rg_112_55, rg_112_57, rg_112_60, rg_112_61, rg_112_62, rg_112_63, rg_112_64, rg_112_66, rg_112_67, rg_112_68, rg_112_69, rg_112_70, rg_112_71, rg_112_72, rg_112_73, rg_112_74, rg_112_80, rg_112_83, rg_112_84, rg_112_85, rg_112_86, rg_112_90, rg_112_91, rg_112_92, ex5, Option.toList_some, Option.toList_none, List.cons_append, List.nil_append, true_and, and_true, nI_1, p_at, p_set, p_isIn, p_max, p_min, p_abs, u2, u3, c1, if_false, if_true, i1, i2, t1', iD2]
          · have c1 : (nI n ≤ nI (p + s)) = True := eq_true (nI_le (by omega) (by omega))
            simp only [x181_0, x181_1, x181_4, x181_7, x181_8, x181_9, x181_10, x181_13, x181_16, x181_19, x181_20, x181_23, x181_24, x181_27, x181_30, x181_31, x181_34, x181_37, x181_38, x181_39, x181_40, x181_43, x181_46, x181_47, x181_48, x181_49, x181_50, x181_53, x181_56, x181_57, x181_59, x181_62, x181_63, x181_66, x181_69, x181_70, x181_73, x181_74, x181_77, x181_78, x181_81, x181_84, x181_85, x181_88, x181_89, x181_92, x181_93, x181_95, x181_98, x181_99, x181_100, x181_101, x181_104, x181_107, x181_108, x181_109, x181_112, x181_113, x181_114, x181_115, x181_118, x181_119, x181_122, x181_123, x181_124, x181_125, x181_128, x181_129, x181_130, x181_131, x181_132, x181_133, x181_134, x181_137, x181_138, x181_139, x181_142, x181_146, x181_147, x181_150, x181_153, x181_154, sh_112, sh_113, sh_114, sh_115, sh_116, sh_117, sh_118, sh_119, sh_120, sh_121, sh_122, sh_123, sh_124, sh_125, sh_126, sh_127, sh_128, sh_129, sh_130, sh_131, sh_132, sh_133, sh_134, sh_135, sh_136, sh_137, sh_138, sh_139, sh_140, sh_141, sh_142, sh_143, sh_144, sh_145, sh_146, sh_147, sh_148, sh_149, sh_150, sh_151, sh_152, sh_153, sh_154, sh_155, sh_156, sh_157, sh_158, sh_159, sh_160, sh_161, sh_162, sh_163, sh_164, sh_165, sh_166, sh_167, sh_168, sh_169, sh_170, sh_171, sh_172, sh_173, sh_174, sh_175, sh_176, sh_177, sh_178, lq_112, lq_113, lq_114, lq_115, lq_116, lq_117, lq_118, lq_119, lq_120, lq_121, lq_122, lq_123, lq_124, lq_125, lq_126, lq_127, lq_128, lq_129, lq_130, lq_131, lq_132, lq_133, lq_134, lq_135, lq_136, lq_137, lq_138, lq_139, lq_140, lq_141, lq_142, lq_143, lq_144, lq_145, lq_146, lq_147, lq_148, lq_149, lq_150, lq_151, lq_152, lq_153, lq_154, lq_155, lq_156, lq_157, lq_158, lq_159, lq_160, lq_161, lq_162, lq_163, lq_164, lq_165, lq_166, lq_167, lq_168, lq_169, lq_170, lq_171, lq_172, lq_173, lq_174, lq_175, lq_176, lq_177, lq_178, rg_112_0, rg_112_9, rg_112_10, rg_112_11, rg_112_12, rg_112_13, rg_112_14, rg_112_15, rg_112_16, rg_112_17, rg_112_18, rg_112_19, rg_112_20, rg_112_21, rg_112_22, rg_112_23, rg_112_24, rg_112_25, rg_112_26, rg_112_27, rg_112_28, rg_112_29, rg_112_30, rg_112_31, rg_112_32, rg_112_33, rg_112_34, rg_112_35, rg_112_36, rg_112_37, rg_112_38, rg_112_39, rg_112_40, rg_112_41, rg_112_43, rg_112_44, rg_112_45, rg_112_46, rg_112_47, rg_112_48, rg_112_49, rg_112_51, rg_112_55, rg_112_57, rg_112_60, rg_112_61, rg_112_62, rg_112_63, rg_112_64, rg_112_66, rg_112_67, rg_112_68, rg_112_69, rg_112_70, rg_112_71, rg_112_72, rg_112_73, rg_112_74, rg_112_80, rg_112_83, rg_112_84, rg_112_85, rg_112_86, rg_112_90, rg_112_91, rg_112_92, ex5, Option.toList_some, Option.toList_none, List.cons_append, List.nil_append, true_and, and_true, nI_1, p_at, p_set, p_isIn, p_max, p_min, p_abs, u2, u3, c1, if_true]
        refine ⟨lN (nmN T p s s), up2 (up2 (up2 G 112 42 (nI p)) 112 2 (nI (p + s))) 112 4 (nI (p + s)), fun r => ?_, ⟨?_, Nat.zero_le 5, fun _ => pw _ ?_ ?_ up2_eq, (up2_k (by decide)).trans ((up2_k (by decide)).trans ((up2_k (by decide)).trans ((l5 6 (by decide)).trans (h.2.2.2.trans (plc_g hb _ _)))))⟩, rfTr fr0 ⟨fun a ha => funext fun j => up2_p ha, fun j _ j4 _ _ _ => up2_k j4⟩, fun _ => ⟨rfl, ?_⟩⟩
        · refine (exit r).trans ?_
          rw [x181_145]
          simp only [x181_0, x181_1, x181_4, x181_7, x181_8, x181_9, x181_10, x181_13, x181_16, x181_19, x181_20, x181_23, x181_24, x181_27, x181_30, x181_31, x181_34, x181_37, x181_38, x181_39, x181_40, x181_43, x181_46, x181_47, x181_48, x181_49, x181_50, x181_53, x181_56, x181_57, x181_59, x181_62, x181_63, x181_66, x181_69, x181_70, x181_73, x181_74, x181_77, x181_78, x181_81, x181_84, x181_85, x181_88, x181_89, x181_92, x181_93, x181_95, x181_98, x181_99, x181_100, x181_101, x181_104, x181_107, x181_108, x181_109, x181_112, x181_113, x181_114, x181_115, x181_118, x181_119, x181_122, x181_123, x181_124, x181_125, x181_128, x181_129, x181_130, x181_131, x181_132, x181_133, x181_134, x181_137, x181_138, x181_139, x181_142, x181_146, x181_147, x181_150, x181_153, x181_154, sh_112, sh_113, sh_114, sh_115, sh_116, sh_117, sh_118, sh_119, sh_120, sh_121, sh_122, sh_123, sh_124, sh_125, sh_126, sh_127, sh_128, sh_129, sh_130, sh_131, sh_132, sh_133, sh_134, sh_135, sh_136, sh_137, sh_138, sh_139, sh_140, sh_141, sh_142, sh_143, sh_144, sh_145, sh_146, sh_147, sh_148, sh_149, sh_150, sh_151, sh_152, sh_153, sh_154, sh_155, sh_156, sh_157, sh_158, sh_159, sh_160, sh_161, sh_162, sh_163, sh_164, sh_165, sh_166, sh_167, sh_168, sh_169, sh_170, sh_171, sh_172, sh_173, sh_174, sh_175, sh_176, sh_177, sh_178, lq_112, lq_113, lq_114, lq_115, lq_116, lq_117, lq_118, lq_119, lq_120, lq_121, lq_122, lq_123, lq_124, lq_125, lq_126, lq_127, lq_128, lq_129, lq_130, lq_131, lq_132, lq_133, lq_134, lq_135, lq_136, lq_137, lq_138, lq_139, lq_140, lq_141, lq_142, lq_143, lq_144, lq_145, lq_146, lq_147, lq_148, lq_149, lq_150, lq_151, lq_152, lq_153, lq_154, lq_155, lq_156, lq_157, lq_158, lq_159, lq_160, lq_161, lq_162, lq_163, lq_164, lq_165, lq_166, lq_167, lq_168, lq_169, lq_170, lq_171, lq_172, lq_173, lq_174, lq_175, lq_176, lq_177, lq_178, rg_112_0, rg_112_9, rg_112_10, rg_112_11, rg_112_12, rg_112_13, rg_112_14, rg_112_15, rg_112_16, rg_112_17, rg_112_18, rg_112_19, rg_112_20, rg_112_21, rg_112_22, rg_112_23, rg_112_24, rg_112_25, rg_112_26, rg_112_27, rg_112_28, rg_112_29, rg_112_30, rg_112_31, rg_112_32, rg_112_33, rg_112_34, rg_112_35, rg_112_36, rg_112_37, rg_112_38, rg_112_39, rg_112_40, rg_112_41, rg_112_43, rg_112_44, rg_112_45, rg_112_46, rg_112_47, rg_112_48, rg_112_49, rg_112_51, rg_112_55, rg_112_57, rg_112_60, rg_112_61, rg_112_62, rg_112_63, rg_112_64, rg_112_66, rg_112_67, rg_112_68, rg_112_69, rg_112_70, rg_112_71, rg_112_72, rg_112_73, rg_112_74, rg_112_80, rg_112_83, rg_112_84, rg_112_85, rg_112_86, rg_112_90, rg_112_91, rg_112_92, ex5, Option.toList_some, Option.toList_none, List.cons_append, List.nil_append, true_and, and_true, nI_1, p_at, p_set, p_isIn, p_max, p_min, p_abs, u2]
        · rw [up2_k (by decide), u5]; rfl
        · rw [up2_k (by decide), up2_eq]
        · rw [up2_k (by decide)]; exact u3
        · rw [up2_k (by decide)]; exact u42
    · have e2 : nmz T n c q = (1, frW T n q.2.2, 0) := by unfold nmz; rw [if_pos hb, if_neg hc]
      rw [e2]
      refine ⟨0, _, fun r => ?_, f1, rfTr hRF f2, fun z => by cases z⟩
      rcases tx_eq hX hk with ⟨k1, k2⟩ | ⟨k1, k2⟩
      · have lk : lkR T n c q.2.2 = nI (T (frW T n q.2.2)) := if_pos k1
        rw [lk] at l1
        have tb := tx_b hX k1
        have iL := fun r => r_isL (L := L) (xs := xs) (σ := (179, G, Lm, RG nw sp s2 ai)) (d := T (frW T n q.2.2)) (by omega) r
        by_cases cd : pL (T (frW T n q.2.2)) = true
        · rw [if_pos cd] at iL
          by_cases cs : stB T n q.2.2 = true
          · have e4 : G 112 4 = nI (frW T n q.2.2) := l3.2.2.1.mpr cs
            rw [em_181]
            simp only [x181_0, x181_1, x181_4, x181_7, x181_8, x181_9, x181_10, x181_13, x181_16, x181_19, x181_20, x181_23, x181_24, x181_27, x181_30, x181_31, x181_34, x181_37, x181_38, x181_39, x181_40, x181_43, x181_46, x181_47, x181_48, x181_49, x181_50, x181_53, x181_56, x181_57, x181_59, x181_62, x181_63, x181_66, x181_69, x181_70, x181_73, x181_74, x181_77, x181_78, x181_81, x181_84, x181_85, x181_88, x181_89, x181_92, x181_93, x181_95, x181_98, x181_99, x181_100, x181_101, x181_104, x181_107, x181_108, x181_109, x181_112, x181_113, x181_114, x181_115, x181_118, x181_119, x181_122, x181_123, x181_124, x181_125, x181_128, x181_129, x181_130, x181_131, x181_132, x181_133, x181_134, x181_137, x181_138, x181_139, x181_142, x181_146, x181_147, x181_150, x181_153, x181_154, sh_112, sh_113, sh_114, sh_115, sh_116, sh_117, sh_118, sh_119, sh_120, sh_121, sh_122, sh_123, sh_124, sh_125, sh_126, sh_127, sh_128, sh_129, sh_130, sh_131, sh_132, sh_133, sh_134, sh_135, sh_136, sh_137, sh_138, sh_139, sh_140, sh_141, sh_142, sh_143, sh_144, sh_145, sh_146, sh_147, sh_148, sh_149, sh_150, sh_151, sh_152, sh_153, sh_154, sh_155, sh_156, sh_157, sh_158, sh_159, sh_160, sh_161, sh_162, sh_163, sh_164, sh_165, sh_166, sh_167, sh_168, sh_169, sh_170, sh_171, sh_172, sh_173, sh_174, sh_175, sh_176, sh_177, sh_178, lq_112, lq_113, lq_114, lq_115, lq_116, lq_117, lq_118, lq_119, lq_120, lq_121, lq_122, lq_123, lq_124, lq_125, lq_126, lq_127, lq_128, lq_129, lq_130, lq_131, lq_132, lq_133, lq_134, lq_135, lq_136, lq_137, lq_138, lq_139, lq_140, lq_141, lq_142, lq_143, lq_144, lq_145, lq_146, lq_147, lq_148, lq_149, lq_150, lq_151, lq_152, lq_153, lq_154, lq_155, lq_156, lq_157, lq_158, lq_159, lq_160, lq_161, lq_162, lq_163, lq_164, lq_165, lq_166, lq_167, lq_168, lq_169, lq_170, lq_171, lq_172, lq_173, lq_174, lq_175, lq_176, lq_177, lq_178, rg_112_0, rg_112_9, rg_112_10, rg_112_11, rg_112_12, rg_112_13, rg_112_14, rg_112_15, rg_112_16, rg_112_17, rg_112_18, rg_112_19, rg_112_20, rg_112_21, rg_112_22, rg_112_23, rg_112_24, rg_112_25, rg_112_26, rg_112_27, rg_112_28, rg_112_29, rg_112_30, rg_112_31, rg_112_32, rg_112_33, rg_112_34, rg_112_35, rg_112_36, rg_112_37, rg_112_38, rg_112_39, rg_112_40, rg_112_41, rg_112_43, rg_112_44, rg_112_45, rg_112_46, rg_112_47, rg_112_48, rg_112_49, rg_112_51, rg_112_55, rg_112_57, rg_112_60, rg_112_61, rg_112_62, rg_112_63, rg_112_64, rg_112_66, rg_112_67, rg_112_68, rg_112_69, rg_112_70, rg_112_71, rg_112_72, rg_112_73, rg_112_74, rg_112_80, rg_112_83, rg_112_84, rg_112_85, rg_112_86, rg_112_90, rg_112_91, rg_112_92, ex5, Option.toList_some, Option.toList_none, List.cons_append, List.nil_append, true_and, and_true, nI_1, p_at, p_set, p_isIn, p_max, p_min, p_abs, g5, if_true, if_false, l1, iL, one_ne, l2, e4, fl]
          · have e4 : (nI (frW T n q.2.2) = G 112 4) = False := eq_false (fun z => cs (l3.2.2.1.mp z.symm))
            have h33 : wq T n c q.2.2 < 33 := by
              by_cases y : wq T n c q.2.2 < 33
              · exact y
              · exact (hc ((wq_name hX).mpr ⟨k1, cd, cs, fun w hw z => by omega⟩)).elim
            rw [if_pos h33] at ow
            rw [em_181]
            simp only [x181_0, x181_1, x181_4, x181_7, x181_8, x181_9, x181_10, x181_13, x181_16, x181_19, x181_20, x181_23, x181_24, x181_27, x181_30, x181_31, x181_34, x181_37, x181_38, x181_39, x181_40, x181_43, x181_46, x181_47, x181_48, x181_49, x181_50, x181_53, x181_56, x181_57, x181_59, x181_62, x181_63, x181_66, x181_69, x181_70, x181_73, x181_74, x181_77, x181_78, x181_81, x181_84, x181_85, x181_88, x181_89, x181_92, x181_93, x181_95, x181_98, x181_99, x181_100, x181_101, x181_104, x181_107, x181_108, x181_109, x181_112, x181_113, x181_114, x181_115, x181_118, x181_119, x181_122, x181_123, x181_124, x181_125, x181_128, x181_129, x181_130, x181_131, x181_132, x181_133, x181_134, x181_137, x181_138, x181_139, x181_142, x181_146, x181_147, x181_150, x181_153, x181_154, sh_112, sh_113, sh_114, sh_115, sh_116, sh_117, sh_118, sh_119, sh_120, sh_121, sh_122, sh_123, sh_124, sh_125, sh_126, sh_127, sh_128, sh_129, sh_130, sh_131, sh_132, sh_133, sh_134, sh_135, sh_136, sh_137, sh_138, sh_139, sh_140, sh_141, sh_142, sh_143, sh_144, sh_145, sh_146, sh_147, sh_148, sh_149, sh_150, sh_151, sh_152, sh_153, sh_154, sh_155, sh_156, sh_157, sh_158, sh_159, sh_160, sh_161, sh_162, sh_163, sh_164, sh_165, sh_166, sh_167, sh_168, sh_169, sh_170, sh_171, sh_172, sh_173, sh_174, sh_175, sh_176, sh_177, sh_178, lq_112, lq_113, lq_114, lq_115, lq_116, lq_117, lq_118, lq_119, lq_120, lq_121, lq_122, lq_123, lq_124, lq_125, lq_126, lq_127, lq_128, lq_129, lq_130, lq_131, lq_132, lq_133, lq_134, lq_135, lq_136, lq_137, lq_138, lq_139, lq_140, lq_141, lq_142, lq_143, lq_144, lq_145, lq_146, lq_147, lq_148, lq_149, lq_150, lq_151, lq_152, lq_153, lq_154, lq_155, lq_156, lq_157, lq_158, lq_159, lq_160, lq_161, lq_162, lq_163, lq_164, lq_165, lq_166, lq_167, lq_168, lq_169, lq_170, lq_171, lq_172, lq_173, lq_174, lq_175, lq_176, lq_177, lq_178, rg_112_0, rg_112_9, rg_112_10, rg_112_11, rg_112_12, rg_112_13, rg_112_14, rg_112_15, rg_112_16, rg_112_17, rg_112_18, rg_112_19, rg_112_20, rg_112_21, rg_112_22, rg_112_23, rg_112_24, rg_112_25, rg_112_26, rg_112_27, rg_112_28, rg_112_29, rg_112_30, rg_112_31, rg_112_32, rg_112_33, rg_112_34, rg_112_35, rg_112_36, rg_112_37, rg_112_38, rg_112_39, rg_112_40, rg_112_41, rg_112_43, rg_112_44, rg_112_45, rg_112_46, rg_112_47, rg_112_48, rg_112_49, rg_112_51, rg_112_55, rg_112_57, rg_112_60, rg_112_61, rg_112_62, rg_112_63, rg_112_64, rg_112_66, rg_112_67, rg_112_68, rg_112_69, rg_112_70, rg_112_71, rg_112_72, rg_112_73, rg_112_74, rg_112_80, rg_112_83, rg_112_84, rg_112_85, rg_112_86, rg_112_90, rg_112_91, rg_112_92, ex5, Option.toList_some, Option.toList_none, List.cons_append, List.nil_append, true_and, and_true, nI_1, p_at, p_set, p_isIn, p_max, p_min, p_abs, g5, if_true, if_false, l1, iL, one_ne, l2, e4, ow, fl]
        · rw [if_neg cd] at iL
          rw [em_181]
          simp only [x181_0, x181_1, x181_4, x181_7, x181_8, x181_9, x181_10, x181_13, x181_16, x181_19, x181_20, x181_23, x181_24, x181_27, x181_30, x181_31, x181_34, x181_37, x181_38, x181_39, x181_40, x181_43, x181_46, x181_47, x181_48, x181_49, x181_50, x181_53, x181_56, x181_57, x181_59, x181_62, x181_63, x181_66, x181_69, x181_70, x181_73, x181_74, x181_77, x181_78, x181_81, x181_84, x181_85, x181_88, x181_89, x181_92, x181_93, x181_95, x181_98, x181_99, x181_100, x181_101, x181_104, x181_107, x181_108, x181_109, x181_112, x181_113, x181_114, x181_115, x181_118, x181_119, x181_122, x181_123, x181_124, x181_125, x181_128, x181_129, x181_130, x181_131, x181_132, x181_133, x181_134, x181_137, x181_138, x181_139, x181_142, x181_146, x181_147, x181_150, x181_153, x181_154, sh_112, sh_113, sh_114, sh_115, sh_116, sh_117, sh_118, sh_119, sh_120, sh_121, sh_122, sh_123, sh_124, sh_125, sh_126, sh_127, sh_128, sh_129, sh_130, sh_131, sh_132, sh_133, sh_134, sh_135, sh_136, sh_137, sh_138, sh_139, sh_140, sh_141, sh_142, sh_143, sh_144, sh_145, sh_146, sh_147, sh_148, sh_149, sh_150, sh_151, sh_152, sh_153, sh_154, sh_155, sh_156, sh_157, sh_158, sh_159, sh_160, sh_161, sh_162, sh_163, sh_164, sh_165, sh_166, sh_167, sh_168, sh_169, sh_170, sh_171, sh_172, sh_173, sh_174, sh_175, sh_176, sh_177, sh_178, lq_112, lq_113, lq_114, lq_115, lq_116, lq_117, lq_118, lq_119, lq_120, lq_121, lq_122, lq_123, lq_124, lq_125, lq_126, lq_127, lq_128, lq_129, lq_130, lq_131, lq_132, lq_133, lq_134, lq_135, lq_136, lq_137, lq_138, lq_139, lq_140, lq_141, lq_142, lq_143, lq_144, lq_145, lq_146, lq_147, lq_148, lq_149, lq_150, lq_151, lq_152, lq_153, lq_154, lq_155, lq_156, lq_157, lq_158, lq_159, lq_160, lq_161, lq_162, lq_163, lq_164, lq_165, lq_166, lq_167, lq_168, lq_169, lq_170, lq_171, lq_172, lq_173, lq_174, lq_175, lq_176, lq_177, lq_178, rg_112_0, rg_112_9, rg_112_10, rg_112_11, rg_112_12, rg_112_13, rg_112_14, rg_112_15, rg_112_16, rg_112_17, rg_112_18, rg_112_19, rg_112_20, rg_112_21, rg_112_22, rg_112_23, rg_112_24, rg_112_25, rg_112_26, rg_112_27, rg_112_28, rg_112_29, rg_112_30, rg_112_31, rg_112_32, rg_112_33, rg_112_34, rg_112_35, rg_112_36, rg_112_37, rg_112_38, rg_112_39, rg_112_40, rg_112_41, rg_112_43, rg_112_44, rg_112_45, rg_112_46, rg_112_47, rg_112_48, rg_112_49, rg_112_51, rg_112_55, rg_112_57, rg_112_60, rg_112_61, rg_112_62, rg_112_63, rg_112_64, rg_112_66, rg_112_67, rg_112_68, rg_112_69, rg_112_70, rg_112_71, rg_112_72, rg_112_73, rg_112_74, rg_112_80, rg_112_83, rg_112_84, rg_112_85, rg_112_86, rg_112_90, rg_112_91, rg_112_92, ex5, Option.toList_some, Option.toList_none, List.cons_append, List.nil_append, true_and, and_true, nI_1, p_at, p_set, p_isIn, p_max, p_min, p_abs, g5, if_true, l1, iL, l2, fl]
      · have lk : lkR T n c q.2.2 = -1 := if_neg (by omega)
        rw [lk] at l1
        have iL := fun r => r_isL_m1 (L := L) (xs := xs) (σ := (179, G, Lm, RG nw sp s2 ai)) r
        rw [em_181]
        simp only [x181_0, x181_1, x181_4, x181_7, x181_8, x181_9, x181_10, x181_13, x181_16, x181_19, x181_20, x181_23, x181_24, x181_27, x181_30, x181_31, x181_34, x181_37, x181_38, x181_39, x181_40, x181_43, x181_46, x181_47, x181_48, x181_49, x181_50, x181_53, x181_56, x181_57, x181_59, x181_62, x181_63, x181_66, x181_69, x181_70, x181_73, x181_74, x181_77, x181_78, x181_81, x181_84, x181_85, x181_88, x181_89, x181_92, x181_93, x181_95, x181_98, x181_99, x181_100, x181_101, x181_104, x181_107, x181_108, x181_109, x181_112, x181_113, x181_114, x181_115, x181_118, x181_119, x181_122, x181_123, x181_124, x181_125, x181_128, x181_129, x181_130, x181_131, x181_132, x181_133, x181_134, x181_137, x181_138, x181_139, x181_142, x181_146, x181_147, x181_150, x181_153, x181_154, sh_112, sh_113, sh_114, sh_115, sh_116, sh_117, sh_118, sh_119, sh_120, sh_121, sh_122, sh_123, sh_124, sh_125, sh_126, sh_127, sh_128, sh_129, sh_130, sh_131, sh_132, sh_133, sh_134, sh_135, sh_136, sh_137, sh_138, sh_139, sh_140, sh_141, sh_142, sh_143, sh_144, sh_145, sh_146, sh_147, sh_148, sh_149, sh_150, sh_151, sh_152, sh_153, sh_154, sh_155, sh_156, sh_157, sh_158, sh_159, sh_160, sh_161, sh_162, sh_163, sh_164, sh_165, sh_166, sh_167, sh_168, sh_169, sh_170, sh_171, sh_172, sh_173, sh_174, sh_175, sh_176, sh_177, sh_178, lq_112, lq_113, lq_114, lq_115, lq_116, lq_117, lq_118, lq_119, lq_120, lq_121, lq_122, lq_123, lq_124, lq_125, lq_126, lq_127, lq_128, lq_129, lq_130, lq_131, lq_132, lq_133, lq_134, lq_135, lq_136, lq_137, lq_138, lq_139, lq_140, lq_141, lq_142, lq_143, lq_144, lq_145, lq_146, lq_147, lq_148, lq_149, lq_150, lq_151, lq_152, lq_153, lq_154, lq_155, lq_156, lq_157, lq_158, lq_159, lq_160, lq_161, lq_162, lq_163, lq_164, lq_165, lq_166, lq_167, lq_168, lq_169, lq_170, lq_171, lq_172, lq_173, lq_174, lq_175, lq_176, lq_177, lq_178, rg_112_0, rg_112_9, rg_112_10, rg_112_11, rg_112_12, rg_112_13, rg_112_14, rg_112_15, rg_112_16, rg_112_17, rg_112_18, rg_112_19, rg_112_20, rg_112_21, rg_112_22, rg_112_23, rg_112_24, rg_112_25, rg_112_26, rg_112_27, rg_112_28, rg_112_29, rg_112_30, rg_112_31, rg_112_32, rg_112_33, rg_112_34, rg_112_35, rg_112_36, rg_112_37, rg_112_38, rg_112_39, rg_112_40, rg_112_41, rg_112_43, rg_112_44, rg_112_45, rg_112_46, rg_112_47, rg_112_48, rg_112_49, rg_112_51, rg_112_55, rg_112_57, rg_112_60, rg_112_61, rg_112_62, rg_112_63, rg_112_64, rg_112_66, rg_112_67, rg_112_68, rg_112_69, rg_112_70, rg_112_71, rg_112_72, rg_112_73, rg_112_74, rg_112_80, rg_112_83, rg_112_84, rg_112_85, rg_112_86, rg_112_90, rg_112_91, rg_112_92, ex5, Option.toList_some, Option.toList_none, List.cons_append, List.nil_append, true_and, and_true, nI_1, p_at, p_set, p_isIn, p_max, p_min, p_abs, g5, if_true, l1, iL, l2, fl]
  · obtain ⟨b1, b2⟩ := rs_bad h hb
    have e2 : nmz T n c q = q := if_neg hb
    rw [e2]
    refine ⟨0, I, fun r => ?_, h, rfRf, fun z => (hb z).elim⟩
    rw [em_181]
    simp only [x181_0, x181_1, x181_4, x181_7, x181_8, x181_9, x181_10, x181_13, x181_16, x181_19, x181_20, x181_23, x181_24, x181_27, x181_30, x181_31, x181_34, x181_37, x181_38, x181_39, x181_40, x181_43, x181_46, x181_47, x181_48, x181_49, x181_50, x181_53, x181_56, x181_57, x181_59, x181_62, x181_63, x181_66, x181_69, x181_70, x181_73, x181_74, x181_77, x181_78, x181_81, x181_84, x181_85, x181_88, x181_89, x181_92, x181_93, x181_95, x181_98, x181_99, x181_100, x181_101, x181_104, x181_107, x181_108, x181_109, x181_112, x181_113, x181_114, x181_115, x181_118, x181_119, x181_122, x181_123, x181_124, x181_125, x181_128, x181_129, x181_130, x181_131, x181_132, x181_133, x181_134, x181_137, x181_138, x181_139, x181_142, x181_146, x181_147, x181_150, x181_153, x181_154, sh_112, sh_113, sh_114, sh_115, sh_116, sh_117, sh_118, sh_119, sh_120, sh_121, sh_122, sh_123, sh_124, sh_125, sh_126, sh_127, sh_128, sh_129, sh_130, sh_131, sh_132, sh_133, sh_134, sh_135, sh_136, sh_137, sh_138, sh_139, sh_140, sh_141, sh_142, sh_143, sh_144, sh_145, sh_146, sh_147, sh_148, sh_149, sh_150, sh_151, sh_152, sh_153, sh_154, sh_155, sh_156, sh_157, sh_158, sh_159, sh_160, sh_161, sh_162, sh_163, sh_164, sh_165, sh_166, sh_167, sh_168, sh_169, sh_170, sh_171, sh_172, sh_173, sh_174, sh_175, sh_176, sh_177, sh_178, lq_112, lq_113, lq_114, lq_115, lq_116, lq_117, lq_118, lq_119, lq_120, lq_121, lq_122, lq_123, lq_124, lq_125, lq_126, lq_127, lq_128, lq_129, lq_130, lq_131, lq_132, lq_133, lq_134, lq_135, lq_136, lq_137, lq_138, lq_139, lq_140, lq_141, lq_142, lq_143, lq_144, lq_145, lq_146, lq_147, lq_148, lq_149, lq_150, lq_151, lq_152, lq_153, lq_154, lq_155, lq_156, lq_157, lq_158, lq_159, lq_160, lq_161, lq_162, lq_163, lq_164, lq_165, lq_166, lq_167, lq_168, lq_169, lq_170, lq_171, lq_172, lq_173, lq_174, lq_175, lq_176, lq_177, lq_178, rg_112_0, rg_112_9, rg_112_10, rg_112_11, rg_112_12, rg_112_13, rg_112_14, rg_112_15, rg_112_16, rg_112_17, rg_112_18, rg_112_19, rg_112_20, rg_112_21, rg_112_22, rg_112_23, rg_112_24, rg_112_25, rg_112_26, rg_112_27, rg_112_28, rg_112_29, rg_112_30, rg_112_31, rg_112_32, rg_112_33, rg_112_34, rg_112_35, rg_112_36, rg_112_37, rg_112_38, rg_112_39, rg_112_40, rg_112_41, rg_112_43, rg_112_44, rg_112_45, rg_112_46, rg_112_47, rg_112_48, rg_112_49, rg_112_51, rg_112_55, rg_112_57, rg_112_60, rg_112_61, rg_112_62, rg_112_63, rg_112_64, rg_112_66, rg_112_67, rg_112_68, rg_112_69, rg_112_70, rg_112_71, rg_112_72, rg_112_73, rg_112_74, rg_112_80, rg_112_83, rg_112_84, rg_112_85, rg_112_86, rg_112_90, rg_112_91, rg_112_92, ex5, Option.toList_some, Option.toList_none, List.cons_append, List.nil_append, true_and, and_true, nI_1, p_at, p_set, p_isIn, p_max, p_min, p_abs, b1, b2, if_false]
end
