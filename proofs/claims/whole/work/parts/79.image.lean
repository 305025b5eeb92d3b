/-! images -/
theorem and255 {b : Nat} : nI b &&& 255 = nI (b % 256) := by
  apply Int32.toBitVec_inj.mp
  apply BitVec.eq_of_toNat_eq
  rw [Int32.toBitVec_and, BitVec.toNat_and]
  show (b % 2 ^ 32) &&& (2 ^ 8 - 1) = (b % 256) % 2 ^ 32
  rw [Nat.and_two_pow_sub_one_eq_mod]
  omega
theorem shr8 {b : Nat} (h : b < 2 ^ 31) : nI b >>> ((8 : Int32) &&& 31) = nI (b / 256) := by
  apply Int32.toInt_inj.mp
  rw [show ((8 : Int32) &&& 31) = 8 by decide]
  have e : (nI b >>> (8 : Int32)).toInt = (nI b).toInt >>> 8 := by
    show ((nI b).toBitVec.sshiftRight' ((8 : Int32).toBitVec.smod 32)).toInt = _
    rw [BitVec.sshiftRight', show ((8 : Int32).toBitVec.smod 32).toNat = 8 by decide, BitVec.toInt_sshiftRight]
    rfl
  have t : ∀ n : Nat, n < 2 ^ 31 → (nI n).toInt = (n : Int) := fun n hn => Int32.toInt_ofNat_of_lt hn
  rw [e, t b h, t _ (by omega)]
  show ((b : Int) >>> 8) = ((b / 256 : Nat) : Int)
  rw [Int.shiftRight_eq_div_pow]
  rfl
def ckF (f : Nat → Nat) : Nat → Nat
  | 0 => 21
  | n + 1 => (7 * ckF f n + f n) % 239
theorem ckF_lt (f : Nat → Nat) : ∀ n, ckF f n < 239
  | 0 => by show 21 < 239; decide
  | n + 1 => Nat.mod_lt _ (by decide)
def imF (N : Nat) (V : Vw) (i : Nat) : Nat := if i = 0 then N else if i < 4 * N + 1 then (if (i - 1) % 4 = 0 then ixn (V 1 ((i - 1) / 4) + 1) else if (i - 1) % 4 = 1 then ixn (V 2 ((i - 1) / 4)) else if (i - 1) % 4 = 2 then ixn (V 18 ((i - 1) / 4)) / 256 % 256 else ixn (V 18 ((i - 1) / 4)) % 256) else if i = 4 * N + 1 then ixn (V 22 0) / 256 % 256 else ixn (V 22 0) % 256
def imG (N : Nat) (V : Vw) (i : Nat) : Nat := if i < 4 * N + 3 then imF N V i else ckF (imF N V) (4 * N + 3)
def PT (I J : Nat → Nat → Int32) (f : Nat → Nat) (k : Nat) : Prop := J 0 8 = nI k ∧ (∀ i, i < k → J 2 i = nI (f i)) ∧ (∀ q, q ≠ 0 → q ≠ 2 → J q = I q) ∧ (∀ j, j ≠ 8 → J 0 j = I 0 j)
def RT (I J : Nat → Nat → Int32) (f : Nat → Nat) (k : Nat) : Prop := J 112 93 = nI k ∧ (∀ i, i < k → J 178 i = nI (f i)) ∧ (∀ q, q ≠ 112 → q ≠ 178 → J q = I q) ∧ (∀ j, j ≠ 93 → J 112 j = I 112 j)
theorem imF_0 {N : Nat} {V : Vw} : imF N V 0 = N := if_pos rfl
theorem imF_p {N p w : Nat} {V : Vw} (hp : p < N) (hw : w < 4) : imF N V (4 * p + 1 + w) = if w = 0 then ixn (V 1 p + 1) else if w = 1 then ixn (V 2 p) else if w = 2 then ixn (V 18 p) / 256 % 256 else ixn (V 18 p) % 256 := by
  unfold imF
  rw [if_neg (by omega), if_pos (by omega), show (4 * p + 1 + w - 1) % 4 = w by omega, show (4 * p + 1 + w - 1) / 4 = p by omega]
theorem imF_w {N w : Nat} {V : Vw} (hw : w < 2) : imF N V (4 * N + 1 + w) = if w = 0 then ixn (V 22 0) / 256 % 256 else ixn (V 22 0) % 256 := by
  unfold imF
  rw [if_neg (by omega), if_neg (by omega)]
  by_cases c : w = 0
  · rw [if_pos (by omega), if_pos c]
  · rw [if_neg (by omega), if_neg c]
/-- the places of the invariant, with another tape or picture -/
theorem invGen {I J : Nat → Nat → Int32} {Lm : Nat → Nat → Int64} {nw sp s2 ai S U N NS NH M P F K G K2 : Nat} {V : Vw} {Q : Ru} (hT : Tw nw S U) (hG : GC I S (S + 9) N NS NH M P V) (hM : GM I Lm N NS NH M P V) (hW : GW N NS NH M P V) (hQ : RQK Q ∧ RQC I U Q ∧ RQM I Q) (hF : GT I F K) (hA : TA nw sp ai) (hJ : ∀ q, q ≠ 0 → q ≠ 1 → q ≠ 2 → q ≠ 112 → q ≠ 113 → q ≠ 178 → J q = I q) (h12 : ∀ k, k ≠ 1 → k ≠ 93 → J 112 k = I 112 k) (f1 : J 0 7 = nI G ∧ J 112 1 = nI G ∧ G ≤ 1600) (f4 : ∀ i, i < 1600 → J 1 i = J 113 i ∧ rng (J 113 i) 0 255) (f5 : J 0 8 = nI K2 ∧ J 112 93 = nI K2 ∧ K2 ≤ 52 ∧ ∀ i, i < K2 → J 2 i = J 178 i) : Inv J Lm nw sp s2 ai := by
  obtain ⟨-, -, -, ⟨a9, b1⟩, b2⟩ := id hF
  have hU := tw_U hT; have hS := tw_S hT
  have hJ2 : ∀ q, 2 < q → q ≠ 112 → q ≠ 113 → q ≠ 178 → J q = I q := fun q h1 h2 h3 h4 => hJ q (by omega) (by omega) (by omega) h2 h3 h4
  refine ⟨S, U, N, NS, NH, M, P, V, Q, G, K2, hT, ?_, ?_, hW, ⟨hQ.1, ruC_fr hQ.2.1 (fun i hi => hJ2 _ (by omega) (by omega) (by omega) (by omega)), rqmFr hQ.2.2 (hJ2 155 (by decide) (by decide) (by decide) (by decide)) (fun p h1 h2 => hJ2 p (by omega) (by omega) (by omega) (by omega))⟩, ⟨f1, f4, f5, ⟨?_, ?_⟩, ktFr b2 (hJ2 107 (by decide) (by decide) (by decide) (by decide)) (fun p h1 h2 => hJ2 p (by omega) (by omega) (by omega) (by omega))⟩, hA⟩
  · obtain ⟨g1, g2, g3, g4, g5, g6, g7⟩ := hG
    have hJ' : ∀ q, 2 < q → q < 112 → J q = I q := fun q h1 h2 => hJ2 q (by omega) (by omega) (by omega) (by omega)
    refine ⟨crFr g1 (fun i _ _ _ _ => hJ' _ (by omega) (by omega)) (fun i _ => hJ' _ (by omega) (by omega)), ?_, ⟨?_, fun k hk => ?_⟩, ⟨fun k hk => ?_, fun k hk => ?_, fun k hk => ?_⟩, ⟨?_, ?_, ?_⟩, fun k hk => ?_, ?_⟩
    · rw [hJ' S (by omega) (by omega)]; exact g2
    · rw [hJ' (S + 16) (by omega) (by omega)]; exact g3.1
    · rw [hJ' (S + 17) (by omega) (by omega), hJ' (S + 18) (by omega) (by omega)]; exact g3.2 k hk
    · rw [hJ' (S + 9 + 1) (by omega) (by omega)]; exact g4.1 k hk
    · rw [hJ' (S + 2) (by omega) (by omega)]; exact g4.2.1 k hk
    · rw [hJ' (S + 19) (by omega) (by omega)]; exact g4.2.2 k hk
    · rw [hJ' 3 (by decide) (by decide)]; exact g5.1
    · rw [hJ' 3 (by decide) (by decide)]; exact g5.2.1
    · rw [hJ' 3 (by decide) (by decide)]; exact g5.2.2
    · rw [hJ' 4 (by decide) (by decide), hJ' 5 (by decide) (by decide), hJ' 6 (by decide) (by decide), hJ' 7 (by decide) (by decide)]; exact g6 k hk
    · rw [hJ' 11 (by decide) (by decide)]; exact g7
  · obtain ⟨g1, g2, g3, g4, g5, g6, g7⟩ := id hM
    have hJ' : ∀ q, 113 < q → q < 178 → J q = I q := fun q h1 h2 => hJ2 q (by omega) (by omega) (by omega) (by omega)
    exact gmAll hM (g1.ofMS ⟨h12 78 (by decide) (by decide), h12 79 (by decide) (by decide), fun q hq => hJ' q (by omega) (by omega)⟩) ⟨by rw [h12 76 (by decide) (by decide)]; exact g6.1, by rw [h12 77 (by decide) (by decide)]; exact g6.2.1, g6.2.2⟩ (fun k hk => by rw [hJ' 166 (by decide) (by decide), hJ' 167 (by decide) (by decide), hJ' 168 (by decide) (by decide), hJ' 169 (by decide) (by decide)]; exact g7 k hk) (fun _ _ _ => rfl) (hJ' 148 (by decide) (by decide)) (hJ' 170 (by decide) (by decide)) (h12 52 (by decide) (by decide)) (h12 75 (by decide) (by decide)) rfl
  · rw [hJ2 105 (by decide) (by decide) (by decide) (by decide), h12 7 (by decide) (by decide)]; exact a9
  · rw [hJ2 105 (by decide) (by decide) (by decide) (by decide), h12 8 (by decide) (by decide)]; exact b1
section
variable {L : Nat} {xs : Nat → Int32} {σ : Mm} {r : Option Value × Mm} {I J K : Nat → Nat → Int32} {Lm : Nat → Nat → Int64} {Rm : Nat → Nat → Nat} {n s so t N NS NH m M P nw S U : Nat} {V W : Vw} {sp s2 ai p : Nat} {x y z h v : Int32} {Q : Ru} {F K : Nat} {f : Nat → Nat}
theorem c_paint {b k : Nat} (h : PT I J f k) (hk : k < 52) (hb : f k = b % 256) : ∃ J', (∀ r, Em L xs 152 [.ref 0, .int (nI b)] (179, J, Lm, RG nw sp s2 ai) r ↔ r = (none, 179, J', Lm, RG nw sp s2 ai)) ∧ PT I J' f (k + 1) := by
  obtain ⟨h1, h2, h3, h4⟩ := h
  have t : ∀ v, setv J 2 (nI k) v = up2 J 2 k v := fun v => setv_lt (show k < 52 from hk)
  have u1 : ∀ v, up2 J 2 k v 0 8 = nI k := fun v => (up2_p (by decide)).trans h1
  refine ⟨up2 (up2 J 2 k (nI (b % 256))) 0 8 (nI (k + 1)), fun r => ?_, up2_eq, fun i hi => ?_, fun q q1 q2 => ?_, fun j hj => ?_⟩
  · rw [em_152]
    simp only [x152_0, x152_1, x152_4, x152_5, x152_8, x152_9, x152_12, x152_13, x152_16, x152_17, x152_18, x152_21, x152_22, x152_23, x152_26, rg_0_1, sh_0, sh_2, lq_0, lq_2, p_set (n := 179) lz_2 ly_2, ex5, Option.toList_some, Option.toList_none, List.cons_append, List.nil_append, true_and, and_true, nI_1, p_at, p_set, p_isIn, p_max, p_min, p_abs, h1, and255, t, u1]
  · rw [up2_p (by decide)]
    by_cases z : i = k
    · rw [z, up2_eq, hb]
    · rw [up2_k z]; exact h2 i (by omega)
  · exact (funext fun j => by rw [up2_p q1, up2_p q2]).trans (h3 q q1 q2)
  · rw [up2_k hj, up2_p (by decide)]; exact h4 j hj
theorem c_paint2 {d k : Nat} (h : PT I J f k) (hk : k + 1 < 52) (hd : d < 2 ^ 31) (hb : f k = d / 256 % 256) (hb2 : f (k + 1) = d % 256) : ∃ J', (∀ r, Em L xs 153 [.ref 0, .int (nI d)] (179, J, Lm, RG nw sp s2 ai) r ↔ r = (none, 179, J', Lm, RG nw sp s2 ai)) ∧ PT I J' f (k + 2) := by
  obtain ⟨J1, a1, a2⟩ := c_paint (L := L) (xs := xs) (Lm := Lm) (nw := nw) (sp := sp) (s2 := s2) (ai := ai) h (by omega) hb
  obtain ⟨J2, b1, b2⟩ := c_paint (L := L) (xs := xs) (Lm := Lm) (nw := nw) (sp := sp) (s2 := s2) (ai := ai) a2 hk hb2
  refine ⟨J2, fun r => ?_, b2⟩
  rw [em_153]
  simp only [x153_0, x153_1, x153_2, x153_4, x153_5, x153_8, x153_9, x153_10, x153_13, rg_0_1, sh_0, sh_2, lq_0, lq_2, ex5, Option.toList_some, Option.toList_none, List.cons_append, List.nil_append, true_and, and_true, nI_1, p_at, p_set, p_isIn, p_max, p_min, p_abs, shr8 hd, a1, b1]
theorem r_writes {b k : Nat} (h : RT I J f k) (hk : k < 60) (hb : f k = b) : ∃ J', (∀ r, Em L xs 286 [.ref 112, .int (nI b)] (179, J, Lm, RG nw sp s2 ai) r ↔ r = (none, 179, J', Lm, RG nw sp s2 ai)) ∧ RT I J' f (k + 1) := by
  obtain ⟨h1, h2, h3, h4⟩ := h
  have i1 : inb (nI k) 60 = True := inb_i hk (by decide)
  have i2 : ixn (nI k) = k := ixn_nI (by omega)
  have u1 : ∀ v, up2 J 178 k v 112 93 = nI k := fun v => (up2_p (by decide)).trans h1
  refine ⟨up2 (up2 J 178 k (nI b)) 112 93 (nI (k + 1)), fun r => ?_, up2_eq, fun i hi => ?_, fun q q1 q2 => ?_, fun j hj => ?_⟩
  · rw [em_286]
    simp only [x286_0, x286_1, x286_4, x286_5, x286_8, x286_9, x286_10, x286_11, x286_12, x286_15, x286_16, x286_17, x286_20, sh_112, sh_113, sh_114, sh_115, sh_116, sh_117, sh_118, sh_119, sh_120, sh_121, sh_122, sh_123, sh_124, sh_125, sh_126, sh_127, sh_128, sh_129, sh_130, sh_131, sh_132, sh_133, sh_134, sh_135, sh_136, sh_137, sh_138, sh_139, sh_140, sh_141, sh_142, sh_143, sh_144, sh_145, sh_146, sh_147, sh_148, sh_149, sh_150, sh_151, sh_152, sh_153, sh_154, sh_155, sh_156, sh_157, sh_158, sh_159, sh_160, sh_161, sh_162, sh_163, sh_164, sh_165, sh_166, sh_167, sh_168, sh_169, sh_170, sh_171, sh_172, sh_173, sh_174, sh_175, sh_176, sh_177, sh_178, lq_112, lq_113, lq_114, lq_115, lq_116, lq_117, lq_118, lq_119, lq_120, lq_121, lq_122, lq_123, lq_124, lq_125, lq_126, lq_127, lq_128, lq_129, lq_130, lq_131, lq_132, lq_133, lq_134, lq_135, lq_136, lq_137, lq_138, lq_139, lq_140, lq_141, lq_142, lq_143, lq_144, lq_145, lq_146, lq_147, lq_148, lq_149, lq_150, lq_151, lq_152, lq_153, lq_154, lq_155, lq_156, lq_157, lq_158, lq_159, lq_160, lq_161, lq_162, lq_163, lq_164, lq_165, lq_166, lq_167, lq_168, lq_169, lq_170, lq_171, lq_172, lq_173, lq_174, lq_175, lq_176, lq_177, lq_178, rg_112_0, rg_112_9, rg_112_10, rg_112_11, rg_112_12, rg_112_13, rg_112_14, rg_112_15, rg_112_16, rg_112_17, rg_112_18, rg_112_19, rg_112_20, rg_112_21, rg_112_22, rg_112_23, rg_112_24, rg_112_25, rg_112_26, rg_112_27, rg_112_28, rg_112_29, rg_112_30, rg_112_31, rg_112_32, rg_112_33, rg_112_34, rg_112_35, rg_112_36, rg_112_37, rg_112_38, rg_112_39, rg_112_40, rg_112_41, rg_112_43, rg_112_44, rg_112_45, rg_112_46, rg_112_47, rg_112_48, rg_112_49, rg_112_51, rg_112_55, rg_112_57, rg_112_60, rg_112_61, rg_112_62, rg_112_63, rg_112_64, rg_112_66, rg_112_67, rg_112_68, rg_112_69, rg_112_70, rg_112_71, rg_112_72, rg_112_73, rg_112_74, rg_112_80, rg_112_83, rg_112_84, rg_112_85, rg_112_86, rg_112_90, rg_112_91, rg_112_92, ex5, Option.toList_some, Option.toList_none, List.cons_append, List.nil_append, true_and, and_true, nI_1, p_at, p_set, p_isIn, p_max, p_min, p_abs, h1, i1, i2, u1]
  · rw [up2_p (by decide)]
    by_cases z : i = k
    · rw [z, up2_eq, hb]
    · rw [up2_k z]; exact h2 i (by omega)
  · exact (funext fun j => by rw [up2_p q1, up2_p q2]).trans (h3 q q1 q2)
  · rw [up2_k hj, up2_p (by decide)]; exact h4 j hj
theorem r_writes2 {d k : Nat} (h : RT I J f k) (hk : k + 1 < 60) (hd : d < 2 ^ 31) (hb : f k = d / 256 % 256) (hb2 : f (k + 1) = d % 256) : ∃ J', (∀ r, Em L xs 287 [.ref 112, .int (nI d)] (179, J, Lm, RG nw sp s2 ai) r ↔ r = (none, 179, J', Lm, RG nw sp s2 ai)) ∧ RT I J' f (k + 2) := by
  obtain ⟨J1, a1, a2⟩ := r_writes (b := d / 256 % 256) (L := L) (xs := xs) (Lm := Lm) (nw := nw) (sp := sp) (s2 := s2) (ai := ai) h (by omega) hb
  obtain ⟨J2, b1, b2⟩ := r_writes (b := d % 256) (L := L) (xs := xs) (Lm := Lm) (nw := nw) (sp := sp) (s2 := s2) (ai := ai) a2 hk hb2
  have n2 : ((256 : Int32) = 0) = False := eq_false (by decide)
  have e1 : nI d / 256 = nI (d / 256) := pk_div (d := 256) hd (by decide) (by decide)
  have e2 : ∀ n, n < 2 ^ 31 → nI n - nI n / 256 * 256 = nI (n % 256) := fun n hn => pk_rem (d := 256) hn (by decide) (by decide)
  have e3 := e2 d hd
  have e4 := e2 (d / 256) (by omega)
  rw [e1] at e3
  refine ⟨J2, fun r => ?_, b2⟩
  rw [em_287]
  simp only [x287_0, x287_1, x287_2, x287_5, x287_6, x287_9, x287_10, x287_13, x287_14, x287_15, x287_18, x287_19, x287_22, sh_112, sh_113, sh_114, sh_115, sh_116, sh_117, sh_118, sh_119, sh_120, sh_121, sh_122, sh_123, sh_124, sh_125, sh_126, sh_127, sh_128, sh_129, sh_130, sh_131, sh_132, sh_133, sh_134, sh_135, sh_136, sh_137, sh_138, sh_139, sh_140, sh_141, sh_142, sh_143, sh_144, sh_145, sh_146, sh_147, sh_148, sh_149, sh_150, sh_151, sh_152, sh_153, sh_154, sh_155, sh_156, sh_157, sh_158, sh_159, sh_160, sh_161, sh_162, sh_163, sh_164, sh_165, sh_166, sh_167, sh_168, sh_169, sh_170, sh_171, sh_172, sh_173, sh_174, sh_175, sh_176, sh_177, sh_178, lq_112, lq_113, lq_114, lq_115, lq_116, lq_117, lq_118, lq_119, lq_120, lq_121, lq_122, lq_123, lq_124, lq_125, lq_126, lq_127, lq_128, lq_129, lq_130, lq_131, lq_132, lq_133, lq_134, lq_135, lq_136, lq_137, lq_138, lq_139, lq_140, lq_141, lq_142, lq_143, lq_144, lq_145, lq_146, lq_147, lq_148, lq_149, lq_150, lq_151, lq_152, lq_153, lq_154, lq_155, lq_156, lq_157, lq_158, lq_159, lq_160, lq_161, lq_162, lq_163, lq_164, lq_165, lq_166, lq_167, lq_168, lq_169, lq_170, lq_171, lq_172, lq_173, lq_174, lq_175, lq_176, lq_177, lq_178, rg_112_0, rg_112_9, rg_112_10, rg_112_11, rg_112_12, rg_112_13, rg_112_14, rg_112_15, rg_112_16, rg_112_17, rg_112_18, rg_112_19, rg_112_20, rg_112_21, rg_112_22, rg_112_23, rg_112_24, rg_112_25, rg_112_26, rg_112_27, rg_112_28, rg_112_29, rg_112_30, rg_112_31, rg_112_32, rg_112_33, rg_112_34, rg_112_35, rg_112_36, rg_112_37, rg_112_38, rg_112_39, rg_112_40, rg_112_41, rg_112_43, rg_112_44, rg_112_45, rg_112_46, rg_112_47, rg_112_48, rg_112_49, rg_112_51, rg_112_55, rg_112_57, rg_112_60, rg_112_61, rg_112_62, rg_112_63, rg_112_64, rg_112_66, rg_112_67, rg_112_68, rg_112_69, rg_112_70, rg_112_71, rg_112_72, rg_112_73, rg_112_74, rg_112_80, rg_112_83, rg_112_84, rg_112_85, rg_112_86, rg_112_90, rg_112_91, rg_112_92, ex5, Option.toList_some, Option.toList_none, List.cons_append, List.nil_append, true_and, and_true, nI_1, p_at, p_set, p_isIn, p_max, p_min, p_abs, n2, not_false_eq_true, e1, e3, e4, a1, b1]
theorem c_check {a : Nat} (ha : a < 179) (h1 : (shp a).1 = 1) (hn : n ≤ (shp a).2) (hf : ∀ i, i < n → I a i = nI (f i) ∧ f i ≤ 255) (r : Option Value × Mm) : Em L xs 158 [.ref a, .int (nI n)] (179, I, Lm, RG nw sp s2 ai) r ↔ r = (some (.int (nI (ckF f n))), 179, I, Lm, RG nw sp s2 ai) := by
  have hs := shp_small a
  have key : ∀ j, j ≤ n → (Ev L xs 1 158 5 [some (.ref a), some (.int (nI n)), some (.int (nI (ckF f j))), some (.int (nI j))] [] (179, I, Lm, RG nw sp s2 ai) r ↔ r = (some (.int (nI (ckF f n))), 179, I, Lm, RG nw sp s2 ai)) := by
    refine up_ind ?_ ?_
    · rw [x158_5]
      simp only [x158_0, x158_2, x158_3, x158_4, x158_6, x158_7, x158_10, x158_12, x158_13, x158_14, x158_15, x158_16, x158_19, x158_20, x158_23, x158_24, x158_25, x158_28, x158_31, x158_32, ex5, Option.toList_some, Option.toList_none, List.cons_append, List.nil_append, true_and, and_true, nI_1, p_at, p_set, p_isIn, p_max, p_min, p_abs, nI_le (Nat.le_refl n) (show n < 2 ^ 31 by omega), if_true]
    · intro j hj ih
      obtain ⟨f1, f2⟩ := hf j hj
      have hc := ckF_lt f j
      have e1 : atv I a (nI j) = nI (f j) := by rw [atv_lt (show j < (shp a).2 by omega)]; exact f1
      have e2 : (7 : Int32) * nI (ckF f j) = nI (7 * ckF f j) := pk_mul 7 _
      have n0 : ((239 : Int32) = 0) = False := eq_false (by decide)
      have e3 : nI (7 * ckF f j + f j) - nI (7 * ckF f j + f j) / 239 * 239 = nI (ckF f (j + 1)) := pk_rem (d := 239) (by omega) (by decide) (by decide)
      have pa := fun k r => p_at (n := 179) (a := a) (L := L) (xs := xs) (Lm := Lm) (Rm := RG nw sp s2 ai) (I := I) (k := k) (r := r) ha h1
      rw [x158_5]
      simp only [x158_0, x158_2, x158_3, x158_4, x158_6, x158_7, x158_10, x158_12, x158_13, x158_14, x158_15, x158_16, x158_19, x158_20, x158_23, x158_24, x158_25, x158_28, x158_31, x158_32, ex5, Option.toList_some, Option.toList_none, List.cons_append, List.nil_append, true_and, and_true, nI_1, p_at, p_set, p_isIn, p_max, p_min, p_abs, nI_ge hj (show n < 2 ^ 31 by omega), if_false, pa, e1, e2, nI_add, n0, not_false_eq_true, e3]
      exact ih
  have k := key 0 (Nat.zero_le n)
  rw [em_158]
  simp only [x158_0, x158_2, x158_3, x158_4, x158_6, x158_7, x158_10, x158_12, x158_13, x158_14, x158_15, x158_16, x158_19, x158_20, x158_23, x158_24, x158_25, x158_28, x158_31, x158_32]
  exact k
theorem r_check {a : Nat} (ha : a < 179) (h1 : (shp a).1 = 1) (hn : n ≤ (shp a).2) (hf : ∀ i, i < n → I a i = nI (f i) ∧ f i ≤ 255) (r : Option Value × Mm) : Em L xs 288 [.ref a, .int (nI n)] (179, I, Lm, RG nw sp s2 ai) r ↔ r = (some (.int (nI (ckF f n))), 179, I, Lm, RG nw sp s2 ai) := by
  have hs := shp_small a
  have key : ∀ j, j ≤ n → (Ev L xs 0 288 5 [some (.ref a), some (.int (nI n)), some (.int (nI (ckF f j))), some (.int (nI j))] [] (179, I, Lm, RG nw sp s2 ai) r ↔ r = (some (.int (nI (ckF f n))), 179, I, Lm, RG nw sp s2 ai)) := by
    refine up_ind ?_ ?_
    · rw [x288_5]
      simp only [x288_0, x288_2, x288_3, x288_4, x288_6, x288_7, x288_10, x288_12, x288_13, x288_14, x288_15, x288_16, x288_17, x288_18, x288_21, x288_22, x288_23, x288_26, x288_29, x288_30, ex5, Option.toList_some, Option.toList_none, List.cons_append, List.nil_append, true_and, and_true, nI_1, p_at, p_set, p_isIn, p_max, p_min, p_abs, nI_le (Nat.le_refl n) (show n < 2 ^ 31 by omega), if_true]
    · intro j hj ih
      obtain ⟨f1, f2⟩ := hf j hj
      have hc := ckF_lt f j
      have i1 : inb (nI j) (shp a).2 = True := inb_i (by omega) (by omega)
      have i2 : ixn (nI j) = j := ixn_nI (by omega)
      have e2 : (7 : Int32) * nI (ckF f j) = nI (7 * ckF f j) := pk_mul 7 _
      have n0 : ((239 : Int32) = 0) = False := eq_false (by decide)
      have e3 : nI (7 * ckF f j + f j) - nI (7 * ckF f j + f j) / 239 * 239 = nI (ckF f (j + 1)) := pk_rem (d := 239) (by omega) (by decide) (by decide)
      have ha' : (a < 179) = True := eq_true ha
      rw [x288_5]
      simp only [x288_0, x288_2, x288_3, x288_4, x288_6, x288_7, x288_10, x288_12, x288_13, x288_14, x288_15, x288_16, x288_17, x288_18, x288_21, x288_22, x288_23, x288_26, x288_29, x288_30, ex5, Option.toList_some, Option.toList_none, List.cons_append, List.nil_append, true_and, and_true, nI_1, p_at, p_set, p_isIn, p_max, p_min, p_abs, nI_ge hj (show n < 2 ^ 31 by omega), if_false, ha', h1, i1, i2, f1, e2, nI_add, n0, not_false_eq_true, e3]
      exact ih
  have k := key 0 (Nat.zero_le n)
  rw [em_288]
  simp only [x288_0, x288_2, x288_3, x288_4, x288_6, x288_7, x288_10, x288_12, x288_13, x288_14, x288_15, x288_16, x288_17, x288_18, x288_21, x288_22, x288_23, x288_26, x288_29, x288_30]
  exact k
theorem ptG {n : Nat} {g : Nat → Nat} (h : PT I J f n) (e : ∀ i, i < n → f i = g i) : PT I J g n := ⟨h.1, fun i hi => by rw [← e i hi]; exact h.2.1 i hi, h.2.2⟩
theorem rtG {n : Nat} {g : Nat → Nat} (h : RT I J f n) (e : ∀ i, i < n → f i = g i) : RT I J g n := ⟨h.1, fun i hi => by rw [← e i hi]; exact h.2.1 i hi, h.2.2⟩
theorem im_255 (hW : WV V N NS NH) (hN : N ≤ 12) (hH : NH ≤ 4) (i : Nat) : imF N V i ≤ 255 := by
  unfold imF
  by_cases c : i = 0
  · rw [if_pos c]; omega
  · rw [if_neg c]
    by_cases d : i < 4 * N + 1
    · rw [if_pos d]
      obtain ⟨w1, w2, w3, w4⟩ := hW.1 ((i - 1) / 4) (by omega)
      have e0 : ixn (V 1 ((i - 1) / 4) + 1) ≤ 255 := by
        rcases w2 with w2 | w2
        · rw [w2]; decide
        · obtain ⟨h, h1, h2⟩ := inb_ex w2
          rw [h2, nI_1, ixn_nI (by omega)]; omega
      have e1 : ixn (V 2 ((i - 1) / 4)) ≤ 255 := by
        obtain ⟨h, h1, h2⟩ := rg_ex (b := 60) w3
        rw [h2, ixn_nI (by omega)]; omega
      split
      · exact e0
      · split
        · exact e1
        · split <;> omega
    · rw [if_neg d]
      split <;> omega
theorem tt_image (h : Inv I Lm nw sp s2 ai) : StT L xs I Lm nw sp s2 ai 151 [.ref 0] 289 [.ref 112] := by
  obtain ⟨S, U, N, NS, NH, M, P, V, Q, F, K, hT, hG, hM, hW, hQ, hF, hA⟩ := id h
  have hB : SB nw sp s2 ai S (S + 9) := twSo hT rfl
  obtain ⟨hs, ho, hq⟩ := id hB
  obtain ⟨hC, g2, g3, g4, g5, g6, g7⟩ := id hG
  obtain ⟨hR, ⟨m1, m2, m3⟩, m52, m75, mn, mw, mk⟩ := id hM
  obtain ⟨hWV, hMW, ⟨hN, hNS, hNH, hM6, hP6⟩, hPW, hKW, hVW, hHM⟩ := id hW
  have hSr := tw_S hT
  have vh : ∀ p, p < N → V 1 p + 1 = nI (ixn (V 1 p + 1)) ∧ ixn (V 1 p + 1) ≤ 255 := fun p hp => by
    rcases (hWV.1 p hp).2.1 with w2 | w2
    · rw [w2]; exact ⟨rfl, by decide⟩
    · obtain ⟨h, h1, h2⟩ := inb_ex w2
      rw [h2, nI_1, ixn_nI (by omega)]; exact ⟨rfl, by omega⟩
  have vo : ∀ p, p < N → V 2 p = nI (ixn (V 2 p)) ∧ ixn (V 2 p) ≤ 255 := fun p hp => by
    obtain ⟨h, h1, h2⟩ := rg_ex (b := 60) (hWV.1 p hp).2.2.1
    rw [h2, ixn_nI (by omega)]; exact ⟨rfl, by omega⟩
  have vd : ∀ p, p < N → V 18 p = nI (ixn (V 18 p)) ∧ ixn (V 18 p) < 2 ^ 31 := fun p hp => by
    obtain ⟨h, h1, h2⟩ := rg_ex (b := 80000) (hVW p hp).1
    rw [h2, ixn_nI (by omega)]; exact ⟨rfl, by omega⟩
  have vw : V 22 0 = nI (ixn (V 22 0)) ∧ ixn (V 22 0) < 2 ^ 31 := by
    obtain ⟨h, h1, h2⟩ := rg_ex (b := 9999) hKW.1
    rw [h2, ixn_nI (by omega)]; exact ⟨rfl, by omega⟩
  -- the class
  have keyC : ∀ j, j ≤ N → ∀ J, PT I J (imF N V) (4 * j + 1) → ∃ J', (∀ r, Ev L xs 3 151 26 [some (.ref 0), some (.ref (S + 16)), some (.int (nI j))] [] (179, J, Lm, RG nw sp s2 ai) r ↔ Ev L xs 3 151 81 [some (.ref 0), some (.ref (S + 16)), some (.int (nI N))] [] (179, J', Lm, RG nw sp s2 ai) r) ∧ PT I J' (imF N V) (4 * N + 1) := by
    refine up_ind ?_ ?_
    · intro J hP
      have hc : J (S + 16) 8 = nI N := by rw [hP.2.2.1 (S + 16) (by omega) (by omega)]; exact hC.1.1
      refine ⟨J, fun r => ?_, hP⟩
      rw [x151_26]
      simp only [x151_0, x151_1, x151_4, x151_7, x151_10, x151_11, x151_12, x151_13, x151_16, x151_17, x151_18, x151_21, x151_24, x151_25, x151_27, x151_28, x151_31, x151_34, x151_35, x151_36, x151_39, x151_40, x151_43, x151_44, x151_45, x151_48, x151_49, x151_50, x151_53, x151_54, x151_57, x151_60, x151_61, x151_62, x151_65, x151_68, x151_69, x151_72, x151_75, x151_78, x151_82, x151_83, x151_86, x151_89, x151_92, x151_93, x151_94, x151_97, x151_98, x151_101, x151_104, x151_107, x151_108, x151_111, sh_s, lq_s, sh_s1, lq_s1, sh_s2, lq_s2, sh_s3, lq_s3, sh_s4, lq_s4, sh_s5, lq_s5, sh_s6, lq_s6, sh_s7, lq_s7, sh_s8, lq_s8, sh_s9, lq_s9, sh_s10, lq_s10, sh_s11, lq_s11, sh_s12, lq_s12, sh_s13, lq_s13, sh_s14, lq_s14, sh_s15, lq_s15, sh_s16, lq_s16, sh_s17, lq_s17, sh_s18, lq_s18, sh_s19, lq_s19, sh_s20, lq_s20, sh_s21, lq_s21, sh_s22, lq_s22, sh_s23, lq_s23, sh_s24, lq_s24, sh_s25, lq_s25, rg_s0_0, rg_s0_1, rg_s0_2, rg_s0_3, rg_s1_0, rg_s1_1, rg_s1_2, rg_s1_3, rg_s1_4, rg_s7_0, rg_s9_0, rg_s9_1, rg_s9_2, rg_s9_3, rg_s9_4, rg_s9_5, rg_s16_6, rg_s16_7, rg_s16_0, rg_s16_1, rg_s16_2, rg_s16_3, rg_s16_4, rg_s16_5, sh_o, lq_o, sh_o1, lq_o1, sh_o2, lq_o2, sh_o3, lq_o3, sh_o4, lq_o4, sh_o5, lq_o5, sh_o6, lq_o6, rg_o0, rg_o1, rg_o2, rg_o3, rg_o4, rg_o5, ex5, Option.toList_some, Option.toList_none, List.cons_append, List.nil_append, true_and, and_true, nI_1, p_at, p_set, p_isIn, p_max, p_min, p_abs, hs, hc, nI_le (Nat.le_refl N) (by omega), if_true]
    · intro j hj ih J hP
      have fC : ∀ {J : Nat → Nat → Int32} {k : Nat}, PT I J (imF N V) k → CR J S (S + 9) N NS NH V := fun hP => crFr hC (fun i _ _ _ _ => hP.2.2.1 _ (by omega) (by omega)) (fun i _ => hP.2.2.1 _ (by omega) (by omega))
      have hC1 := fC hP
      obtain ⟨J1, p1, p2⟩ := c_paint (b := ixn (V 1 j + 1)) (L := L) (xs := xs) (Lm := Lm) (nw := nw) (sp := sp) (s2 := s2) (ai := ai) hP (show 4 * j + 1 < 52 by omega) (by rw [show 4 * j + 1 = 4 * j + 1 + 0 from rfl, imF_p hj (by decide), if_pos rfl, Nat.mod_eq_of_lt (by have := (vh j hj).2; omega)])
      have hC2 := fC p2
      obtain ⟨J2, q1, q2⟩ := c_paint (b := ixn (V 2 j)) (L := L) (xs := xs) (Lm := Lm) (nw := nw) (sp := sp) (s2 := s2) (ai := ai) p2 (show 4 * j + 1 + 1 < 52 by omega) (by rw [imF_p hj (by decide), if_neg (by decide), if_pos rfl, Nat.mod_eq_of_lt (by have := (vo j hj).2; omega)])
      obtain ⟨J3, r1, r2⟩ := c_paint2 (d := ixn (V 18 j)) (L := L) (xs := xs) (Lm := Lm) (nw := nw) (sp := sp) (s2 := s2) (ai := ai) q2 (show 4 * j + 1 + 1 + 1 + 1 < 52 by omega) (vd j hj).2 (by rw [show 4 * j + 1 + 1 + 1 = 4 * j + 1 + 2 from rfl, imF_p hj (by decide), if_neg (by decide), if_neg (by decide), if_pos rfl]) (by rw [show 4 * j + 1 + 1 + 1 + 1 = 4 * j + 1 + 3 from rfl, imF_p hj (by decide), if_neg (by decide), if_neg (by decide), if_neg (by decide)])
      obtain ⟨J', s1, s2'⟩ := ih J3 (by rw [show 4 * (j + 1) + 1 = 4 * j + 1 + 1 + 1 + 2 by omega]; exact r2)
      have e4 : atv J2 4 (nI j) = nI (ixn (V 18 j)) := by rw [atW12 (a := 4) rfl hj hN, q2.2.2.1 4 (by decide) (by decide), (g6 j hj).1]; exact (vd j hj).1
      rw [← (vh j hj).1] at p1
      rw [← (vo j hj).1] at q1
      refine ⟨J', fun r => ?_, s2'⟩
      rw [x151_26]
      simp only [x151_0, x151_1, x151_4, x151_7, x151_10, x151_11, x151_12, x151_13, x151_16, x151_17, x151_18, x151_21, x151_24, x151_25, x151_27, x151_28, x151_31, x151_34, x151_35, x151_36, x151_39, x151_40, x151_43, x151_44, x151_45, x151_48, x151_49, x151_50, x151_53, x151_54, x151_57, x151_60, x151_61, x151_62, x151_65, x151_68, x151_69, x151_72, x151_75, x151_78, x151_82, x151_83, x151_86, x151_89, x151_92, x151_93, x151_94, x151_97, x151_98, x151_101, x151_104, x151_107, x151_108, x151_111, sh_s, lq_s, sh_s1, lq_s1, sh_s2, lq_s2, sh_s3, lq_s3, sh_s4, lq_s4, sh_s5, lq_s5, sh_s6, lq_s6, sh_s7, lq_s7, sh_s8, lq_s8, sh_s9, lq_s9, sh_s10, lq_s10, sh_s11, lq_s11, sh_s12, lq_s12, sh_s13, lq_s13, sh_s14, lq_s14, sh_s15, lq_s15, sh_s16, lq_s16, sh_s17, lq_s17, sh_s18, lq_s18, sh_s19, lq_s19, sh_s20, lq_s20, sh_s21, lq_s21, sh_s22, lq_s22, sh_s23, lq_s23, sh_s24, lq_s24, sh_s25, lq_s25, rg_s0_0, rg_s0_1, rg_s0_2, rg_s0_3, rg_s1_0, rg_s1_1, rg_s1_2, rg_s1_3, rg_s1_4, rg_s7_0, rg_s9_0, rg_s9_1, rg_s9_2, rg_s9_3, rg_s9_4, rg_s9_5, rg_s16_6, rg_s16_7, rg_s16_0, rg_s16_1, rg_s16_2, rg_s16_3, rg_s16_4, rg_s16_5, sh_o, lq_o, sh_o1, lq_o1, sh_o2, lq_o2, sh_o3, lq_o3, sh_o4, lq_o4, sh_o5, lq_o5, sh_o6, lq_o6, rg_o0, rg_o1, rg_o2, rg_o3, rg_o4, rg_o5, rg_0_now, rg_0_spare, rg_0_0, rg_0_1, rg_0_2, rg_0_6, rg_tw0 hT, rg_tw1 hT, sh_tw hT, lq_tw hT, sh_0, sh_1, sh_2, sh_3, sh_4, sh_5, sh_6, sh_7, sh_8, sh_9, sh_10, lq_0, lq_1, lq_2, lq_3, lq_4, lq_5, lq_6, lq_7, lq_8, lq_9, lq_10, rg_3_0, rg_3_1, rg_3_2, rg_3_3, rg_3_4, rg_3_5, rg_3_6, p_at (n := 179) lz_1 ly_1, p_set (n := 179) lz_1 ly_1, p_at (n := 179) lz_2 ly_2, p_set (n := 179) lz_2 ly_2, p_at (n := 179) lz_4 ly_4, p_set (n := 179) lz_4 ly_4, p_at (n := 179) lz_5 ly_5, p_set (n := 179) lz_5 ly_5, p_at (n := 179) lz_6 ly_6, p_set (n := 179) lz_6 ly_6, p_at (n := 179) lz_7 ly_7, p_set (n := 179) lz_7 ly_7, p_at (n := 179) lz_8 ly_8, p_set (n := 179) lz_8 ly_8, p_at (n := 179) lz_9 ly_9, p_set (n := 179) lz_9 ly_9, p_at (n := 179) lz_10 ly_10, p_set (n := 179) lz_10 ly_10, sh_3, lq_3, rg_3_0, ex5, Option.toList_some, Option.toList_none, List.cons_append, List.nil_append, true_and, and_true, nI_1, p_at, p_set, p_isIn, p_max, p_min, p_abs, hs, hC1.1.1, nI_ge hj (by omega), if_false, a_hat hB hC1 hj, p1, a_hrs hB hC2 hj, q1, e4, r1]
      exact s1 r
  have z0 : PT I (up2 I 0 8 0) (imF N V) 0 := ⟨up2_eq, fun i hi => absurd hi (Nat.not_lt_zero i), fun q q1 q2 => funext fun j => up2_p q1, fun j hj => up2_k hj⟩
  obtain ⟨J0, z1, z2⟩ := c_paint (b := N) (L := L) (xs := xs) (Lm := Lm) (nw := nw) (sp := sp) (s2 := s2) (ai := ai) z0 (by decide) (by rw [imF_0, Nat.mod_eq_of_lt (by omega)])
  obtain ⟨J1, y1, y2⟩ := keyC 0 (Nat.zero_le N) J0 z2
  obtain ⟨J2, x1, x2⟩ := c_paint2 (d := ixn (V 22 0)) (L := L) (xs := xs) (Lm := Lm) (nw := nw) (sp := sp) (s2 := s2) (ai := ai) y2 (show 4 * N + 1 + 1 < 52 by omega) vw.2 (by rw [show 4 * N + 1 = 4 * N + 1 + 0 from rfl, imF_w (by decide), if_pos rfl]) (by rw [imF_w (by decide), if_neg (by decide)])
  have i255 := im_255 hWV hN hNH
  have cc := c_check (n := 4 * N + 3) (a := 2) (I := J2) (f := imF N V) (L := L) (xs := xs) (Lm := Lm) (nw := nw) (sp := sp) (s2 := s2) (ai := ai) lz_2 ly_2 (show 4 * N + 3 ≤ 52 by omega) (fun i hi => ⟨x2.2.1 i hi, i255 i⟩)
  have hck := ckF_lt (imF N V) (4 * N + 3)
  obtain ⟨J3, w1, w2⟩ := c_paint (b := ckF (imF N V) (4 * N + 3)) (f := imG N V) (L := L) (xs := xs) (Lm := Lm) (nw := nw) (sp := sp) (s2 := s2) (ai := ai) (ptG x2 (fun i hi => (if_pos hi).symm)) (show 4 * N + 3 < 52 by omega) (by rw [Nat.mod_eq_of_lt (by omega)]; exact if_neg (by omega))
  -- the reference
  have hM2 := gmSame hN hM (J := J3) (fun q hq => w2.2.2.1 q (by omega) (by omega))
  obtain ⟨hR3, ⟨-, -, m33⟩, -, -, -, mw3, mk3⟩ := id hM2
  have keyR : ∀ j, j ≤ N → ∀ G, RT J3 G (imF N V) (4 * j + 1) → ∃ G', (∀ r, Ev L xs 2 289 15 [some (.ref 112), some (.int (nI j))] [] (179, G, Lm, RG nw sp s2 ai) r ↔ Ev L xs 2 289 61 [some (.ref 112), some (.int (nI N))] [] (179, G', Lm, RG nw sp s2 ai) r) ∧ RT J3 G' (imF N V) (4 * N + 1) := by
    refine up_ind ?_ ?_
    · intro G hP
      have hc : G 148 5 = nI N := by rw [hP.2.2.1 148 (by decide) (by decide)]; exact m33
      refine ⟨G, fun r => ?_, hP⟩
      rw [x289_15]
      simp only [x289_0, x289_1, x289_2, x289_5, x289_6, x289_7, x289_10, x289_13, x289_14, x289_16, x289_17, x289_20, x289_23, x289_24, x289_25, x289_28, x289_29, x289_30, x289_31, x289_32, x289_35, x289_36, x289_37, x289_40, x289_41, x289_42, x289_45, x289_46, x289_47, x289_50, x289_51, x289_52, x289_55, x289_58, x289_62, x289_63, x289_66, x289_69, x289_70, x289_71, x289_74, x289_75, x289_78, x289_81, x289_84, x289_85, x289_88, sh_112, sh_113, sh_114, sh_115, sh_116, sh_117, sh_118, sh_119, sh_120, sh_121, sh_122, sh_123, sh_124, sh_125, sh_126, sh_127, sh_128, sh_129, sh_130, sh_131, sh_132, sh_133, sh_134, sh_135, sh_136, sh_137, sh_138, sh_139, sh_140, sh_141, sh_142, sh_143, sh_144, sh_145, sh_146, sh_147, sh_148, sh_149, sh_150, sh_151, sh_152, sh_153, sh_154, sh_155, sh_156, sh_157, sh_158, sh_159, sh_160, sh_161, sh_162, sh_163, sh_164, sh_165, sh_166, sh_167, sh_168, sh_169, sh_170, sh_171, sh_172, sh_173, sh_174, sh_175, sh_176, sh_177, sh_178, lq_112, lq_113, lq_114, lq_115, lq_116, lq_117, lq_118, lq_119, lq_120, lq_121, lq_122, lq_123, lq_124, lq_125, lq_126, lq_127, lq_128, lq_129, lq_130, lq_131, lq_132, lq_133, lq_134, lq_135, lq_136, lq_137, lq_138, lq_139, lq_140, lq_141, lq_142, lq_143, lq_144, lq_145, lq_146, lq_147, lq_148, lq_149, lq_150, lq_151, lq_152, lq_153, lq_154, lq_155, lq_156, lq_157, lq_158, lq_159, lq_160, lq_161, lq_162, lq_163, lq_164, lq_165, lq_166, lq_167, lq_168, lq_169, lq_170, lq_171, lq_172, lq_173, lq_174, lq_175, lq_176, lq_177, lq_178, rg_112_0, rg_112_9, rg_112_10, rg_112_11, rg_112_12, rg_112_13, rg_112_14, rg_112_15, rg_112_16, rg_112_17, rg_112_18, rg_112_19, rg_112_20, rg_112_21, rg_112_22, rg_112_23, rg_112_24, rg_112_25, rg_112_26, rg_112_27, rg_112_28, rg_112_29, rg_112_30, rg_112_31, rg_112_32, rg_112_33, rg_112_34, rg_112_35, rg_112_36, rg_112_37, rg_112_38, rg_112_39, rg_112_40, rg_112_41, rg_112_43, rg_112_44, rg_112_45, rg_112_46, rg_112_47, rg_112_48, rg_112_49, rg_112_51, rg_112_55, rg_112_57, rg_112_60, rg_112_61, rg_112_62, rg_112_63, rg_112_64, rg_112_66, rg_112_67, rg_112_68, rg_112_69, rg_112_70, rg_112_71, rg_112_72, rg_112_73, rg_112_74, rg_112_80, rg_112_83, rg_112_84, rg_112_85, rg_112_86, rg_112_90, rg_112_91, rg_112_92, ex5, Option.toList_some, Option.toList_none, List.cons_append, List.nil_append, true_and, and_true, nI_1, p_at, p_set, p_isIn, p_max, p_min, p_abs, r_people hc, nI_le (Nat.le_refl N) (by omega), if_true]
    · intro j hj ih G hP
      have hc : G 148 5 = nI N := by rw [hP.2.2.1 148 (by decide) (by decide)]; exact m33
      have e := hR3.2.2.1 j hj
      rw [Nat.zero_add] at e
      have i1 : inb (nI j) 32 = True := inb_i (by omega) (by decide)
      have i3 : inb (nI j) 12 = True := inb_i (by omega) (by decide)
      have i2 : ixn (nI j) = j := ixn_nI (by omega)
      obtain ⟨J1, p1, p2⟩ := r_writes (b := ixn (V 1 j + 1)) (L := L) (xs := xs) (Lm := Lm) (nw := nw) (sp := sp) (s2 := s2) (ai := ai) hP (show 4 * j + 1 < 60 by omega) (by rw [show 4 * j + 1 = 4 * j + 1 + 0 from rfl, imF_p hj (by decide), if_pos rfl])
      obtain ⟨J2, q1, q2⟩ := r_writes (b := ixn (V 2 j)) (L := L) (xs := xs) (Lm := Lm) (nw := nw) (sp := sp) (s2 := s2) (ai := ai) p2 (show 4 * j + 1 + 1 < 60 by omega) (by rw [imF_p hj (by decide), if_neg (by decide), if_pos rfl])
      obtain ⟨J3', r1, r2⟩ := r_writes2 (d := ixn (V 18 j)) (L := L) (xs := xs) (Lm := Lm) (nw := nw) (sp := sp) (s2 := s2) (ai := ai) q2 (show 4 * j + 1 + 1 + 1 + 1 < 60 by omega) (vd j hj).2 (by rw [show 4 * j + 1 + 1 + 1 = 4 * j + 1 + 2 from rfl, imF_p hj (by decide), if_neg (by decide), if_neg (by decide), if_pos rfl]) (by rw [show 4 * j + 1 + 1 + 1 + 1 = 4 * j + 1 + 3 from rfl, imF_p hj (by decide), if_neg (by decide), if_neg (by decide), if_neg (by decide)])
      obtain ⟨J', s1, s2'⟩ := ih J3' (by rw [show 4 * (j + 1) + 1 = 4 * j + 1 + 1 + 1 + 2 by omega]; exact r2)
      have k1 : G 163 j = V 1 j := by rw [hP.2.2.1 163 (by decide) (by decide)]; exact e.2.1
      have k2 : J1 165 j = V 2 j := by rw [p2.2.2.1 165 (by decide) (by decide)]; exact e.2.2.1
      have k3 : J2 166 j = nI (ixn (V 18 j)) := by rw [q2.2.2.1 166 (by decide) (by decide), (mk3 j hj).1]; exact (vd j hj).1
      rw [← (vh j hj).1] at p1
      rw [← (vo j hj).1] at q1
      refine ⟨J', fun r => ?_, s2'⟩
      rw [x289_15]
      simp only [x289_0, x289_1, x289_2, x289_5, x289_6, x289_7, x289_10, x289_13, x289_14, x289_16, x289_17, x289_20, x289_23, x289_24, x289_25, x289_28, x289_29, x289_30, x289_31, x289_32, x289_35, x289_36, x289_37, x289_40, x289_41, x289_42, x289_45, x289_46, x289_47, x289_50, x289_51, x289_52, x289_55, x289_58, x289_62, x289_63, x289_66, x289_69, x289_70, x289_71, x289_74, x289_75, x289_78, x289_81, x289_84, x289_85, x289_88, sh_112, sh_113, sh_114, sh_115, sh_116, sh_117, sh_118, sh_119, sh_120, sh_121, sh_122, sh_123, sh_124, sh_125, sh_126, sh_127, sh_128, sh_129, sh_130, sh_131, sh_132, sh_133, sh_134, sh_135, sh_136, sh_137, sh_138, sh_139, sh_140, sh_141, sh_142, sh_143, sh_144, sh_145, sh_146, sh_147, sh_148, sh_149, sh_150, sh_151, sh_152, sh_153, sh_154, sh_155, sh_156, sh_157, sh_158, sh_159, sh_160, sh_161, sh_162, sh_163, sh_164, sh_165, sh_166, sh_167, sh_168, sh_169, sh_170, sh_171, sh_172, sh_173, sh_174, sh_175, sh_176, sh_177, sh_178, lq_112, lq_113, lq_114, lq_115, lq_116, lq_117, lq_118, lq_119, lq_120, lq_121, lq_122, lq_123, lq_124, lq_125, lq_126, lq_127, lq_128, lq_129, lq_130, lq_131, lq_132, lq_133, lq_134, lq_135, lq_136, lq_137, lq_138, lq_139, lq_140, lq_141, lq_142, lq_143, lq_144, lq_145, lq_146, lq_147, lq_148, lq_149, lq_150, lq_151, lq_152, lq_153, lq_154, lq_155, lq_156, lq_157, lq_158, lq_159, lq_160, lq_161, lq_162, lq_163, lq_164, lq_165, lq_166, lq_167, lq_168, lq_169, lq_170, lq_171, lq_172, lq_173, lq_174, lq_175, lq_176, lq_177, lq_178, rg_112_0, rg_112_9, rg_112_10, rg_112_11, rg_112_12, rg_112_13, rg_112_14, rg_112_15, rg_112_16, rg_112_17, rg_112_18, rg_112_19, rg_112_20, rg_112_21, rg_112_22, rg_112_23, rg_112_24, rg_112_25, rg_112_26, rg_112_27, rg_112_28, rg_112_29, rg_112_30, rg_112_31, rg_112_32, rg_112_33, rg_112_34, rg_112_35, rg_112_36, rg_112_37, rg_112_38, rg_112_39, rg_112_40, rg_112_41, rg_112_43, rg_112_44, rg_112_45, rg_112_46, rg_112_47, rg_112_48, rg_112_49, rg_112_51, rg_112_55, rg_112_57, rg_112_60, rg_112_61, rg_112_62, rg_112_63, rg_112_64, rg_112_66, rg_112_67, rg_112_68, rg_112_69, rg_112_70, rg_112_71, rg_112_72, rg_112_73, rg_112_74, rg_112_80, rg_112_83, rg_112_84, rg_112_85, rg_112_86, rg_112_90, rg_112_91, rg_112_92, ex5, Option.toList_some, Option.toList_none, List.cons_append, List.nil_append, true_and, and_true, nI_1, p_at, p_set, p_isIn, p_max, p_min, p_abs, r_people hc, nI_ge hj (by omega), if_false, i1, i2, i3, k1, p1, k2, q1, k3, r1]
      exact s1 r
  have v0 : RT J3 (up2 J3 112 93 0) (imF N V) 0 := ⟨up2_eq, fun i hi => absurd hi (Nat.not_lt_zero i), fun q q1 q2 => funext fun j => up2_p q1, fun j hj => up2_k hj⟩
  have c0 : up2 J3 112 93 0 148 5 = nI N := by rw [up2_p (by decide)]; exact m33
  obtain ⟨G0, v1, v2⟩ := r_writes (b := N) (L := L) (xs := xs) (Lm := Lm) (nw := nw) (sp := sp) (s2 := s2) (ai := ai) v0 (by decide) imF_0
  obtain ⟨G1, u1, u2⟩ := keyR 0 (Nat.zero_le N) G0 v2
  obtain ⟨G2, t1, t2⟩ := r_writes2 (d := ixn (V 22 0)) (L := L) (xs := xs) (Lm := Lm) (nw := nw) (sp := sp) (s2 := s2) (ai := ai) u2 (show 4 * N + 1 + 1 < 60 by omega) vw.2 (by rw [show 4 * N + 1 = 4 * N + 1 + 0 from rfl, imF_w (by decide), if_pos rfl]) (by rw [imF_w (by decide), if_neg (by decide)])
  have rc := r_check (n := 4 * N + 3) (a := 178) (I := G2) (f := imF N V) (L := L) (xs := xs) (Lm := Lm) (nw := nw) (sp := sp) (s2 := s2) (ai := ai) (by decide) rfl (show 4 * N + 3 ≤ 60 by omega) (fun i hi => ⟨t2.2.1 i hi, i255 i⟩)
  obtain ⟨G3, s1, s2'⟩ := r_writes (b := ckF (imF N V) (4 * N + 3)) (f := imG N V) (L := L) (xs := xs) (Lm := Lm) (nw := nw) (sp := sp) (s2 := s2) (ai := ai) (rtG t2 (fun i hi => (if_pos hi).symm)) (show 4 * N + 3 < 60 by omega) (if_neg (by omega))
  obtain ⟨⟨a1, a2, a3⟩, a4, -, -, -⟩ := id hF
  refine ⟨nI (4 * N + 3 + 1), J3, G3, Lm, Lm, nw, sp, s2, ai, fun r => ?_, fun r => ?_, invGen (G := F) (K2 := 4 * N + 3 + 1) hT hG hM hW hQ hF hA (fun q h0 h1 h2 h3 h4 h5 => (s2'.2.2.1 q h3 h5).trans (w2.2.2.1 q h0 h2)) (fun k h1 h2 => (s2'.2.2.2 k h2).trans (by rw [w2.2.2.1 112 (by decide) (by decide)])) ⟨?_, ?_, a3⟩ (fun i hi => ?_) ⟨?_, s2'.1, by omega, fun i hi => ?_⟩⟩
  · have y1 := y1 r
    have k8 : J2 0 8 = nI (4 * N + 3) := x2.1
    have k9 : J3 0 8 = nI (4 * N + 3 + 1) := w2.1
    have kc : up2 I 0 8 0 (S + 16) 8 = nI N := by rw [up2_p (by omega)]; exact hC.1.1
    have k7 : J1 3 7 = nI (ixn (V 22 0)) := by rw [y2.2.2.1 3 (by decide) (by decide), g5.1]; exact vw.1
    rw [em_151]
    simp only [x151_0, x151_1, x151_4, x151_7, x151_10, x151_11, x151_12, x151_13, x151_16, x151_17, x151_18, x151_21, x151_24, x151_25, x151_27, x151_28, x151_31, x151_34, x151_35, x151_36, x151_39, x151_40, x151_43, x151_44, x151_45, x151_48, x151_49, x151_50, x151_53, x151_54, x151_57, x151_60, x151_61, x151_62, x151_65, x151_68, x151_69, x151_72, x151_75, x151_78, x151_82, x151_83, x151_86, x151_89, x151_92, x151_93, x151_94, x151_97, x151_98, x151_101, x151_104, x151_107, x151_108, x151_111, sh_s, lq_s, sh_s1, lq_s1, sh_s2, lq_s2, sh_s3, lq_s3, sh_s4, lq_s4, sh_s5, lq_s5, sh_s6, lq_s6, sh_s7, lq_s7, sh_s8, lq_s8, sh_s9, lq_s9, sh_s10, lq_s10, sh_s11, lq_s11, sh_s12, lq_s12, sh_s13, lq_s13, sh_s14, lq_s14, sh_s15, lq_s15, sh_s16, lq_s16, sh_s17, lq_s17, sh_s18, lq_s18, sh_s19, lq_s19, sh_s20, lq_s20, sh_s21, lq_s21, sh_s22, lq_s22, sh_s23, lq_s23, sh_s24, lq_s24, sh_s25, lq_s25, rg_s0_0, rg_s0_1, rg_s0_2, rg_s0_3, rg_s1_0, rg_s1_1, rg_s1_2, rg_s1_3, rg_s1_4, rg_s7_0, rg_s9_0, rg_s9_1, rg_s9_2, rg_s9_3, rg_s9_4, rg_s9_5, rg_s16_6, rg_s16_7, rg_s16_0, rg_s16_1, rg_s16_2, rg_s16_3, rg_s16_4, rg_s16_5, sh_o, lq_o, sh_o1, lq_o1, sh_o2, lq_o2, sh_o3, lq_o3, sh_o4, lq_o4, sh_o5, lq_o5, sh_o6, lq_o6, rg_o0, rg_o1, rg_o2, rg_o3, rg_o4, rg_o5, rg_0_now, rg_0_spare, rg_0_0, rg_0_1, rg_0_2, rg_0_6, rg_tw0 hT, rg_tw1 hT, sh_tw hT, lq_tw hT, sh_0, sh_1, sh_2, sh_3, sh_4, sh_5, sh_6, sh_7, sh_8, sh_9, sh_10, lq_0, lq_1, lq_2, lq_3, lq_4, lq_5, lq_6, lq_7, lq_8, lq_9, lq_10, rg_3_0, rg_3_1, rg_3_2, rg_3_3, rg_3_4, rg_3_5, rg_3_6, p_at (n := 179) lz_1 ly_1, p_set (n := 179) lz_1 ly_1, p_at (n := 179) lz_2 ly_2, p_set (n := 179) lz_2 ly_2, p_at (n := 179) lz_4 ly_4, p_set (n := 179) lz_4 ly_4, p_at (n := 179) lz_5 ly_5, p_set (n := 179) lz_5 ly_5, p_at (n := 179) lz_6 ly_6, p_set (n := 179) lz_6 ly_6, p_at (n := 179) lz_7 ly_7, p_set (n := 179) lz_7 ly_7, p_at (n := 179) lz_8 ly_8, p_set (n := 179) lz_8 ly_8, p_at (n := 179) lz_9 ly_9, p_set (n := 179) lz_9 ly_9, p_at (n := 179) lz_10 ly_10, p_set (n := 179) lz_10 ly_10, ex5, Option.toList_some, Option.toList_none, List.cons_append, List.nil_append, true_and, and_true, nI_1, p_at, p_set, p_isIn, p_max, p_min, p_abs, hs, kc, z1]
    refine y1.trans ?_
    rw [x151_81]
    simp only [x151_0, x151_1, x151_4, x151_7, x151_10, x151_11, x151_12, x151_13, x151_16, x151_17, x151_18, x151_21, x151_24, x151_25, x151_27, x151_28, x151_31, x151_34, x151_35, x151_36, x151_39, x151_40, x151_43, x151_44, x151_45, x151_48, x151_49, x151_50, x151_53, x151_54, x151_57, x151_60, x151_61, x151_62, x151_65, x151_68, x151_69, x151_72, x151_75, x151_78, x151_82, x151_83, x151_86, x151_89, x151_92, x151_93, x151_94, x151_97, x151_98, x151_101, x151_104, x151_107, x151_108, x151_111, sh_s, lq_s, sh_s1, lq_s1, sh_s2, lq_s2, sh_s3, lq_s3, sh_s4, lq_s4, sh_s5, lq_s5, sh_s6, lq_s6, sh_s7, lq_s7, sh_s8, lq_s8, sh_s9, lq_s9, sh_s10, lq_s10, sh_s11, lq_s11, sh_s12, lq_s12, sh_s13, lq_s13, sh_s14, lq_s14, sh_s15, lq_s15, sh_s16, lq_s16, sh_s17, lq_s17, sh_s18, lq_s18, sh_s19, lq_s19, sh_s20, lq_s20, sh_s21, lq_s21, sh_s22, lq_s22, sh_s23, lq_s23, sh_s24, lq_s24, sh_s25, lq_s25, rg_s0_0, rg_s0_1, rg_s0_2, rg_s0_3, rg_s1_0, rg_s1_1, rg_s1_2, rg_s1_3, rg_s1_4, rg_s7_0, rg_s9_0, rg_s9_1, rg_s9_2, rg_s9_3, rg_s9_4, rg_s9_5, rg_s16_6, rg_s16_7, rg_s16_0, rg_s16_1, rg_s16_2, rg_s16_3, rg_s16_4, rg_s16_5, sh_o, lq_o, sh_o1, lq_o1, sh_o2, lq_o2, sh_o3, lq_o3, sh_o4, lq_o4, sh_o5, lq_o5, sh_o6, lq_o6, rg_o0, rg_o1, rg_o2, rg_o3, rg_o4, rg_o5, rg_0_now, rg_0_spare, rg_0_0, rg_0_1, rg_0_2, rg_0_6, rg_tw0 hT, rg_tw1 hT, sh_tw hT, lq_tw hT, sh_0, sh_1, sh_2, sh_3, sh_4, sh_5, sh_6, sh_7, sh_8, sh_9, sh_10, lq_0, lq_1, lq_2, lq_3, lq_4, lq_5, lq_6, lq_7, lq_8, lq_9, lq_10, rg_3_0, rg_3_1, rg_3_2, rg_3_3, rg_3_4, rg_3_5, rg_3_6, p_at (n := 179) lz_1 ly_1, p_set (n := 179) lz_1 ly_1, p_at (n := 179) lz_2 ly_2, p_set (n := 179) lz_2 ly_2, p_at (n := 179) lz_4 ly_4, p_set (n := 179) lz_4 ly_4, p_at (n := 179) lz_5 ly_5, p_set (n := 179) lz_5 ly_5, p_at (n := 179) lz_6 ly_6, p_set (n := 179) lz_6 ly_6, p_at (n := 179) lz_7 ly_7, p_set (n := 179) lz_7 ly_7, p_at (n := 179) lz_8 ly_8, p_set (n := 179) lz_8 ly_8, p_at (n := 179) lz_9 ly_9, p_set (n := 179) lz_9 ly_9, p_at (n := 179) lz_10 ly_10, p_set (n := 179) lz_10 ly_10, sh_3, lq_3, ex5, Option.toList_some, Option.toList_none, List.cons_append, List.nil_append, true_and, and_true, nI_1, p_at, p_set, p_isIn, p_max, p_min, p_abs, hs, k7, x1, k8, cc, w1, k9]
  · have u1 := u1 r
    have k8 : G2 112 93 = nI (4 * N + 3) := t2.1
    have k9 : G3 112 93 = nI (4 * N + 3 + 1) := s2'.1
    have kc : G1 148 5 = nI N := by rw [u2.2.2.1 148 (by decide) (by decide)]; exact m33
    have k7 : G1 112 76 = nI (ixn (V 22 0)) := by rw [u2.2.2.2 76 (by decide), mw3.1]; exact vw.1
    rw [em_289]
    simp only [x289_0, x289_1, x289_2, x289_5, x289_6, x289_7, x289_10, x289_13, x289_14, x289_16, x289_17, x289_20, x289_23, x289_24, x289_25, x289_28, x289_29, x289_30, x289_31, x289_32, x289_35, x289_36, x289_37, x289_40, x289_41, x289_42, x289_45, x289_46, x289_47, x289_50, x289_51, x289_52, x289_55, x289_58, x289_62, x289_63, x289_66, x289_69, x289_70, x289_71, x289_74, x289_75, x289_78, x289_81, x289_84, x289_85, x289_88, sh_112, sh_113, sh_114, sh_115, sh_116, sh_117, sh_118, sh_119, sh_120, sh_121, sh_122, sh_123, sh_124, sh_125, sh_126, sh_127, sh_128, sh_129, sh_130, sh_131, sh_132, sh_133, sh_134, sh_135, sh_136, sh_137, sh_138, sh_139, sh_140, sh_141, sh_142, sh_143, sh_144, sh_145, sh_146, sh_147, sh_148, sh_149, sh_150, sh_151, sh_152, sh_153, sh_154, sh_155, sh_156, sh_157, sh_158, sh_159, sh_160, sh_161, sh_162, sh_163, sh_164, sh_165, sh_166, sh_167, sh_168, sh_169, sh_170, sh_171, sh_172, sh_173, sh_174, sh_175, sh_176, sh_177, sh_178, lq_112, lq_113, lq_114, lq_115, lq_116, lq_117, lq_118, lq_119, lq_120, lq_121, lq_122, lq_123, lq_124, lq_125, lq_126, lq_127, lq_128, lq_129, lq_130, lq_131, lq_132, lq_133, lq_134, lq_135, lq_136, lq_137, lq_138, lq_139, lq_140, lq_141, lq_142, lq_143, lq_144, lq_145, lq_146, lq_147, lq_148, lq_149, lq_150, lq_151, lq_152, lq_153, lq_154, lq_155, lq_156, lq_157, lq_158, lq_159, lq_160, lq_161, lq_162, lq_163, lq_164, lq_165, lq_166, lq_167, lq_168, lq_169, lq_170, lq_171, lq_172, lq_173, lq_174, lq_175, lq_176, lq_177, lq_178, rg_112_0, rg_112_9, rg_112_10, rg_112_11, rg_112_12, rg_112_13, rg_112_14, rg_112_15, rg_112_16, rg_112_17, rg_112_18, rg_112_19, rg_112_20, rg_112_21, rg_112_22, rg_112_23, rg_112_24, rg_112_25, rg_112_26, rg_112_27, rg_112_28, rg_112_29, rg_112_30, rg_112_31, rg_112_32, rg_112_33, rg_112_34, rg_112_35, rg_112_36, rg_112_37, rg_112_38, rg_112_39, rg_112_40, rg_112_41, rg_112_43, rg_112_44, rg_112_45, rg_112_46, rg_112_47, rg_112_48, rg_112_49, rg_112_51, rg_112_55, rg_112_57, rg_112_60, rg_112_61, rg_112_62, rg_112_63, rg_112_64, rg_112_66, rg_112_67, rg_112_68, rg_112_69, rg_112_70, rg_112_71, rg_112_72, rg_112_73, rg_112_74, rg_112_80, rg_112_83, rg_112_84, rg_112_85, rg_112_86, rg_112_90, rg_112_91, rg_112_92, ex5, Option.toList_some, Option.toList_none, List.cons_append, List.nil_append, true_and, and_true, nI_1, p_at, p_set, p_isIn, p_max, p_min, p_abs, r_people c0, v1]
    refine u1.trans ?_
    rw [x289_61]
    simp only [x289_0, x289_1, x289_2, x289_5, x289_6, x289_7, x289_10, x289_13, x289_14, x289_16, x289_17, x289_20, x289_23, x289_24, x289_25, x289_28, x289_29, x289_30, x289_31, x289_32, x289_35, x289_36, x289_37, x289_40, x289_41, x289_42, x289_45, x289_46, x289_47, x289_50, x289_51, x289_52, x289_55, x289_58, x289_62, x289_63, x289_66, x289_69, x289_70, x289_71, x289_74, x289_75, x289_78, x289_81, x289_84, x289_85, x289_88, sh_112, sh_113, sh_114, sh_115, sh_116, sh_117, sh_118, sh_119, sh_120, sh_121, sh_122, sh_123, sh_124, sh_125, sh_126, sh_127, sh_128, sh_129, sh_130, sh_131, sh_132, sh_133, sh_134, sh_135, sh_136, sh_137, sh_138, sh_139, sh_140, sh_141, sh_142, sh_143, sh_144, sh_145, sh_146, sh_147, sh_148, sh_149, sh_150, sh_151, sh_152, sh_153, sh_154, sh_155, sh_156, sh_157, sh_158, sh_159, sh_160, sh_161, sh_162, sh_163, sh_164, sh_165, sh_166, sh_167, sh_168, sh_169, sh_170, sh_171, sh_172, sh_173, sh_174, sh_175, sh_176, sh_177, sh_178, lq_112, lq_113, lq_114, lq_115, lq_116, lq_117, lq_118, lq_119, lq_120, lq_121, lq_122, lq_123, lq_124, lq_125, lq_126, lq_127, lq_128, lq_129, lq_130, lq_131, lq_132, lq_133, lq_134, lq_135, lq_136, lq_137, lq_138, lq_139, lq_140, lq_141, lq_142, lq_143, lq_144, lq_145, lq_146, lq_147, lq_148, lq_149, lq_150, lq_151, lq_152, lq_153, lq_154, lq_155, lq_156, lq_157, lq_158, lq_159, lq_160, lq_161, lq_162, lq_163, lq_164, lq_165, lq_166, lq_167, lq_168, lq_169, lq_170, lq_171, lq_172, lq_173, lq_174, lq_175, lq_176, lq_177, lq_178, rg_112_0, rg_112_9, rg_112_10, rg_112_11, rg_112_12, rg_112_13, rg_112_14, rg_112_15, rg_112_16, rg_112_17, rg_112_18, rg_112_19, rg_112_20, rg_112_21, rg_112_22, rg_112_23, rg_112_24, rg_112_25, rg_112_26, rg_112_27, rg_112_28, rg_112_29, rg_112_30, rg_112_31, rg_112_32, rg_112_33, rg_112_34, rg_112_35, rg_112_36, rg_112_37, rg_112_38, rg_112_39, rg_112_40, rg_112_41, rg_112_43, rg_112_44, rg_112_45, rg_112_46, rg_112_47, rg_112_48, rg_112_49, rg_112_51, rg_112_55, rg_112_57, rg_112_60, rg_112_61, rg_112_62, rg_112_63, rg_112_64, rg_112_66, rg_112_67, rg_112_68, rg_112_69, rg_112_70, rg_112_71, rg_112_72, rg_112_73, rg_112_74, rg_112_80, rg_112_83, rg_112_84, rg_112_85, rg_112_86, rg_112_90, rg_112_91, rg_112_92, ex5, Option.toList_some, Option.toList_none, List.cons_append, List.nil_append, true_and, and_true, nI_1, p_at, p_set, p_isIn, p_max, p_min, p_abs, k7, t1, k8, rc, s1, k9]
  · rw [s2'.2.2.1 0 (by decide) (by decide), w2.2.2.2 7 (by decide)]; exact a1
  · rw [s2'.2.2.2 1 (by decide), w2.2.2.1 112 (by decide) (by decide)]; exact a2
  · rw [s2'.2.2.1 1 (by decide) (by decide), s2'.2.2.1 113 (by decide) (by decide), w2.2.2.1 1 (by decide) (by decide), w2.2.2.1 113 (by decide) (by decide)]; exact a4 i hi
  · rw [s2'.2.2.1 0 (by decide) (by decide)]; exact w2.1
  · rw [s2'.2.2.1 2 (by decide) (by decide), w2.2.1 i hi, s2'.2.1 i hi]
end
