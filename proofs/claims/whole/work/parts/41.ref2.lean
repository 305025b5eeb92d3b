def rCom (V : Vw) (N p : Nat) : Int32 := rCut V p (V 1 p) (if V 12 (ixn (V 1 p)) = 3 then rShr V N p (V 1 p) else if V 12 (ixn (V 1 p)) = 0 ∨ V 12 (ixn (V 1 p)) = 1 then meanV V N (V 1 p) - vS V p 6 * (if ¬ V 3 p = -1 ∧ V 1 (ixn (V 3 p)) = V 1 p then rSpr V N (V 1 p) / 2 else rSpr V N (V 1 p)) / 100 else meanV V N (V 1 p))
def rNow (V : Vw) (N p : Nat) : Int32 :=
  if V 1 p = -1 then 100 * (earnV V p - slipV V p) - vS V p 5 * V 2 p * V 2 p
  else 100 * (earnV V p - slipV V p) - vS V p 5 * V 2 p * V 2 p + rCom V N p - (if mxV V p (V 1 p) N - V 2 p ≤ 0 then 0 else vS V p 7 * (mxV V p (V 1 p) N - V 2 p))
section
variable {L : Nat} {xs : Nat → Int32} {σ : Mm} {r : Option Value × Mm} {I J J0 : Nat → Nat → Int32} {Lm : Nat → Nat → Int64} {Rm : Nat → Nat → Nat} {n s so F N NS NH m M : Nat} {V : Vw} {nw sp s2 ai p : Nat} {x y h b t e w v : Int32} {l3 l5 : Option Value}
theorem r_com118 (hR : MR I F N NS NH V) (hp : p < N) (hh : inb h NH) : Ev L xs 5 231 118 [some (.ref 112), some (.int (nI (F + p))), some (.int h), l3, some (.int v), l5] [] (179, I, Lm, RG nw sp s2 ai) r ↔ r = (some (.int (rCut V p h v)), 179, I, Lm, RG nw sp s2 ai) := by
  obtain ⟨h1, h2, h3, h4, h5⟩ := id hR
  have i1 : inb (nI (F + p)) 32 = True := inb_i (by omega) (by decide)
  have i2 : ixn (nI (F + p)) = F + p := ixn_nI (by omega)
  have e2 := (h3 p hp).2.2.1
  by_cases c : V 10 (ixn h) ≤ V 2 p
  · simp only [x231_0, x231_1, x231_4, x231_5, x231_6, x231_7, x231_8, x231_9, x231_10, x231_13, x231_14, x231_15, x231_16, x231_19, x231_21, x231_22, x231_25, x231_26, x231_27, x231_30, x231_31, x231_32, x231_35, x231_37, x231_38, x231_41, x231_42, x231_43, x231_44, x231_47, x231_48, x231_51, x231_52, x231_55, x231_56, x231_57, x231_58, x231_59, x231_62, x231_64, x231_65, x231_66, x231_68, x231_70, x231_71, x231_72, x231_73, x231_76, x231_78, x231_79, x231_81, x231_82, x231_83, x231_85, x231_86, x231_87, x231_90, x231_93, x231_94, x231_95, x231_98, x231_99, x231_100, x231_101, x231_102, x231_103, x231_106, x231_107, x231_108, x231_109, x231_110, x231_113, x231_114, x231_115, x231_116, x231_118, x231_119, x231_122, x231_123, x231_124, x231_125, x231_126, x231_127, x231_130, x231_133, x231_135, x231_137, x231_138, x231_139, x231_140, x231_143, x231_144, x231_145, x231_147, x231_150, x231_153, x231_155, sh_112, sh_113, sh_114, sh_115, sh_116, sh_117, sh_118, sh_119, sh_120, sh_121, sh_122, sh_123, sh_124, sh_125, sh_126, sh_127, sh_128, sh_129, sh_130, sh_131, sh_132, sh_133, sh_134, sh_135, sh_136, sh_137, sh_138, sh_139, sh_140, sh_141, sh_142, sh_143, sh_144, sh_145, sh_146, sh_147, sh_148, sh_149, sh_150, sh_151, sh_152, sh_153, sh_154, sh_155, sh_156, sh_157, sh_158, sh_159, sh_160, sh_161, sh_162, sh_163, sh_164, sh_165, sh_166, sh_167, sh_168, sh_169, sh_170, sh_171, sh_172, sh_173, sh_174, sh_175, sh_176, sh_177, sh_178, lq_112, lq_113, lq_114, lq_115, lq_116, lq_117, lq_118, lq_119, lq_120, lq_121, lq_122, lq_123, lq_124, lq_125, lq_126, lq_127, lq_128, lq_129, lq_130, lq_131, lq_132, lq_133, lq_134, lq_135, lq_136, lq_137, lq_138, lq_139, lq_140, lq_141, lq_142, lq_143, lq_144, lq_145, lq_146, lq_147, lq_148, lq_149, lq_150, lq_151, lq_152, lq_153, lq_154, lq_155, lq_156, lq_157, lq_158, lq_159, lq_160, lq_161, lq_162, lq_163, lq_164, lq_165, lq_166, lq_167, lq_168, lq_169, lq_170, lq_171, lq_172, lq_173, lq_174, lq_175, lq_176, lq_177, lq_178, rg_112_0, rg_112_9, rg_112_10, rg_112_11, rg_112_12, rg_112_13, rg_112_14, rg_112_15, rg_112_16, rg_112_17, rg_112_18, rg_112_19, rg_112_20, rg_112_21, rg_112_22, rg_112_23, rg_112_24, rg_112_25, rg_112_26, rg_112_27, rg_112_28, rg_112_29, rg_112_30, rg_112_31, rg_112_32, rg_112_33, rg_112_34, rg_112_35, rg_112_36, rg_112_37, rg_112_38, rg_112_39, rg_112_40, rg_112_41, rg_112_43, rg_112_44, rg_112_45, rg_112_46, rg_112_47, rg_112_48, rg_112_49, rg_112_51, rg_112_55, rg_112_57, rg_112_60, rg_112_61, rg_112_62, rg_112_63, rg_112_64, rg_112_66, rg_112_67, rg_112_68, rg_112_69, rg_112_70, rg_112_71, rg_112_72, rg_112_73, rg_112_74, rg_112_80, rg_112_83, rg_112_84, rg_112_85, rg_112_86, rg_112_90, rg_112_91, rg_112_92, ex5, Option.toList_some, Option.toList_none, List.cons_append, List.nil_append, true_and, and_true, nI_1, p_at, p_set, p_isIn, p_max, p_min, p_abs, i1, i2, e2, r_hat1 hR hh, c, if_true, rCut]
  · simp only [x231_0, x231_1, x231_4, x231_5, x231_6, x231_7, x231_8, x231_9, x231_10, x231_13, x231_14, x231_15, x231_16, x231_19, x231_21, x231_22, x231_25, x231_26, x231_27, x231_30, x231_31, x231_32, x231_35, x231_37, x231_38, x231_41, x231_42, x231_43, x231_44, x231_47, x231_48, x231_51, x231_52, x231_55, x231_56, x231_57, x231_58, x231_59, x231_62, x231_64, x231_65, x231_66, x231_68, x231_70, x231_71, x231_72, x231_73, x231_76, x231_78, x231_79, x231_81, x231_82, x231_83, x231_85, x231_86, x231_87, x231_90, x231_93, x231_94, x231_95, x231_98, x231_99, x231_100, x231_101, x231_102, x231_103, x231_106, x231_107, x231_108, x231_109, x231_110, x231_113, x231_114, x231_115, x231_116, x231_118, x231_119, x231_122, x231_123, x231_124, x231_125, x231_126, x231_127, x231_130, x231_133, x231_135, x231_137, x231_138, x231_139, x231_140, x231_143, x231_144, x231_145, x231_147, x231_150, x231_153, x231_155, sh_112, sh_113, sh_114, sh_115, sh_116, sh_117, sh_118, sh_119, sh_120, sh_121, sh_122, sh_123, sh_124, sh_125, sh_126, sh_127, sh_128, sh_129, sh_130, sh_131, sh_132, sh_133, sh_134, sh_135, sh_136, sh_137, sh_138, sh_139, sh_140, sh_141, sh_142, sh_143, sh_144, sh_145, sh_146, sh_147, sh_148, sh_149, sh_150, sh_151, sh_152, sh_153, sh_154, sh_155, sh_156, sh_157, sh_158, sh_159, sh_160, sh_161, sh_162, sh_163, sh_164, sh_165, sh_166, sh_167, sh_168, sh_169, sh_170, sh_171, sh_172, sh_173, sh_174, sh_175, sh_176, sh_177, sh_178, lq_112, lq_113, lq_114, lq_115, lq_116, lq_117, lq_118, lq_119, lq_120, lq_121, lq_122, lq_123, lq_124, lq_125, lq_126, lq_127, lq_128, lq_129, lq_130, lq_131, lq_132, lq_133, lq_134, lq_135, lq_136, lq_137, lq_138, lq_139, lq_140, lq_141, lq_142, lq_143, lq_144, lq_145, lq_146, lq_147, lq_148, lq_149, lq_150, lq_151, lq_152, lq_153, lq_154, lq_155, lq_156, lq_157, lq_158, lq_159, lq_160, lq_161, lq_162, lq_163, lq_164, lq_165, lq_166, lq_167, lq_168, lq_169, lq_170, lq_171, lq_172, lq_173, lq_174, lq_175, lq_176, lq_177, lq_178, rg_112_0, rg_112_9, rg_112_10, rg_112_11, rg_112_12, rg_112_13, rg_112_14, rg_112_15, rg_112_16, rg_112_17, rg_112_18, rg_112_19, rg_112_20, rg_112_21, rg_112_22, rg_112_23, rg_112_24, rg_112_25, rg_112_26, rg_112_27, rg_112_28, rg_112_29, rg_112_30, rg_112_31, rg_112_32, rg_112_33, rg_112_34, rg_112_35, rg_112_36, rg_112_37, rg_112_38, rg_112_39, rg_112_40, rg_112_41, rg_112_43, rg_112_44, rg_112_45, rg_112_46, rg_112_47, rg_112_48, rg_112_49, rg_112_51, rg_112_55, rg_112_57, rg_112_60, rg_112_61, rg_112_62, rg_112_63, rg_112_64, rg_112_66, rg_112_67, rg_112_68, rg_112_69, rg_112_70, rg_112_71, rg_112_72, rg_112_73, rg_112_74, rg_112_80, rg_112_83, rg_112_84, rg_112_85, rg_112_86, rg_112_90, rg_112_91, rg_112_92, ex5, Option.toList_some, Option.toList_none, List.cons_append, List.nil_append, true_and, and_true, nI_1, p_at, p_set, p_isIn, p_max, p_min, p_abs, i1, i2, e2, r_hat1 hR hh, r_hat2 hR hh, r_floorOf, c, if_false, rCut]
/-! what the numbers are, as naturals -/
theorem rng_ex {x : Int32} {a b : Int} (h : rng x a b) (ha : 0 ≤ a) : ∃ k : Nat, a ≤ k ∧ (k : Int) ≤ b ∧ x = nI k := by
  have h1 := h.1
  have h2 : x.toInt < 2 ^ 31 := Int32.toInt_lt x
  refine ⟨x.toInt.toNat, by omega, by have := h.2; omega, ?_⟩
  apply Int32.toInt_inj.mp
  rw [nI_toInt (by omega)]
  omega
theorem vS_ex (hW : WV V N NS NH) (hp : p < N) (hS : NS ≤ 6) : ∃ k, k < NS ∧ ∀ f, vS V p f = V f k := by
  obtain ⟨k, hk, e⟩ := inb_ex (hW.1 p hp).1
  exact ⟨k, hk, fun f => by unfold vS; rw [e, ixn_nI (by omega)]⟩
theorem earn_nI (hW : WV V N NS NH) (hp : p < N) (hS : NS ≤ 6) : ∃ a, a ≤ 5940 ∧ earnV V p = nI a := by
  obtain ⟨k, hk, e⟩ := vS_ex hW hp hS
  obtain ⟨a, a1, a2, a3⟩ := rng_ex (hW.1 p hp).2.2.1 (by decide)
  obtain ⟨b, b1, b2, b3⟩ := rng_ex (hW.2.1 k hk).1 (by decide)
  refine ⟨a * b, ?_, ?_⟩
  · have : a * b ≤ 60 * 99 := Nat.mul_le_mul (by omega) (by omega)
    omega
  · unfold earnV; rw [e, a3, b3, pk_mul]
theorem slipW_nI {a k : Nat} (ha : a ≤ 5940) (hk : k ≤ 100) : slipW (nI a) (nI k) = nI (a * (100 - k) / 100) ∧ a * (100 - k) / 100 ≤ 5940 := by
  have h1 : a * (100 - k) ≤ 5940 * 100 := Nat.mul_le_mul ha (by omega)
  refine ⟨?_, by omega⟩
  unfold slipW
  rw [show (100 : Int32) = nI 100 from rfl, pk_sub hk, pk_mul, pk_div (by omega) (by omega) (by omega)]
theorem slip_nI (hW : WV V N NS NH) (hp : p < N) (hS : NS ≤ 6) (hH : NH ≤ 4) : ∃ a, a ≤ 5940 ∧ slipV V p = nI a := by
  obtain ⟨a, a1, a2⟩ := earn_nI hW hp hS
  rcases (hW.1 p hp).2.1 with c | c
  · exact ⟨0, by omega, by unfold slipV; rw [c]; rfl⟩
  · obtain ⟨j, hj, e⟩ := inb_ex c
    obtain ⟨k, k1, k2, k3⟩ := rng_ex (hW.2.2 j hj).1 (by decide)
    obtain ⟨b1, b2⟩ := slipW_nI a1 (show k ≤ 100 by omega)
    refine ⟨_, b2, ?_⟩
    unfold slipV
    rw [e, if_neg (nI_pos (by omega)), ixn_nI (by omega), k3, a2, b1]
theorem sum_nI (hW : WV V N NS NH) (hS : NS ≤ 6) (hH : NH ≤ 4) : ∀ n, n ≤ N → ∃ S, sumV V n h = nI S ∧ S ≤ 5940 * cnN V h n
  | 0, _ => ⟨0, nI_0.symm, Nat.zero_le _⟩
  | n + 1, hn => by
    obtain ⟨k, a, b⟩ := sum_nI hW hS hH n (by omega)
    have e : sumV V (n + 1) h = sumV V n h + (if V 1 n = h then slipV V n else 0) := rfl
    have e2 : cnN V h (n + 1) = if V 1 n = h then cnN V h n + 1 else cnN V h n := rfl
    rw [e, e2]
    by_cases q : V 1 n = h
    · obtain ⟨w, hw, e3⟩ := slip_nI hW (show n < N by omega) hS hH
      rw [if_pos q, if_pos q, a, e3, nI_add]
      exact ⟨k + w, rfl, by omega⟩
    · rw [if_neg q, if_neg q, a, Int32.add_zero]
      exact ⟨k, rfl, b⟩
theorem need_nI (hW : WV V N NS NH) (hS : NS ≤ 6) : ∀ n, n ≤ N → ∃ k, needV V n h = nI k ∧ cnN V h n ≤ k ∧ k ≤ 9 * cnN V h n
  | 0, _ => ⟨0, nI_0.symm, Nat.le_refl 0, Nat.le_refl 0⟩
  | n + 1, hn => by
    obtain ⟨k, a, b, c⟩ := need_nI hW hS n (by omega)
    have e : needV V (n + 1) h = needV V n h + (if V 1 n = h then vS V n 8 else 0) := rfl
    have e2 : cnN V h (n + 1) = if V 1 n = h then cnN V h n + 1 else cnN V h n := rfl
    rw [e, e2]
    by_cases q : V 1 n = h
    · obtain ⟨j, hj, e3⟩ := vS_ex hW (show n < N by omega) hS
      obtain ⟨w, w1, w2, w3⟩ := rng_ex (hW.2.1 j hj).2.2.2.2 (by decide)
      rw [if_pos q, if_pos q, a, e3, w3, nI_add]
      exact ⟨k + w, rfl, by omega, by omega⟩
    · rw [if_neg q, if_neg q, a, Int32.add_zero]
      exact ⟨k, rfl, b, c⟩
theorem abs_nI {a b : Nat} (ha : a < 2 ^ 30) (hb : b < 2 ^ 30) : absI (nI a - nI b) = nI (if b ≤ a then a - b else b - a) := by
  unfold absI
  by_cases c : b ≤ a
  · rw [if_pos c, pk_sub c, if_pos (nI_pos' (by omega))]
  · have c2 : nI a - nI b < 0 := pk_sneg hb (by omega)
    rw [if_neg c, if_neg (Int32.not_le.mpr c2)]
    rw [← pk_sub (show a ≤ b by omega)]
    exact Int32.neg_sub ..
theorem dst_nI (hW : WV V N NS NH) (hS : NS ≤ 6) (hH : NH ≤ 4) {c S : Nat} (hc : c ≤ 20) (hS2 : S ≤ 118800) : ∀ n, n ≤ N → ∃ D, dstV V n h (nI c) (nI S) = nI D ∧ D ≤ 118800 * cnN V h n
  | 0, _ => ⟨0, nI_0.symm, Nat.zero_le _⟩
  | n + 1, hn => by
    obtain ⟨k, a, b⟩ := dst_nI hW hS hH hc hS2 n (by omega)
    have e : dstV V (n + 1) h (nI c) (nI S) = dstV V n h (nI c) (nI S) + (if V 1 n = h then absI (nI c * slipV V n - nI S) else 0) := rfl
    have e2 : cnN V h (n + 1) = if V 1 n = h then cnN V h n + 1 else cnN V h n := rfl
    rw [e, e2]
    by_cases q : V 1 n = h
    · obtain ⟨w, hw, e3⟩ := slip_nI hW (show n < N by omega) hS hH
      have hm : c * w ≤ 20 * 5940 := Nat.mul_le_mul hc hw
      rw [if_pos q, if_pos q, a, e3, pk_mul, abs_nI (by omega) (by omega), nI_add]
      refine ⟨_, rfl, ?_⟩
      split <;> omega
    · rw [if_neg q, if_neg q, a, Int32.add_zero]
      exact ⟨k, rfl, b⟩
theorem rSpr_eq (hW : WV V N NS NH) (hN : N ≤ 20) (hS : NS ≤ 6) (hH : NH ≤ 4) : rSpr V N h = spreadV V N h := by
  have hle := cnN_le V h N
  unfold rSpr spreadV spW
  by_cases c : cnN V h N = 0
  · rw [if_pos c, if_pos c]
  rw [if_neg c, if_neg c]
  obtain ⟨S, s1, s2⟩ := sum_nI (h := h) hW hS hH N (Nat.le_refl N)
  have hm : 5940 * cnN V h N ≤ 5940 * 20 := Nat.mul_le_mul_left _ (by omega)
  obtain ⟨D, d1, d2⟩ := dst_nI (h := h) hW hS hH (show cnN V h N ≤ 20 by omega) (show S ≤ 118800 by omega) N (Nat.le_refl N)
  have hm2 : 118800 * cnN V h N ≤ 118800 * 20 := Nat.mul_le_mul_left _ (by omega)
  have hm3 : cnN V h N * cnN V h N ≤ 20 * 20 := Nat.mul_le_mul (by omega) (by omega)
  have hm4 : 0 < cnN V h N * cnN V h N := Nat.mul_pos (by omega) (by omega)
  rw [s1, d1, pk_mul, nI_l (by omega), nI_l (by omega), show (100 : Int64) = lN 100 from rfl, show (100 : Int32) = nI 100 from rfl, lN_mul, pk_mul, pk_lDiv (by omega) hm4 (by omega), lN_i, pk_div (by omega) hm4 (by omega)]
theorem rShr_eq (hW : WV V N NS NH) (hN : N ≤ 20) (hS : NS ≤ 6) (hH : NH ≤ 4) (hp : p < N) (h0 : 0 < cnN V h N) : rShr V N p h = 100 * sumV V N h * vS V p 8 / needV V N h := by
  have hle := cnN_le V h N
  obtain ⟨S, s1, s2⟩ := sum_nI (h := h) hW hS hH N (Nat.le_refl N)
  have hm : 5940 * cnN V h N ≤ 5940 * 20 := Nat.mul_le_mul_left _ (by omega)
  obtain ⟨D, d1, d2, d3⟩ := need_nI (h := h) hW hS N (Nat.le_refl N)
  obtain ⟨j, hj, e3⟩ := vS_ex hW hp hS
  obtain ⟨w, w1, w2, w3⟩ := rng_ex (hW.2.1 j hj).2.2.2.2 (by decide)
  have hm5 : 100 * S * w ≤ 100 * 118800 * 9 := Nat.mul_le_mul (by omega) (by omega)
  unfold rShr
  rw [s1, d1, e3, w3, nI_l (by omega), nI_l (by omega), nI_l (by omega), show (100 : Int64) = lN 100 from rfl, show (100 : Int32) = nI 100 from rfl, lN_mul, lN_mul, pk_mul, pk_mul, pk_lDiv (by omega) (by omega) (by omega), lN_i, pk_div (by omega) (by omega) (by omega)]
theorem xor_nn (x : Int32) : 0 ≤ x ^^^ 100 ↔ 0 ≤ x := by
  rw [Int32.le_iff_toInt_le, Int32.le_iff_toInt_le]
  have h1 : (x ^^^ 100).toBitVec.msb = x.toBitVec.msb := by
    rw [Int32.toBitVec_xor, BitVec.msb_xor, show (100 : Int32).toBitVec.msb = false by decide]
    simp
  rw [BitVec.msb_eq_toInt, BitVec.msb_eq_toInt, Int32.toInt_toBitVec, Int32.toInt_toBitVec] at h1
  have h2 := decide_eq_decide.mp h1
  have h3 : (0 : Int32).toInt = 0 := rfl
  rw [h3]
  constructor
  · intro k
    have : ¬ (x ^^^ 100).toInt < 0 := by omega
    have := fun q => this (h2.mpr q)
    omega
  · intro k
    have : ¬ x.toInt < 0 := by omega
    have := fun q => this (h2.mp q)
    omega
theorem flW_eq (x : Int32) : flW x = fdW x 100 := by
  have e : (x - x / 100 * 100 = 0) ↔ x / 100 * 100 = x := by
    constructor
    · intro k; have k2 := Int32.sub_eq_iff_eq_add.mp k; rw [Int32.zero_add] at k2; exact k2.symm
    · intro k; rw [k]; exact Int32.sub_self x
  unfold flW fdW
  by_cases c1 : x / 100 * 100 = x
  · rw [if_pos (e.mpr c1), if_pos c1]; split <;> rfl
  · rw [if_neg (fun k => c1 (e.mp k)), if_neg c1]
    by_cases c2 : 0 ≤ x
    · rw [if_pos c2, if_pos ((xor_nn x).mpr c2)]
    · rw [if_neg c2, if_neg (fun k => c2 ((xor_nn x).mp k))]
/-! the others and oneself -/
theorem add_rc (a b c : Int32) : a + b + c = a + c + b := by rw [Int32.add_assoc, Int32.add_comm b c, ← Int32.add_assoc]
theorem cn_o (hh : V 1 p = h) : ∀ n, cnN V h n = oN V p h n + (if p < n then 1 else 0)
  | 0 => rfl
  | n + 1 => by
    have ih := cn_o hh n
    have e2 : cnN V h (n + 1) = if V 1 n = h then cnN V h n + 1 else cnN V h n := rfl
    have e3 : oN V p h (n + 1) = if oC V p h n then oN V p h n + 1 else oN V p h n := rfl
    by_cases c : n = p
    · subst c
      rw [if_pos hh] at e2
      rw [if_neg (fun k => k.1 rfl : ¬ oC V n h n)] at e3
      rw [e2, e3, ih, if_neg (Nat.lt_irrefl n), if_pos (Nat.lt_succ_self n)]
    · by_cases d : V 1 n = h
      · rw [if_pos d] at e2
        rw [if_pos (⟨c, d⟩ : oC V p h n)] at e3
        rw [e2, e3, ih]
        by_cases k : p < n
        · rw [if_pos k, if_pos (by omega)]
        · rw [if_neg k, if_neg (by omega)]
      · rw [if_neg d] at e2
        rw [if_neg (fun k => d k.2 : ¬ oC V p h n)] at e3
        rw [e2, e3, ih]
        by_cases k : p < n
        · rw [if_pos k, if_pos (by omega)]
        · rw [if_neg k, if_neg (by omega)]
theorem slip_h (hh : V 1 p = h) (h0 : ¬ h < 0) : slipV V p = slipW (earnV V p) (V 9 (ixn h)) := by unfold slipV; rw [hh, if_neg h0]
theorem sum_o (hh : V 1 p = h) (h0 : ¬ h < 0) : ∀ n, sumV V n h = oS V p h n + (if p < n then slipV V p else 0)
  | 0 => rfl
  | n + 1 => by
    have ih := sum_o hh h0 n
    have e2 : sumV V (n + 1) h = sumV V n h + (if V 1 n = h then slipV V n else 0) := rfl
    have e3 : oS V p h (n + 1) = if oC V p h n then oS V p h n + slipW (earnV V n) (V 9 (ixn h)) else oS V p h n := rfl
    by_cases c : n = p
    · subst c
      rw [if_pos hh] at e2
      rw [if_neg (fun k => k.1 rfl : ¬ oC V n h n)] at e3
      rw [e2, e3, ih, if_neg (Nat.lt_irrefl n), if_pos (Nat.lt_succ_self n), Int32.add_zero]
    · by_cases d : V 1 n = h
      · rw [if_pos d] at e2
        rw [if_pos (⟨c, d⟩ : oC V p h n)] at e3
        rw [e2, e3, ih, slip_h d h0]
        by_cases k : p < n
        · rw [if_pos k, if_pos (by omega), add_rc]
        · rw [if_neg k, if_neg (by omega), Int32.add_zero, Int32.add_zero]
      · rw [if_neg d] at e2
        rw [if_neg (fun k => d k.2 : ¬ oC V p h n)] at e3
        rw [e2, e3, ih, Int32.add_zero]
        by_cases k : p < n
        · rw [if_pos k, if_pos (by omega)]
        · rw [if_neg k, if_neg (by omega)]
theorem need_o (hh : V 1 p = h) : ∀ n, needV V n h + (if p < n then 0 else vS V p 8) = oE V p h n
  | 0 => by show 0 + vS V p 8 = vS V p 8; exact Int32.zero_add _
  | n + 1 => by
    have ih := need_o hh n
    have e2 : needV V (n + 1) h = needV V n h + (if V 1 n = h then vS V n 8 else 0) := rfl
    have e3 : oE V p h (n + 1) = if oC V p h n then oE V p h n + vS V n 8 else oE V p h n := rfl
    by_cases c : n = p
    · subst c
      rw [if_pos hh] at e2
      rw [if_neg (fun k => k.1 rfl : ¬ oC V n h n)] at e3
      rw [e2, e3, ← ih, if_neg (Nat.lt_irrefl n), if_pos (Nat.lt_succ_self n), Int32.add_zero]
    · by_cases d : V 1 n = h
      · rw [if_pos d] at e2
        rw [if_pos (⟨c, d⟩ : oC V p h n)] at e3
        rw [e2, e3, ← ih]
        by_cases k : p < n
        · rw [if_pos k, if_pos (by omega), Int32.add_zero, Int32.add_zero]
        · rw [if_neg k, if_neg (by omega), add_rc]
      · rw [if_neg d] at e2
        rw [if_neg (fun k => d k.2 : ¬ oC V p h n)] at e3
        rw [e2, e3, ← ih, Int32.add_zero]
        by_cases k : p < n
        · rw [if_pos k, if_pos (by omega)]
        · rw [if_neg k, if_neg (by omega)]
theorem dst_o {c S : Int32} (hh : V 1 p = h) (h0 : ¬ h < 0) : ∀ n, dstV V n h c S = oD V p h (fun z => absI (c * z - S)) n + (if p < n then absI (c * slipV V p - S) else 0)
  | 0 => rfl
  | n + 1 => by
    have ih := dst_o (c := c) (S := S) hh h0 n
    have e2 : dstV V (n + 1) h c S = dstV V n h c S + (if V 1 n = h then absI (c * slipV V n - S) else 0) := rfl
    have e3 : oD V p h (fun z => absI (c * z - S)) (n + 1) = if oC V p h n then oD V p h (fun z => absI (c * z - S)) n + absI (c * slipW (earnV V n) (V 9 (ixn h)) - S) else oD V p h (fun z => absI (c * z - S)) n := rfl
    by_cases q : n = p
    · subst q
      rw [if_pos hh] at e2
      rw [if_neg (fun k => k.1 rfl : ¬ oC V n h n)] at e3
      rw [e2, e3, ih, if_neg (Nat.lt_irrefl n), if_pos (Nat.lt_succ_self n), Int32.add_zero]
    · by_cases d : V 1 n = h
      · rw [if_pos d] at e2
        rw [if_pos (⟨q, d⟩ : oC V p h n)] at e3
        rw [e2, e3, ih, slip_h d h0]
        by_cases k : p < n
        · rw [if_pos k, if_pos (by omega), add_rc]
        · rw [if_neg k, if_neg (by omega), Int32.add_zero, Int32.add_zero]
      · rw [if_neg d] at e2
        rw [if_neg (fun k => d k.2 : ¬ oC V p h n)] at e3
        rw [e2, e3, ih, Int32.add_zero]
        by_cases k : p < n
        · rw [if_pos k, if_pos (by omega)]
        · rw [if_neg k, if_neg (by omega)]
theorem mx_o : ∀ n, mxV V p h n = oT V p h n
  | 0 => rfl
  | n + 1 => by
    have ih := mx_o n
    have e2 : mxV V p h (n + 1) = if n ≠ p ∧ V 1 n = h then maxI (mxV V p h n) (V 2 n) else mxV V p h n := rfl
    have e3 : oT V p h (n + 1) = if oC V p h n then (if oT V p h n < V 2 n then V 2 n else oT V p h n) else oT V p h n := rfl
    rw [e2, e3, ih]; rfl
theorem oM_o : ∀ n, (oM V p h n = 0 ∧ ∀ q, q < n → ¬ (oC V p h q ∧ V 3 p = nI q)) ∨ (oM V p h n = 1 ∧ ∃ q, q < n ∧ (oC V p h q ∧ V 3 p = nI q))
  | 0 => Or.inl ⟨rfl, fun q hq => absurd hq (Nat.not_lt_zero q)⟩
  | n + 1 => by
    have ih := oM_o n
    have e3 : oM V p h (n + 1) = if oC V p h n then (if oM V p h n = 0 then (if V 3 p = nI n then 1 else 0) else 1) else oM V p h n := rfl
    rw [e3]
    by_cases c : oC V p h n
    · rw [if_pos c]
      rcases ih with ⟨a, b⟩ | ⟨a, q, b, d⟩
      · rw [if_pos a]
        by_cases k : V 3 p = nI n
        · rw [if_pos k]; exact Or.inr ⟨rfl, n, by omega, c, k⟩
        · rw [if_neg k]
          refine Or.inl ⟨rfl, fun q hq => ?_⟩
          by_cases e : q = n
          · rw [e]; exact fun z => k z.2
          · exact b q (by omega)
      · rw [if_neg (by rw [a]; decide)]; exact Or.inr ⟨rfl, q, by omega, d⟩
    · rw [if_neg c]
      rcases ih with ⟨a, b⟩ | ⟨a, q, b, d⟩
      · refine Or.inl ⟨a, fun q hq => ?_⟩
        by_cases e : q = n
        · rw [e]; exact fun z => c z.1
        · exact b q (by omega)
      · exact Or.inr ⟨a, q, by omega, d⟩
/-- whether the mate is in the same hat, as both say it -/
theorem mate_o (hM : MW V F N) (hN : N ≤ 20) (hp : p < N) : (¬ V 3 p = -1 ∧ V 1 (ixn (V 3 p)) = V 1 p) ↔ ¬ oM V p (V 1 p) N = 0 := by
  constructor
  · rintro ⟨a, b⟩
    rcases hM p hp with c | ⟨-, c, d⟩
    · exact absurd c a
    · obtain ⟨q, hq, e⟩ := inb_ex c
      rw [e, ixn_nI (by omega)] at b
      rcases oM_o (V := V) (p := p) (h := V 1 p) N with ⟨f, g⟩ | ⟨f, -⟩
      · exact absurd ⟨⟨fun z => d (by rw [e, z]), b⟩, e⟩ (g q hq)
      · rw [f]; decide
  · intro a
    rcases oM_o (V := V) (p := p) (h := V 1 p) N with ⟨f, -⟩ | ⟨f, q, g, ⟨-, k⟩, l⟩
    · exact absurd f a
    · refine ⟨fun z => ?_, ?_⟩
      · rw [z] at l
        have l2 := congrArg Int32.toInt l
        rw [nI_toInt (by omega)] at l2
        have : (-1 : Int32).toInt = -1 := rfl
        omega
      · rw [l, ixn_nI (by omega)]; exact k
/-- THE WORTH, the reference's and the class's -/
theorem rNow_eq (hW : WV V N NS NH) (hM : MW V F N) (hN : N ≤ 20) (hS : NS ≤ 6) (hH : NH ≤ 4) (hp : p < N) : rNow V N p = nwV V N p := by
  have hee : vS V p 4 * V 2 p = earnV V p := Int32.mul_comm _ _
  have g11 : gV V N p (V 1 p) 11 = vS V p 4 := rfl
  have g12 : gV V N p (V 1 p) 12 = vS V p 5 := rfl
  rcases (hW.1 p hp).2.1 with c | c
  · have c2 : V 1 p < 0 := by rw [c]; decide
    have e3 : slipV V p = 0 := by unfold slipV; rw [if_pos c2]
    unfold rNow nwV wV
    rw [if_pos c]
    simp only [c2, true_or, if_true, g11, g12, hee, e3, Int32.sub_zero]
  · have c2 : ¬ V 1 p = -1 := fun k => by rw [k] at c; exact absurd c.1 (by decide)
    have c3 : ¬ V 1 p < 0 := fun k => by have k2 := i_neg.mp k; have := c.1; omega
    have hc := cn_o (V := V) (p := p) rfl N
    rw [if_pos hp] at hc
    have hs := sum_o (V := V) (p := p) rfl c3 N
    rw [if_pos hp] at hs
    have hn := need_o (V := V) (p := p) rfl N
    rw [if_pos hp, Int32.add_zero] at hn
    obtain ⟨k, k1, k2, k3⟩ := need_nI (h := V 1 p) hW hS N (Nat.le_refl N)
    have hle := cnN_le V (V 1 p) N
    have hE : ¬ oE V p (V 1 p) N < 1 := by
      rw [← hn, k1, show (1 : Int32) = nI 1 from rfl]
      exact nI_nlt (by omega) (by omega)
    have hsl := slip_h (V := V) (p := p) rfl c3
    have hd := dst_o (V := V) (p := p) (c := nI (cnN V (V 1 p) N)) (S := sumV V N (V 1 p)) rfl c3 N
    rw [if_pos hp] at hd
    have hsp : spW (oN V p (V 1 p) N + 1) (oD V p (V 1 p) (fun z => absI (nI (oN V p (V 1 p) N + 1) * z - sumV V N (V 1 p))) N + absI (nI (oN V p (V 1 p) N + 1) * slipV V p - sumV V N (V 1 p))) = rSpr V N (V 1 p) := by
      rw [rSpr_eq hW hN hS hH]; unfold spreadV; rw [hd, hc]
    have hme : 100 * sumV V N (V 1 p) / nI (oN V p (V 1 p) N + 1) = meanV V N (V 1 p) := by unfold meanV; rw [if_pos (by omega), hc]
    have hsh : 100 * sumV V N (V 1 p) * vS V p 8 / oE V p (V 1 p) N = rShr V N p (V 1 p) := by rw [rShr_eq hW hN hS hH hp (by omega), hn]
    have hto := mx_o (V := V) (p := p) (h := V 1 p) N
    have hma := mate_o hM hN hp
    have w0 : oS V p (V 1 p) N + slipW (earnV V p) (V 9 (ixn (V 1 p))) = sumV V N (V 1 p) := by rw [hs, hsl]
    obtain ⟨j, hj, ej⟩ := inb_ex c
    have hj2 : ixn (V 1 p) = j := by rw [ej, ixn_nI (by omega)]
    obtain ⟨kk, q1, q2, q3⟩ := rng_ex (hW.2.2 j hj).2.2.2 (by decide)
    obtain ⟨jj, hjj, ejj⟩ := vS_ex hW hp hS
    obtain ⟨mm, m1, m2, m3⟩ := rng_ex (hW.2.1 jj hjj).2.2.1 (by decide)
    have hcom : rCom V N p = (if V 10 (ixn (V 1 p)) ≤ V 2 p then (if askW (gV V N p (V 1 p)) then cutW (gV V N p (V 1 p)) (shrW (gV V N p (V 1 p)) (oN V p (V 1 p) N) (sumV V N (V 1 p))) (rSpr V N (V 1 p)) else shrW (gV V N p (V 1 p)) (oN V p (V 1 p) N) (sumV V N (V 1 p))) else fdW ((if askW (gV V N p (V 1 p)) then cutW (gV V N p (V 1 p)) (shrW (gV V N p (V 1 p)) (oN V p (V 1 p) N) (sumV V N (V 1 p))) (rSpr V N (V 1 p)) else shrW (gV V N p (V 1 p)) (oN V p (V 1 p) N) (sumV V N (V 1 p))) * (100 - V 11 (ixn (V 1 p)))) 100) := by
      unfold rCom rCut
      rw [flW_eq]
      have hv : (if V 12 (ixn (V 1 p)) = 3 then rShr V N p (V 1 p) else if V 12 (ixn (V 1 p)) = 0 ∨ V 12 (ixn (V 1 p)) = 1 then meanV V N (V 1 p) - vS V p 6 * (if ¬ V 3 p = -1 ∧ V 1 (ixn (V 3 p)) = V 1 p then rSpr V N (V 1 p) / 2 else rSpr V N (V 1 p)) / 100 else meanV V N (V 1 p)) = (if askW (gV V N p (V 1 p)) then cutW (gV V N p (V 1 p)) (shrW (gV V N p (V 1 p)) (oN V p (V 1 p) N) (sumV V N (V 1 p))) (rSpr V N (V 1 p)) else shrW (gV V N p (V 1 p)) (oN V p (V 1 p) N) (sumV V N (V 1 p))) := by
        have g10 : gV V N p (V 1 p) 10 = V 12 (ixn (V 1 p)) := rfl
        have g13 : gV V N p (V 1 p) 13 = vS V p 6 := rfl
        have g15 : gV V N p (V 1 p) 15 = vS V p 8 := rfl
        have g5 : gV V N p (V 1 p) 5 = oE V p (V 1 p) N := rfl
        have g2 : gV V N p (V 1 p) 2 = oM V p (V 1 p) N := rfl
        have hsw : shrW (gV V N p (V 1 p)) (oN V p (V 1 p) N) (sumV V N (V 1 p)) = if V 12 (ixn (V 1 p)) = 3 then rShr V N p (V 1 p) else meanV V N (V 1 p) := by
          unfold shrW; rw [g10, g15, g5, hsh, hme]
        have hcw : ∀ v d, cutW (gV V N p (V 1 p)) v d = v - vS V p 6 * (if oM V p (V 1 p) N = 0 then d else d / 2) / 100 := fun _ _ => rfl
        have hak : askW (gV V N p (V 1 p)) = (decide (¬ 1 < V 12 (ixn (V 1 p))) && decide (¬ vS V p 6 ≤ 0)) := rfl
        have hif : (if ¬ V 3 p = -1 ∧ V 1 (ixn (V 3 p)) = V 1 p then rSpr V N (V 1 p) / 2 else rSpr V N (V 1 p)) = (if oM V p (V 1 p) N = 0 then rSpr V N (V 1 p) else rSpr V N (V 1 p) / 2) := by
          by_cases z : oM V p (V 1 p) N = 0
          · rw [if_pos z, if_neg (fun y => (hma.mp y) z)]
          · rw [if_neg z, if_pos (hma.mpr z)]
        rw [hsw, hcw, hak, hif]
        rw [hj2, q3, ejj, m3]
        have hk : kk = 0 ∨ kk = 1 ∨ kk = 2 ∨ kk = 3 := by omega
        have f03 : (nI 0 = 3) = False := eq_false (by decide)
        have f00 : (nI 0 = 0) = True := eq_true rfl
        have f0l : (nI 0 ≤ 1) = True := eq_true (by decide)
        have f13 : (nI 1 = 3) = False := eq_false (by decide)
        have f10 : (nI 1 = 0) = False := eq_false (by decide)
        have f11 : (nI 1 = 1) = True := eq_true rfl
        have f1l : (nI 1 ≤ 1) = True := eq_true (by decide)
        have f23 : (nI 2 = 3) = False := eq_false (by decide)
        have f20 : (nI 2 = 0) = False := eq_false (by decide)
        have f21 : (nI 2 = 1) = False := eq_false (by decide)
        have f2l : (nI 2 ≤ 1) = False := eq_false (by decide)
        have f33 : (nI 3 = 3) = True := eq_true rfl
        have f3l : (nI 3 ≤ 1) = False := eq_false (by decide)
        by_cases hmm : mm = 0
        · subst hmm
          have z1 : ∀ d : Int32, nI 0 * d / 100 = 0 := fun d => by rw [nI_0, Int32.zero_mul]; rfl
          have z2 : nI 0 ≤ 0 := by decide
          rcases hk with rfl | rfl | rfl | rfl <;> simp [z1, z2, f03, f00, f0l, f13, f10, f11, f1l, f23, f20, f21, f2l, f33, f3l]
        · have z2 : ¬ nI mm ≤ 0 := nI_nle (by omega) (by omega)
          rcases hk with rfl | rfl | rfl | rfl <;> simp [z2, f03, f00, f0l, f13, f10, f11, f1l, f23, f20, f21, f2l, f33, f3l]
      rw [hv]
    unfold rNow nwV wV
    rw [if_neg c2, hcom, hto]
    have g5 : gV V N p (V 1 p) 5 = oE V p (V 1 p) N := rfl
    have g7 : gV V N p (V 1 p) 7 = V 9 (ixn (V 1 p)) := rfl
    have g4 : gV V N p (V 1 p) 4 = oS V p (V 1 p) N := rfl
    simp only [g5, g7, g4, g11, g12, c3, hE, or_self, if_false, hee, w0]
    rw [← hsl, hsp]
    unfold endW
    have g6 : gV V N p (V 1 p) 6 = oT V p (V 1 p) N := rfl
    have g8 : gV V N p (V 1 p) 8 = V 10 (ixn (V 1 p)) := rfl
    have g9 : gV V N p (V 1 p) 9 = V 11 (ixn (V 1 p)) := rfl
    have g14 : gV V N p (V 1 p) 14 = vS V p 7 := rfl
    rw [g6, g8, g9, g14]
    by_cases z : oT V p (V 1 p) N - V 2 p ≤ 0
    · rw [if_pos z, if_neg (Int32.not_lt.mpr z), Int32.mul_zero]
    · rw [if_neg z, if_pos (Int32.not_le.mp z)]
end
