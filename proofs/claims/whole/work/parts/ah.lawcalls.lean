/-! the law, a call at a time -/
theorem lk_18 {L i : Nat} (hL : L ≤ 3072) (hi : i ≤ 4000) : (Int32.ofNat L - 6 < nI i) = (L < i + 6) := by
  have e : (Int32.ofNat L - 6).toInt = (L : Int) - 6 := by
    by_cases h : 6 ≤ L
    · rw [show Int32.ofNat L - 6 = nI (L - 6) from pk_sub (b := 6) h, nI_toInt (by omega)]
      omega
    · rcases (show L = 0 ∨ L = 1 ∨ L = 2 ∨ L = 3 ∨ L = 4 ∨ L = 5 by omega) with h | h | h | h | h | h <;> subst h <;> rfl
  rw [Int32.lt_iff_toInt_lt, e, nI_toInt (by omega)]
  exact propext ⟨fun z => by omega, fun z => by omega⟩
section
variable {L : Nat} {xs : Nat → Int32} {r : Option Value × Mm} {I : Nat → Nat → Int32} {Lm : Nat → Nat → Int64} {nw sp s2 ai i : Nat}
theorem ttOfS {mc mr : Nat} {ac ar : List Value} (h : Inv I Lm nw sp s2 ai) (f : ∀ S U N NS NH M P V, Tw nw S U → GC I S (S + 9) N NS NH M P V → GM I Lm N NS NH M P V → GW N NS NH M P V → StQ L xs I Lm nw sp s2 ai S U (S + 9) N NS NH M P mc ac mr ar) : StT L xs I Lm nw sp s2 ai mc ac mr ar := by
  obtain ⟨S, U, N, NS, NH, M, P, V, Q, F, K, hT, hG, hM, hW, hQ, hF, hA⟩ := h
  exact ttOfSt hT hQ hF hA (f S U N NS NH M P V hT hG hM hW)
theorem ttOfP {mc mr : Nat} {ac ar : List Value} (h : Inv I Lm nw sp s2 ai) (f : ∀ S U N NS NH M P V, Tw nw S U → GC I S (S + 9) N NS NH M P V → GM I Lm N NS NH M P V → GW N NS NH M P V → PrQ L xs I Lm nw sp s2 ai S mc ac mr ar) : StT L xs I Lm nw sp s2 ai mc ac mr ar :=
  ttOfS h (fun S U N NS NH M P V hT hG hM hW => stOfPr hT rfl hG hM hW (f S U N NS NH M P V hT hG hM hW))
theorem tt_run {x : Int32} (h : Inv I Lm nw sp s2 ai) : StT L xs I Lm nw sp s2 ai 147 [.ref 0, .int x] 282 [.ref 112, .int x] := by
  obtain ⟨S, U, N, NS, NH, M, P, V, Q, F, K, hT, hG, hM, hW, hQ, hF, hA⟩ := h
  exact ttOfSt hT hQ hF hA (st_run hT rfl hG hM hW hQ.1 hQ.2.1 hQ.2.2)
theorem lw_0 (hL : L ≤ 3072) (hi : i + 6 ≤ L) (h : Inv I Lm nw sp s2 ai) (hx : xs i &&& 63 = 0) (ih : ∀ J Lk nw sp s2 ai, Inv J Lk nw sp s2 ai → ∃ J2 L2 R2, Ev L xs 80 301 18 [some (.ref 1000), some (.ref 0), some (.ref 112), some (.int (nI (i + 6)))] [] (179, J, Lk, RG nw sp s2 ai) (some (.int 1), 179, J2, L2, R2)) : ∃ J2 L2 R2, Ev L xs 80 301 18 [some (.ref 1000), some (.ref 0), some (.ref 112), some (.int (nI i))] [] (179, I, Lm, RG nw sp s2 ai) (some (.int 1), 179, J2, L2, R2) := by
  obtain ⟨v, J, J2, L1, L2, nw1, sp1, s3, ai1, h1, h2, hI⟩ := tt_feed (L := L) (xs := xs) (a := xs (i + 1)) (b := xs (i + 2)) (c := xs (i + 3)) (d := xs (i + 4)) (e := xs (i + 5)) h
  obtain ⟨A, B, D, e⟩ := ih J2 L2 nw1 sp1 s3 ai1 hI
  have c : (Int32.ofNat L - 6 < nI i) = False := by rw [lk_18 hL (by omega)]; exact eq_false (by omega)
  have j0 : inb (nI i) L = True := inb_i (by omega) (by omega)
  have x0 : ixn (nI i) = i := ixn_nI (by omega)
  have e6 : nI i + 6 = nI (i + 6) := nI_add i 6
  have e1 : nI i + 1 = nI (i + 1) := nI_add i 1
  have j1 : inb (nI (i + 1)) L = True := inb_i (by omega) (by omega)
  have x1 : ixn (nI (i + 1)) = i + 1 := ixn_nI (by omega)
  have e2 : nI i + 2 = nI (i + 2) := nI_add i 2
  have j2 : inb (nI (i + 2)) L = True := inb_i (by omega) (by omega)
  have x2 : ixn (nI (i + 2)) = i + 2 := ixn_nI (by omega)
  have e3 : nI i + 3 = nI (i + 3) := nI_add i 3
  have j3 : inb (nI (i + 3)) L = True := inb_i (by omega) (by omega)
  have x3 : ixn (nI (i + 3)) = i + 3 := ixn_nI (by omega)
  have e4 : nI i + 4 = nI (i + 4) := nI_add i 4
  have j4 : inb (nI (i + 4)) L = True := inb_i (by omega) (by omega)
  have x4 : ixn (nI (i + 4)) = i + 4 := ixn_nI (by omega)
  have e5 : nI i + 5 = nI (i + 5) := nI_add i 5
  have j5 : inb (nI (i + 5)) L = True := inb_i (by omega) (by omega)
  have x5 : ixn (nI (i + 5)) = i + 5 := ixn_nI (by omega)
  refine ⟨A, B, D, ?_⟩
  rw [x301_18]
  simp only [x301_19, x301_20, x301_21, x301_23, x301_24, x301_27, x301_28, x301_29, x301_30, x301_32, x301_33k0, x301_196, x301_197, x301_198, x301_199, x301_200, x301_201, x301_202, x301_203, x301_204, x301_205, x301_206, x301_207, x301_208, x301_209, x301_210, x301_211, x301_212, x301_213, x301_214, x301_215, x301_216, x301_217, x301_218, x301_219, x301_220, x301_221, x301_222, x301_225, x301_226, x301_227, x301_228, x301_229, x301_230, x301_231, x301_232, x301_233, x301_234, x301_235, x301_236, x301_237, x301_238, x301_239, x301_240, x301_241, x301_242, x301_243, x301_244, x301_245, x301_246, x301_247, x301_248, x301_249, x301_250, x301_251, x301_254, x301_257, x301_258, x301_1207, x301_1210, c, if_false, if_true, j0, x0, hx, j1, x1, e1, j2, x2, e2, j3, x3, e3, j4, x4, e4, j5, x5, e5, e6, h1, h2, sh_0, lq_0, sh_112, lq_112, ex5, Option.toList_some, Option.toList_none, List.cons_append, List.nil_append, true_and, and_true]
  exact e
theorem lw_1 (hL : L ≤ 3072) (hi : i + 6 ≤ L) (h : Inv I Lm nw sp s2 ai) (hx : xs i &&& 63 = 1) (ih : ∀ J Lk nw sp s2 ai, Inv J Lk nw sp s2 ai → ∃ J2 L2 R2, Ev L xs 80 301 18 [some (.ref 1000), some (.ref 0), some (.ref 112), some (.int (nI (i + 6)))] [] (179, J, Lk, RG nw sp s2 ai) (some (.int 1), 179, J2, L2, R2)) : ∃ J2 L2 R2, Ev L xs 80 301 18 [some (.ref 1000), some (.ref 0), some (.ref 112), some (.int (nI i))] [] (179, I, Lm, RG nw sp s2 ai) (some (.int 1), 179, J2, L2, R2) := by
  obtain ⟨v, J, J2, L1, L2, nw1, sp1, s3, ai1, h1, h2, hI⟩ := tt_end (L := L) (xs := xs) (x := xs (i + 1)) h
  obtain ⟨A, B, D, e⟩ := ih J2 L2 nw1 sp1 s3 ai1 hI
  have c : (Int32.ofNat L - 6 < nI i) = False := by rw [lk_18 hL (by omega)]; exact eq_false (by omega)
  have j0 : inb (nI i) L = True := inb_i (by omega) (by omega)
  have x0 : ixn (nI i) = i := ixn_nI (by omega)
  have e6 : nI i + 6 = nI (i + 6) := nI_add i 6
  have e1 : nI i + 1 = nI (i + 1) := nI_add i 1
  have j1 : inb (nI (i + 1)) L = True := inb_i (by omega) (by omega)
  have x1 : ixn (nI (i + 1)) = i + 1 := ixn_nI (by omega)
  refine ⟨A, B, D, ?_⟩
  rw [x301_18]
  simp only [x301_19, x301_20, x301_21, x301_23, x301_24, x301_27, x301_28, x301_29, x301_30, x301_32, x301_33k1, x301_259, x301_260, x301_261, x301_262, x301_263, x301_264, x301_265, x301_268, x301_269, x301_270, x301_271, x301_272, x301_273, x301_274, x301_277, x301_280, x301_281, x301_1207, x301_1210, c, if_false, if_true, j0, x0, hx, j1, x1, e1, e6, h1, h2, sh_0, lq_0, sh_112, lq_112, ex5, Option.toList_some, Option.toList_none, List.cons_append, List.nil_append, true_and, and_true]
  exact e
theorem lw_2 (hL : L ≤ 3072) (hi : i + 6 ≤ L) (h : Inv I Lm nw sp s2 ai) (hx : xs i &&& 63 = 2) (ih : ∀ J Lk nw sp s2 ai, Inv J Lk nw sp s2 ai → ∃ J2 L2 R2, Ev L xs 80 301 18 [some (.ref 1000), some (.ref 0), some (.ref 112), some (.int (nI (i + 6)))] [] (179, J, Lk, RG nw sp s2 ai) (some (.int 1), 179, J2, L2, R2)) : ∃ J2 L2 R2, Ev L xs 80 301 18 [some (.ref 1000), some (.ref 0), some (.ref 112), some (.int (nI i))] [] (179, I, Lm, RG nw sp s2 ai) (some (.int 1), 179, J2, L2, R2) := by
  obtain ⟨v, J, J2, L1, L2, nw1, sp1, s3, ai1, h1, h2, hI⟩ := tt_town (L := L) (xs := xs) h
  obtain ⟨A, B, D, e⟩ := ih J2 L2 nw1 sp1 s3 ai1 hI
  have c : (Int32.ofNat L - 6 < nI i) = False := by rw [lk_18 hL (by omega)]; exact eq_false (by omega)
  have j0 : inb (nI i) L = True := inb_i (by omega) (by omega)
  have x0 : ixn (nI i) = i := ixn_nI (by omega)
  have e6 : nI i + 6 = nI (i + 6) := nI_add i 6
  refine ⟨A, B, D, ?_⟩
  rw [x301_18]
  simp only [x301_19, x301_20, x301_21, x301_23, x301_24, x301_27, x301_28, x301_29, x301_30, x301_32, x301_33k2, x301_282, x301_283, x301_286, x301_287, x301_290, x301_293, x301_294, x301_1207, x301_1210, c, if_false, if_true, j0, x0, hx, e6, h1, h2, sh_0, lq_0, sh_112, lq_112, ex5, Option.toList_some, Option.toList_none, List.cons_append, List.nil_append, true_and, and_true]
  exact e
theorem lw_3 (hL : L ≤ 3072) (hi : i + 6 ≤ L) (h : Inv I Lm nw sp s2 ai) (hx : xs i &&& 63 = 3) (ih : ∀ J Lk nw sp s2 ai, Inv J Lk nw sp s2 ai → ∃ J2 L2 R2, Ev L xs 80 301 18 [some (.ref 1000), some (.ref 0), some (.ref 112), some (.int (nI (i + 6)))] [] (179, J, Lk, RG nw sp s2 ai) (some (.int 1), 179, J2, L2, R2)) : ∃ J2 L2 R2, Ev L xs 80 301 18 [some (.ref 1000), some (.ref 0), some (.ref 112), some (.int (nI i))] [] (179, I, Lm, RG nw sp s2 ai) (some (.int 1), 179, J2, L2, R2) := by
  obtain ⟨v, J, J2, L1, L2, nw1, sp1, s3, ai1, h1, h2, hI⟩ := tt_fault (L := L) (xs := xs) (x := xs (i + 1)) h
  obtain ⟨A, B, D, e⟩ := ih J2 L2 nw1 sp1 s3 ai1 hI
  have c : (Int32.ofNat L - 6 < nI i) = False := by rw [lk_18 hL (by omega)]; exact eq_false (by omega)
  have j0 : inb (nI i) L = True := inb_i (by omega) (by omega)
  have x0 : ixn (nI i) = i := ixn_nI (by omega)
  have e6 : nI i + 6 = nI (i + 6) := nI_add i 6
  have e1 : nI i + 1 = nI (i + 1) := nI_add i 1
  have j1 : inb (nI (i + 1)) L = True := inb_i (by omega) (by omega)
  have x1 : ixn (nI (i + 1)) = i + 1 := ixn_nI (by omega)
  refine ⟨A, B, D, ?_⟩
  rw [x301_18]
  simp only [x301_19, x301_20, x301_21, x301_23, x301_24, x301_27, x301_28, x301_29, x301_30, x301_32, x301_33k3, x301_295, x301_296, x301_297, x301_298, x301_299, x301_300, x301_301, x301_304, x301_305, x301_306, x301_307, x301_308, x301_309, x301_310, x301_313, x301_316, x301_317, x301_1207, x301_1210, c, if_false, if_true, j0, x0, hx, j1, x1, e1, e6, h1, h2, sh_0, lq_0, sh_112, lq_112, ex5, Option.toList_some, Option.toList_none, List.cons_append, List.nil_append, true_and, and_true]
  exact e
theorem lw_4 (hL : L ≤ 3072) (hi : i + 6 ≤ L) (h : Inv I Lm nw sp s2 ai) (hx : xs i &&& 63 = 4) (ih : ∀ J Lk nw sp s2 ai, Inv J Lk nw sp s2 ai → ∃ J2 L2 R2, Ev L xs 80 301 18 [some (.ref 1000), some (.ref 0), some (.ref 112), some (.int (nI (i + 6)))] [] (179, J, Lk, RG nw sp s2 ai) (some (.int 1), 179, J2, L2, R2)) : ∃ J2 L2 R2, Ev L xs 80 301 18 [some (.ref 1000), some (.ref 0), some (.ref 112), some (.int (nI i))] [] (179, I, Lm, RG nw sp s2 ai) (some (.int 1), 179, J2, L2, R2) := by
  obtain ⟨v, J, J2, L1, L2, nw1, sp1, s3, ai1, h1, h2, hI⟩ := tt_has (L := L) (xs := xs) (x := xs (i + 1)) h
  obtain ⟨A, B, D, e⟩ := ih J2 L2 nw1 sp1 s3 ai1 hI
  have c : (Int32.ofNat L - 6 < nI i) = False := by rw [lk_18 hL (by omega)]; exact eq_false (by omega)
  have j0 : inb (nI i) L = True := inb_i (by omega) (by omega)
  have x0 : ixn (nI i) = i := ixn_nI (by omega)
  have e6 : nI i + 6 = nI (i + 6) := nI_add i 6
  have e1 : nI i + 1 = nI (i + 1) := nI_add i 1
  have j1 : inb (nI (i + 1)) L = True := inb_i (by omega) (by omega)
  have x1 : ixn (nI (i + 1)) = i + 1 := ixn_nI (by omega)
  refine ⟨A, B, D, ?_⟩
  rw [x301_18]
  simp only [x301_19, x301_20, x301_21, x301_23, x301_24, x301_27, x301_28, x301_29, x301_30, x301_32, x301_33k4, x301_318, x301_319, x301_320, x301_321, x301_322, x301_323, x301_324, x301_327, x301_328, x301_329, x301_330, x301_331, x301_332, x301_333, x301_336, x301_339, x301_340, x301_1207, x301_1210, c, if_false, if_true, j0, x0, hx, j1, x1, e1, e6, h1, h2, sh_0, lq_0, sh_112, lq_112, ex5, Option.toList_some, Option.toList_none, List.cons_append, List.nil_append, true_and, and_true]
  exact e
theorem lw_5 (hL : L ≤ 3072) (hi : i + 6 ≤ L) (h : Inv I Lm nw sp s2 ai) (hx : xs i &&& 63 = 5) (ih : ∀ J Lk nw sp s2 ai, Inv J Lk nw sp s2 ai → ∃ J2 L2 R2, Ev L xs 80 301 18 [some (.ref 1000), some (.ref 0), some (.ref 112), some (.int (nI (i + 6)))] [] (179, J, Lk, RG nw sp s2 ai) (some (.int 1), 179, J2, L2, R2)) : ∃ J2 L2 R2, Ev L xs 80 301 18 [some (.ref 1000), some (.ref 0), some (.ref 112), some (.int (nI i))] [] (179, I, Lm, RG nw sp s2 ai) (some (.int 1), 179, J2, L2, R2) := by
  obtain ⟨v, J, J2, L1, L2, nw1, sp1, s3, ai1, h1, h2, hI⟩ := tt_letter (L := L) (xs := xs) (x := xs (i + 1)) (y := xs (i + 2)) (z := xs (i + 3)) h
  obtain ⟨A, B, D, e⟩ := ih J2 L2 nw1 sp1 s3 ai1 hI
  have c : (Int32.ofNat L - 6 < nI i) = False := by rw [lk_18 hL (by omega)]; exact eq_false (by omega)
  have j0 : inb (nI i) L = True := inb_i (by omega) (by omega)
  have x0 : ixn (nI i) = i := ixn_nI (by omega)
  have e6 : nI i + 6 = nI (i + 6) := nI_add i 6
  have e1 : nI i + 1 = nI (i + 1) := nI_add i 1
  have j1 : inb (nI (i + 1)) L = True := inb_i (by omega) (by omega)
  have x1 : ixn (nI (i + 1)) = i + 1 := ixn_nI (by omega)
  have e2 : nI i + 2 = nI (i + 2) := nI_add i 2
  have j2 : inb (nI (i + 2)) L = True := inb_i (by omega) (by omega)
  have x2 : ixn (nI (i + 2)) = i + 2 := ixn_nI (by omega)
  have e3 : nI i + 3 = nI (i + 3) := nI_add i 3
  have j3 : inb (nI (i + 3)) L = True := inb_i (by omega) (by omega)
  have x3 : ixn (nI (i + 3)) = i + 3 := ixn_nI (by omega)
  refine ⟨A, B, D, ?_⟩
  rw [x301_18]
  simp only [x301_19, x301_20, x301_21, x301_23, x301_24, x301_27, x301_28, x301_29, x301_30, x301_32, x301_33k5, x301_341, x301_342, x301_343, x301_344, x301_345, x301_346, x301_347, x301_348, x301_349, x301_350, x301_351, x301_352, x301_353, x301_354, x301_355, x301_356, x301_357, x301_360, x301_361, x301_362, x301_363, x301_364, x301_365, x301_366, x301_367, x301_368, x301_369, x301_370, x301_371, x301_372, x301_373, x301_374, x301_375, x301_376, x301_379, x301_382, x301_383, x301_1207, x301_1210, c, if_false, if_true, j0, x0, hx, j1, x1, e1, j2, x2, e2, j3, x3, e3, e6, h1, h2, sh_0, lq_0, sh_112, lq_112, ex5, Option.toList_some, Option.toList_none, List.cons_append, List.nil_append, true_and, and_true]
  exact e
theorem lw_6 (hL : L ≤ 3072) (hi : i + 6 ≤ L) (h : Inv I Lm nw sp s2 ai) (hx : xs i &&& 63 = 6) (ih : ∀ J Lk nw sp s2 ai, Inv J Lk nw sp s2 ai → ∃ J2 L2 R2, Ev L xs 80 301 18 [some (.ref 1000), some (.ref 0), some (.ref 112), some (.int (nI (i + 6)))] [] (179, J, Lk, RG nw sp s2 ai) (some (.int 1), 179, J2, L2, R2)) : ∃ J2 L2 R2, Ev L xs 80 301 18 [some (.ref 1000), some (.ref 0), some (.ref 112), some (.int (nI i))] [] (179, I, Lm, RG nw sp s2 ai) (some (.int 1), 179, J2, L2, R2) := by
  obtain ⟨v, J, J2, L1, L2, nw1, sp1, s3, ai1, h1, h2, hI⟩ := ttOfP h (fun S U N NS NH M P V hT hG hM hW => pr_person (L := L) (xs := xs) (x := xs (i + 1)) (y := xs (i + 2)) hT rfl hG hM hW)
  obtain ⟨A, B, D, e⟩ := ih J2 L2 nw1 sp1 s3 ai1 hI
  have c : (Int32.ofNat L - 6 < nI i) = False := by rw [lk_18 hL (by omega)]; exact eq_false (by omega)
  have j0 : inb (nI i) L = True := inb_i (by omega) (by omega)
  have x0 : ixn (nI i) = i := ixn_nI (by omega)
  have e6 : nI i + 6 = nI (i + 6) := nI_add i 6
  have e1 : nI i + 1 = nI (i + 1) := nI_add i 1
  have j1 : inb (nI (i + 1)) L = True := inb_i (by omega) (by omega)
  have x1 : ixn (nI (i + 1)) = i + 1 := ixn_nI (by omega)
  have e2 : nI i + 2 = nI (i + 2) := nI_add i 2
  have j2 : inb (nI (i + 2)) L = True := inb_i (by omega) (by omega)
  have x2 : ixn (nI (i + 2)) = i + 2 := ixn_nI (by omega)
  refine ⟨A, B, D, ?_⟩
  rw [x301_18]
  simp only [x301_19, x301_20, x301_21, x301_23, x301_24, x301_27, x301_28, x301_29, x301_30, x301_32, x301_33k6, x301_384, x301_385, x301_386, x301_387, x301_388, x301_389, x301_390, x301_391, x301_392, x301_393, x301_394, x301_395, x301_398, x301_399, x301_400, x301_401, x301_402, x301_403, x301_404, x301_405, x301_406, x301_407, x301_408, x301_409, x301_412, x301_415, x301_416, x301_1207, x301_1210, c, if_false, if_true, j0, x0, hx, j1, x1, e1, j2, x2, e2, e6, h1, h2, sh_0, lq_0, sh_112, lq_112, ex5, Option.toList_some, Option.toList_none, List.cons_append, List.nil_append, true_and, and_true]
  exact e
theorem lw_7 (hL : L ≤ 3072) (hi : i + 6 ≤ L) (h : Inv I Lm nw sp s2 ai) (hx : xs i &&& 63 = 7) (ih : ∀ J Lk nw sp s2 ai, Inv J Lk nw sp s2 ai → ∃ J2 L2 R2, Ev L xs 80 301 18 [some (.ref 1000), some (.ref 0), some (.ref 112), some (.int (nI (i + 6)))] [] (179, J, Lk, RG nw sp s2 ai) (some (.int 1), 179, J2, L2, R2)) : ∃ J2 L2 R2, Ev L xs 80 301 18 [some (.ref 1000), some (.ref 0), some (.ref 112), some (.int (nI i))] [] (179, I, Lm, RG nw sp s2 ai) (some (.int 1), 179, J2, L2, R2) := by
  obtain ⟨v, J, J2, L1, L2, nw1, sp1, s3, ai1, h1, h2, hI⟩ := ttOfP h (fun S U N NS NH M P V hT hG hM hW => pr_hat (L := L) (xs := xs) (x := xs (i + 1)) (y := xs (i + 2)) hT rfl hG hM hW)
  obtain ⟨A, B, D, e⟩ := ih J2 L2 nw1 sp1 s3 ai1 hI
  have c : (Int32.ofNat L - 6 < nI i) = False := by rw [lk_18 hL (by omega)]; exact eq_false (by omega)
  have j0 : inb (nI i) L = True := inb_i (by omega) (by omega)
  have x0 : ixn (nI i) = i := ixn_nI (by omega)
  have e6 : nI i + 6 = nI (i + 6) := nI_add i 6
  have e1 : nI i + 1 = nI (i + 1) := nI_add i 1
  have j1 : inb (nI (i + 1)) L = True := inb_i (by omega) (by omega)
  have x1 : ixn (nI (i + 1)) = i + 1 := ixn_nI (by omega)
  have e2 : nI i + 2 = nI (i + 2) := nI_add i 2
  have j2 : inb (nI (i + 2)) L = True := inb_i (by omega) (by omega)
  have x2 : ixn (nI (i + 2)) = i + 2 := ixn_nI (by omega)
  refine ⟨A, B, D, ?_⟩
  rw [x301_18]
  simp only [x301_19, x301_20, x301_21, x301_23, x301_24, x301_27, x301_28, x301_29, x301_30, x301_32, x301_33k7, x301_417, x301_418, x301_419, x301_420, x301_421, x301_422, x301_423, x301_424, x301_425, x301_426, x301_427, x301_428, x301_431, x301_432, x301_433, x301_434, x301_435, x301_436, x301_437, x301_438, x301_439, x301_440, x301_441, x301_442, x301_445, x301_448, x301_449, x301_1207, x301_1210, c, if_false, if_true, j0, x0, hx, j1, x1, e1, j2, x2, e2, e6, h1, h2, sh_0, lq_0, sh_112, lq_112, ex5, Option.toList_some, Option.toList_none, List.cons_append, List.nil_append, true_and, and_true]
  exact e
theorem lw_8 (hL : L ≤ 3072) (hi : i + 6 ≤ L) (h : Inv I Lm nw sp s2 ai) (hx : xs i &&& 63 = 8) (ih : ∀ J Lk nw sp s2 ai, Inv J Lk nw sp s2 ai → ∃ J2 L2 R2, Ev L xs 80 301 18 [some (.ref 1000), some (.ref 0), some (.ref 112), some (.int (nI (i + 6)))] [] (179, J, Lk, RG nw sp s2 ai) (some (.int 1), 179, J2, L2, R2)) : ∃ J2 L2 R2, Ev L xs 80 301 18 [some (.ref 1000), some (.ref 0), some (.ref 112), some (.int (nI i))] [] (179, I, Lm, RG nw sp s2 ai) (some (.int 1), 179, J2, L2, R2) := by
  obtain ⟨v, J, J2, L1, L2, nw1, sp1, s3, ai1, h1, h2, hI⟩ := ttOfS h (fun S U N NS NH M P V hT hG hM hW => st_put (L := L) (xs := xs) (x := xs (i + 1)) (y := xs (i + 2)) hT rfl hG hM hW)
  obtain ⟨A, B, D, e⟩ := ih J2 L2 nw1 sp1 s3 ai1 hI
  have c : (Int32.ofNat L - 6 < nI i) = False := by rw [lk_18 hL (by omega)]; exact eq_false (by omega)
  have j0 : inb (nI i) L = True := inb_i (by omega) (by omega)
  have x0 : ixn (nI i) = i := ixn_nI (by omega)
  have e6 : nI i + 6 = nI (i + 6) := nI_add i 6
  have e1 : nI i + 1 = nI (i + 1) := nI_add i 1
  have j1 : inb (nI (i + 1)) L = True := inb_i (by omega) (by omega)
  have x1 : ixn (nI (i + 1)) = i + 1 := ixn_nI (by omega)
  have e2 : nI i + 2 = nI (i + 2) := nI_add i 2
  have j2 : inb (nI (i + 2)) L = True := inb_i (by omega) (by omega)
  have x2 : ixn (nI (i + 2)) = i + 2 := ixn_nI (by omega)
  refine ⟨A, B, D, ?_⟩
  rw [x301_18]
  simp only [x301_19, x301_20, x301_21, x301_23, x301_24, x301_27, x301_28, x301_29, x301_30, x301_32, x301_33k8, x301_450, x301_451, x301_452, x301_453, x301_454, x301_455, x301_456, x301_457, x301_458, x301_459, x301_460, x301_461, x301_464, x301_465, x301_466, x301_467, x301_468, x301_469, x301_470, x301_471, x301_472, x301_473, x301_474, x301_475, x301_478, x301_481, x301_482, x301_1207, x301_1210, c, if_false, if_true, j0, x0, hx, j1, x1, e1, j2, x2, e2, e6, h1, h2, sh_0, lq_0, sh_112, lq_112, ex5, Option.toList_some, Option.toList_none, List.cons_append, List.nil_append, true_and, and_true]
  exact e
theorem lw_9 (hL : L ≤ 3072) (hi : i + 6 ≤ L) (h : Inv I Lm nw sp s2 ai) (hx : xs i &&& 63 = 9) (ih : ∀ J Lk nw sp s2 ai, Inv J Lk nw sp s2 ai → ∃ J2 L2 R2, Ev L xs 80 301 18 [some (.ref 1000), some (.ref 0), some (.ref 112), some (.int (nI (i + 6)))] [] (179, J, Lk, RG nw sp s2 ai) (some (.int 1), 179, J2, L2, R2)) : ∃ J2 L2 R2, Ev L xs 80 301 18 [some (.ref 1000), some (.ref 0), some (.ref 112), some (.int (nI i))] [] (179, I, Lm, RG nw sp s2 ai) (some (.int 1), 179, J2, L2, R2) := by
  obtain ⟨v, J, J2, L1, L2, nw1, sp1, s3, ai1, h1, h2, hI⟩ := ttOfS h (fun S U N NS NH M P V hT hG hM hW => st_move (L := L) (xs := xs) (x := xs (i + 1)) (y := xs (i + 2)) hT rfl hG hM hW)
  obtain ⟨A, B, D, e⟩ := ih J2 L2 nw1 sp1 s3 ai1 hI
  have c : (Int32.ofNat L - 6 < nI i) = False := by rw [lk_18 hL (by omega)]; exact eq_false (by omega)
  have j0 : inb (nI i) L = True := inb_i (by omega) (by omega)
  have x0 : ixn (nI i) = i := ixn_nI (by omega)
  have e6 : nI i + 6 = nI (i + 6) := nI_add i 6
  have e1 : nI i + 1 = nI (i + 1) := nI_add i 1
  have j1 : inb (nI (i + 1)) L = True := inb_i (by omega) (by omega)
  have x1 : ixn (nI (i + 1)) = i + 1 := ixn_nI (by omega)
  have e2 : nI i + 2 = nI (i + 2) := nI_add i 2
  have j2 : inb (nI (i + 2)) L = True := inb_i (by omega) (by omega)
  have x2 : ixn (nI (i + 2)) = i + 2 := ixn_nI (by omega)
  refine ⟨A, B, D, ?_⟩
  rw [x301_18]
  simp only [x301_19, x301_20, x301_21, x301_23, x301_24, x301_27, x301_28, x301_29, x301_30, x301_32, x301_33k9, x301_483, x301_484, x301_485, x301_486, x301_487, x301_488, x301_489, x301_490, x301_491, x301_492, x301_493, x301_494, x301_497, x301_498, x301_499, x301_500, x301_501, x301_502, x301_503, x301_504, x301_505, x301_506, x301_507, x301_508, x301_511, x301_514, x301_515, x301_1207, x301_1210, c, if_false, if_true, j0, x0, hx, j1, x1, e1, j2, x2, e2, e6, h1, h2, sh_0, lq_0, sh_112, lq_112, ex5, Option.toList_some, Option.toList_none, List.cons_append, List.nil_append, true_and, and_true]
  exact e
theorem lw_10 (hL : L ≤ 3072) (hi : i + 6 ≤ L) (h : Inv I Lm nw sp s2 ai) (hx : xs i &&& 63 = 10) (ih : ∀ J Lk nw sp s2 ai, Inv J Lk nw sp s2 ai → ∃ J2 L2 R2, Ev L xs 80 301 18 [some (.ref 1000), some (.ref 0), some (.ref 112), some (.int (nI (i + 6)))] [] (179, J, Lk, RG nw sp s2 ai) (some (.int 1), 179, J2, L2, R2)) : ∃ J2 L2 R2, Ev L xs 80 301 18 [some (.ref 1000), some (.ref 0), some (.ref 112), some (.int (nI i))] [] (179, I, Lm, RG nw sp s2 ai) (some (.int 1), 179, J2, L2, R2) := by
  obtain ⟨v, J, J2, L1, L2, nw1, sp1, s3, ai1, h1, h2, hI⟩ := ttOfS h (fun S U N NS NH M P V hT hG hM hW => st_keep (L := L) (xs := xs) (x := xs (i + 1)) (y := xs (i + 2)) hT rfl hG hM hW)
  obtain ⟨A, B, D, e⟩ := ih J2 L2 nw1 sp1 s3 ai1 hI
  have c : (Int32.ofNat L - 6 < nI i) = False := by rw [lk_18 hL (by omega)]; exact eq_false (by omega)
  have j0 : inb (nI i) L = True := inb_i (by omega) (by omega)
  have x0 : ixn (nI i) = i := ixn_nI (by omega)
  have e6 : nI i + 6 = nI (i + 6) := nI_add i 6
  have e1 : nI i + 1 = nI (i + 1) := nI_add i 1
  have j1 : inb (nI (i + 1)) L = True := inb_i (by omega) (by omega)
  have x1 : ixn (nI (i + 1)) = i + 1 := ixn_nI (by omega)
  have e2 : nI i + 2 = nI (i + 2) := nI_add i 2
  have j2 : inb (nI (i + 2)) L = True := inb_i (by omega) (by omega)
  have x2 : ixn (nI (i + 2)) = i + 2 := ixn_nI (by omega)
  refine ⟨A, B, D, ?_⟩
  rw [x301_18]
  simp only [x301_19, x301_20, x301_21, x301_23, x301_24, x301_27, x301_28, x301_29, x301_30, x301_32, x301_33k10, x301_516, x301_517, x301_518, x301_519, x301_520, x301_521, x301_522, x301_523, x301_524, x301_525, x301_526, x301_527, x301_530, x301_531, x301_532, x301_533, x301_534, x301_535, x301_536, x301_537, x301_538, x301_539, x301_540, x301_541, x301_544, x301_547, x301_548, x301_1207, x301_1210, c, if_false, if_true, j0, x0, hx, j1, x1, e1, j2, x2, e2, e6, h1, h2, sh_0, lq_0, sh_112, lq_112, ex5, Option.toList_some, Option.toList_none, List.cons_append, List.nil_append, true_and, and_true]
  exact e
theorem lw_11 (hL : L ≤ 3072) (hi : i + 6 ≤ L) (h : Inv I Lm nw sp s2 ai) (hx : xs i &&& 63 = 11) (ih : ∀ J Lk nw sp s2 ai, Inv J Lk nw sp s2 ai → ∃ J2 L2 R2, Ev L xs 80 301 18 [some (.ref 1000), some (.ref 0), some (.ref 112), some (.int (nI (i + 6)))] [] (179, J, Lk, RG nw sp s2 ai) (some (.int 1), 179, J2, L2, R2)) : ∃ J2 L2 R2, Ev L xs 80 301 18 [some (.ref 1000), some (.ref 0), some (.ref 112), some (.int (nI i))] [] (179, I, Lm, RG nw sp s2 ai) (some (.int 1), 179, J2, L2, R2) := by
  obtain ⟨v, J, J2, L1, L2, nw1, sp1, s3, ai1, h1, h2, hI⟩ := ttOfP h (fun S U N NS NH M P V hT hG hM hW => pr_worth (L := L) (xs := xs) (x := xs (i + 1)) (y := xs (i + 2)) hT rfl hG hM hW)
  obtain ⟨A, B, D, e⟩ := ih J2 L2 nw1 sp1 s3 ai1 hI
  have c : (Int32.ofNat L - 6 < nI i) = False := by rw [lk_18 hL (by omega)]; exact eq_false (by omega)
  have j0 : inb (nI i) L = True := inb_i (by omega) (by omega)
  have x0 : ixn (nI i) = i := ixn_nI (by omega)
  have e6 : nI i + 6 = nI (i + 6) := nI_add i 6
  have e1 : nI i + 1 = nI (i + 1) := nI_add i 1
  have j1 : inb (nI (i + 1)) L = True := inb_i (by omega) (by omega)
  have x1 : ixn (nI (i + 1)) = i + 1 := ixn_nI (by omega)
  have e2 : nI i + 2 = nI (i + 2) := nI_add i 2
  have j2 : inb (nI (i + 2)) L = True := inb_i (by omega) (by omega)
  have x2 : ixn (nI (i + 2)) = i + 2 := ixn_nI (by omega)
  refine ⟨A, B, D, ?_⟩
  rw [x301_18]
  simp only [x301_19, x301_20, x301_21, x301_23, x301_24, x301_27, x301_28, x301_29, x301_30, x301_32, x301_33k11, x301_549, x301_550, x301_551, x301_552, x301_553, x301_554, x301_555, x301_556, x301_557, x301_558, x301_559, x301_560, x301_563, x301_564, x301_565, x301_566, x301_567, x301_568, x301_569, x301_570, x301_571, x301_572, x301_573, x301_574, x301_577, x301_580, x301_581, x301_1207, x301_1210, c, if_false, if_true, j0, x0, hx, j1, x1, e1, j2, x2, e2, e6, h1, h2, sh_0, lq_0, sh_112, lq_112, ex5, Option.toList_some, Option.toList_none, List.cons_append, List.nil_append, true_and, and_true]
  exact e
theorem lw_12 (hL : L ≤ 3072) (hi : i + 6 ≤ L) (h : Inv I Lm nw sp s2 ai) (hx : xs i &&& 63 = 12) (ih : ∀ J Lk nw sp s2 ai, Inv J Lk nw sp s2 ai → ∃ J2 L2 R2, Ev L xs 80 301 18 [some (.ref 1000), some (.ref 0), some (.ref 112), some (.int (nI (i + 6)))] [] (179, J, Lk, RG nw sp s2 ai) (some (.int 1), 179, J2, L2, R2)) : ∃ J2 L2 R2, Ev L xs 80 301 18 [some (.ref 1000), some (.ref 0), some (.ref 112), some (.int (nI i))] [] (179, I, Lm, RG nw sp s2 ai) (some (.int 1), 179, J2, L2, R2) := by
  obtain ⟨v, J, J2, L1, L2, nw1, sp1, s3, ai1, h1, h2, hI⟩ := ttOfP h (fun S U N NS NH M P V hT hG hM hW => pr_all (L := L) (xs := xs) hT rfl hG hM hW)
  obtain ⟨A, B, D, e⟩ := ih J2 L2 nw1 sp1 s3 ai1 hI
  have c : (Int32.ofNat L - 6 < nI i) = False := by rw [lk_18 hL (by omega)]; exact eq_false (by omega)
  have j0 : inb (nI i) L = True := inb_i (by omega) (by omega)
  have x0 : ixn (nI i) = i := ixn_nI (by omega)
  have e6 : nI i + 6 = nI (i + 6) := nI_add i 6
  refine ⟨A, B, D, ?_⟩
  rw [x301_18]
  simp only [x301_19, x301_20, x301_21, x301_23, x301_24, x301_27, x301_28, x301_29, x301_30, x301_32, x301_33k12, x301_582, x301_583, x301_586, x301_587, x301_590, x301_593, x301_594, x301_1207, x301_1210, c, if_false, if_true, j0, x0, hx, e6, h1, h2, sh_0, lq_0, sh_112, lq_112, ex5, Option.toList_some, Option.toList_none, List.cons_append, List.nil_append, true_and, and_true]
  exact e
theorem lw_13 (hL : L ≤ 3072) (hi : i + 6 ≤ L) (h : Inv I Lm nw sp s2 ai) (hx : xs i &&& 63 = 13) (ih : ∀ J Lk nw sp s2 ai, Inv J Lk nw sp s2 ai → ∃ J2 L2 R2, Ev L xs 80 301 18 [some (.ref 1000), some (.ref 0), some (.ref 112), some (.int (nI (i + 6)))] [] (179, J, Lk, RG nw sp s2 ai) (some (.int 1), 179, J2, L2, R2)) : ∃ J2 L2 R2, Ev L xs 80 301 18 [some (.ref 1000), some (.ref 0), some (.ref 112), some (.int (nI i))] [] (179, I, Lm, RG nw sp s2 ai) (some (.int 1), 179, J2, L2, R2) := by
  obtain ⟨v, J, J2, L1, L2, nw1, sp1, s3, ai1, h1, h2, hI⟩ := ttOfS h (fun S U N NS NH M P V hT hG hM hW => st_rest (L := L) (xs := xs) (x := xs (i + 1)) hT rfl hG hM hW)
  obtain ⟨A, B, D, e⟩ := ih J2 L2 nw1 sp1 s3 ai1 hI
  have c : (Int32.ofNat L - 6 < nI i) = False := by rw [lk_18 hL (by omega)]; exact eq_false (by omega)
  have j0 : inb (nI i) L = True := inb_i (by omega) (by omega)
  have x0 : ixn (nI i) = i := ixn_nI (by omega)
  have e6 : nI i + 6 = nI (i + 6) := nI_add i 6
  have e1 : nI i + 1 = nI (i + 1) := nI_add i 1
  have j1 : inb (nI (i + 1)) L = True := inb_i (by omega) (by omega)
  have x1 : ixn (nI (i + 1)) = i + 1 := ixn_nI (by omega)
  refine ⟨A, B, D, ?_⟩
  rw [x301_18]
  simp only [x301_19, x301_20, x301_21, x301_23, x301_24, x301_27, x301_28, x301_29, x301_30, x301_32, x301_33k13, x301_595, x301_596, x301_597, x301_598, x301_599, x301_600, x301_601, x301_604, x301_605, x301_606, x301_607, x301_608, x301_609, x301_610, x301_613, x301_616, x301_617, x301_1207, x301_1210, c, if_false, if_true, j0, x0, hx, j1, x1, e1, e6, h1, h2, sh_0, lq_0, sh_112, lq_112, ex5, Option.toList_some, Option.toList_none, List.cons_append, List.nil_append, true_and, and_true]
  exact e
theorem lw_14 (hL : L ≤ 3072) (hi : i + 6 ≤ L) (h : Inv I Lm nw sp s2 ai) (hx : xs i &&& 63 = 14) (ih : ∀ J Lk nw sp s2 ai, Inv J Lk nw sp s2 ai → ∃ J2 L2 R2, Ev L xs 80 301 18 [some (.ref 1000), some (.ref 0), some (.ref 112), some (.int (nI (i + 6)))] [] (179, J, Lk, RG nw sp s2 ai) (some (.int 1), 179, J2, L2, R2)) : ∃ J2 L2 R2, Ev L xs 80 301 18 [some (.ref 1000), some (.ref 0), some (.ref 112), some (.int (nI i))] [] (179, I, Lm, RG nw sp s2 ai) (some (.int 1), 179, J2, L2, R2) := by
  obtain ⟨v, J, J2, L1, L2, nw1, sp1, s3, ai1, h1, h2, hI⟩ := ttOfP h (fun S U N NS NH M P V hT hG hM hW => pr_proof (L := L) (xs := xs) hT rfl hG hM hW)
  obtain ⟨A, B, D, e⟩ := ih J2 L2 nw1 sp1 s3 ai1 hI
  have c : (Int32.ofNat L - 6 < nI i) = False := by rw [lk_18 hL (by omega)]; exact eq_false (by omega)
  have j0 : inb (nI i) L = True := inb_i (by omega) (by omega)
  have x0 : ixn (nI i) = i := ixn_nI (by omega)
  have e6 : nI i + 6 = nI (i + 6) := nI_add i 6
  refine ⟨A, B, D, ?_⟩
  rw [x301_18]
  simp only [x301_19, x301_20, x301_21, x301_23, x301_24, x301_27, x301_28, x301_29, x301_30, x301_32, x301_33k14, x301_618, x301_619, x301_622, x301_623, x301_626, x301_629, x301_630, x301_1207, x301_1210, c, if_false, if_true, j0, x0, hx, e6, h1, h2, sh_0, lq_0, sh_112, lq_112, ex5, Option.toList_some, Option.toList_none, List.cons_append, List.nil_append, true_and, and_true]
  exact e
theorem lw_15 (hL : L ≤ 3072) (hi : i + 6 ≤ L) (h : Inv I Lm nw sp s2 ai) (hx : xs i &&& 63 = 15) (ih : ∀ J Lk nw sp s2 ai, Inv J Lk nw sp s2 ai → ∃ J2 L2 R2, Ev L xs 80 301 18 [some (.ref 1000), some (.ref 0), some (.ref 112), some (.int (nI (i + 6)))] [] (179, J, Lk, RG nw sp s2 ai) (some (.int 1), 179, J2, L2, R2)) : ∃ J2 L2 R2, Ev L xs 80 301 18 [some (.ref 1000), some (.ref 0), some (.ref 112), some (.int (nI i))] [] (179, I, Lm, RG nw sp s2 ai) (some (.int 1), 179, J2, L2, R2) := by
  obtain ⟨v, J, J2, L1, L2, nw1, sp1, s3, ai1, h1, h2, hI⟩ := ttOfP h (fun S U N NS NH M P V hT hG hM hW => pr_part (L := L) (xs := xs) (x := xs (i + 1)) (y := xs (i + 2)) (t := 11) hT rfl rfl hG hM hW)
  obtain ⟨A, B, D, e⟩ := ih J2 L2 nw1 sp1 s3 ai1 hI
  have c : (Int32.ofNat L - 6 < nI i) = False := by rw [lk_18 hL (by omega)]; exact eq_false (by omega)
  have j0 : inb (nI i) L = True := inb_i (by omega) (by omega)
  have x0 : ixn (nI i) = i := ixn_nI (by omega)
  have e6 : nI i + 6 = nI (i + 6) := nI_add i 6
  have e1 : nI i + 1 = nI (i + 1) := nI_add i 1
  have j1 : inb (nI (i + 1)) L = True := inb_i (by omega) (by omega)
  have x1 : ixn (nI (i + 1)) = i + 1 := ixn_nI (by omega)
  have e2 : nI i + 2 = nI (i + 2) := nI_add i 2
  have j2 : inb (nI (i + 2)) L = True := inb_i (by omega) (by omega)
  have x2 : ixn (nI (i + 2)) = i + 2 := ixn_nI (by omega)
  refine ⟨A, B, D, ?_⟩
  rw [x301_18]
  simp only [x301_19, x301_20, x301_21, x301_23, x301_24, x301_27, x301_28, x301_29, x301_30, x301_32, x301_33k15, x301_631, x301_632, x301_633, x301_634, x301_635, x301_636, x301_637, x301_638, x301_639, x301_640, x301_641, x301_642, x301_645, x301_646, x301_647, x301_648, x301_649, x301_650, x301_651, x301_652, x301_653, x301_654, x301_655, x301_656, x301_659, x301_662, x301_663, x301_1207, x301_1210, c, if_false, if_true, j0, x0, hx, j1, x1, e1, j2, x2, e2, e6, h1, h2, sh_0, lq_0, sh_112, lq_112, ex5, Option.toList_some, Option.toList_none, List.cons_append, List.nil_append, true_and, and_true]
  exact e
theorem lw_16 (hL : L ≤ 3072) (hi : i + 6 ≤ L) (h : Inv I Lm nw sp s2 ai) (hx : xs i &&& 63 = 16) (ih : ∀ J Lk nw sp s2 ai, Inv J Lk nw sp s2 ai → ∃ J2 L2 R2, Ev L xs 80 301 18 [some (.ref 1000), some (.ref 0), some (.ref 112), some (.int (nI (i + 6)))] [] (179, J, Lk, RG nw sp s2 ai) (some (.int 1), 179, J2, L2, R2)) : ∃ J2 L2 R2, Ev L xs 80 301 18 [some (.ref 1000), some (.ref 0), some (.ref 112), some (.int (nI i))] [] (179, I, Lm, RG nw sp s2 ai) (some (.int 1), 179, J2, L2, R2) := by
  obtain ⟨v, J, J2, L1, L2, nw1, sp1, s3, ai1, h1, h2, hI⟩ := ttOfP h (fun S U N NS NH M P V hT hG hM hW => pr_look (L := L) (xs := xs) (x := xs (i + 1)) (t := 11) hT rfl rfl hG hM hW)
  obtain ⟨A, B, D, e⟩ := ih J2 L2 nw1 sp1 s3 ai1 hI
  have c : (Int32.ofNat L - 6 < nI i) = False := by rw [lk_18 hL (by omega)]; exact eq_false (by omega)
  have j0 : inb (nI i) L = True := inb_i (by omega) (by omega)
  have x0 : ixn (nI i) = i := ixn_nI (by omega)
  have e6 : nI i + 6 = nI (i + 6) := nI_add i 6
  have e1 : nI i + 1 = nI (i + 1) := nI_add i 1
  have j1 : inb (nI (i + 1)) L = True := inb_i (by omega) (by omega)
  have x1 : ixn (nI (i + 1)) = i + 1 := ixn_nI (by omega)
  refine ⟨A, B, D, ?_⟩
  rw [x301_18]
  simp only [x301_19, x301_20, x301_21, x301_23, x301_24, x301_27, x301_28, x301_29, x301_30, x301_32, x301_33k16, x301_664, x301_665, x301_666, x301_667, x301_668, x301_669, x301_670, x301_673, x301_674, x301_675, x301_676, x301_677, x301_678, x301_679, x301_682, x301_685, x301_686, x301_1207, x301_1210, c, if_false, if_true, j0, x0, hx, j1, x1, e1, e6, h1, h2, sh_0, lq_0, sh_112, lq_112, ex5, Option.toList_some, Option.toList_none, List.cons_append, List.nil_append, true_and, and_true]
  exact e
theorem lw_17 (hL : L ≤ 3072) (hi : i + 6 ≤ L) (h : Inv I Lm nw sp s2 ai) (hx : xs i &&& 63 = 17) (ih : ∀ J Lk nw sp s2 ai, Inv J Lk nw sp s2 ai → ∃ J2 L2 R2, Ev L xs 80 301 18 [some (.ref 1000), some (.ref 0), some (.ref 112), some (.int (nI (i + 6)))] [] (179, J, Lk, RG nw sp s2 ai) (some (.int 1), 179, J2, L2, R2)) : ∃ J2 L2 R2, Ev L xs 80 301 18 [some (.ref 1000), some (.ref 0), some (.ref 112), some (.int (nI i))] [] (179, I, Lm, RG nw sp s2 ai) (some (.int 1), 179, J2, L2, R2) := by
  obtain ⟨v, J, J2, L1, L2, nw1, sp1, s3, ai1, h1, h2, hI⟩ := ttOfP h (fun S U N NS NH M P V hT hG hM hW => pr_size (L := L) (xs := xs) (x := xs (i + 1)) (y := xs (i + 2)) (z := xs (i + 3)) (u := xs (i + 4)) (t := 11) hT rfl rfl hG hM hW)
  obtain ⟨A, B, D, e⟩ := ih J2 L2 nw1 sp1 s3 ai1 hI
  have c : (Int32.ofNat L - 6 < nI i) = False := by rw [lk_18 hL (by omega)]; exact eq_false (by omega)
  have j0 : inb (nI i) L = True := inb_i (by omega) (by omega)
  have x0 : ixn (nI i) = i := ixn_nI (by omega)
  have e6 : nI i + 6 = nI (i + 6) := nI_add i 6
  have e1 : nI i + 1 = nI (i + 1) := nI_add i 1
  have j1 : inb (nI (i + 1)) L = True := inb_i (by omega) (by omega)
  have x1 : ixn (nI (i + 1)) = i + 1 := ixn_nI (by omega)
  have e2 : nI i + 2 = nI (i + 2) := nI_add i 2
  have j2 : inb (nI (i + 2)) L = True := inb_i (by omega) (by omega)
  have x2 : ixn (nI (i + 2)) = i + 2 := ixn_nI (by omega)
  have e3 : nI i + 3 = nI (i + 3) := nI_add i 3
  have j3 : inb (nI (i + 3)) L = True := inb_i (by omega) (by omega)
  have x3 : ixn (nI (i + 3)) = i + 3 := ixn_nI (by omega)
  have e4 : nI i + 4 = nI (i + 4) := nI_add i 4
  have j4 : inb (nI (i + 4)) L = True := inb_i (by omega) (by omega)
  have x4 : ixn (nI (i + 4)) = i + 4 := ixn_nI (by omega)
  refine ⟨A, B, D, ?_⟩
  rw [x301_18]
  simp only [x301_19, x301_20, x301_21, x301_23, x301_24, x301_27, x301_28, x301_29, x301_30, x301_32, x301_33k17, x301_687, x301_688, x301_689, x301_690, x301_691, x301_692, x301_693, x301_694, x301_695, x301_696, x301_697, x301_698, x301_699, x301_700, x301_701, x301_702, x301_703, x301_704, x301_705, x301_706, x301_707, x301_708, x301_711, x301_712, x301_713, x301_714, x301_715, x301_716, x301_717, x301_718, x301_719, x301_720, x301_721, x301_722, x301_723, x301_724, x301_725, x301_726, x301_727, x301_728, x301_729, x301_730, x301_731, x301_732, x301_735, x301_738, x301_739, x301_1207, x301_1210, c, if_false, if_true, j0, x0, hx, j1, x1, e1, j2, x2, e2, j3, x3, e3, j4, x4, e4, e6, h1, h2, sh_0, lq_0, sh_112, lq_112, ex5, Option.toList_some, Option.toList_none, List.cons_append, List.nil_append, true_and, and_true]
  exact e
theorem lw_18 (hL : L ≤ 3072) (hi : i + 6 ≤ L) (h : Inv I Lm nw sp s2 ai) (hx : xs i &&& 63 = 18) (ih : ∀ J Lk nw sp s2 ai, Inv J Lk nw sp s2 ai → ∃ J2 L2 R2, Ev L xs 80 301 18 [some (.ref 1000), some (.ref 0), some (.ref 112), some (.int (nI (i + 6)))] [] (179, J, Lk, RG nw sp s2 ai) (some (.int 1), 179, J2, L2, R2)) : ∃ J2 L2 R2, Ev L xs 80 301 18 [some (.ref 1000), some (.ref 0), some (.ref 112), some (.int (nI i))] [] (179, I, Lm, RG nw sp s2 ai) (some (.int 1), 179, J2, L2, R2) := by
  obtain ⟨v, J, J2, L1, L2, nw1, sp1, s3, ai1, h1, h2, hI⟩ := ttOfP h (fun S U N NS NH M P V hT hG hM hW => pr_many (L := L) (xs := xs) (x := xs (i + 1)) (y := xs (i + 2)) (t := 11) hT rfl rfl hG hM hW)
  obtain ⟨A, B, D, e⟩ := ih J2 L2 nw1 sp1 s3 ai1 hI
  have c : (Int32.ofNat L - 6 < nI i) = False := by rw [lk_18 hL (by omega)]; exact eq_false (by omega)
  have j0 : inb (nI i) L = True := inb_i (by omega) (by omega)
  have x0 : ixn (nI i) = i := ixn_nI (by omega)
  have e6 : nI i + 6 = nI (i + 6) := nI_add i 6
  have e1 : nI i + 1 = nI (i + 1) := nI_add i 1
  have j1 : inb (nI (i + 1)) L = True := inb_i (by omega) (by omega)
  have x1 : ixn (nI (i + 1)) = i + 1 := ixn_nI (by omega)
  have e2 : nI i + 2 = nI (i + 2) := nI_add i 2
  have j2 : inb (nI (i + 2)) L = True := inb_i (by omega) (by omega)
  have x2 : ixn (nI (i + 2)) = i + 2 := ixn_nI (by omega)
  refine ⟨A, B, D, ?_⟩
  rw [x301_18]
  simp only [x301_19, x301_20, x301_21, x301_23, x301_24, x301_27, x301_28, x301_29, x301_30, x301_32, x301_33k18, x301_740, x301_741, x301_742, x301_743, x301_744, x301_745, x301_746, x301_747, x301_748, x301_749, x301_750, x301_751, x301_754, x301_755, x301_756, x301_757, x301_758, x301_759, x301_760, x301_761, x301_762, x301_763, x301_764, x301_765, x301_768, x301_771, x301_772, x301_1207, x301_1210, c, if_false, if_true, j0, x0, hx, j1, x1, e1, j2, x2, e2, e6, h1, h2, sh_0, lq_0, sh_112, lq_112, ex5, Option.toList_some, Option.toList_none, List.cons_append, List.nil_append, true_and, and_true]
  exact e
theorem lw_19 (hL : L ≤ 3072) (hi : i + 6 ≤ L) (h : Inv I Lm nw sp s2 ai) (hx : xs i &&& 63 = 19) (ih : ∀ J Lk nw sp s2 ai, Inv J Lk nw sp s2 ai → ∃ J2 L2 R2, Ev L xs 80 301 18 [some (.ref 1000), some (.ref 0), some (.ref 112), some (.int (nI (i + 6)))] [] (179, J, Lk, RG nw sp s2 ai) (some (.int 1), 179, J2, L2, R2)) : ∃ J2 L2 R2, Ev L xs 80 301 18 [some (.ref 1000), some (.ref 0), some (.ref 112), some (.int (nI i))] [] (179, I, Lm, RG nw sp s2 ai) (some (.int 1), 179, J2, L2, R2) := by
  obtain ⟨v, J, J2, L1, L2, nw1, sp1, s3, ai1, h1, h2, hI⟩ := ttOfP h (fun S U N NS NH M P V hT hG hM hW => pr_under (L := L) (xs := xs) (x := xs (i + 1)) (y := xs (i + 2)) (z := xs (i + 3)) (t := 11) hT rfl rfl hG hM hW)
  obtain ⟨A, B, D, e⟩ := ih J2 L2 nw1 sp1 s3 ai1 hI
  have c : (Int32.ofNat L - 6 < nI i) = False := by rw [lk_18 hL (by omega)]; exact eq_false (by omega)
  have j0 : inb (nI i) L = True := inb_i (by omega) (by omega)
  have x0 : ixn (nI i) = i := ixn_nI (by omega)
  have e6 : nI i + 6 = nI (i + 6) := nI_add i 6
  have e1 : nI i + 1 = nI (i + 1) := nI_add i 1
  have j1 : inb (nI (i + 1)) L = True := inb_i (by omega) (by omega)
  have x1 : ixn (nI (i + 1)) = i + 1 := ixn_nI (by omega)
  have e2 : nI i + 2 = nI (i + 2) := nI_add i 2
  have j2 : inb (nI (i + 2)) L = True := inb_i (by omega) (by omega)
  have x2 : ixn (nI (i + 2)) = i + 2 := ixn_nI (by omega)
  have e3 : nI i + 3 = nI (i + 3) := nI_add i 3
  have j3 : inb (nI (i + 3)) L = True := inb_i (by omega) (by omega)
  have x3 : ixn (nI (i + 3)) = i + 3 := ixn_nI (by omega)
  refine ⟨A, B, D, ?_⟩
  rw [x301_18]
  simp only [x301_19, x301_20, x301_21, x301_23, x301_24, x301_27, x301_28, x301_29, x301_30, x301_32, x301_33k19, x301_773, x301_774, x301_775, x301_776, x301_777, x301_778, x301_779, x301_780, x301_781, x301_782, x301_783, x301_784, x301_785, x301_786, x301_787, x301_788, x301_789, x301_792, x301_793, x301_794, x301_795, x301_796, x301_797, x301_798, x301_799, x301_800, x301_801, x301_802, x301_803, x301_804, x301_805, x301_806, x301_807, x301_808, x301_811, x301_814, x301_815, x301_1207, x301_1210, c, if_false, if_true, j0, x0, hx, j1, x1, e1, j2, x2, e2, j3, x3, e3, e6, h1, h2, sh_0, lq_0, sh_112, lq_112, ex5, Option.toList_some, Option.toList_none, List.cons_append, List.nil_append, true_and, and_true]
  exact e
theorem lw_20 (hL : L ≤ 3072) (hi : i + 6 ≤ L) (h : Inv I Lm nw sp s2 ai) (hx : xs i &&& 63 = 20) (ih : ∀ J Lk nw sp s2 ai, Inv J Lk nw sp s2 ai → ∃ J2 L2 R2, Ev L xs 80 301 18 [some (.ref 1000), some (.ref 0), some (.ref 112), some (.int (nI (i + 6)))] [] (179, J, Lk, RG nw sp s2 ai) (some (.int 1), 179, J2, L2, R2)) : ∃ J2 L2 R2, Ev L xs 80 301 18 [some (.ref 1000), some (.ref 0), some (.ref 112), some (.int (nI i))] [] (179, I, Lm, RG nw sp s2 ai) (some (.int 1), 179, J2, L2, R2) := by
  obtain ⟨v, J, J2, L1, L2, nw1, sp1, s3, ai1, h1, h2, hI⟩ := ttOfP h (fun S U N NS NH M P V hT hG hM hW => pr_ends (L := L) (xs := xs) (x := xs (i + 1)) (t := 11) hT rfl rfl hG hM hW)
  obtain ⟨A, B, D, e⟩ := ih J2 L2 nw1 sp1 s3 ai1 hI
  have c : (Int32.ofNat L - 6 < nI i) = False := by rw [lk_18 hL (by omega)]; exact eq_false (by omega)
  have j0 : inb (nI i) L = True := inb_i (by omega) (by omega)
  have x0 : ixn (nI i) = i := ixn_nI (by omega)
  have e6 : nI i + 6 = nI (i + 6) := nI_add i 6
  have e1 : nI i + 1 = nI (i + 1) := nI_add i 1
  have j1 : inb (nI (i + 1)) L = True := inb_i (by omega) (by omega)
  have x1 : ixn (nI (i + 1)) = i + 1 := ixn_nI (by omega)
  refine ⟨A, B, D, ?_⟩
  rw [x301_18]
  simp only [x301_19, x301_20, x301_21, x301_23, x301_24, x301_27, x301_28, x301_29, x301_30, x301_32, x301_33k20, x301_816, x301_817, x301_818, x301_819, x301_820, x301_821, x301_822, x301_825, x301_826, x301_827, x301_828, x301_829, x301_830, x301_831, x301_834, x301_837, x301_838, x301_1207, x301_1210, c, if_false, if_true, j0, x0, hx, j1, x1, e1, e6, h1, h2, sh_0, lq_0, sh_112, lq_112, ex5, Option.toList_some, Option.toList_none, List.cons_append, List.nil_append, true_and, and_true]
  exact e
theorem lw_21 (hL : L ≤ 3072) (hi : i + 6 ≤ L) (h : Inv I Lm nw sp s2 ai) (hx : xs i &&& 63 = 21) (ih : ∀ J Lk nw sp s2 ai, Inv J Lk nw sp s2 ai → ∃ J2 L2 R2, Ev L xs 80 301 18 [some (.ref 1000), some (.ref 0), some (.ref 112), some (.int (nI (i + 6)))] [] (179, J, Lk, RG nw sp s2 ai) (some (.int 1), 179, J2, L2, R2)) : ∃ J2 L2 R2, Ev L xs 80 301 18 [some (.ref 1000), some (.ref 0), some (.ref 112), some (.int (nI i))] [] (179, I, Lm, RG nw sp s2 ai) (some (.int 1), 179, J2, L2, R2) := by
  obtain ⟨v, J, J2, L1, L2, nw1, sp1, s3, ai1, h1, h2, hI⟩ := ttOfP h (fun S U N NS NH M P V hT hG hM hW => pr_alike (L := L) (xs := xs) (x := xs (i + 1)) (t := 11) hT rfl rfl hG hM hW)
  obtain ⟨A, B, D, e⟩ := ih J2 L2 nw1 sp1 s3 ai1 hI
  have c : (Int32.ofNat L - 6 < nI i) = False := by rw [lk_18 hL (by omega)]; exact eq_false (by omega)
  have j0 : inb (nI i) L = True := inb_i (by omega) (by omega)
  have x0 : ixn (nI i) = i := ixn_nI (by omega)
  have e6 : nI i + 6 = nI (i + 6) := nI_add i 6
  have e1 : nI i + 1 = nI (i + 1) := nI_add i 1
  have j1 : inb (nI (i + 1)) L = True := inb_i (by omega) (by omega)
  have x1 : ixn (nI (i + 1)) = i + 1 := ixn_nI (by omega)
  refine ⟨A, B, D, ?_⟩
  rw [x301_18]
  simp only [x301_19, x301_20, x301_21, x301_23, x301_24, x301_27, x301_28, x301_29, x301_30, x301_32, x301_33k21, x301_839, x301_840, x301_841, x301_842, x301_843, x301_844, x301_845, x301_848, x301_849, x301_850, x301_851, x301_852, x301_853, x301_854, x301_857, x301_860, x301_861, x301_1207, x301_1210, c, if_false, if_true, j0, x0, hx, j1, x1, e1, e6, h1, h2, sh_0, lq_0, sh_112, lq_112, ex5, Option.toList_some, Option.toList_none, List.cons_append, List.nil_append, true_and, and_true]
  exact e
theorem lw_22 (hL : L ≤ 3072) (hi : i + 6 ≤ L) (h : Inv I Lm nw sp s2 ai) (hx : xs i &&& 63 = 22) (ih : ∀ J Lk nw sp s2 ai, Inv J Lk nw sp s2 ai → ∃ J2 L2 R2, Ev L xs 80 301 18 [some (.ref 1000), some (.ref 0), some (.ref 112), some (.int (nI (i + 6)))] [] (179, J, Lk, RG nw sp s2 ai) (some (.int 1), 179, J2, L2, R2)) : ∃ J2 L2 R2, Ev L xs 80 301 18 [some (.ref 1000), some (.ref 0), some (.ref 112), some (.int (nI i))] [] (179, I, Lm, RG nw sp s2 ai) (some (.int 1), 179, J2, L2, R2) := by
  obtain ⟨v, J, J2, L1, L2, nw1, sp1, s3, ai1, h1, h2, hI⟩ := ttOfP h (fun S U N NS NH M P V hT hG hM hW => pr_pair (L := L) (xs := xs) (x := xs (i + 1)) (y := xs (i + 2)) hT rfl hG hM hW)
  obtain ⟨A, B, D, e⟩ := ih J2 L2 nw1 sp1 s3 ai1 hI
  have c : (Int32.ofNat L - 6 < nI i) = False := by rw [lk_18 hL (by omega)]; exact eq_false (by omega)
  have j0 : inb (nI i) L = True := inb_i (by omega) (by omega)
  have x0 : ixn (nI i) = i := ixn_nI (by omega)
  have e6 : nI i + 6 = nI (i + 6) := nI_add i 6
  have e1 : nI i + 1 = nI (i + 1) := nI_add i 1
  have j1 : inb (nI (i + 1)) L = True := inb_i (by omega) (by omega)
  have x1 : ixn (nI (i + 1)) = i + 1 := ixn_nI (by omega)
  have e2 : nI i + 2 = nI (i + 2) := nI_add i 2
  have j2 : inb (nI (i + 2)) L = True := inb_i (by omega) (by omega)
  have x2 : ixn (nI (i + 2)) = i + 2 := ixn_nI (by omega)
  refine ⟨A, B, D, ?_⟩
  rw [x301_18]
  simp only [x301_19, x301_20, x301_21, x301_23, x301_24, x301_27, x301_28, x301_29, x301_30, x301_32, x301_33k22, x301_862, x301_863, x301_864, x301_865, x301_866, x301_867, x301_868, x301_869, x301_870, x301_871, x301_872, x301_873, x301_876, x301_877, x301_878, x301_879, x301_880, x301_881, x301_882, x301_883, x301_884, x301_885, x301_886, x301_887, x301_890, x301_893, x301_894, x301_1207, x301_1210, c, if_false, if_true, j0, x0, hx, j1, x1, e1, j2, x2, e2, e6, h1, h2, sh_0, lq_0, sh_112, lq_112, ex5, Option.toList_some, Option.toList_none, List.cons_append, List.nil_append, true_and, and_true]
  exact e
theorem lw_23 (hL : L ≤ 3072) (hi : i + 6 ≤ L) (h : Inv I Lm nw sp s2 ai) (hx : xs i &&& 63 = 23) (ih : ∀ J Lk nw sp s2 ai, Inv J Lk nw sp s2 ai → ∃ J2 L2 R2, Ev L xs 80 301 18 [some (.ref 1000), some (.ref 0), some (.ref 112), some (.int (nI (i + 6)))] [] (179, J, Lk, RG nw sp s2 ai) (some (.int 1), 179, J2, L2, R2)) : ∃ J2 L2 R2, Ev L xs 80 301 18 [some (.ref 1000), some (.ref 0), some (.ref 112), some (.int (nI i))] [] (179, I, Lm, RG nw sp s2 ai) (some (.int 1), 179, J2, L2, R2) := by
  obtain ⟨v, J, J2, L1, L2, nw1, sp1, s3, ai1, h1, h2, hI⟩ := ttOfP h (fun S U N NS NH M P V hT hG hM hW => pr_would (L := L) (xs := xs) (x := xs (i + 1)) (y := xs (i + 2)) hT rfl hG hM hW)
  obtain ⟨A, B, D, e⟩ := ih J2 L2 nw1 sp1 s3 ai1 hI
  have c : (Int32.ofNat L - 6 < nI i) = False := by rw [lk_18 hL (by omega)]; exact eq_false (by omega)
  have j0 : inb (nI i) L = True := inb_i (by omega) (by omega)
  have x0 : ixn (nI i) = i := ixn_nI (by omega)
  have e6 : nI i + 6 = nI (i + 6) := nI_add i 6
  have e1 : nI i + 1 = nI (i + 1) := nI_add i 1
  have j1 : inb (nI (i + 1)) L = True := inb_i (by omega) (by omega)
  have x1 : ixn (nI (i + 1)) = i + 1 := ixn_nI (by omega)
  have e2 : nI i + 2 = nI (i + 2) := nI_add i 2
  have j2 : inb (nI (i + 2)) L = True := inb_i (by omega) (by omega)
  have x2 : ixn (nI (i + 2)) = i + 2 := ixn_nI (by omega)
  refine ⟨A, B, D, ?_⟩
  rw [x301_18]
  simp only [x301_19, x301_20, x301_21, x301_23, x301_24, x301_27, x301_28, x301_29, x301_30, x301_32, x301_33k23, x301_895, x301_896, x301_897, x301_898, x301_899, x301_900, x301_901, x301_902, x301_903, x301_904, x301_905, x301_906, x301_909, x301_910, x301_911, x301_912, x301_913, x301_914, x301_915, x301_916, x301_917, x301_918, x301_919, x301_920, x301_923, x301_926, x301_927, x301_1207, x301_1210, c, if_false, if_true, j0, x0, hx, j1, x1, e1, j2, x2, e2, e6, h1, h2, sh_0, lq_0, sh_112, lq_112, ex5, Option.toList_some, Option.toList_none, List.cons_append, List.nil_append, true_and, and_true]
  exact e
theorem lw_24 (hL : L ≤ 3072) (hi : i + 6 ≤ L) (h : Inv I Lm nw sp s2 ai) (hx : xs i &&& 63 = 24) (ih : ∀ J Lk nw sp s2 ai, Inv J Lk nw sp s2 ai → ∃ J2 L2 R2, Ev L xs 80 301 18 [some (.ref 1000), some (.ref 0), some (.ref 112), some (.int (nI (i + 6)))] [] (179, J, Lk, RG nw sp s2 ai) (some (.int 1), 179, J2, L2, R2)) : ∃ J2 L2 R2, Ev L xs 80 301 18 [some (.ref 1000), some (.ref 0), some (.ref 112), some (.int (nI i))] [] (179, I, Lm, RG nw sp s2 ai) (some (.int 1), 179, J2, L2, R2) := by
  obtain ⟨v, J, J2, L1, L2, nw1, sp1, s3, ai1, h1, h2, hI⟩ := ttOfP h (fun S U N NS NH M P V hT hG hM hW => pr_wish (L := L) (xs := xs) (x := xs (i + 1)) hT rfl hG hM hW)
  obtain ⟨A, B, D, e⟩ := ih J2 L2 nw1 sp1 s3 ai1 hI
  have c : (Int32.ofNat L - 6 < nI i) = False := by rw [lk_18 hL (by omega)]; exact eq_false (by omega)
  have j0 : inb (nI i) L = True := inb_i (by omega) (by omega)
  have x0 : ixn (nI i) = i := ixn_nI (by omega)
  have e6 : nI i + 6 = nI (i + 6) := nI_add i 6
  have e1 : nI i + 1 = nI (i + 1) := nI_add i 1
  have j1 : inb (nI (i + 1)) L = True := inb_i (by omega) (by omega)
  have x1 : ixn (nI (i + 1)) = i + 1 := ixn_nI (by omega)
  refine ⟨A, B, D, ?_⟩
  rw [x301_18]
  simp only [x301_19, x301_20, x301_21, x301_23, x301_24, x301_27, x301_28, x301_29, x301_30, x301_32, x301_33k24, x301_928, x301_929, x301_930, x301_931, x301_932, x301_933, x301_934, x301_937, x301_938, x301_939, x301_940, x301_941, x301_942, x301_943, x301_946, x301_949, x301_950, x301_1207, x301_1210, c, if_false, if_true, j0, x0, hx, j1, x1, e1, e6, h1, h2, sh_0, lq_0, sh_112, lq_112, ex5, Option.toList_some, Option.toList_none, List.cons_append, List.nil_append, true_and, and_true]
  exact e
theorem lw_25 (hL : L ≤ 3072) (hi : i + 6 ≤ L) (h : Inv I Lm nw sp s2 ai) (hx : xs i &&& 63 = 25) (ih : ∀ J Lk nw sp s2 ai, Inv J Lk nw sp s2 ai → ∃ J2 L2 R2, Ev L xs 80 301 18 [some (.ref 1000), some (.ref 0), some (.ref 112), some (.int (nI (i + 6)))] [] (179, J, Lk, RG nw sp s2 ai) (some (.int 1), 179, J2, L2, R2)) : ∃ J2 L2 R2, Ev L xs 80 301 18 [some (.ref 1000), some (.ref 0), some (.ref 112), some (.int (nI i))] [] (179, I, Lm, RG nw sp s2 ai) (some (.int 1), 179, J2, L2, R2) := by
  obtain ⟨v, J, J2, L1, L2, nw1, sp1, s3, ai1, h1, h2, hI⟩ := ttOfS h (fun S U N NS NH M P V hT hG hM hW => st_choose (L := L) (xs := xs) (x := xs (i + 1)) hT rfl hG hM hW)
  obtain ⟨A, B, D, e⟩ := ih J2 L2 nw1 sp1 s3 ai1 hI
  have c : (Int32.ofNat L - 6 < nI i) = False := by rw [lk_18 hL (by omega)]; exact eq_false (by omega)
  have j0 : inb (nI i) L = True := inb_i (by omega) (by omega)
  have x0 : ixn (nI i) = i := ixn_nI (by omega)
  have e6 : nI i + 6 = nI (i + 6) := nI_add i 6
  have e1 : nI i + 1 = nI (i + 1) := nI_add i 1
  have j1 : inb (nI (i + 1)) L = True := inb_i (by omega) (by omega)
  have x1 : ixn (nI (i + 1)) = i + 1 := ixn_nI (by omega)
  refine ⟨A, B, D, ?_⟩
  rw [x301_18]
  simp only [x301_19, x301_20, x301_21, x301_23, x301_24, x301_27, x301_28, x301_29, x301_30, x301_32, x301_33k25, x301_951, x301_952, x301_953, x301_954, x301_955, x301_956, x301_957, x301_960, x301_961, x301_962, x301_963, x301_964, x301_965, x301_966, x301_969, x301_972, x301_973, x301_1207, x301_1210, c, if_false, if_true, j0, x0, hx, j1, x1, e1, e6, h1, h2, sh_0, lq_0, sh_112, lq_112, ex5, Option.toList_some, Option.toList_none, List.cons_append, List.nil_append, true_and, and_true]
  exact e
theorem lw_26 (hL : L ≤ 3072) (hi : i + 6 ≤ L) (h : Inv I Lm nw sp s2 ai) (hx : xs i &&& 63 = 26) (ih : ∀ J Lk nw sp s2 ai, Inv J Lk nw sp s2 ai → ∃ J2 L2 R2, Ev L xs 80 301 18 [some (.ref 1000), some (.ref 0), some (.ref 112), some (.int (nI (i + 6)))] [] (179, J, Lk, RG nw sp s2 ai) (some (.int 1), 179, J2, L2, R2)) : ∃ J2 L2 R2, Ev L xs 80 301 18 [some (.ref 1000), some (.ref 0), some (.ref 112), some (.int (nI i))] [] (179, I, Lm, RG nw sp s2 ai) (some (.int 1), 179, J2, L2, R2) := by
  obtain ⟨v, J, J2, L1, L2, nw1, sp1, s3, ai1, h1, h2, hI⟩ := ttOfP h (fun S U N NS NH M P V hT hG hM hW => pr_stable (L := L) (xs := xs) hT rfl hG hM hW)
  obtain ⟨A, B, D, e⟩ := ih J2 L2 nw1 sp1 s3 ai1 hI
  have c : (Int32.ofNat L - 6 < nI i) = False := by rw [lk_18 hL (by omega)]; exact eq_false (by omega)
  have j0 : inb (nI i) L = True := inb_i (by omega) (by omega)
  have x0 : ixn (nI i) = i := ixn_nI (by omega)
  have e6 : nI i + 6 = nI (i + 6) := nI_add i 6
  refine ⟨A, B, D, ?_⟩
  rw [x301_18]
  simp only [x301_19, x301_20, x301_21, x301_23, x301_24, x301_27, x301_28, x301_29, x301_30, x301_32, x301_33k26, x301_974, x301_975, x301_978, x301_979, x301_982, x301_985, x301_986, x301_1207, x301_1210, c, if_false, if_true, j0, x0, hx, e6, h1, h2, sh_0, lq_0, sh_112, lq_112, ex5, Option.toList_some, Option.toList_none, List.cons_append, List.nil_append, true_and, and_true]
  exact e
theorem lw_27 (hL : L ≤ 3072) (hi : i + 6 ≤ L) (h : Inv I Lm nw sp s2 ai) (hx : xs i &&& 63 = 27) (ih : ∀ J Lk nw sp s2 ai, Inv J Lk nw sp s2 ai → ∃ J2 L2 R2, Ev L xs 80 301 18 [some (.ref 1000), some (.ref 0), some (.ref 112), some (.int (nI (i + 6)))] [] (179, J, Lk, RG nw sp s2 ai) (some (.int 1), 179, J2, L2, R2)) : ∃ J2 L2 R2, Ev L xs 80 301 18 [some (.ref 1000), some (.ref 0), some (.ref 112), some (.int (nI i))] [] (179, I, Lm, RG nw sp s2 ai) (some (.int 1), 179, J2, L2, R2) := by
  obtain ⟨v, J, J2, L1, L2, nw1, sp1, s3, ai1, h1, h2, hI⟩ := ttOfP h (fun S U N NS NH M P V hT hG hM hW => pr_gap (L := L) (xs := xs) (x := xs (i + 1)) hT rfl hG hM hW)
  obtain ⟨A, B, D, e⟩ := ih J2 L2 nw1 sp1 s3 ai1 hI
  have c : (Int32.ofNat L - 6 < nI i) = False := by rw [lk_18 hL (by omega)]; exact eq_false (by omega)
  have j0 : inb (nI i) L = True := inb_i (by omega) (by omega)
  have x0 : ixn (nI i) = i := ixn_nI (by omega)
  have e6 : nI i + 6 = nI (i + 6) := nI_add i 6
  have e1 : nI i + 1 = nI (i + 1) := nI_add i 1
  have j1 : inb (nI (i + 1)) L = True := inb_i (by omega) (by omega)
  have x1 : ixn (nI (i + 1)) = i + 1 := ixn_nI (by omega)
  refine ⟨A, B, D, ?_⟩
  rw [x301_18]
  simp only [x301_19, x301_20, x301_21, x301_23, x301_24, x301_27, x301_28, x301_29, x301_30, x301_32, x301_33k27, x301_987, x301_988, x301_989, x301_990, x301_991, x301_992, x301_993, x301_996, x301_997, x301_998, x301_999, x301_1000, x301_1001, x301_1002, x301_1005, x301_1008, x301_1009, x301_1207, x301_1210, c, if_false, if_true, j0, x0, hx, j1, x1, e1, e6, h1, h2, sh_0, lq_0, sh_112, lq_112, ex5, Option.toList_some, Option.toList_none, List.cons_append, List.nil_append, true_and, and_true]
  exact e
theorem lw_28 (hL : L ≤ 3072) (hi : i + 6 ≤ L) (h : Inv I Lm nw sp s2 ai) (hx : xs i &&& 63 = 28) (ih : ∀ J Lk nw sp s2 ai, Inv J Lk nw sp s2 ai → ∃ J2 L2 R2, Ev L xs 80 301 18 [some (.ref 1000), some (.ref 0), some (.ref 112), some (.int (nI (i + 6)))] [] (179, J, Lk, RG nw sp s2 ai) (some (.int 1), 179, J2, L2, R2)) : ∃ J2 L2 R2, Ev L xs 80 301 18 [some (.ref 1000), some (.ref 0), some (.ref 112), some (.int (nI i))] [] (179, I, Lm, RG nw sp s2 ai) (some (.int 1), 179, J2, L2, R2) := by
  obtain ⟨v, J, J2, L1, L2, nw1, sp1, s3, ai1, h1, h2, hI⟩ := ttOfP h (fun S U N NS NH M P V hT hG hM hW => pr_rings (L := L) (xs := xs) (x := xs (i + 1)) (y := xs (i + 2)) (t := 11) hT rfl rfl hG hM hW)
  obtain ⟨A, B, D, e⟩ := ih J2 L2 nw1 sp1 s3 ai1 hI
  have c : (Int32.ofNat L - 6 < nI i) = False := by rw [lk_18 hL (by omega)]; exact eq_false (by omega)
  have j0 : inb (nI i) L = True := inb_i (by omega) (by omega)
  have x0 : ixn (nI i) = i := ixn_nI (by omega)
  have e6 : nI i + 6 = nI (i + 6) := nI_add i 6
  have e1 : nI i + 1 = nI (i + 1) := nI_add i 1
  have j1 : inb (nI (i + 1)) L = True := inb_i (by omega) (by omega)
  have x1 : ixn (nI (i + 1)) = i + 1 := ixn_nI (by omega)
  have e2 : nI i + 2 = nI (i + 2) := nI_add i 2
  have j2 : inb (nI (i + 2)) L = True := inb_i (by omega) (by omega)
  have x2 : ixn (nI (i + 2)) = i + 2 := ixn_nI (by omega)
  refine ⟨A, B, D, ?_⟩
  rw [x301_18]
  simp only [x301_19, x301_20, x301_21, x301_23, x301_24, x301_27, x301_28, x301_29, x301_30, x301_32, x301_33k28, x301_1010, x301_1011, x301_1012, x301_1013, x301_1014, x301_1015, x301_1016, x301_1017, x301_1018, x301_1019, x301_1020, x301_1021, x301_1024, x301_1025, x301_1026, x301_1027, x301_1028, x301_1029, x301_1030, x301_1031, x301_1032, x301_1033, x301_1034, x301_1035, x301_1038, x301_1041, x301_1042, x301_1207, x301_1210, c, if_false, if_true, j0, x0, hx, j1, x1, e1, j2, x2, e2, e6, h1, h2, sh_0, lq_0, sh_112, lq_112, ex5, Option.toList_some, Option.toList_none, List.cons_append, List.nil_append, true_and, and_true]
  exact e
theorem lw_29 (hL : L ≤ 3072) (hi : i + 6 ≤ L) (h : Inv I Lm nw sp s2 ai) (hx : xs i &&& 63 = 29) (ih : ∀ J Lk nw sp s2 ai, Inv J Lk nw sp s2 ai → ∃ J2 L2 R2, Ev L xs 80 301 18 [some (.ref 1000), some (.ref 0), some (.ref 112), some (.int (nI (i + 6)))] [] (179, J, Lk, RG nw sp s2 ai) (some (.int 1), 179, J2, L2, R2)) : ∃ J2 L2 R2, Ev L xs 80 301 18 [some (.ref 1000), some (.ref 0), some (.ref 112), some (.int (nI i))] [] (179, I, Lm, RG nw sp s2 ai) (some (.int 1), 179, J2, L2, R2) := by
  obtain ⟨v, J, J2, L1, L2, nw1, sp1, s3, ai1, h1, h2, hI⟩ := ttOfS h (fun S U N NS NH M P V hT hG hM hW => st_seed (L := L) (xs := xs) (x := xs (i + 1)) hT rfl hG hM hW)
  obtain ⟨A, B, D, e⟩ := ih J2 L2 nw1 sp1 s3 ai1 hI
  have c : (Int32.ofNat L - 6 < nI i) = False := by rw [lk_18 hL (by omega)]; exact eq_false (by omega)
  have j0 : inb (nI i) L = True := inb_i (by omega) (by omega)
  have x0 : ixn (nI i) = i := ixn_nI (by omega)
  have e6 : nI i + 6 = nI (i + 6) := nI_add i 6
  have e1 : nI i + 1 = nI (i + 1) := nI_add i 1
  have j1 : inb (nI (i + 1)) L = True := inb_i (by omega) (by omega)
  have x1 : ixn (nI (i + 1)) = i + 1 := ixn_nI (by omega)
  refine ⟨A, B, D, ?_⟩
  rw [x301_18]
  simp only [x301_19, x301_20, x301_21, x301_23, x301_24, x301_27, x301_28, x301_29, x301_30, x301_32, x301_33k29, x301_1043, x301_1044, x301_1045, x301_1046, x301_1047, x301_1048, x301_1049, x301_1052, x301_1053, x301_1054, x301_1055, x301_1056, x301_1057, x301_1058, x301_1061, x301_1064, x301_1065, x301_1207, x301_1210, c, if_false, if_true, j0, x0, hx, j1, x1, e1, e6, h1, h2, sh_0, lq_0, sh_112, lq_112, ex5, Option.toList_some, Option.toList_none, List.cons_append, List.nil_append, true_and, and_true]
  exact e
theorem lw_30 (hL : L ≤ 3072) (hi : i + 6 ≤ L) (h : Inv I Lm nw sp s2 ai) (hx : xs i &&& 63 = 30) (ih : ∀ J Lk nw sp s2 ai, Inv J Lk nw sp s2 ai → ∃ J2 L2 R2, Ev L xs 80 301 18 [some (.ref 1000), some (.ref 0), some (.ref 112), some (.int (nI (i + 6)))] [] (179, J, Lk, RG nw sp s2 ai) (some (.int 1), 179, J2, L2, R2)) : ∃ J2 L2 R2, Ev L xs 80 301 18 [some (.ref 1000), some (.ref 0), some (.ref 112), some (.int (nI i))] [] (179, I, Lm, RG nw sp s2 ai) (some (.int 1), 179, J2, L2, R2) := by
  obtain ⟨v, J, J2, L1, L2, nw1, sp1, s3, ai1, h1, h2, hI⟩ := tt_run (L := L) (xs := xs) (x := xs (i + 1)) h
  obtain ⟨A, B, D, e⟩ := ih J2 L2 nw1 sp1 s3 ai1 hI
  have c : (Int32.ofNat L - 6 < nI i) = False := by rw [lk_18 hL (by omega)]; exact eq_false (by omega)
  have j0 : inb (nI i) L = True := inb_i (by omega) (by omega)
  have x0 : ixn (nI i) = i := ixn_nI (by omega)
  have e6 : nI i + 6 = nI (i + 6) := nI_add i 6
  have e1 : nI i + 1 = nI (i + 1) := nI_add i 1
  have j1 : inb (nI (i + 1)) L = True := inb_i (by omega) (by omega)
  have x1 : ixn (nI (i + 1)) = i + 1 := ixn_nI (by omega)
  refine ⟨A, B, D, ?_⟩
  rw [x301_18]
  simp only [x301_19, x301_20, x301_21, x301_23, x301_24, x301_27, x301_28, x301_29, x301_30, x301_32, x301_33k30, x301_1066, x301_1067, x301_1068, x301_1069, x301_1070, x301_1071, x301_1072, x301_1075, x301_1076, x301_1077, x301_1078, x301_1079, x301_1080, x301_1081, x301_1084, x301_1087, x301_1088, x301_1207, x301_1210, c, if_false, if_true, j0, x0, hx, j1, x1, e1, e6, h1, h2, sh_0, lq_0, sh_112, lq_112, ex5, Option.toList_some, Option.toList_none, List.cons_append, List.nil_append, true_and, and_true]
  exact e
theorem lw_31 (hL : L ≤ 3072) (hi : i + 6 ≤ L) (h : Inv I Lm nw sp s2 ai) (hx : xs i &&& 63 = 31) (ih : ∀ J Lk nw sp s2 ai, Inv J Lk nw sp s2 ai → ∃ J2 L2 R2, Ev L xs 80 301 18 [some (.ref 1000), some (.ref 0), some (.ref 112), some (.int (nI (i + 6)))] [] (179, J, Lk, RG nw sp s2 ai) (some (.int 1), 179, J2, L2, R2)) : ∃ J2 L2 R2, Ev L xs 80 301 18 [some (.ref 1000), some (.ref 0), some (.ref 112), some (.int (nI i))] [] (179, I, Lm, RG nw sp s2 ai) (some (.int 1), 179, J2, L2, R2) := by
  obtain ⟨v, J, J2, L1, L2, nw1, sp1, s3, ai1, h1, h2, hI⟩ := ttOfP h (fun S U N NS NH M P V hT hG hM hW => pr_drew (L := L) (xs := xs) (x := xs (i + 1)) hT rfl hG hM hW)
  obtain ⟨A, B, D, e⟩ := ih J2 L2 nw1 sp1 s3 ai1 hI
  have c : (Int32.ofNat L - 6 < nI i) = False := by rw [lk_18 hL (by omega)]; exact eq_false (by omega)
  have j0 : inb (nI i) L = True := inb_i (by omega) (by omega)
  have x0 : ixn (nI i) = i := ixn_nI (by omega)
  have e6 : nI i + 6 = nI (i + 6) := nI_add i 6
  have e1 : nI i + 1 = nI (i + 1) := nI_add i 1
  have j1 : inb (nI (i + 1)) L = True := inb_i (by omega) (by omega)
  have x1 : ixn (nI (i + 1)) = i + 1 := ixn_nI (by omega)
  refine ⟨A, B, D, ?_⟩
  rw [x301_18]
  simp only [x301_19, x301_20, x301_21, x301_23, x301_24, x301_27, x301_28, x301_29, x301_30, x301_32, x301_33k31, x301_1089, x301_1090, x301_1091, x301_1092, x301_1093, x301_1094, x301_1095, x301_1098, x301_1099, x301_1100, x301_1101, x301_1102, x301_1103, x301_1104, x301_1107, x301_1110, x301_1111, x301_1207, x301_1210, c, if_false, if_true, j0, x0, hx, j1, x1, e1, e6, h1, h2, sh_0, lq_0, sh_112, lq_112, ex5, Option.toList_some, Option.toList_none, List.cons_append, List.nil_append, true_and, and_true]
  exact e
theorem lw_32 (hL : L ≤ 3072) (hi : i + 6 ≤ L) (h : Inv I Lm nw sp s2 ai) (hx : xs i &&& 63 = 32) (ih : ∀ J Lk nw sp s2 ai, Inv J Lk nw sp s2 ai → ∃ J2 L2 R2, Ev L xs 80 301 18 [some (.ref 1000), some (.ref 0), some (.ref 112), some (.int (nI (i + 6)))] [] (179, J, Lk, RG nw sp s2 ai) (some (.int 1), 179, J2, L2, R2)) : ∃ J2 L2 R2, Ev L xs 80 301 18 [some (.ref 1000), some (.ref 0), some (.ref 112), some (.int (nI i))] [] (179, I, Lm, RG nw sp s2 ai) (some (.int 1), 179, J2, L2, R2) := by
  obtain ⟨v, J, J2, L1, L2, nw1, sp1, s3, ai1, h1, h2, hI⟩ := ttOfS h (fun S U N NS NH M P V hT hG hM hW => st_said (L := L) (xs := xs) (x := xs (i + 1)) (y := xs (i + 2)) hT rfl hG hM hW)
  obtain ⟨A, B, D, e⟩ := ih J2 L2 nw1 sp1 s3 ai1 hI
  have c : (Int32.ofNat L - 6 < nI i) = False := by rw [lk_18 hL (by omega)]; exact eq_false (by omega)
  have j0 : inb (nI i) L = True := inb_i (by omega) (by omega)
  have x0 : ixn (nI i) = i := ixn_nI (by omega)
  have e6 : nI i + 6 = nI (i + 6) := nI_add i 6
  have e1 : nI i + 1 = nI (i + 1) := nI_add i 1
  have j1 : inb (nI (i + 1)) L = True := inb_i (by omega) (by omega)
  have x1 : ixn (nI (i + 1)) = i + 1 := ixn_nI (by omega)
  have e2 : nI i + 2 = nI (i + 2) := nI_add i 2
  have j2 : inb (nI (i + 2)) L = True := inb_i (by omega) (by omega)
  have x2 : ixn (nI (i + 2)) = i + 2 := ixn_nI (by omega)
  refine ⟨A, B, D, ?_⟩
  rw [x301_18]
  simp only [x301_19, x301_20, x301_21, x301_23, x301_24, x301_27, x301_28, x301_29, x301_30, x301_32, x301_33k32, x301_1112, x301_1113, x301_1114, x301_1115, x301_1116, x301_1117, x301_1118, x301_1119, x301_1120, x301_1121, x301_1122, x301_1123, x301_1126, x301_1127, x301_1128, x301_1129, x301_1130, x301_1131, x301_1132, x301_1133, x301_1134, x301_1135, x301_1136, x301_1137, x301_1140, x301_1143, x301_1144, x301_1207, x301_1210, c, if_false, if_true, j0, x0, hx, j1, x1, e1, j2, x2, e2, e6, h1, h2, sh_0, lq_0, sh_112, lq_112, ex5, Option.toList_some, Option.toList_none, List.cons_append, List.nil_append, true_and, and_true]
  exact e
theorem lw_33 (hL : L ≤ 3072) (hi : i + 6 ≤ L) (h : Inv I Lm nw sp s2 ai) (hx : xs i &&& 63 = 33) (ih : ∀ J Lk nw sp s2 ai, Inv J Lk nw sp s2 ai → ∃ J2 L2 R2, Ev L xs 80 301 18 [some (.ref 1000), some (.ref 0), some (.ref 112), some (.int (nI (i + 6)))] [] (179, J, Lk, RG nw sp s2 ai) (some (.int 1), 179, J2, L2, R2)) : ∃ J2 L2 R2, Ev L xs 80 301 18 [some (.ref 1000), some (.ref 0), some (.ref 112), some (.int (nI i))] [] (179, I, Lm, RG nw sp s2 ai) (some (.int 1), 179, J2, L2, R2) := by
  obtain ⟨v, J, J2, L1, L2, nw1, sp1, s3, ai1, h1, h2, hI⟩ := ttOfP h (fun S U N NS NH M P V hT hG hM hW => pr_less (L := L) (xs := xs) hT rfl hG hM hW)
  obtain ⟨A, B, D, e⟩ := ih J2 L2 nw1 sp1 s3 ai1 hI
  have c : (Int32.ofNat L - 6 < nI i) = False := by rw [lk_18 hL (by omega)]; exact eq_false (by omega)
  have j0 : inb (nI i) L = True := inb_i (by omega) (by omega)
  have x0 : ixn (nI i) = i := ixn_nI (by omega)
  have e6 : nI i + 6 = nI (i + 6) := nI_add i 6
  refine ⟨A, B, D, ?_⟩
  rw [x301_18]
  simp only [x301_19, x301_20, x301_21, x301_23, x301_24, x301_27, x301_28, x301_29, x301_30, x301_32, x301_33k33, x301_1145, x301_1146, x301_1149, x301_1150, x301_1153, x301_1156, x301_1157, x301_1207, x301_1210, c, if_false, if_true, j0, x0, hx, e6, h1, h2, sh_0, lq_0, sh_112, lq_112, ex5, Option.toList_some, Option.toList_none, List.cons_append, List.nil_append, true_and, and_true]
  exact e
theorem lw_34 (hL : L ≤ 3072) (hi : i + 6 ≤ L) (h : Inv I Lm nw sp s2 ai) (hx : xs i &&& 63 = 34) (ih : ∀ J Lk nw sp s2 ai, Inv J Lk nw sp s2 ai → ∃ J2 L2 R2, Ev L xs 80 301 18 [some (.ref 1000), some (.ref 0), some (.ref 112), some (.int (nI (i + 6)))] [] (179, J, Lk, RG nw sp s2 ai) (some (.int 1), 179, J2, L2, R2)) : ∃ J2 L2 R2, Ev L xs 80 301 18 [some (.ref 1000), some (.ref 0), some (.ref 112), some (.int (nI i))] [] (179, I, Lm, RG nw sp s2 ai) (some (.int 1), 179, J2, L2, R2) := by
  obtain ⟨v, J, J2, L1, L2, nw1, sp1, s3, ai1, h1, h2, hI⟩ := tt_image (L := L) (xs := xs) h
  obtain ⟨A, B, D, e⟩ := ih J2 L2 nw1 sp1 s3 ai1 hI
  have c : (Int32.ofNat L - 6 < nI i) = False := by rw [lk_18 hL (by omega)]; exact eq_false (by omega)
  have j0 : inb (nI i) L = True := inb_i (by omega) (by omega)
  have x0 : ixn (nI i) = i := ixn_nI (by omega)
  have e6 : nI i + 6 = nI (i + 6) := nI_add i 6
  refine ⟨A, B, D, ?_⟩
  rw [x301_18]
  simp only [x301_19, x301_20, x301_21, x301_23, x301_24, x301_27, x301_28, x301_29, x301_30, x301_32, x301_33k34, x301_1158, x301_1159, x301_1162, x301_1163, x301_1166, x301_1169, x301_1170, x301_1207, x301_1210, c, if_false, if_true, j0, x0, hx, e6, h1, h2, sh_0, lq_0, sh_112, lq_112, ex5, Option.toList_some, Option.toList_none, List.cons_append, List.nil_append, true_and, and_true]
  exact e
theorem lw_35 (hL : L ≤ 3072) (hi : i + 6 ≤ L) (h : Inv I Lm nw sp s2 ai) (hx : xs i &&& 63 = 35) (ih : ∀ J Lk nw sp s2 ai, Inv J Lk nw sp s2 ai → ∃ J2 L2 R2, Ev L xs 80 301 18 [some (.ref 1000), some (.ref 0), some (.ref 112), some (.int (nI (i + 6)))] [] (179, J, Lk, RG nw sp s2 ai) (some (.int 1), 179, J2, L2, R2)) : ∃ J2 L2 R2, Ev L xs 80 301 18 [some (.ref 1000), some (.ref 0), some (.ref 112), some (.int (nI i))] [] (179, I, Lm, RG nw sp s2 ai) (some (.int 1), 179, J2, L2, R2) := by
  obtain ⟨v, J, J2, L1, L2, nw1, sp1, s3, ai1, h1, h2, hI⟩ := tt_octet (L := L) (xs := xs) (x := xs (i + 1)) h
  obtain ⟨A, B, D, e⟩ := ih J2 L2 nw1 sp1 s3 ai1 hI
  have c : (Int32.ofNat L - 6 < nI i) = False := by rw [lk_18 hL (by omega)]; exact eq_false (by omega)
  have j0 : inb (nI i) L = True := inb_i (by omega) (by omega)
  have x0 : ixn (nI i) = i := ixn_nI (by omega)
  have e6 : nI i + 6 = nI (i + 6) := nI_add i 6
  have e1 : nI i + 1 = nI (i + 1) := nI_add i 1
  have j1 : inb (nI (i + 1)) L = True := inb_i (by omega) (by omega)
  have x1 : ixn (nI (i + 1)) = i + 1 := ixn_nI (by omega)
  refine ⟨A, B, D, ?_⟩
  rw [x301_18]
  simp only [x301_19, x301_20, x301_21, x301_23, x301_24, x301_27, x301_28, x301_29, x301_30, x301_32, x301_33k35, x301_1171, x301_1172, x301_1173, x301_1174, x301_1175, x301_1176, x301_1177, x301_1180, x301_1181, x301_1182, x301_1183, x301_1184, x301_1185, x301_1186, x301_1189, x301_1192, x301_1193, x301_1207, x301_1210, c, if_false, if_true, j0, x0, hx, j1, x1, e1, e6, h1, h2, sh_0, lq_0, sh_112, lq_112, ex5, Option.toList_some, Option.toList_none, List.cons_append, List.nil_append, true_and, and_true]
  exact e
theorem lw_36 (hL : L ≤ 3072) (hi : i + 6 ≤ L) (h : Inv I Lm nw sp s2 ai) (hx : xs i &&& 63 = 36) (ih : ∀ J Lk nw sp s2 ai, Inv J Lk nw sp s2 ai → ∃ J2 L2 R2, Ev L xs 80 301 18 [some (.ref 1000), some (.ref 0), some (.ref 112), some (.int (nI (i + 6)))] [] (179, J, Lk, RG nw sp s2 ai) (some (.int 1), 179, J2, L2, R2)) : ∃ J2 L2 R2, Ev L xs 80 301 18 [some (.ref 1000), some (.ref 0), some (.ref 112), some (.int (nI i))] [] (179, I, Lm, RG nw sp s2 ai) (some (.int 1), 179, J2, L2, R2) := by
  obtain ⟨v, J, J2, L1, L2, nw1, sp1, s3, ai1, h1, h2, hI⟩ := tt_on (L := L) (xs := xs) h
  obtain ⟨A, B, D, e⟩ := ih J2 L2 nw1 sp1 s3 ai1 hI
  have c : (Int32.ofNat L - 6 < nI i) = False := by rw [lk_18 hL (by omega)]; exact eq_false (by omega)
  have j0 : inb (nI i) L = True := inb_i (by omega) (by omega)
  have x0 : ixn (nI i) = i := ixn_nI (by omega)
  have e6 : nI i + 6 = nI (i + 6) := nI_add i 6
  refine ⟨A, B, D, ?_⟩
  rw [x301_18]
  simp only [x301_19, x301_20, x301_21, x301_23, x301_24, x301_27, x301_28, x301_29, x301_30, x301_32, x301_33k36, x301_1194, x301_1195, x301_1198, x301_1199, x301_1202, x301_1205, x301_1206, x301_1207, x301_1210, c, if_false, if_true, j0, x0, hx, e6, h1, h2, sh_0, lq_0, sh_112, lq_112, ex5, Option.toList_some, Option.toList_none, List.cons_append, List.nil_append, true_and, and_true]
  exact e
theorem lw_d (hL : L ≤ 3072) (hi : i + 6 ≤ L) (h : Inv I Lm nw sp s2 ai) (hx : (xs i &&& 63).toInt < 0 ∨ 36 < (xs i &&& 63).toInt) (ih : ∀ J Lk nw sp s2 ai, Inv J Lk nw sp s2 ai → ∃ J2 L2 R2, Ev L xs 80 301 18 [some (.ref 1000), some (.ref 0), some (.ref 112), some (.int (nI (i + 6)))] [] (179, J, Lk, RG nw sp s2 ai) (some (.int 1), 179, J2, L2, R2)) : ∃ J2 L2 R2, Ev L xs 80 301 18 [some (.ref 1000), some (.ref 0), some (.ref 112), some (.int (nI i))] [] (179, I, Lm, RG nw sp s2 ai) (some (.int 1), 179, J2, L2, R2) := by
  obtain ⟨A, B, D, e⟩ := ih I Lm nw sp s2 ai h
  have c : (Int32.ofNat L - 6 < nI i) = False := by rw [lk_18 hL (by omega)]; exact eq_false (by omega)
  have j0 : inb (nI i) L = True := inb_i (by omega) (by omega)
  have x0 : ixn (nI i) = i := ixn_nI (by omega)
  have e6 : nI i + 6 = nI (i + 6) := nI_add i 6
  refine ⟨A, B, D, ?_⟩
  rw [x301_18]
  simp only [x301_19, x301_20, x301_21, x301_23, x301_24, x301_27, x301_28, x301_29, x301_30, x301_32, fun ρ l0 l1 l2 l3 st σ r => x301_33d (L := L) (xs := xs) (ρ := ρ) (l0 := l0) (l1 := l1) (l2 := l2) (l3 := l3) (st := st) (σ := σ) (r := r) hx, x301_1207, x301_1210, c, if_false, j0, x0, e6, true_and]
  exact e
theorem lw_step (hL : L ≤ 3072) (hi : i + 6 ≤ L) (h : Inv I Lm nw sp s2 ai) (ih : ∀ J Lk nw sp s2 ai, Inv J Lk nw sp s2 ai → ∃ J2 L2 R2, Ev L xs 80 301 18 [some (.ref 1000), some (.ref 0), some (.ref 112), some (.int (nI (i + 6)))] [] (179, J, Lk, RG nw sp s2 ai) (some (.int 1), 179, J2, L2, R2)) : ∃ J2 L2 R2, Ev L xs 80 301 18 [some (.ref 1000), some (.ref 0), some (.ref 112), some (.int (nI i))] [] (179, I, Lm, RG nw sp s2 ai) (some (.int 1), 179, J2, L2, R2) := by
  by_cases e0 : xs i &&& 63 = 0
  · exact lw_0 hL hi h e0 ih
  by_cases e1 : xs i &&& 63 = 1
  · exact lw_1 hL hi h e1 ih
  by_cases e2 : xs i &&& 63 = 2
  · exact lw_2 hL hi h e2 ih
  by_cases e3 : xs i &&& 63 = 3
  · exact lw_3 hL hi h e3 ih
  by_cases e4 : xs i &&& 63 = 4
  · exact lw_4 hL hi h e4 ih
  by_cases e5 : xs i &&& 63 = 5
  · exact lw_5 hL hi h e5 ih
  by_cases e6 : xs i &&& 63 = 6
  · exact lw_6 hL hi h e6 ih
  by_cases e7 : xs i &&& 63 = 7
  · exact lw_7 hL hi h e7 ih
  by_cases e8 : xs i &&& 63 = 8
  · exact lw_8 hL hi h e8 ih
  by_cases e9 : xs i &&& 63 = 9
  · exact lw_9 hL hi h e9 ih
  by_cases e10 : xs i &&& 63 = 10
  · exact lw_10 hL hi h e10 ih
  by_cases e11 : xs i &&& 63 = 11
  · exact lw_11 hL hi h e11 ih
  by_cases e12 : xs i &&& 63 = 12
  · exact lw_12 hL hi h e12 ih
  by_cases e13 : xs i &&& 63 = 13
  · exact lw_13 hL hi h e13 ih
  by_cases e14 : xs i &&& 63 = 14
  · exact lw_14 hL hi h e14 ih
  by_cases e15 : xs i &&& 63 = 15
  · exact lw_15 hL hi h e15 ih
  by_cases e16 : xs i &&& 63 = 16
  · exact lw_16 hL hi h e16 ih
  by_cases e17 : xs i &&& 63 = 17
  · exact lw_17 hL hi h e17 ih
  by_cases e18 : xs i &&& 63 = 18
  · exact lw_18 hL hi h e18 ih
  by_cases e19 : xs i &&& 63 = 19
  · exact lw_19 hL hi h e19 ih
  by_cases e20 : xs i &&& 63 = 20
  · exact lw_20 hL hi h e20 ih
  by_cases e21 : xs i &&& 63 = 21
  · exact lw_21 hL hi h e21 ih
  by_cases e22 : xs i &&& 63 = 22
  · exact lw_22 hL hi h e22 ih
  by_cases e23 : xs i &&& 63 = 23
  · exact lw_23 hL hi h e23 ih
  by_cases e24 : xs i &&& 63 = 24
  · exact lw_24 hL hi h e24 ih
  by_cases e25 : xs i &&& 63 = 25
  · exact lw_25 hL hi h e25 ih
  by_cases e26 : xs i &&& 63 = 26
  · exact lw_26 hL hi h e26 ih
  by_cases e27 : xs i &&& 63 = 27
  · exact lw_27 hL hi h e27 ih
  by_cases e28 : xs i &&& 63 = 28
  · exact lw_28 hL hi h e28 ih
  by_cases e29 : xs i &&& 63 = 29
  · exact lw_29 hL hi h e29 ih
  by_cases e30 : xs i &&& 63 = 30
  · exact lw_30 hL hi h e30 ih
  by_cases e31 : xs i &&& 63 = 31
  · exact lw_31 hL hi h e31 ih
  by_cases e32 : xs i &&& 63 = 32
  · exact lw_32 hL hi h e32 ih
  by_cases e33 : xs i &&& 63 = 33
  · exact lw_33 hL hi h e33 ih
  by_cases e34 : xs i &&& 63 = 34
  · exact lw_34 hL hi h e34 ih
  by_cases e35 : xs i &&& 63 = 35
  · exact lw_35 hL hi h e35 ih
  by_cases e36 : xs i &&& 63 = 36
  · exact lw_36 hL hi h e36 ih
  refine lw_d hL hi h ?_ ih
  obtain ⟨y, hy⟩ : ∃ y, xs i &&& 63 = y := ⟨_, rfl⟩
  rw [hy]
  rw [hy] at e0
  rw [hy] at e1
  rw [hy] at e2
  rw [hy] at e3
  rw [hy] at e4
  rw [hy] at e5
  rw [hy] at e6
  rw [hy] at e7
  rw [hy] at e8
  rw [hy] at e9
  rw [hy] at e10
  rw [hy] at e11
  rw [hy] at e12
  rw [hy] at e13
  rw [hy] at e14
  rw [hy] at e15
  rw [hy] at e16
  rw [hy] at e17
  rw [hy] at e18
  rw [hy] at e19
  rw [hy] at e20
  rw [hy] at e21
  rw [hy] at e22
  rw [hy] at e23
  rw [hy] at e24
  rw [hy] at e25
  rw [hy] at e26
  rw [hy] at e27
  rw [hy] at e28
  rw [hy] at e29
  rw [hy] at e30
  rw [hy] at e31
  rw [hy] at e32
  rw [hy] at e33
  rw [hy] at e34
  rw [hy] at e35
  rw [hy] at e36
  by_cases a : y.toInt < 0
  · exact Or.inl a
  by_cases b : 36 < y.toInt
  · exact Or.inr b
  have n : ∀ k : Nat, k ≤ 36 → y.toInt = (k : Int) → y = nI k := fun k hk z => Int32.toInt_inj.mp (by rw [z, nI_toInt (by omega)])
  exfalso
  have f0 : y.toInt ≠ 0 := fun z => e0 (n 0 (by decide) z)
  have f1 : y.toInt ≠ 1 := fun z => e1 (n 1 (by decide) z)
  have f2 : y.toInt ≠ 2 := fun z => e2 (n 2 (by decide) z)
  have f3 : y.toInt ≠ 3 := fun z => e3 (n 3 (by decide) z)
  have f4 : y.toInt ≠ 4 := fun z => e4 (n 4 (by decide) z)
  have f5 : y.toInt ≠ 5 := fun z => e5 (n 5 (by decide) z)
  have f6 : y.toInt ≠ 6 := fun z => e6 (n 6 (by decide) z)
  have f7 : y.toInt ≠ 7 := fun z => e7 (n 7 (by decide) z)
  have f8 : y.toInt ≠ 8 := fun z => e8 (n 8 (by decide) z)
  have f9 : y.toInt ≠ 9 := fun z => e9 (n 9 (by decide) z)
  have f10 : y.toInt ≠ 10 := fun z => e10 (n 10 (by decide) z)
  have f11 : y.toInt ≠ 11 := fun z => e11 (n 11 (by decide) z)
  have f12 : y.toInt ≠ 12 := fun z => e12 (n 12 (by decide) z)
  have f13 : y.toInt ≠ 13 := fun z => e13 (n 13 (by decide) z)
  have f14 : y.toInt ≠ 14 := fun z => e14 (n 14 (by decide) z)
  have f15 : y.toInt ≠ 15 := fun z => e15 (n 15 (by decide) z)
  have f16 : y.toInt ≠ 16 := fun z => e16 (n 16 (by decide) z)
  have f17 : y.toInt ≠ 17 := fun z => e17 (n 17 (by decide) z)
  have f18 : y.toInt ≠ 18 := fun z => e18 (n 18 (by decide) z)
  have f19 : y.toInt ≠ 19 := fun z => e19 (n 19 (by decide) z)
  have f20 : y.toInt ≠ 20 := fun z => e20 (n 20 (by decide) z)
  have f21 : y.toInt ≠ 21 := fun z => e21 (n 21 (by decide) z)
  have f22 : y.toInt ≠ 22 := fun z => e22 (n 22 (by decide) z)
  have f23 : y.toInt ≠ 23 := fun z => e23 (n 23 (by decide) z)
  have f24 : y.toInt ≠ 24 := fun z => e24 (n 24 (by decide) z)
  have f25 : y.toInt ≠ 25 := fun z => e25 (n 25 (by decide) z)
  have f26 : y.toInt ≠ 26 := fun z => e26 (n 26 (by decide) z)
  have f27 : y.toInt ≠ 27 := fun z => e27 (n 27 (by decide) z)
  have f28 : y.toInt ≠ 28 := fun z => e28 (n 28 (by decide) z)
  have f29 : y.toInt ≠ 29 := fun z => e29 (n 29 (by decide) z)
  have f30 : y.toInt ≠ 30 := fun z => e30 (n 30 (by decide) z)
  have f31 : y.toInt ≠ 31 := fun z => e31 (n 31 (by decide) z)
  have f32 : y.toInt ≠ 32 := fun z => e32 (n 32 (by decide) z)
  have f33 : y.toInt ≠ 33 := fun z => e33 (n 33 (by decide) z)
  have f34 : y.toInt ≠ 34 := fun z => e34 (n 34 (by decide) z)
  have f35 : y.toInt ≠ 35 := fun z => e35 (n 35 (by decide) z)
  have f36 : y.toInt ≠ 36 := fun z => e36 (n 36 (by decide) z)
  omega
end
