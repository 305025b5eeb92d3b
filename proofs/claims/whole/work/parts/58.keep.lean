/-! what changes: keeps, the seed, what was said, rounds, partings -/
def gtV (N NH : Nat) (V : Vw) : Nat → Vw
  | 0 => V
  | n + 1 => goV N NH (gtV N NH V n) N
/-- till it is stable within n: how many, the k before counted -/
def gsV (N NH : Nat) (V : Vw) : Nat → Nat → Int32
  | 0, _ => -2
  | n + 1, k => if goC N NH (gtV N NH V k) N = 0 then nI (k + 1) else gsV N NH V n (k + 1)
theorem itV_M {N M : Nat} {V : Vw} (hM : M ≤ 60) (h : ∀ k, k < N → (V 2 k).toInt ≤ (M : Int)) : ∀ q k, k < N → (itV N M V q 2 k).toInt ≤ (M : Int)
  | 0 => h
  | q + 1 => by
    have h1 : ∀ j k, k < N → (rdV N M (itV N M V q) j 2 k).toInt ≤ (M : Int) := by
      intro j
      induction j with
      | zero => exact itV_M hM h q
      | succ j ih =>
        intro k hk
        obtain ⟨b, b1, b2⟩ := bh_nI (fun x => wV (rdV N M (itV N M V q) j) N j x (rdV N M (itV N M V q) j 1 j)) M
        show (up2 (rdV N M (itV N M V q) j) 2 j (bestV (rdV N M (itV N M V q) j) N M j) 2 k).toInt ≤ (M : Int)
        by_cases z : k = j
        · rw [z, up2_eq]
          unfold bestV
          rw [b2, nI_toInt (by omega)]
          omega
        · rw [up2_k z]; exact ih k hk
    exact h1 N
section
variable {L : Nat} {xs : Nat → Int32} {σ : Mm} {r : Option Value × Mm} {I J K : Nat → Nat → Int32} {Lm : Nat → Nat → Int64} {Rm : Nat → Nat → Nat} {n s so t N NS NH m M P nw S U : Nat} {V W : Vw} {sp s2 ai p : Nat} {x y z h v : Int32}
theorem goC_fix : ∀ q, goC N NH V q = 0 → goV N NH V q = V
  | 0, _ => rfl
  | q + 1, h => by
    by_cases c : wishV (goV N NH V q) N NH q = goV N NH V q 1 q
    · have h2 : goC N NH V q = 0 := by simpa only [goC, if_pos c] using h
      show up2 (goV N NH V q) 1 q (wishV (goV N NH V q) N NH q) = V
      rw [c, up2_same]
      exact goC_fix q h2
    · exact absurd (by simpa only [goC, if_neg c] using h) (show ¬ (1 : Int32) = 0 by decide)
theorem gtV_fix (a : Nat) (h : goV N NH (gtV N NH V a) N = gtV N NH V a) : ∀ n, gtV N NH V (a + n) = gtV N NH V a
  | 0 => rfl
  | n + 1 => by
    show goV N NH (gtV N NH V (a + n)) N = gtV N NH V a
    rw [gtV_fix a h n]; exact h
theorem gtV_WV (hW : WV V N NS NH) (hn : NH < 2 ^ 30) : ∀ q, WV (gtV N NH V q) N NS NH
  | 0 => hW
  | q + 1 => goV_WV (gtV_WV hW hn q) hn N (Nat.le_refl N)
theorem goV_off : ∀ q f, f ≠ 1 → goV N NH V q f = V f
  | 0, _, _ => rfl
  | q + 1, f, hf => by
    show up2 (goV N NH V q) 1 q _ f = V f
    rw [show up2 (goV N NH V q) 1 q (wishV (goV N NH V q) N NH q) f = goV N NH V q f from funext fun k => up2_p hf]
    exact goV_off q f hf
theorem gtV_off : ∀ q f, f ≠ 1 → gtV N NH V q f = V f
  | 0, _, _ => rfl
  | q + 1, f, hf => (goV_off N f hf).trans (gtV_off q f hf)
theorem rdV_of : ∀ q f, f ≠ 2 → rdV N M V q f = V f
  | 0, _, _ => rfl
  | q + 1, f, hf => by
    show up2 (rdV N M V q) 2 q _ f = V f
    rw [show up2 (rdV N M V q) 2 q (bestV (rdV N M V q) N M q) f = rdV N M V q f from funext fun k => up2_p hf]
    exact rdV_of q f hf
theorem itV_of : ∀ q f, f ≠ 2 → itV N M V q f = V f
  | 0, _, _ => rfl
  | q + 1, f, hf => (rdV_of N f hf).trans (itV_of q f hf)
theorem st_keep (hT : Tw nw S U) (hso : so = S + 9) (hG : GC I S so N NS NH M P V) (hM : GM I Lm N NS NH M P V) (hW : GW N NS NH M P V) : StQ L xs I Lm nw sp s2 ai S U so N NS NH M P 124 [.ref 0, .int x, .int y] 239 [.ref 112, .int x, .int y] := by
  have hB : SB nw sp s2 ai S so := twSo hT hso
  have hs := hB.1
  obtain ⟨hC, hMo, hPr, hNm, hWk, h11, -⟩ := id hG
  obtain ⟨hWV, hMW, ⟨hN, hNS, hNH, hM6, hP6⟩, hPW, hKW, hVW⟩ := id hW
  have hS := tw_S hT; have hU := tw_U hT
  by_cases c : inb x NH
  · have c1 := b2i_in (show NH < 2 ^ 31 by omega) c
    obtain ⟨h, hh, rfl⟩ := inb_ex c
    have ix : ixn (nI h) = h := ixn_nI (by omega)
    by_cases d : rng y 0 100
    · have y0 : ¬ y < 0 := fun k => by have := i_neg.mp k; have := d.1; omega
      have y1 : y ≤ 100 := Int32.le_iff_toInt_le.mpr (by have k3 : (100 : Int32).toInt = 100 := rfl; have := d.2; omega)
      have est : setv I (S + 3) (nI h) y = up2 I (S + 3) h y := setv_lt (by rw [sh_s3 hs]; show h < 4; omega)
      have hcs : ∀ q, q ≠ S + 3 → setv I (S + 3) (nI h) y q = I q := fun q hq => setv_ne hq
      have hW2 : WV (up2 V 9 h y) N NS NH := wvHat (w := 0) hWV ⟨fun _ => d, fun q => absurd q (by decide), fun q => absurd q (by decide), fun q => absurd q (by decide)⟩
      have hC2 : CR (setv I (S + 3) (nI h) y) S so N NS NH (up2 V 9 h y) := by
        obtain ⟨⟨q1, q2, q3⟩, b1, cc, d1, e1⟩ := hC
        have hV : ∀ f k, f ≠ 9 → up2 V 9 h y f k = V f k := fun f k hf => up2_p hf
        refine ⟨⟨?_, ?_, ?_⟩, b1, fun k hk => ?_, fun k hk => ?_, fun k hk => ?_⟩
        · rw [hcs _ (by omega)]; exact q1
        · rw [hcs _ (by omega)]; exact q2
        · rw [hcs _ (by omega)]; exact q3
        · rw [hcs (S + 20) (by omega), hcs (S + 21) (by omega), hcs (S + 22) (by omega), hcs (S + 24) (by omega), hV 0 k (by decide), hV 1 k (by decide), hV 2 k (by decide), hV 3 k (by decide)]; exact cc k hk
        · rw [hcs (so + 2) (by omega), hcs (so + 3) (by omega), hcs (so + 4) (by omega), hcs (so + 5) (by omega), hcs (so + 6) (by omega), hV 4 k (by decide), hV 5 k (by decide), hV 6 k (by decide), hV 7 k (by decide), hV 8 k (by decide)]; exact d1 k hk
        · rw [hcs (S + 4) (by omega), hcs (S + 5) (by omega), hcs (S + 6) (by omega), hV 10 k (by decide), hV 11 k (by decide), hV 12 k (by decide)]
          obtain ⟨g0, g1⟩ := e1 k hk
          refine ⟨?_, g1⟩
          rw [est]
          by_cases z : k = h
          · rw [z, up2_eq, up2_eq]
          · rw [up2_k z, up2_k z]; exact g0
      have hG2 := gcV (W := up2 V 9 h y) hT hso hG hC2 (fun f hf => funext fun k => up2_p (by omega)) (fun q _ h3 _ _ _ _ _ _ => hcs q h3) (by rw [hcs 11 (by omega)])
      have hM2 := gmSame hN hM (fun q hq => hcs q (by omega))
      have c2 := r_isH1 (L := L) (xs := xs) (nw := nw) (sp := sp) (s2 := s2) (ai := ai) hNH hM2 c
      have hR2 : MR (up2 (setv I (S + 3) (nI h) y) 150 (16 + 4 * h) y) 0 N NS NH (up2 V 9 h y) := by
        obtain ⟨⟨a1, a2⟩, b1, cc, d1, e1⟩ := hM2.1
        have hI : ∀ p, p ≠ 150 → up2 (setv I (S + 3) (nI h) y) 150 (16 + 4 * h) y p = setv I (S + 3) (nI h) y p := fun p q => funext fun k => up2_p q
        have hV : ∀ f k, f ≠ 9 → up2 V 9 h y f k = V f k := fun f k hf => up2_p hf
        refine ⟨⟨?_, ?_⟩, b1, fun k hk => ?_, fun k hk w hw => ?_, fun k hk w hw => ?_⟩
        · rw [hI 112 (by decide)]; exact a1
        · rw [hI 112 (by decide)]; exact a2
        · rw [hI 162 (by decide), hI 163 (by decide), hI 164 (by decide), hI 165 (by decide), hV 0 k (by decide), hV 1 k (by decide), hV 2 k (by decide), hV 3 k (by decide)]; exact cc k hk
        · rw [hI 149 (by decide), hV (4 + w) k (by omega)]; exact d1 k hk w hw
        · by_cases q : k = h ∧ w = 0
          · obtain ⟨rfl, rfl⟩ := q
            show up2 (setv I (S + 3) (nI k) y) 150 (16 + 4 * k) y 150 (16 + 4 * k) = up2 V 9 k y 9 k
            rw [up2_eq, up2_eq]
          · rw [up2_k (by omega)]
            have e2 : up2 V 9 h y (9 + w) k = V (9 + w) k := by unfold up2; rw [if_neg (by omega)]
            rw [e2]; exact e1 k hk w hw
      have hM3 := gmV hM2 hR2 (fun f hf => funext fun k => up2_p (by omega)) (fun q _ _ _ h150 => funext fun k => up2_p h150)
      have hG3 := gcSame hT hso hG2 (J := up2 (setv I (S + 3) (nI h) y) 150 (16 + 4 * h) y) (fun q hq => funext fun k => up2_p (by omega))
      have i1 : inb (nI (16 + 4 * h)) 32 = True := inb_i (by omega) (by decide)
      have i2 : ixn (nI (16 + 4 * h)) = 16 + 4 * h := ixn_nI (by omega)
      refine ⟨V 9 h, setv I (S + 3) (nI h) y, up2 (setv I (S + 3) (nI h) y) 150 (16 + 4 * h) y, Lm, s2, up2 V 9 h y, fun r => ?_, fun r => ?_, hG3, hM3, gwV hW hW2 (funext fun k => up2_p (by decide)) (fun f hf => funext fun k => up2_p (by omega)) (fun k hk => by rw [up2_p (by decide)]; exact hVW.2 k hk), ⟨fun q hq => ?_, fun k hk => ?_⟩⟩
      · rw [em_124]; simp only [x124_0, x124_1, x124_4, x124_7, x124_10, x124_11, x124_12, x124_13, x124_16, x124_19, x124_22, x124_23, x124_26, x124_27, x124_29, x124_32, x124_33, x124_34, x124_35, x124_38, x124_39, x124_42, x124_44, x124_45, x124_48, x124_49, x124_50, x124_53, x124_55, sh_s, lq_s, sh_s1, lq_s1, sh_s2, lq_s2, sh_s3, lq_s3, sh_s4, lq_s4, sh_s5, lq_s5, sh_s6, lq_s6, sh_s7, lq_s7, sh_s8, lq_s8, sh_s9, lq_s9, sh_s10, lq_s10, sh_s11, lq_s11, sh_s12, lq_s12, sh_s13, lq_s13, sh_s14, lq_s14, sh_s15, lq_s15, sh_s16, lq_s16, sh_s17, lq_s17, sh_s18, lq_s18, sh_s19, lq_s19, sh_s20, lq_s20, sh_s21, lq_s21, sh_s22, lq_s22, sh_s23, lq_s23, sh_s24, lq_s24, sh_s25, lq_s25, rg_s0_0, rg_s0_1, rg_s0_2, rg_s0_3, rg_s1_0, rg_s1_1, rg_s1_2, rg_s1_3, rg_s1_4, rg_s7_0, rg_s9_0, rg_s9_1, rg_s9_2, rg_s9_3, rg_s9_4, rg_s9_5, rg_s16_6, rg_s16_7, rg_s16_0, rg_s16_1, rg_s16_2, rg_s16_3, rg_s16_4, rg_s16_5, sh_o, lq_o, sh_o1, lq_o1, sh_o2, lq_o2, sh_o3, lq_o3, sh_o4, lq_o4, sh_o5, lq_o5, sh_o6, lq_o6, rg_o0, rg_o1, rg_o2, rg_o3, rg_o4, rg_o5, rg_0_now, rg_0_spare, rg_0_0, rg_0_1, rg_0_2, rg_0_6, rg_tw0 hT, rg_tw1 hT, sh_tw hT, lq_tw hT, sh_0, sh_1, sh_2, sh_3, sh_4, sh_5, sh_6, sh_7, sh_8, sh_9, sh_10, lq_0, lq_1, lq_2, lq_3, lq_4, lq_5, lq_6, lq_7, lq_8, lq_9, lq_10, rg_3_0, rg_3_1, rg_3_2, rg_3_3, rg_3_4, rg_3_5, rg_3_6, p_at (n := 179) lz_1 ly_1, p_set (n := 179) lz_1 ly_1, p_at (n := 179) lz_2 ly_2, p_set (n := 179) lz_2 ly_2, p_at (n := 179) lz_4 ly_4, p_set (n := 179) lz_4 ly_4, p_at (n := 179) lz_5 ly_5, p_set (n := 179) lz_5 ly_5, p_at (n := 179) lz_6 ly_6, p_set (n := 179) lz_6 ly_6, p_at (n := 179) lz_7 ly_7, p_set (n := 179) lz_7 ly_7, p_at (n := 179) lz_8 ly_8, p_set (n := 179) lz_8 ly_8, p_at (n := 179) lz_9 ly_9, p_set (n := 179) lz_9 ly_9, p_at (n := 179) lz_10 ly_10, p_set (n := 179) lz_10 ly_10, ex5, Option.toList_some, Option.toList_none, List.cons_append, List.nil_append, true_and, and_true, nI_1, p_at, p_set, p_isIn, p_max, p_min, p_abs, hs, hC.1.2.2, c1, one_ne, if_false, y0, y1, if_true, a_kee hB hC c, ix]
      · rw [em_239]; simp only [x239_0, x239_1, x239_2, x239_5, x239_8, x239_9, x239_10, x239_11, x239_14, x239_17, x239_20, x239_21, x239_22, x239_23, x239_24, x239_25, x239_28, x239_29, x239_30, x239_33, x239_35, x239_36, x239_37, x239_38, x239_39, x239_40, x239_41, x239_42, sh_112, sh_113, sh_114, sh_115, sh_116, sh_117, sh_118, sh_119, sh_120, sh_121, sh_122, sh_123, sh_124, sh_125, sh_126, sh_127, sh_128, sh_129, sh_130, sh_131, sh_132, sh_133, sh_134, sh_135, sh_136, sh_137, sh_138, sh_139, sh_140, sh_141, sh_142, sh_143, sh_144, sh_145, sh_146, sh_147, sh_148, sh_149, sh_150, sh_151, sh_152, sh_153, sh_154, sh_155, sh_156, sh_157, sh_158, sh_159, sh_160, sh_161, sh_162, sh_163, sh_164, sh_165, sh_166, sh_167, sh_168, sh_169, sh_170, sh_171, sh_172, sh_173, sh_174, sh_175, sh_176, sh_177, sh_178, lq_112, lq_113, lq_114, lq_115, lq_116, lq_117, lq_118, lq_119, lq_120, lq_121, lq_122, lq_123, lq_124, lq_125, lq_126, lq_127, lq_128, lq_129, lq_130, lq_131, lq_132, lq_133, lq_134, lq_135, lq_136, lq_137, lq_138, lq_139, lq_140, lq_141, lq_142, lq_143, lq_144, lq_145, lq_146, lq_147, lq_148, lq_149, lq_150, lq_151, lq_152, lq_153, lq_154, lq_155, lq_156, lq_157, lq_158, lq_159, lq_160, lq_161, lq_162, lq_163, lq_164, lq_165, lq_166, lq_167, lq_168, lq_169, lq_170, lq_171, lq_172, lq_173, lq_174, lq_175, lq_176, lq_177, lq_178, rg_112_0, rg_112_9, rg_112_10, rg_112_11, rg_112_12, rg_112_13, rg_112_14, rg_112_15, rg_112_16, rg_112_17, rg_112_18, rg_112_19, rg_112_20, rg_112_21, rg_112_22, rg_112_23, rg_112_24, rg_112_25, rg_112_26, rg_112_27, rg_112_28, rg_112_29, rg_112_30, rg_112_31, rg_112_32, rg_112_33, rg_112_34, rg_112_35, rg_112_36, rg_112_37, rg_112_38, rg_112_39, rg_112_40, rg_112_41, rg_112_43, rg_112_44, rg_112_45, rg_112_46, rg_112_47, rg_112_48, rg_112_49, rg_112_51, rg_112_55, rg_112_57, rg_112_60, rg_112_61, rg_112_62, rg_112_63, rg_112_64, rg_112_66, rg_112_67, rg_112_68, rg_112_69, rg_112_70, rg_112_71, rg_112_72, rg_112_73, rg_112_74, rg_112_80, rg_112_83, rg_112_84, rg_112_85, rg_112_86, rg_112_90, rg_112_91, rg_112_92, ex5, Option.toList_some, Option.toList_none, List.cons_append, List.nil_append, true_and, and_true, nI_1, p_at, p_set, p_isIn, p_max, p_min, p_abs, c2, one_ne, if_false, r_isInR1 (x := y) (u1 := 0) (u2 := 100) rfl rfl d, r_hat0 hM2.1 c, ix, hatIx, i1, i2]
      · rw [show up2 (setv I (S + 3) (nI h) y) 150 (16 + 4 * h) y q = setv I (S + 3) (nI h) y q from funext fun k => up2_p (by omega)]; exact hcs q (by omega)
      · rw [up2_p (by decide), hcs 112 (by omega)]
    · have c2 := r_isH1 (L := L) (xs := xs) (nw := nw) (sp := sp) (s2 := s2) (ai := ai) hNH hM c
      refine stOfPr hT hso hG hM hW ⟨-1, I, I, s2, fun r => ?_, fun r => ?_, scrRf, mscRf⟩
      · rw [em_124]
        by_cases y0 : y < 0
        · simp only [x124_0, x124_1, x124_4, x124_7, x124_10, x124_11, x124_12, x124_13, x124_16, x124_19, x124_22, x124_23, x124_26, x124_27, x124_29, x124_32, x124_33, x124_34, x124_35, x124_38, x124_39, x124_42, x124_44, x124_45, x124_48, x124_49, x124_50, x124_53, x124_55, sh_s, lq_s, sh_s1, lq_s1, sh_s2, lq_s2, sh_s3, lq_s3, sh_s4, lq_s4, sh_s5, lq_s5, sh_s6, lq_s6, sh_s7, lq_s7, sh_s8, lq_s8, sh_s9, lq_s9, sh_s10, lq_s10, sh_s11, lq_s11, sh_s12, lq_s12, sh_s13, lq_s13, sh_s14, lq_s14, sh_s15, lq_s15, sh_s16, lq_s16, sh_s17, lq_s17, sh_s18, lq_s18, sh_s19, lq_s19, sh_s20, lq_s20, sh_s21, lq_s21, sh_s22, lq_s22, sh_s23, lq_s23, sh_s24, lq_s24, sh_s25, lq_s25, rg_s0_0, rg_s0_1, rg_s0_2, rg_s0_3, rg_s1_0, rg_s1_1, rg_s1_2, rg_s1_3, rg_s1_4, rg_s7_0, rg_s9_0, rg_s9_1, rg_s9_2, rg_s9_3, rg_s9_4, rg_s9_5, rg_s16_6, rg_s16_7, rg_s16_0, rg_s16_1, rg_s16_2, rg_s16_3, rg_s16_4, rg_s16_5, sh_o, lq_o, sh_o1, lq_o1, sh_o2, lq_o2, sh_o3, lq_o3, sh_o4, lq_o4, sh_o5, lq_o5, sh_o6, lq_o6, rg_o0, rg_o1, rg_o2, rg_o3, rg_o4, rg_o5, rg_0_now, rg_0_spare, rg_0_0, rg_0_1, rg_0_2, rg_0_6, rg_tw0 hT, rg_tw1 hT, sh_tw hT, lq_tw hT, sh_0, sh_1, sh_2, sh_3, sh_4, sh_5, sh_6, sh_7, sh_8, sh_9, sh_10, lq_0, lq_1, lq_2, lq_3, lq_4, lq_5, lq_6, lq_7, lq_8, lq_9, lq_10, rg_3_0, rg_3_1, rg_3_2, rg_3_3, rg_3_4, rg_3_5, rg_3_6, p_at (n := 179) lz_1 ly_1, p_set (n := 179) lz_1 ly_1, p_at (n := 179) lz_2 ly_2, p_set (n := 179) lz_2 ly_2, p_at (n := 179) lz_4 ly_4, p_set (n := 179) lz_4 ly_4, p_at (n := 179) lz_5 ly_5, p_set (n := 179) lz_5 ly_5, p_at (n := 179) lz_6 ly_6, p_set (n := 179) lz_6 ly_6, p_at (n := 179) lz_7 ly_7, p_set (n := 179) lz_7 ly_7, p_at (n := 179) lz_8 ly_8, p_set (n := 179) lz_8 ly_8, p_at (n := 179) lz_9 ly_9, p_set (n := 179) lz_9 ly_9, p_at (n := 179) lz_10 ly_10, p_set (n := 179) lz_10 ly_10, ex5, Option.toList_some, Option.toList_none, List.cons_append, List.nil_append, true_and, and_true, nI_1, p_at, p_set, p_isIn, p_max, p_min, p_abs, hs, hC.1.2.2, c1, one_ne, if_false, y0, if_true]
        · have y1 : ¬ y ≤ 100 := fun k => d ⟨by
            have : ¬ y.toInt < 0 := fun w => y0 (i_neg.mpr w)
            omega, by have k2 := Int32.le_iff_toInt_le.mp k; exact k2⟩
          simp only [x124_0, x124_1, x124_4, x124_7, x124_10, x124_11, x124_12, x124_13, x124_16, x124_19, x124_22, x124_23, x124_26, x124_27, x124_29, x124_32, x124_33, x124_34, x124_35, x124_38, x124_39, x124_42, x124_44, x124_45, x124_48, x124_49, x124_50, x124_53, x124_55, sh_s, lq_s, sh_s1, lq_s1, sh_s2, lq_s2, sh_s3, lq_s3, sh_s4, lq_s4, sh_s5, lq_s5, sh_s6, lq_s6, sh_s7, lq_s7, sh_s8, lq_s8, sh_s9, lq_s9, sh_s10, lq_s10, sh_s11, lq_s11, sh_s12, lq_s12, sh_s13, lq_s13, sh_s14, lq_s14, sh_s15, lq_s15, sh_s16, lq_s16, sh_s17, lq_s17, sh_s18, lq_s18, sh_s19, lq_s19, sh_s20, lq_s20, sh_s21, lq_s21, sh_s22, lq_s22, sh_s23, lq_s23, sh_s24, lq_s24, sh_s25, lq_s25, rg_s0_0, rg_s0_1, rg_s0_2, rg_s0_3, rg_s1_0, rg_s1_1, rg_s1_2, rg_s1_3, rg_s1_4, rg_s7_0, rg_s9_0, rg_s9_1, rg_s9_2, rg_s9_3, rg_s9_4, rg_s9_5, rg_s16_6, rg_s16_7, rg_s16_0, rg_s16_1, rg_s16_2, rg_s16_3, rg_s16_4, rg_s16_5, sh_o, lq_o, sh_o1, lq_o1, sh_o2, lq_o2, sh_o3, lq_o3, sh_o4, lq_o4, sh_o5, lq_o5, sh_o6, lq_o6, rg_o0, rg_o1, rg_o2, rg_o3, rg_o4, rg_o5, rg_0_now, rg_0_spare, rg_0_0, rg_0_1, rg_0_2, rg_0_6, rg_tw0 hT, rg_tw1 hT, sh_tw hT, lq_tw hT, sh_0, sh_1, sh_2, sh_3, sh_4, sh_5, sh_6, sh_7, sh_8, sh_9, sh_10, lq_0, lq_1, lq_2, lq_3, lq_4, lq_5, lq_6, lq_7, lq_8, lq_9, lq_10, rg_3_0, rg_3_1, rg_3_2, rg_3_3, rg_3_4, rg_3_5, rg_3_6, p_at (n := 179) lz_1 ly_1, p_set (n := 179) lz_1 ly_1, p_at (n := 179) lz_2 ly_2, p_set (n := 179) lz_2 ly_2, p_at (n := 179) lz_4 ly_4, p_set (n := 179) lz_4 ly_4, p_at (n := 179) lz_5 ly_5, p_set (n := 179) lz_5 ly_5, p_at (n := 179) lz_6 ly_6, p_set (n := 179) lz_6 ly_6, p_at (n := 179) lz_7 ly_7, p_set (n := 179) lz_7 ly_7, p_at (n := 179) lz_8 ly_8, p_set (n := 179) lz_8 ly_8, p_at (n := 179) lz_9 ly_9, p_set (n := 179) lz_9 ly_9, p_at (n := 179) lz_10 ly_10, p_set (n := 179) lz_10 ly_10, ex5, Option.toList_some, Option.toList_none, List.cons_append, List.nil_append, true_and, and_true, nI_1, p_at, p_set, p_isIn, p_max, p_min, p_abs, hs, hC.1.2.2, c1, one_ne, if_false, y0, y1]
      · rw [em_239]; simp only [x239_0, x239_1, x239_2, x239_5, x239_8, x239_9, x239_10, x239_11, x239_14, x239_17, x239_20, x239_21, x239_22, x239_23, x239_24, x239_25, x239_28, x239_29, x239_30, x239_33, x239_35, x239_36, x239_37, x239_38, x239_39, x239_40, x239_41, x239_42, sh_112, sh_113, sh_114, sh_115, sh_116, sh_117, sh_118, sh_119, sh_120, sh_121, sh_122, sh_123, sh_124, sh_125, sh_126, sh_127, sh_128, sh_129, sh_130, sh_131, sh_132, sh_133, sh_134, sh_135, sh_136, sh_137, sh_138, sh_139, sh_140, sh_141, sh_142, sh_143, sh_144, sh_145, sh_146, sh_147, sh_148, sh_149, sh_150, sh_151, sh_152, sh_153, sh_154, sh_155, sh_156, sh_157, sh_158, sh_159, sh_160, sh_161, sh_162, sh_163, sh_164, sh_165, sh_166, sh_167, sh_168, sh_169, sh_170, sh_171, sh_172, sh_173, sh_174, sh_175, sh_176, sh_177, sh_178, lq_112, lq_113, lq_114, lq_115, lq_116, lq_117, lq_118, lq_119, lq_120, lq_121, lq_122, lq_123, lq_124, lq_125, lq_126, lq_127, lq_128, lq_129, lq_130, lq_131, lq_132, lq_133, lq_134, lq_135, lq_136, lq_137, lq_138, lq_139, lq_140, lq_141, lq_142, lq_143, lq_144, lq_145, lq_146, lq_147, lq_148, lq_149, lq_150, lq_151, lq_152, lq_153, lq_154, lq_155, lq_156, lq_157, lq_158, lq_159, lq_160, lq_161, lq_162, lq_163, lq_164, lq_165, lq_166, lq_167, lq_168, lq_169, lq_170, lq_171, lq_172, lq_173, lq_174, lq_175, lq_176, lq_177, lq_178, rg_112_0, rg_112_9, rg_112_10, rg_112_11, rg_112_12, rg_112_13, rg_112_14, rg_112_15, rg_112_16, rg_112_17, rg_112_18, rg_112_19, rg_112_20, rg_112_21, rg_112_22, rg_112_23, rg_112_24, rg_112_25, rg_112_26, rg_112_27, rg_112_28, rg_112_29, rg_112_30, rg_112_31, rg_112_32, rg_112_33, rg_112_34, rg_112_35, rg_112_36, rg_112_37, rg_112_38, rg_112_39, rg_112_40, rg_112_41, rg_112_43, rg_112_44, rg_112_45, rg_112_46, rg_112_47, rg_112_48, rg_112_49, rg_112_51, rg_112_55, rg_112_57, rg_112_60, rg_112_61, rg_112_62, rg_112_63, rg_112_64, rg_112_66, rg_112_67, rg_112_68, rg_112_69, rg_112_70, rg_112_71, rg_112_72, rg_112_73, rg_112_74, rg_112_80, rg_112_83, rg_112_84, rg_112_85, rg_112_86, rg_112_90, rg_112_91, rg_112_92, ex5, Option.toList_some, Option.toList_none, List.cons_append, List.nil_append, true_and, and_true, nI_1, p_at, p_set, p_isIn, p_max, p_min, p_abs, c2, one_ne, if_false, if_true, r_isInR0 (x := y) (u1 := 0) (u2 := 100) rfl rfl d]
  · have c1 := b2i_out (show NH < 2 ^ 31 by omega) c
    have c2 := r_isH0 (L := L) (xs := xs) (nw := nw) (sp := sp) (s2 := s2) (ai := ai) hNH hM c
    refine stOfPr hT hso hG hM hW ⟨-1, I, I, s2, fun r => ?_, fun r => ?_, scrRf, mscRf⟩
    · rw [em_124]; simp only [x124_0, x124_1, x124_4, x124_7, x124_10, x124_11, x124_12, x124_13, x124_16, x124_19, x124_22, x124_23, x124_26, x124_27, x124_29, x124_32, x124_33, x124_34, x124_35, x124_38, x124_39, x124_42, x124_44, x124_45, x124_48, x124_49, x124_50, x124_53, x124_55, sh_s, lq_s, sh_s1, lq_s1, sh_s2, lq_s2, sh_s3, lq_s3, sh_s4, lq_s4, sh_s5, lq_s5, sh_s6, lq_s6, sh_s7, lq_s7, sh_s8, lq_s8, sh_s9, lq_s9, sh_s10, lq_s10, sh_s11, lq_s11, sh_s12, lq_s12, sh_s13, lq_s13, sh_s14, lq_s14, sh_s15, lq_s15, sh_s16, lq_s16, sh_s17, lq_s17, sh_s18, lq_s18, sh_s19, lq_s19, sh_s20, lq_s20, sh_s21, lq_s21, sh_s22, lq_s22, sh_s23, lq_s23, sh_s24, lq_s24, sh_s25, lq_s25, rg_s0_0, rg_s0_1, rg_s0_2, rg_s0_3, rg_s1_0, rg_s1_1, rg_s1_2, rg_s1_3, rg_s1_4, rg_s7_0, rg_s9_0, rg_s9_1, rg_s9_2, rg_s9_3, rg_s9_4, rg_s9_5, rg_s16_6, rg_s16_7, rg_s16_0, rg_s16_1, rg_s16_2, rg_s16_3, rg_s16_4, rg_s16_5, sh_o, lq_o, sh_o1, lq_o1, sh_o2, lq_o2, sh_o3, lq_o3, sh_o4, lq_o4, sh_o5, lq_o5, sh_o6, lq_o6, rg_o0, rg_o1, rg_o2, rg_o3, rg_o4, rg_o5, rg_0_now, rg_0_spare, rg_0_0, rg_0_1, rg_0_2, rg_0_6, rg_tw0 hT, rg_tw1 hT, sh_tw hT, lq_tw hT, sh_0, sh_1, sh_2, sh_3, sh_4, sh_5, sh_6, sh_7, sh_8, sh_9, sh_10, lq_0, lq_1, lq_2, lq_3, lq_4, lq_5, lq_6, lq_7, lq_8, lq_9, lq_10, rg_3_0, rg_3_1, rg_3_2, rg_3_3, rg_3_4, rg_3_5, rg_3_6, p_at (n := 179) lz_1 ly_1, p_set (n := 179) lz_1 ly_1, p_at (n := 179) lz_2 ly_2, p_set (n := 179) lz_2 ly_2, p_at (n := 179) lz_4 ly_4, p_set (n := 179) lz_4 ly_4, p_at (n := 179) lz_5 ly_5, p_set (n := 179) lz_5 ly_5, p_at (n := 179) lz_6 ly_6, p_set (n := 179) lz_6 ly_6, p_at (n := 179) lz_7 ly_7, p_set (n := 179) lz_7 ly_7, p_at (n := 179) lz_8 ly_8, p_set (n := 179) lz_8 ly_8, p_at (n := 179) lz_9 ly_9, p_set (n := 179) lz_9 ly_9, p_at (n := 179) lz_10 ly_10, p_set (n := 179) lz_10 ly_10, ex5, Option.toList_some, Option.toList_none, List.cons_append, List.nil_append, true_and, and_true, nI_1, p_at, p_set, p_isIn, p_max, p_min, p_abs, hs, hC.1.2.2, c1, if_true]
    · rw [em_239]; simp only [x239_0, x239_1, x239_2, x239_5, x239_8, x239_9, x239_10, x239_11, x239_14, x239_17, x239_20, x239_21, x239_22, x239_23, x239_24, x239_25, x239_28, x239_29, x239_30, x239_33, x239_35, x239_36, x239_37, x239_38, x239_39, x239_40, x239_41, x239_42, sh_112, sh_113, sh_114, sh_115, sh_116, sh_117, sh_118, sh_119, sh_120, sh_121, sh_122, sh_123, sh_124, sh_125, sh_126, sh_127, sh_128, sh_129, sh_130, sh_131, sh_132, sh_133, sh_134, sh_135, sh_136, sh_137, sh_138, sh_139, sh_140, sh_141, sh_142, sh_143, sh_144, sh_145, sh_146, sh_147, sh_148, sh_149, sh_150, sh_151, sh_152, sh_153, sh_154, sh_155, sh_156, sh_157, sh_158, sh_159, sh_160, sh_161, sh_162, sh_163, sh_164, sh_165, sh_166, sh_167, sh_168, sh_169, sh_170, sh_171, sh_172, sh_173, sh_174, sh_175, sh_176, sh_177, sh_178, lq_112, lq_113, lq_114, lq_115, lq_116, lq_117, lq_118, lq_119, lq_120, lq_121, lq_122, lq_123, lq_124, lq_125, lq_126, lq_127, lq_128, lq_129, lq_130, lq_131, lq_132, lq_133, lq_134, lq_135, lq_136, lq_137, lq_138, lq_139, lq_140, lq_141, lq_142, lq_143, lq_144, lq_145, lq_146, lq_147, lq_148, lq_149, lq_150, lq_151, lq_152, lq_153, lq_154, lq_155, lq_156, lq_157, lq_158, lq_159, lq_160, lq_161, lq_162, lq_163, lq_164, lq_165, lq_166, lq_167, lq_168, lq_169, lq_170, lq_171, lq_172, lq_173, lq_174, lq_175, lq_176, lq_177, lq_178, rg_112_0, rg_112_9, rg_112_10, rg_112_11, rg_112_12, rg_112_13, rg_112_14, rg_112_15, rg_112_16, rg_112_17, rg_112_18, rg_112_19, rg_112_20, rg_112_21, rg_112_22, rg_112_23, rg_112_24, rg_112_25, rg_112_26, rg_112_27, rg_112_28, rg_112_29, rg_112_30, rg_112_31, rg_112_32, rg_112_33, rg_112_34, rg_112_35, rg_112_36, rg_112_37, rg_112_38, rg_112_39, rg_112_40, rg_112_41, rg_112_43, rg_112_44, rg_112_45, rg_112_46, rg_112_47, rg_112_48, rg_112_49, rg_112_51, rg_112_55, rg_112_57, rg_112_60, rg_112_61, rg_112_62, rg_112_63, rg_112_64, rg_112_66, rg_112_67, rg_112_68, rg_112_69, rg_112_70, rg_112_71, rg_112_72, rg_112_73, rg_112_74, rg_112_80, rg_112_83, rg_112_84, rg_112_85, rg_112_86, rg_112_90, rg_112_91, rg_112_92, ex5, Option.toList_some, Option.toList_none, List.cons_append, List.nil_append, true_and, and_true, nI_1, p_at, p_set, p_isIn, p_max, p_min, p_abs, c2, if_true]
theorem out160 (h : ¬ rng x 1 60) : x < 1 ∨ (¬ x < 1 ∧ ¬ x ≤ 60) := by
  by_cases e1 : x < 1
  · exact Or.inl e1
  · exact Or.inr ⟨e1, fun k => h ⟨Int32.le_iff_toInt_le.mp (Int32.not_lt.mp e1), Int32.le_iff_toInt_le.mp k⟩⟩
theorem in160 (h : rng x 1 60) : (¬ x < 1) ∧ x ≤ 60 ∧ ∃ n, 0 < n ∧ n ≤ 60 ∧ x = nI n := by
  obtain ⟨n, a, b, c⟩ := rng_ex h (by decide)
  refine ⟨?_, ?_, n, by omega, by omega, c⟩
  · rw [c, show (1 : Int32) = nI 1 from rfl]; exact nI_nlt (by omega) (by omega)
  · rw [c, show (60 : Int32) = nI 60 from rfl]; exact nI_le (by omega) (by omega)
theorem st_rest (hT : Tw nw S U) (hso : so = S + 9) (hG : GC I S so N NS NH M P V) (hM : GM I Lm N NS NH M P V) (hW : GW N NS NH M P V) : StQ L xs I Lm nw sp s2 ai S U so N NS NH M P 127 [.ref 0, .int x] 245 [.ref 112, .int x] := by
  have hB : SB nw sp s2 ai S so := twSo hT hso
  have hs := hB.1
  obtain ⟨hC, hMo, hPr, hNm, hWk, h11, -⟩ := id hG
  obtain ⟨hWV, hMW, ⟨hN, hNS, hNH, hM6, hP6⟩, hPW, hKW, hVW⟩ := id hW
  have hS := tw_S hT; have hU := tw_U hT
  by_cases c : rng x 1 60
  · obtain ⟨x1, x2, n, n0, n60, rfl⟩ := in160 c
    have key : ∀ k, k ≤ n → ∀ J, CR J S so N NS NH (itV N M V k) → Fh S I J → ∃ J', (∀ r, Ev L xs 5 127 15 [some (.ref 0), some (.int (nI n)), some (.int (nI (k + 1)))] [] (179, J, Lm, RG nw sp s2 ai) r ↔ r = (some (.int (rsV N M V (n - k) k)), 179, J', Lm, RG nw sp s2 ai)) ∧ CR J' S so N NS NH (itV N M V n) ∧ Fh S I J' := by
      refine up_ind ?_ ?_
      · intro J hC1 hF
        refine ⟨J, fun r => ?_, hC1, hF⟩
        have hl : (nI n < nI (n + 1)) = True := eq_true (nI_lt (by omega) (by omega))
        rw [x127_15, Nat.sub_self]
        simp only [x127_0, x127_1, x127_2, x127_5, x127_6, x127_8, x127_11, x127_12, x127_13, x127_14, x127_16, x127_17, x127_20, x127_21, x127_24, x127_27, x127_30, x127_33, x127_34, x127_35, x127_38, x127_41, x127_43, hl, if_true, rsV]
      · intro k hk ih J hC1 hF
        have hM1 : J S 6 = nI M := by rw [hF S (by omega) (by omega) (by omega)]; exact hMo
        obtain ⟨G, g1, g2, g3⟩ := c_changes (L := L) (xs := xs) (Lm := Lm) hB hC1 (itV_WV (N := N) (M := M) hWV hM6 k) hM1 hM6
        have hl : (nI n < nI (k + 1)) = False := eq_false (nI_nlt (by omega) (by omega))
        have e : rsV N M V (n - k) k = if rdC N M (itV N M V k) N = 0 then nI (k + 1) else rsV N M V (n - (k + 1)) (k + 1) := by
          rw [show n - k = (n - (k + 1)) + 1 by omega]; rfl
        by_cases d : rdC N M (itV N M V k) N = 0
        · refine ⟨G, fun r => ?_, ?_, hF.tr g3⟩
          · rw [x127_15, e, if_pos d]
            simp only [x127_0, x127_1, x127_2, x127_5, x127_6, x127_8, x127_11, x127_12, x127_13, x127_14, x127_16, x127_17, x127_20, x127_21, x127_24, x127_27, x127_30, x127_33, x127_34, x127_35, x127_38, x127_41, x127_43, sh_s, lq_s, sh_s1, lq_s1, sh_s2, lq_s2, sh_s3, lq_s3, sh_s4, lq_s4, sh_s5, lq_s5, sh_s6, lq_s6, sh_s7, lq_s7, sh_s8, lq_s8, sh_s9, lq_s9, sh_s10, lq_s10, sh_s11, lq_s11, sh_s12, lq_s12, sh_s13, lq_s13, sh_s14, lq_s14, sh_s15, lq_s15, sh_s16, lq_s16, sh_s17, lq_s17, sh_s18, lq_s18, sh_s19, lq_s19, sh_s20, lq_s20, sh_s21, lq_s21, sh_s22, lq_s22, sh_s23, lq_s23, sh_s24, lq_s24, sh_s25, lq_s25, rg_s0_0, rg_s0_1, rg_s0_2, rg_s0_3, rg_s1_0, rg_s1_1, rg_s1_2, rg_s1_3, rg_s1_4, rg_s7_0, rg_s9_0, rg_s9_1, rg_s9_2, rg_s9_3, rg_s9_4, rg_s9_5, rg_s16_6, rg_s16_7, rg_s16_0, rg_s16_1, rg_s16_2, rg_s16_3, rg_s16_4, rg_s16_5, sh_o, lq_o, sh_o1, lq_o1, sh_o2, lq_o2, sh_o3, lq_o3, sh_o4, lq_o4, sh_o5, lq_o5, sh_o6, lq_o6, rg_o0, rg_o1, rg_o2, rg_o3, rg_o4, rg_o5, rg_0_now, rg_0_spare, rg_0_0, rg_0_1, rg_0_2, rg_0_6, rg_tw0 hT, rg_tw1 hT, sh_tw hT, lq_tw hT, sh_0, sh_1, sh_2, sh_3, sh_4, sh_5, sh_6, sh_7, sh_8, sh_9, sh_10, lq_0, lq_1, lq_2, lq_3, lq_4, lq_5, lq_6, lq_7, lq_8, lq_9, lq_10, rg_3_0, rg_3_1, rg_3_2, rg_3_3, rg_3_4, rg_3_5, rg_3_6, p_at (n := 179) lz_1 ly_1, p_set (n := 179) lz_1 ly_1, p_at (n := 179) lz_2 ly_2, p_set (n := 179) lz_2 ly_2, p_at (n := 179) lz_4 ly_4, p_set (n := 179) lz_4 ly_4, p_at (n := 179) lz_5 ly_5, p_set (n := 179) lz_5 ly_5, p_at (n := 179) lz_6 ly_6, p_set (n := 179) lz_6 ly_6, p_at (n := 179) lz_7 ly_7, p_set (n := 179) lz_7 ly_7, p_at (n := 179) lz_8 ly_8, p_set (n := 179) lz_8 ly_8, p_at (n := 179) lz_9 ly_9, p_set (n := 179) lz_9 ly_9, p_at (n := 179) lz_10 ly_10, p_set (n := 179) lz_10 ly_10, ex5, Option.toList_some, Option.toList_none, List.cons_append, List.nil_append, true_and, and_true, nI_1, p_at, p_set, p_isIn, p_max, p_min, p_abs, hs, hl, if_false, g1, d, if_true]
          · have hfx := rdC_fix (N := N) (M := M) (V := itV N M V k) N d
            have e60 := itV_add (N := N) (M := M) (V := V) k (n - k)
            rw [show k + (n - k) = n by omega, itV_fix hfx] at e60
            rw [e60]; rw [hfx] at g2; exact g2
        · obtain ⟨J', j1, j2⟩ := ih G g2 (hF.tr g3)
          refine ⟨J', fun r => ?_, j2⟩
          rw [x127_15, e, if_neg d]
          simp only [x127_0, x127_1, x127_2, x127_5, x127_6, x127_8, x127_11, x127_12, x127_13, x127_14, x127_16, x127_17, x127_20, x127_21, x127_24, x127_27, x127_30, x127_33, x127_34, x127_35, x127_38, x127_41, x127_43, sh_s, lq_s, sh_s1, lq_s1, sh_s2, lq_s2, sh_s3, lq_s3, sh_s4, lq_s4, sh_s5, lq_s5, sh_s6, lq_s6, sh_s7, lq_s7, sh_s8, lq_s8, sh_s9, lq_s9, sh_s10, lq_s10, sh_s11, lq_s11, sh_s12, lq_s12, sh_s13, lq_s13, sh_s14, lq_s14, sh_s15, lq_s15, sh_s16, lq_s16, sh_s17, lq_s17, sh_s18, lq_s18, sh_s19, lq_s19, sh_s20, lq_s20, sh_s21, lq_s21, sh_s22, lq_s22, sh_s23, lq_s23, sh_s24, lq_s24, sh_s25, lq_s25, rg_s0_0, rg_s0_1, rg_s0_2, rg_s0_3, rg_s1_0, rg_s1_1, rg_s1_2, rg_s1_3, rg_s1_4, rg_s7_0, rg_s9_0, rg_s9_1, rg_s9_2, rg_s9_3, rg_s9_4, rg_s9_5, rg_s16_6, rg_s16_7, rg_s16_0, rg_s16_1, rg_s16_2, rg_s16_3, rg_s16_4, rg_s16_5, sh_o, lq_o, sh_o1, lq_o1, sh_o2, lq_o2, sh_o3, lq_o3, sh_o4, lq_o4, sh_o5, lq_o5, sh_o6, lq_o6, rg_o0, rg_o1, rg_o2, rg_o3, rg_o4, rg_o5, rg_0_now, rg_0_spare, rg_0_0, rg_0_1, rg_0_2, rg_0_6, rg_tw0 hT, rg_tw1 hT, sh_tw hT, lq_tw hT, sh_0, sh_1, sh_2, sh_3, sh_4, sh_5, sh_6, sh_7, sh_8, sh_9, sh_10, lq_0, lq_1, lq_2, lq_3, lq_4, lq_5, lq_6, lq_7, lq_8, lq_9, lq_10, rg_3_0, rg_3_1, rg_3_2, rg_3_3, rg_3_4, rg_3_5, rg_3_6, p_at (n := 179) lz_1 ly_1, p_set (n := 179) lz_1 ly_1, p_at (n := 179) lz_2 ly_2, p_set (n := 179) lz_2 ly_2, p_at (n := 179) lz_4 ly_4, p_set (n := 179) lz_4 ly_4, p_at (n := 179) lz_5 ly_5, p_set (n := 179) lz_5 ly_5, p_at (n := 179) lz_6 ly_6, p_set (n := 179) lz_6 ly_6, p_at (n := 179) lz_7 ly_7, p_set (n := 179) lz_7 ly_7, p_at (n := 179) lz_8 ly_8, p_set (n := 179) lz_8 ly_8, p_at (n := 179) lz_9 ly_9, p_set (n := 179) lz_9 ly_9, p_at (n := 179) lz_10 ly_10, p_set (n := 179) lz_10 ly_10, ex5, Option.toList_some, Option.toList_none, List.cons_append, List.nil_append, true_and, and_true, nI_1, p_at, p_set, p_isIn, p_max, p_min, p_abs, hs, hl, if_false, g1, d]
          exact j1 r
    obtain ⟨J, j1, j2, j3⟩ := key 0 (Nat.zero_le _) I hC Fh.rf
    have hVo : ∀ f, 13 ≤ f → itV N M V n f = V f := fun f hf => itV_of n f (by omega)
    have hG2 := gcV hT hso hG j2 hVo (fun q _ _ h7 h8 _ h22 _ _ => j3 q h7 h8 h22) (by rw [j3 11 (by omega) (by omega) (by omega)])
    have hM2 := gmSame hN hM (fun q hq => j3 q (by omega) (by omega) (by omega))
    obtain ⟨G, g1, g2, g3, g4⟩ := r_rounds (L := L) (xs := xs) (Lm := Lm) (nw := nw) (sp := sp) (s2 := s2) (ai := ai) (n := n) hM2.1 hWV hMW hM2.2.2.1 hM6 n60
    have hM3 := gmV hM2 g2 hVo (fun q _ _ h165 _ => g3 q h165)
    have hG3 := gcSame hT hso hG2 (J := G) (fun q hq => g3 q (by omega))
    refine ⟨rsV N M V n 0, J, G, Lm, s2, itV N M V n, fun r => ?_, fun r => ?_, hG3, hM3, gwV hW (itV_WV hWV hM6 n) (itV_of n 3 (by decide)) hVo (itV_M hM6 hVW.2 n), ⟨fun q hq => ?_, fun k hk => ?_⟩⟩
    · have j1 := j1 r
      rw [em_127]
      simp only [x127_0, x127_1, x127_2, x127_5, x127_6, x127_8, x127_11, x127_12, x127_13, x127_14, x127_16, x127_17, x127_20, x127_21, x127_24, x127_27, x127_30, x127_33, x127_34, x127_35, x127_38, x127_41, x127_43, x1, x2, if_false, if_true]
      exact j1
    · rw [em_245]
      simp only [x245_0, x245_1, x245_2, x245_3, x245_6, x245_9, x245_12, x245_13, x245_14, x245_17, x245_20, x245_21, sh_112, sh_113, sh_114, sh_115, sh_116, sh_117, sh_118, sh_119, sh_120, sh_121, sh_122, sh_123, sh_124, sh_125, sh_126, sh_127, sh_128, sh_129, sh_130, sh_131, sh_132, sh_133, sh_134, sh_135, sh_136, sh_137, sh_138, sh_139, sh_140, sh_141, sh_142, sh_143, sh_144, sh_145, sh_146, sh_147, sh_148, sh_149, sh_150, sh_151, sh_152, sh_153, sh_154, sh_155, sh_156, sh_157, sh_158, sh_159, sh_160, sh_161, sh_162, sh_163, sh_164, sh_165, sh_166, sh_167, sh_168, sh_169, sh_170, sh_171, sh_172, sh_173, sh_174, sh_175, sh_176, sh_177, sh_178, lq_112, lq_113, lq_114, lq_115, lq_116, lq_117, lq_118, lq_119, lq_120, lq_121, lq_122, lq_123, lq_124, lq_125, lq_126, lq_127, lq_128, lq_129, lq_130, lq_131, lq_132, lq_133, lq_134, lq_135, lq_136, lq_137, lq_138, lq_139, lq_140, lq_141, lq_142, lq_143, lq_144, lq_145, lq_146, lq_147, lq_148, lq_149, lq_150, lq_151, lq_152, lq_153, lq_154, lq_155, lq_156, lq_157, lq_158, lq_159, lq_160, lq_161, lq_162, lq_163, lq_164, lq_165, lq_166, lq_167, lq_168, lq_169, lq_170, lq_171, lq_172, lq_173, lq_174, lq_175, lq_176, lq_177, lq_178, rg_112_0, rg_112_9, rg_112_10, rg_112_11, rg_112_12, rg_112_13, rg_112_14, rg_112_15, rg_112_16, rg_112_17, rg_112_18, rg_112_19, rg_112_20, rg_112_21, rg_112_22, rg_112_23, rg_112_24, rg_112_25, rg_112_26, rg_112_27, rg_112_28, rg_112_29, rg_112_30, rg_112_31, rg_112_32, rg_112_33, rg_112_34, rg_112_35, rg_112_36, rg_112_37, rg_112_38, rg_112_39, rg_112_40, rg_112_41, rg_112_43, rg_112_44, rg_112_45, rg_112_46, rg_112_47, rg_112_48, rg_112_49, rg_112_51, rg_112_55, rg_112_57, rg_112_60, rg_112_61, rg_112_62, rg_112_63, rg_112_64, rg_112_66, rg_112_67, rg_112_68, rg_112_69, rg_112_70, rg_112_71, rg_112_72, rg_112_73, rg_112_74, rg_112_80, rg_112_83, rg_112_84, rg_112_85, rg_112_86, rg_112_90, rg_112_91, rg_112_92, ex5, Option.toList_some, Option.toList_none, List.cons_append, List.nil_append, true_and, and_true, nI_1, p_at, p_set, p_isIn, p_max, p_min, p_abs, r_isInR1 (x := nI n) (u1 := 1) (u2 := 60) rfl rfl c, one_ne, if_false, g1]
    · rw [g3 q (by omega)]; exact j3 q (by omega) (by omega) (by omega)
    · rw [g3 112 (by decide), j3 112 (by omega) (by omega) (by omega)]
  · refine stOfPr hT hso hG hM hW ⟨-1, I, I, s2, fun r => ?_, fun r => ?_, scrRf, mscRf⟩
    · rw [em_127]
      rcases out160 c with e | ⟨e, e2⟩
      · simp only [x127_0, x127_1, x127_2, x127_5, x127_6, x127_8, x127_11, x127_12, x127_13, x127_14, x127_16, x127_17, x127_20, x127_21, x127_24, x127_27, x127_30, x127_33, x127_34, x127_35, x127_38, x127_41, x127_43, e, if_true]
      · simp only [x127_0, x127_1, x127_2, x127_5, x127_6, x127_8, x127_11, x127_12, x127_13, x127_14, x127_16, x127_17, x127_20, x127_21, x127_24, x127_27, x127_30, x127_33, x127_34, x127_35, x127_38, x127_41, x127_43, e, e2, if_false]
    · rw [em_245]
      simp only [x245_0, x245_1, x245_2, x245_3, x245_6, x245_9, x245_12, x245_13, x245_14, x245_17, x245_20, x245_21, sh_112, sh_113, sh_114, sh_115, sh_116, sh_117, sh_118, sh_119, sh_120, sh_121, sh_122, sh_123, sh_124, sh_125, sh_126, sh_127, sh_128, sh_129, sh_130, sh_131, sh_132, sh_133, sh_134, sh_135, sh_136, sh_137, sh_138, sh_139, sh_140, sh_141, sh_142, sh_143, sh_144, sh_145, sh_146, sh_147, sh_148, sh_149, sh_150, sh_151, sh_152, sh_153, sh_154, sh_155, sh_156, sh_157, sh_158, sh_159, sh_160, sh_161, sh_162, sh_163, sh_164, sh_165, sh_166, sh_167, sh_168, sh_169, sh_170, sh_171, sh_172, sh_173, sh_174, sh_175, sh_176, sh_177, sh_178, lq_112, lq_113, lq_114, lq_115, lq_116, lq_117, lq_118, lq_119, lq_120, lq_121, lq_122, lq_123, lq_124, lq_125, lq_126, lq_127, lq_128, lq_129, lq_130, lq_131, lq_132, lq_133, lq_134, lq_135, lq_136, lq_137, lq_138, lq_139, lq_140, lq_141, lq_142, lq_143, lq_144, lq_145, lq_146, lq_147, lq_148, lq_149, lq_150, lq_151, lq_152, lq_153, lq_154, lq_155, lq_156, lq_157, lq_158, lq_159, lq_160, lq_161, lq_162, lq_163, lq_164, lq_165, lq_166, lq_167, lq_168, lq_169, lq_170, lq_171, lq_172, lq_173, lq_174, lq_175, lq_176, lq_177, lq_178, rg_112_0, rg_112_9, rg_112_10, rg_112_11, rg_112_12, rg_112_13, rg_112_14, rg_112_15, rg_112_16, rg_112_17, rg_112_18, rg_112_19, rg_112_20, rg_112_21, rg_112_22, rg_112_23, rg_112_24, rg_112_25, rg_112_26, rg_112_27, rg_112_28, rg_112_29, rg_112_30, rg_112_31, rg_112_32, rg_112_33, rg_112_34, rg_112_35, rg_112_36, rg_112_37, rg_112_38, rg_112_39, rg_112_40, rg_112_41, rg_112_43, rg_112_44, rg_112_45, rg_112_46, rg_112_47, rg_112_48, rg_112_49, rg_112_51, rg_112_55, rg_112_57, rg_112_60, rg_112_61, rg_112_62, rg_112_63, rg_112_64, rg_112_66, rg_112_67, rg_112_68, rg_112_69, rg_112_70, rg_112_71, rg_112_72, rg_112_73, rg_112_74, rg_112_80, rg_112_83, rg_112_84, rg_112_85, rg_112_86, rg_112_90, rg_112_91, rg_112_92, ex5, Option.toList_some, Option.toList_none, List.cons_append, List.nil_append, true_and, and_true, nI_1, p_at, p_set, p_isIn, p_max, p_min, p_abs, r_isInR0 (x := x) (u1 := 1) (u2 := 60) rfl rfl c, if_true]
end
