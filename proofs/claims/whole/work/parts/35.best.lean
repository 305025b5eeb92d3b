section
variable {L : Nat} {xs : Nat → Int32} {σ : Mm} {r : Option Value × Mm} {I J J0 : Nat → Nat → Int32} {Lm : Nat → Nat → Int64} {Rm : Nat → Nat → Nat} {n s so N NS NH m M : Nat} {V : Vw} {nw sp s2 ai p : Nat} {x y h b t e w v : Int32}
theorem nI_gt {a b : Nat} (ha : a < 2 ^ 31) (hb : b < 2 ^ 31) : (nI a < nI b) = (a < b) := by
  apply propext
  rw [Int32.lt_iff_toInt_lt, nI_toInt ha, nI_toInt hb]
  omega
/-- J holds the same gathered company as J0 -/
def Ga (s m : Nat) (J0 J : Nat → Nat → Int32) : Prop := J (s + 7) = J0 (s + 7) ∧ ∀ i, i < m → J (s + 8) i = J0 (s + 8) i
theorem rowJ_ga (hs : Sc s) (hm : m < 20) (hG : Ga s m J0 J) : Ga s m J0 (rowJ s m J e) := by
  refine ⟨(funext fun k => setv_p (ne78 s)).trans hG.1, fun i hi => ?_⟩
  have hin : inb (nI m) (shp (s + 8)).2 := by rw [sh_s8 hs]; exact inb_nI (by show m < 20; omega) (by decide)
  rw [← hG.2 i hi]
  unfold rowJ setv
  rw [if_pos hin, ixn_nI (by omega)]
  exact up2_k (by omega)
theorem wwJ_ga (hs : Sc s) (hm : m < 20) (hG : Ga s m J0 J) : Ga s m J0 (wwJ s m J x) := by
  unfold wwJ
  split
  · split
    · exact rowJ_ga hs hm hG
    · exact hG
  · exact hG
theorem wwV_ga (hs : Sc s) (hm : m < 20) (hG : Ga s m J0 J) : wwV s m J x = wwV s m J0 x := by
  have hin : inb (nI m) (shp (s + 8)).2 := by rw [sh_s8 hs]; exact inb_nI (by show m < 20; omega) (by decide)
  have hsp : ∀ e w, sprW s m J e w = sprW s m J0 e w := by
    intro e w
    unfold sprW
    congr 1
    refine sg_cong fun i hi => ?_
    have e1 : rowJ s m J e (s + 8) i = rowJ s m J0 e (s + 8) i := by
      unfold rowJ setv
      rw [if_pos hin, if_pos hin, ixn_nI (by omega)]
      by_cases c : i = m
      · rw [c, up2_eq, up2_eq]
      · rw [up2_k c, up2_k c]; exact hG.2 i (by omega)
    rw [e1]
  simp only [wwV, hG.1, hsp]
/-- the best hours of 0..k and their worth, the least of equals -/
def bh (f : Int32 → Int32) : Nat → Int32 × Int32
  | 0 => (0, f 0)
  | k + 1 => if f (nI (k + 1)) ≤ (bh f k).2 then bh f k else (nI (k + 1), f (nI (k + 1)))
def bhJ (s m : Nat) (G : Nat → Nat → Int32) : Nat → Nat → Nat → Int32
  | 0 => wwJ s m G 0
  | k + 1 => wwJ s m (bhJ s m G k) (nI (k + 1))
theorem bhJ_ga (hs : Sc s) (hm : m < 20) : ∀ k, Ga s m J0 (bhJ s m J0 k)
  | 0 => wwJ_ga hs hm ⟨rfl, fun _ _ => rfl⟩
  | k + 1 => wwJ_ga hs hm (bhJ_ga hs hm k)
theorem bhJ_fr (hF : Fr s I J0) : ∀ k, Fr s I (bhJ s m J0 k)
  | 0 => wwJ_fr hF
  | k + 1 => wwJ_fr (bhJ_fr hF k)
theorem f_best (hB : SB nw sp s2 ai s so) (hC : CR I s so N NS NH V) (hW : WV V N NS NH) (hp : p < N) (hh : h < 0 ∨ inb h NH) (hM : I s 6 = nI M) (hM2 : M ≤ 60) (hF : Fr s I J) : Em L xs 77 [.ref s, .int (nI p), .int h] (179, J, Lm, RG nw sp s2 ai) r ↔ r = (some (.int (bh (fun x => wV V N p x h) M).1), 179, bhJ s (wiM V N p h) (wiG s V N p h J) M, Lm, RG nw sp s2 ai) := by
  have hN := hC.2.1.1; have hN2 := wd_le s
  have hC1 := hC.fr hB hF
  rw [em_77]
  obtain ⟨hs, ho, hq⟩ := id hB
  have hm : wiM V N p h < 20 := by
    unfold wiM
    have := (oN_le V p h N).2 hp
    split <;> omega
  have hG0 : Fr s I (wiG s V N p h J) := hF.tr wiG_fr
  have hww : ∀ {K : Nat → Nat → Int32} {x : Int32}, Ga s (wiM V N p h) (wiG s V N p h J) K → ∀ r, (Em L xs 4 [.ref (s + 7), .int x] (179, K, Lm, RG nw sp s2 ai) r ↔ r = (some (.int (wV V N p x h)), 179, wwJ s (wiM V N p h) K x, Lm, RG nw sp s2 ai)) := by
    intro K x hK r
    have e := wiV_eq (V := V) (x := x) (h := h) (I := J) hs (by omega : N ≤ 20) hp
    rw [c_worthWith hs hm (by rw [hK.1]; exact wiG_3), wwV_ga hs hm hK, ← e, wiV]
  have key : ∀ k, k ≤ M → ∀ w, (Ev L xs 3 77 25 [some (.ref s), some (.int (nI p)), some (.int h), some (.int (bh (fun x => wV V N p x h) k).1), some (.int (bh (fun x => wV V N p x h) k).2), some (.int (nI (k + 1))), w] [] (179, bhJ s (wiM V N p h) (wiG s V N p h J) k, Lm, RG nw sp s2 ai) r ↔ r = (some (.int (bh (fun x => wV V N p x h) M).1), 179, bhJ s (wiM V N p h) (wiG s V N p h J) M, Lm, RG nw sp s2 ai)) := by
    refine up_ind ?_ ?_
    · intro w
      rw [x77_25]
      have h6 : bhJ s (wiM V N p h) (wiG s V N p h J) M s 6 = nI M := by rw [bhJ_fr hG0 M s (by omega) (by omega)]; exact hM
      have hlt : (nI M < nI (M + 1)) = True := by rw [nI_gt (by omega) (by omega)]; exact eq_true (by omega)
      simp only [x77_0, x77_1, x77_4, x77_5, x77_6, x77_7, x77_10, x77_11, x77_12, x77_13, x77_16, x77_17, x77_20, x77_22, x77_23, x77_27, x77_28, x77_31, x77_34, x77_35, x77_38, x77_40, x77_43, x77_45, x77_47, x77_49, x77_52, x77_54, x77_55, x77_57, x77_59, x77_62, x77_65, x77_66, sh_s, lq_s, sh_s1, lq_s1, sh_s2, lq_s2, sh_s3, lq_s3, sh_s4, lq_s4, sh_s5, lq_s5, sh_s6, lq_s6, sh_s7, lq_s7, sh_s8, lq_s8, sh_s9, lq_s9, sh_s10, lq_s10, sh_s11, lq_s11, sh_s12, lq_s12, sh_s13, lq_s13, sh_s14, lq_s14, sh_s15, lq_s15, sh_s16, lq_s16, sh_s17, lq_s17, sh_s18, lq_s18, sh_s19, lq_s19, sh_s20, lq_s20, sh_s21, lq_s21, sh_s22, lq_s22, sh_s23, lq_s23, sh_s24, lq_s24, sh_s25, lq_s25, rg_s0_0, rg_s0_1, rg_s0_2, rg_s0_3, rg_s1_0, rg_s1_1, rg_s1_2, rg_s1_3, rg_s1_4, rg_s7_0, rg_s9_0, rg_s9_1, rg_s9_2, rg_s9_3, rg_s9_4, rg_s9_5, rg_s16_6, rg_s16_7, rg_s16_0, rg_s16_1, rg_s16_2, rg_s16_3, rg_s16_4, rg_s16_5, sh_o, lq_o, sh_o1, lq_o1, sh_o2, lq_o2, sh_o3, lq_o3, sh_o4, lq_o4, sh_o5, lq_o5, sh_o6, lq_o6, rg_o0, rg_o1, rg_o2, rg_o3, rg_o4, rg_o5, ex5, Option.toList_some, Option.toList_none, List.cons_append, List.nil_append, true_and, and_true, nI_1, p_at, p_set, p_isIn, p_max, p_min, p_abs, hs, h6, hlt, if_true]
    · intro k hk ih w
      rw [x77_25]
      have h6 : bhJ s (wiM V N p h) (wiG s V N p h J) k s 6 = nI M := by rw [bhJ_fr hG0 k s (by omega) (by omega)]; exact hM
      have hlt : (nI M < nI (k + 1)) = False := by rw [nI_gt (by omega) (by omega)]; exact eq_false (by omega)
      have hw1 := fun r => hww (x := nI (k + 1)) (bhJ_ga hs hm k) r
      by_cases c : wV V N p (nI (k + 1)) h ≤ (bh (fun x => wV V N p x h) k).2
      · have e1 : bh (fun x => wV V N p x h) (k + 1) = bh (fun x => wV V N p x h) k := by simp only [bh, if_pos c]
        rw [e1] at ih
        simp only [x77_0, x77_1, x77_4, x77_5, x77_6, x77_7, x77_10, x77_11, x77_12, x77_13, x77_16, x77_17, x77_20, x77_22, x77_23, x77_27, x77_28, x77_31, x77_34, x77_35, x77_38, x77_40, x77_43, x77_45, x77_47, x77_49, x77_52, x77_54, x77_55, x77_57, x77_59, x77_62, x77_65, x77_66, sh_s, lq_s, sh_s1, lq_s1, sh_s2, lq_s2, sh_s3, lq_s3, sh_s4, lq_s4, sh_s5, lq_s5, sh_s6, lq_s6, sh_s7, lq_s7, sh_s8, lq_s8, sh_s9, lq_s9, sh_s10, lq_s10, sh_s11, lq_s11, sh_s12, lq_s12, sh_s13, lq_s13, sh_s14, lq_s14, sh_s15, lq_s15, sh_s16, lq_s16, sh_s17, lq_s17, sh_s18, lq_s18, sh_s19, lq_s19, sh_s20, lq_s20, sh_s21, lq_s21, sh_s22, lq_s22, sh_s23, lq_s23, sh_s24, lq_s24, sh_s25, lq_s25, rg_s0_0, rg_s0_1, rg_s0_2, rg_s0_3, rg_s1_0, rg_s1_1, rg_s1_2, rg_s1_3, rg_s1_4, rg_s7_0, rg_s9_0, rg_s9_1, rg_s9_2, rg_s9_3, rg_s9_4, rg_s9_5, rg_s16_6, rg_s16_7, rg_s16_0, rg_s16_1, rg_s16_2, rg_s16_3, rg_s16_4, rg_s16_5, sh_o, lq_o, sh_o1, lq_o1, sh_o2, lq_o2, sh_o3, lq_o3, sh_o4, lq_o4, sh_o5, lq_o5, sh_o6, lq_o6, rg_o0, rg_o1, rg_o2, rg_o3, rg_o4, rg_o5, ex5, Option.toList_some, Option.toList_none, List.cons_append, List.nil_append, true_and, and_true, nI_1, p_at, p_set, p_isIn, p_max, p_min, p_abs, hs, h6, hlt, if_false, hw1, c, if_true]
        exact ih _
      · have e1 : bh (fun x => wV V N p x h) (k + 1) = (nI (k + 1), wV V N p (nI (k + 1)) h) := by simp only [bh, if_neg c]
        rw [e1] at ih
        simp only [x77_0, x77_1, x77_4, x77_5, x77_6, x77_7, x77_10, x77_11, x77_12, x77_13, x77_16, x77_17, x77_20, x77_22, x77_23, x77_27, x77_28, x77_31, x77_34, x77_35, x77_38, x77_40, x77_43, x77_45, x77_47, x77_49, x77_52, x77_54, x77_55, x77_57, x77_59, x77_62, x77_65, x77_66, sh_s, lq_s, sh_s1, lq_s1, sh_s2, lq_s2, sh_s3, lq_s3, sh_s4, lq_s4, sh_s5, lq_s5, sh_s6, lq_s6, sh_s7, lq_s7, sh_s8, lq_s8, sh_s9, lq_s9, sh_s10, lq_s10, sh_s11, lq_s11, sh_s12, lq_s12, sh_s13, lq_s13, sh_s14, lq_s14, sh_s15, lq_s15, sh_s16, lq_s16, sh_s17, lq_s17, sh_s18, lq_s18, sh_s19, lq_s19, sh_s20, lq_s20, sh_s21, lq_s21, sh_s22, lq_s22, sh_s23, lq_s23, sh_s24, lq_s24, sh_s25, lq_s25, rg_s0_0, rg_s0_1, rg_s0_2, rg_s0_3, rg_s1_0, rg_s1_1, rg_s1_2, rg_s1_3, rg_s1_4, rg_s7_0, rg_s9_0, rg_s9_1, rg_s9_2, rg_s9_3, rg_s9_4, rg_s9_5, rg_s16_6, rg_s16_7, rg_s16_0, rg_s16_1, rg_s16_2, rg_s16_3, rg_s16_4, rg_s16_5, sh_o, lq_o, sh_o1, lq_o1, sh_o2, lq_o2, sh_o3, lq_o3, sh_o4, lq_o4, sh_o5, lq_o5, sh_o6, lq_o6, rg_o0, rg_o1, rg_o2, rg_o3, rg_o4, rg_o5, ex5, Option.toList_some, Option.toList_none, List.cons_append, List.nil_append, true_and, and_true, nI_1, p_at, p_set, p_isIn, p_max, p_min, p_abs, hs, h6, hlt, if_false, hw1, c]
        exact ih _
  have hg : (if h < 0 then gI0 s V p h J else gJ s V p h J N) = wiG s V N p h J := rfl
  have hw0 := fun r => hww (x := 0) (K := wiG s V N p h J) ⟨rfl, fun _ _ => rfl⟩ r
  simp only [x77_0, x77_1, x77_4, x77_5, x77_6, x77_7, x77_10, x77_11, x77_12, x77_13, x77_16, x77_17, x77_20, x77_22, x77_23, x77_27, x77_28, x77_31, x77_34, x77_35, x77_38, x77_40, x77_43, x77_45, x77_47, x77_49, x77_52, x77_54, x77_55, x77_57, x77_59, x77_62, x77_65, x77_66, sh_s, lq_s, sh_s1, lq_s1, sh_s2, lq_s2, sh_s3, lq_s3, sh_s4, lq_s4, sh_s5, lq_s5, sh_s6, lq_s6, sh_s7, lq_s7, sh_s8, lq_s8, sh_s9, lq_s9, sh_s10, lq_s10, sh_s11, lq_s11, sh_s12, lq_s12, sh_s13, lq_s13, sh_s14, lq_s14, sh_s15, lq_s15, sh_s16, lq_s16, sh_s17, lq_s17, sh_s18, lq_s18, sh_s19, lq_s19, sh_s20, lq_s20, sh_s21, lq_s21, sh_s22, lq_s22, sh_s23, lq_s23, sh_s24, lq_s24, sh_s25, lq_s25, rg_s0_0, rg_s0_1, rg_s0_2, rg_s0_3, rg_s1_0, rg_s1_1, rg_s1_2, rg_s1_3, rg_s1_4, rg_s7_0, rg_s9_0, rg_s9_1, rg_s9_2, rg_s9_3, rg_s9_4, rg_s9_5, rg_s16_6, rg_s16_7, rg_s16_0, rg_s16_1, rg_s16_2, rg_s16_3, rg_s16_4, rg_s16_5, sh_o, lq_o, sh_o1, lq_o1, sh_o2, lq_o2, sh_o3, lq_o3, sh_o4, lq_o4, sh_o5, lq_o5, sh_o6, lq_o6, rg_o0, rg_o1, rg_o2, rg_o3, rg_o4, rg_o5, ex5, Option.toList_some, Option.toList_none, List.cons_append, List.nil_append, true_and, and_true, nI_1, p_at, p_set, p_isIn, p_max, p_min, p_abs, hs, c_gather hB hC1 hW hp hh, hg, hw0]
  have hk := key 0 (Nat.zero_le _) none
  have n1 : nI (0 + 1) = 1 := rfl
  rw [n1] at hk
  exact hk
end
