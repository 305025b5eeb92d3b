section
variable {L : Nat} {xs : Nat → Int32} {σ : Mm} {r : Option Value × Mm} {I J : Nat → Nat → Int32} {Lm : Nat → Nat → Int64} {Rm : Nat → Nat → Nat} {n s so N NS NH m : Nat} {V : Vw} {nw sp s2 ai p : Nat} {x y h b t e w v : Int32}
theorem oN_le (V : Vw) (p : Nat) (h : Int32) : ∀ q, oN V p h q ≤ q ∧ (p < q → oN V p h q < q)
  | 0 => ⟨Nat.le_refl 0, fun k => absurd k (Nat.not_lt_zero p)⟩
  | q + 1 => by
    obtain ⟨a, b⟩ := oN_le V p h q
    by_cases k : oC V p h q
    · have e1 : oN V p h (q + 1) = oN V p h q + 1 := by simp only [oN, if_pos k]
      have k1 := k.1
      rw [e1]
      exact ⟨by omega, fun c => by have := b (by omega); omega⟩
    · have e1 : oN V p h (q + 1) = oN V p h q := by simp only [oN, if_neg k]
      rw [e1]
      exact ⟨by omega, fun c => by omega⟩
def wiM (V : Vw) (N p : Nat) (h : Int32) : Nat := if h < 0 then 0 else oN V p h N
def wiG (s : Nat) (V : Vw) (N p : Nat) (h : Int32) (I : Nat → Nat → Int32) : Nat → Nat → Int32 := if h < 0 then gI0 s V p h I else gJ s V p h I N
theorem wiG_3 : wiG s V N p h I (s + 7) 3 = nI (wiM V N p h) := by
  unfold wiG wiM
  by_cases c : h < 0
  · rw [if_pos c, if_pos c]; simp [gI0, up2, nI_0]
  · rw [if_neg c, if_neg c]; exact (gJ_f (s := s) (V := V) (p := p) (h := h) (I := I) N).1
theorem wiG_fr : Fr s I (wiG s V N p h I) := by
  unfold wiG
  split
  · exact gI0_fr
  · exact gJ_fr N
theorem rowJ_fr (hF : Fr s I J) : Fr s I (rowJ s m J e) := of_eq_true (Fr_s8 hF)
theorem wwJ_fr (hF : Fr s I J) : Fr s I (wwJ s m J x) := by
  unfold wwJ
  split
  · split
    · exact rowJ_fr hF
    · exact hF
  · exact hF
/-- the worth to p of x hours in h -/
def wiV (s : Nat) (V : Vw) (N p : Nat) (x h : Int32) (I : Nat → Nat → Int32) : Int32 := wwV s (wiM V N p h) (wiG s V N p h I) x
def wiJ (s : Nat) (V : Vw) (N p : Nat) (x h : Int32) (I : Nat → Nat → Int32) : Nat → Nat → Int32 := wwJ s (wiM V N p h) (wiG s V N p h I) x
theorem wiJ_fr : Fr s I (wiJ s V N p x h I) := wwJ_fr wiG_fr
theorem c_worthIn (hB : SB nw sp s2 ai s so) (hC : CR I s so N NS NH V) (hW : WV V N NS NH) (hp : p < N) (hh : h < 0 ∨ inb h NH) : Em L xs 71 [.ref s, .int (nI p), .int x, .int h] (179, I, Lm, RG nw sp s2 ai) r ↔ r = (some (.int (wiV s V N p x h I)), 179, wiJ s V N p x h I, Lm, RG nw sp s2 ai) := by
  have hN := hC.2.1.1; have hN2 := wd_le s
  rw [em_71]
  obtain ⟨hs, ho, hq⟩ := id hB
  have hm : wiM V N p h < 20 := by
    unfold wiM
    have := (oN_le V p h N).2 hp
    split <;> omega
  have hg : (if h < 0 then gI0 s V p h I else gJ s V p h I N) = wiG s V N p h I := rfl
  simp only [x71_0, x71_1, x71_4, x71_5, x71_6, x71_7, x71_10, x71_11, x71_14, x71_15, x71_18, sh_s, lq_s, sh_s1, lq_s1, sh_s2, lq_s2, sh_s3, lq_s3, sh_s4, lq_s4, sh_s5, lq_s5, sh_s6, lq_s6, sh_s7, lq_s7, sh_s8, lq_s8, sh_s9, lq_s9, sh_s10, lq_s10, sh_s11, lq_s11, sh_s12, lq_s12, sh_s13, lq_s13, sh_s14, lq_s14, sh_s15, lq_s15, sh_s16, lq_s16, sh_s17, lq_s17, sh_s18, lq_s18, sh_s19, lq_s19, sh_s20, lq_s20, sh_s21, lq_s21, sh_s22, lq_s22, sh_s23, lq_s23, sh_s24, lq_s24, sh_s25, lq_s25, rg_s0_0, rg_s0_1, rg_s0_2, rg_s0_3, rg_s1_0, rg_s1_1, rg_s1_2, rg_s1_3, rg_s1_4, rg_s7_0, rg_s9_0, rg_s9_1, rg_s9_2, rg_s9_3, rg_s9_4, rg_s9_5, rg_s16_6, rg_s16_7, rg_s16_0, rg_s16_1, rg_s16_2, rg_s16_3, rg_s16_4, rg_s16_5, sh_o, lq_o, sh_o1, lq_o1, sh_o2, lq_o2, sh_o3, lq_o3, sh_o4, lq_o4, sh_o5, lq_o5, sh_o6, lq_o6, rg_o0, rg_o1, rg_o2, rg_o3, rg_o4, rg_o5, ex5, Option.toList_some, Option.toList_none, List.cons_append, List.nil_append, true_and, and_true, nI_1, p_at, p_set, p_isIn, p_max, p_min, p_abs, hs, c_gather hB hC hW hp hh, hg, c_worthWith hs hm wiG_3, wiV, wiJ]
theorem c_worthNow (hB : SB nw sp s2 ai s so) (hC : CR I s so N NS NH V) (hW : WV V N NS NH) (hp : p < N) : Em L xs 72 [.ref s, .int (nI p)] (179, I, Lm, RG nw sp s2 ai) r ↔ r = (some (.int (wiV s V N p (V 2 p) (V 1 p) I)), 179, wiJ s V N p (V 2 p) (V 1 p) I, Lm, RG nw sp s2 ai) := by
  rw [em_72]
  obtain ⟨hs, ho, hq⟩ := id hB
  have hh : V 1 p < 0 ∨ inb (V 1 p) NH := (hW.1 p hp).2.1.imp (fun k => by rw [k]; decide) id
  simp only [x72_0, x72_1, x72_2, x72_3, x72_6, x72_9, x72_10, x72_13, x72_14, x72_17, x72_20, x72_21, x72_24, x72_27, sh_s, lq_s, sh_s1, lq_s1, sh_s2, lq_s2, sh_s3, lq_s3, sh_s4, lq_s4, sh_s5, lq_s5, sh_s6, lq_s6, sh_s7, lq_s7, sh_s8, lq_s8, sh_s9, lq_s9, sh_s10, lq_s10, sh_s11, lq_s11, sh_s12, lq_s12, sh_s13, lq_s13, sh_s14, lq_s14, sh_s15, lq_s15, sh_s16, lq_s16, sh_s17, lq_s17, sh_s18, lq_s18, sh_s19, lq_s19, sh_s20, lq_s20, sh_s21, lq_s21, sh_s22, lq_s22, sh_s23, lq_s23, sh_s24, lq_s24, sh_s25, lq_s25, rg_s0_0, rg_s0_1, rg_s0_2, rg_s0_3, rg_s1_0, rg_s1_1, rg_s1_2, rg_s1_3, rg_s1_4, rg_s7_0, rg_s9_0, rg_s9_1, rg_s9_2, rg_s9_3, rg_s9_4, rg_s9_5, rg_s16_6, rg_s16_7, rg_s16_0, rg_s16_1, rg_s16_2, rg_s16_3, rg_s16_4, rg_s16_5, sh_o, lq_o, sh_o1, lq_o1, sh_o2, lq_o2, sh_o3, lq_o3, sh_o4, lq_o4, sh_o5, lq_o5, sh_o6, lq_o6, rg_o0, rg_o1, rg_o2, rg_o3, rg_o4, rg_o5, ex5, Option.toList_some, Option.toList_none, List.cons_append, List.nil_append, true_and, and_true, nI_1, p_at, p_set, p_isIn, p_max, p_min, p_abs, hs, a_hrs hB hC hp, a_hat hB hC hp, c_worthIn hB hC hW hp hh]
end
