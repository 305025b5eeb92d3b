section
variable {L : Nat} {xs : Nat → Int32} {σ : Mm} {r : Option Value × Mm} {I : Nat → Nat → Int32} {Lm : Nat → Nat → Int64} {s so N NS NH : Nat} {V : Vw} {nw sp s2 ai p : Nat} {x y h : Int32}
theorem c_earned (hB : SB nw sp s2 ai s so) (hC : CR I s so N NS NH V) (hW : WV V N NS NH) (hp : p < N) : Em L xs 64 [.ref s, .int (nI p)] (179, I, Lm, RG nw sp s2 ai) r ↔ r = (some (.int (earnV V p)), 179, I, Lm, RG nw sp s2 ai) := by
  have e1 := a_hrs hB hC hp; have e2 := a_srt hB hC hp; have e3 := a_bri hB hC (hW.1 p hp).1
  obtain ⟨hs, ho, hq⟩ := hB
  rw [em_64]
  simp only [x64_0, x64_1, x64_4, x64_7, x64_8, x64_11, x64_12, x64_15, x64_18, x64_19, x64_22, x64_25, x64_26, x64_29, x64_32, x64_33, sh_s, lq_s, sh_s1, lq_s1, sh_s2, lq_s2, sh_s3, lq_s3, sh_s4, lq_s4, sh_s5, lq_s5, sh_s6, lq_s6, sh_s7, lq_s7, sh_s8, lq_s8, sh_s9, lq_s9, sh_s10, lq_s10, sh_s11, lq_s11, sh_s12, lq_s12, sh_s13, lq_s13, sh_s14, lq_s14, sh_s15, lq_s15, sh_s16, lq_s16, sh_s17, lq_s17, sh_s18, lq_s18, sh_s19, lq_s19, sh_s20, lq_s20, sh_s21, lq_s21, sh_s22, lq_s22, sh_s23, lq_s23, sh_s24, lq_s24, sh_s25, lq_s25, rg_s0_0, rg_s0_1, rg_s0_2, rg_s0_3, rg_s1_0, rg_s1_1, rg_s1_2, rg_s1_3, rg_s1_4, rg_s7_0, rg_s9_0, rg_s9_1, rg_s9_2, rg_s9_3, rg_s9_4, rg_s9_5, rg_s16_6, rg_s16_7, rg_s16_0, rg_s16_1, rg_s16_2, rg_s16_3, rg_s16_4, rg_s16_5, sh_o, lq_o, sh_o1, lq_o1, sh_o2, lq_o2, sh_o3, lq_o3, sh_o4, lq_o4, sh_o5, lq_o5, sh_o6, lq_o6, rg_o0, rg_o1, rg_o2, rg_o3, rg_o4, rg_o5, hs, ho, hq, p_at, ex5, Option.toList_some, List.cons_append, List.nil_append, true_and, e1, e2, e3, earnV, vS]
end
