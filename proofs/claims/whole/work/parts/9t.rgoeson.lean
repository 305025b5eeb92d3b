/-! the reference: behind a piece, all together -/
section
variable {L : Nat} {xs : Nat → Int32} {σ : Mm} {r : Option Value × Mm} {I J K : Nat → Nat → Int32} {Lm : Nat → Nat → Int64} {Rm : Nat → Nat → Nat} {n s so t N NS NH m M P nw S U : Nat} {V W : Vw} {sp s2 ai p : Nat} {x y z h v : Int32} {k c w lo hi kd pl bs o ch g : Nat} {T : Nat → Nat} {q : Rz} {p : Pz} {E E2 : Nat → Nat → Prop} {G : Nat → Nat → Int32} {cs W ws O : List Nat}

theorem r_goesOn (hTB : TB I T) (hKT : KT I) (hX : TX T n c) (hR : RS I T n c p.1) (hp : p.1.1 = 0) (hY : YS I p.2 (ws ++ O)) (hl : p.2.length + (ws ++ O).length + 2 ≤ p.1.2.2) (hb : I 112 65 = nI O.length) (hn : NT 1 O) (ho : I 112 59 = nI (o + opnW ws)) (h6 : o + opnW ws ≤ 6) : (∃ G q2 cs ws2, (∀ r, Em L xs 204 [.ref 112] (179, I, Lm, RG nw sp s2 ai) r ↔ r = (some (.int 0), 179, G, Lm, RG nw sp s2 ai)) ∧ goP T n c p ws = ((q2, cs ++ ws2), none) ∧ RS G T n c q2 ∧ YS G cs (ws2 ++ O) ∧ cs.length + (ws2 ++ O).length + 2 ≤ 1600 ∧ (q2.1 = 0 → cs.length + (ws2 ++ O).length + 2 ≤ q2.2.2 ∧ opnW ws2 = 0) ∧ FX I G EQ ∧ G 112 59 = nI (o + opnW ws2)) ∨ (∃ G q2 cs2 ws2, (∀ r, Em L xs 204 [.ref 112] (179, I, Lm, RG nw sp s2 ai) r ↔ r = (some (.int 1), 179, G, Lm, RG nw sp s2 ai)) ∧ goP T n c p ws = ((q2, cs2), some ws2) ∧ q2.1 = 0 ∧ RS G T n c q2 ∧ YS G cs2 (ws2 ++ O) ∧ cs2.length + (ws2 ++ O).length + 2 ≤ q2.2.2 ∧ FX I G EQ ∧ G 112 59 = nI (o + opnW ws2) ∧ o + opnW ws2 ≤ 6) := by
  obtain ⟨G1, a1, a2, a3, a4, a5, a6, a7, a8⟩ := r_closes (Lm := Lm) (L := L) (xs := xs) (nw := nw) (sp := sp) (s2 := s2) (ai := ai) ws.length ws p I (Nat.le_refl _) hTB hKT hX hR hp hY hl hb ho h6
  have eg : goP T n c p ws = opY T n c (clP T n c ws.length p ws).1 (clP T n c ws.length p ws).2 := rfl
  obtain ⟨p1, hp1⟩ : ∃ p1, (clP T n c ws.length p ws).1 = p1 := ⟨_, rfl⟩
  obtain ⟨w1, hw1⟩ : ∃ w1, (clP T n c ws.length p ws).2 = w1 := ⟨_, rfl⟩
  rw [hp1, hw1] at eg
  rw [hp1] at a2 a3 a4 a5
  rw [hw1] at a4 a5 a7 a8
  rw [eg]
  have b65 : G1 112 65 = nI O.length := (a6 112 65 (fun z => by unfold EQ R0 EY at z; omega)).trans hb
  have tb1 := a6.tbE eQB hTB
  have hk := rs_k a2 a3
  have hnn := hX.1
  have hcn := hX.2.1
  by_cases hw : wq T n c p1.1.2.2 = 298 ∨ wq T n c p1.1.2.2 = 303 ∨ wq T n c p1.1.2.2 = 299 ∨ wq T n c p1.1.2.2 = 301
  · obtain ⟨G, m, ws2, cs2, d1, d2, d3, d4, d5, d6, d7, d8⟩ := r_oper (Lm := Lm) (L := L) (xs := xs) (nw := nw) (sp := sp) (s2 := s2) (ai := ai) tb1 hX a2 a3 a4 a5 hn a7 a8 hw
    refine Or.inr ⟨G, (0, 0, p1.1.2.2 + 1), cs2, m :: ws2, fun r => ?_, d2, rfl, d3, d4, d5, fxTr a6 d6, d8, by rw [d7]; exact a8⟩
    rw [em_204, a1]
    exact d1 r _
  · have no : NOp T n c p1 := ⟨fun z => hw (Or.inl z), fun z => hw (Or.inr (Or.inl z)), fun z => hw (Or.inr (Or.inr (Or.inl z))), fun z => hw (Or.inr (Or.inr (Or.inr z)))⟩
    rcases r_noop (Lm := Lm) (L := L) (xs := xs) (nw := nw) (sp := sp) (s2 := s2) (ai := ai) tb1 hX a2 a3 a4 a5 b65 no with ⟨G, q2, d1, d2, d3, d4, d5, d6⟩ | ⟨G, m, ws2, cs2, d1, d2, d3, d4, d5, d6, d7, d8⟩
    · refine Or.inl ⟨G, q2, p1.2, w1, fun r => ?_, d2, d3, d4, by omega, fun hq => ?_, fxTr a6 d5, d6.trans a7⟩
      · rw [em_204, a1]
        exact d1 r _
      · -- good: no mark waits
        have m0 : mkO w1 = 0 ∧ q2 = p1.1 := by
          unfold opY at d2
          rw [if_pos a3, if_neg (fun z => z.elim no.1 no.2.1), if_neg (fun z => z.elim no.2.2.1 no.2.2.2)] at d2
          by_cases hm : mkO w1 = 21 ∨ mkO w1 = 22
          · rw [if_pos hm] at d2
            by_cases hc : wq T n c p1.1.2.2 = 300
            · rw [if_pos hc] at d2
              have e := congrArg (fun y => y.2) d2
              have e : some ((mkO w1 + 2) :: (drM p1.2 w1).2.tail) = none := e
              cases e
            · rw [if_neg hc] at d2
              have e := congrArg (fun y => y.1.1.1) d2
              have e : 1 = q2.1 := e
              omega
          · rw [if_neg hm] at d2
            by_cases h0 : mkO w1 = 0
            · rw [if_pos h0] at d2
              exact ⟨h0, (congrArg (fun y => y.1.1) d2).symm⟩
            · rw [if_neg h0] at d2
              have e := congrArg (fun y => y.1.1.1) d2
              have e : 1 = q2.1 := e
              omega
        rw [m0.2]
        refine ⟨a5, ?_⟩
        have z0 : ∀ l : List Nat, mkO l = 0 → opnW l = 0 := fun l => by
          induction l with
          | nil => exact fun _ => rfl
          | cons a l ih =>
            intro h
            by_cases e : isMk a
            · rw [show mkO (a :: l) = a from if_pos e] at h; unfold isMk at e; omega
            · rw [show mkO (a :: l) = mkO l from if_neg e] at h
              show opnW l + (if isMk a then 1 else 0) = 0
              rw [if_neg e, ih h]
        exact z0 w1 m0.1
    · refine Or.inr ⟨G, (0, 0, p1.1.2.2 + 1), cs2, m :: ws2, fun r => ?_, d2, rfl, d3, d4, d5, fxTr a6 d6, d8.trans (by rw [d7]; exact a7), by rw [d7]; exact a8⟩
      rw [em_204, a1]
      exact d1 r _
end
