/-! WHAT A STEP DOES TO THE COUNT OF PLACES -/
def Gd (σ : Mm) (r : Rsp) : Prop := match r with | .inl c => σ.1 ≤ c.2.2.2.1 | .inr (.inl q) => q.2.2.2.2.2 = σ | .inr (.inr _) => True
section
variable {L : Nat} {xs : Nat → Int32} {M pc len own k tag kind i : Nat} {los : List (Option Value)} {st : List Value} {σ : Mm} {r : Rsp}
theorem g_nx {σ1 : Mm} (hs : σ.1 ≤ σ1.1) (h : nx pc los st σ1 = some r) : Gd σ r := by
  unfold nx at h; cases h; exact hs
theorem g_gt {off : Int} (h : gt pc off los st σ = some r) : Gd σ r := by
  unfold gt at h; split at h
  · exact g_nx (Nat.le_refl _) h
  · simp at h
theorem g_ldi (h : ldi i pc los st σ = some r) : Gd σ r := by
  unfold ldi at h; split at h
  · exact g_nx (Nat.le_refl _) h
  · simp at h
theorem g_lda (h : lda i pc los st σ = some r) : Gd σ r := by
  unfold lda at h; split at h
  · exact g_nx (Nat.le_refl _) h
  · simp at h
theorem g_ldl (h : ldl i pc los st σ = some r) : Gd σ r := by
  unfold ldl at h; split at h
  · exact g_nx (Nat.le_refl _) h
  · simp at h
theorem g_sti (h : sti i pc los st σ = some r) : Gd σ r := by
  unfold sti at h; split at h
  · split at h
    · exact g_nx (Nat.le_refl _) h
    · simp at h
  · simp at h
theorem g_sta (h : sta i pc los st σ = some r) : Gd σ r := by
  unfold sta at h; split at h
  · split at h
    · exact g_nx (Nat.le_refl _) h
    · simp at h
  · simp at h
theorem g_stl (h : stl i pc los st σ = some r) : Gd σ r := by
  unfold stl at h; split at h
  · split at h
    · exact g_nx (Nat.le_refl _) h
    · simp at h
  · simp at h
theorem g_bi {f : Int32 → Int32 → Int32} (h : bi f pc los st σ = some r) : Gd σ r := by
  unfold bi at h; split at h
  · exact g_nx (Nat.le_refl _) h
  · simp at h
theorem g_bl {f : Int64 → Int64 → Int64} (h : bl f pc los st σ = some r) : Gd σ r := by
  unfold bl at h; split at h
  · exact g_nx (Nat.le_refl _) h
  · simp at h
theorem g_bid {f : Int32 → Int32 → Int32} (h : bid f pc los st σ = some r) : Gd σ r := by
  unfold bid at h; split at h
  · split at h
    · simp at h
    · exact g_nx (Nat.le_refl _) h
  · simp at h
theorem g_bld {f : Int64 → Int64 → Int64} (h : bld f pc los st σ = some r) : Gd σ r := by
  unfold bld at h; split at h
  · split at h
    · simp at h
    · exact g_nx (Nat.le_refl _) h
  · simp at h
theorem g_ite {P : Prop} [dp : Decidable P] {a c : Option Rsp} (ha : a = some r → Gd σ r) (hc : c = some r → Gd σ r) (h : (if P then a else c) = some r) : Gd σ r := by
  by_cases q : P
  · rw [if_pos q] at h; exact ha h
  · rw [if_neg q] at h; exact hc h
theorem g_no (h : (none : Option Rsp) = some r) : Gd σ r := by simp at h
theorem g_brz {c : Jvm.ClassFile.Cond} {off : Int} (h : brz c off pc len los st σ = some r) : Gd σ r := by
  unfold brz at h; split at h
  · refine g_ite (fun h => ?_) g_no h
    cases c <;> exact g_ite (g_nx (Nat.le_refl _)) (g_nx (Nat.le_refl _)) h
  · simp at h
theorem g_brc {c : Jvm.ClassFile.Cond} {off : Int} (h : brc c off pc len los st σ = some r) : Gd σ r := by
  unfold brc at h; split at h
  · refine g_ite (fun h => ?_) g_no h
    cases c <;> exact g_ite (g_nx (Nat.le_refl _)) (g_nx (Nat.le_refl _)) h
  · simp at h
theorem g_gtf (h : gtf own k pc los st σ = some r) : Gd σ r := by
  unfold gtf at h; split at h
  · exact g_ite (g_nx (Nat.le_refl _)) g_no h
  · simp at h
theorem g_ptf (h : ptf M own k pc los st σ = some r) : Gd σ r := by
  unfold ptf at h; split at h
  · refine g_ite (fun h => ?_) g_no h
    split at h
    · exact g_nx (by exact Nat.le_refl _) h
    · exact g_ite (fun h => g_nx (by exact Nat.le_refl _) h) g_no h
    · exact g_nx (by exact Nat.le_refl _) h
    · exact g_nx (by exact Nat.le_refl _) h
    · simp at h
  · simp at h
theorem g_ard (h : ard tag pc los st σ = some r) : Gd σ r := by
  unfold ard at h; split at h
  · exact g_ite (g_nx (Nat.le_refl _)) g_no h
  · simp at h
theorem g_arl (h : arl L xs pc los st σ = some r) : Gd σ r := by
  unfold arl at h; split at h
  · exact g_ite (g_nx (Nat.le_refl _)) g_no h
  · simp at h
theorem g_awr (h : awr tag pc los st σ = some r) : Gd σ r := by
  unfold awr at h; split at h
  · refine g_ite (fun h => ?_) g_no h
    split at h
    · exact g_nx (by exact Nat.le_refl _) h
    · exact g_ite (fun h => g_nx (by exact Nat.le_refl _) h) g_no h
    · exact g_nx (by exact Nat.le_refl _) h
    · simp at h
  · simp at h
theorem g_aln (h : aln pc los st σ = some r) : Gd σ r := by
  unfold aln at h; split at h
  · exact g_ite (g_nx (Nat.le_refl _)) g_no h
  · simp at h
theorem g_alc (h : alc L pc los st σ = some r) : Gd σ r := by
  unfold alc at h; split at h
  · exact g_nx (Nat.le_refl _) h
  · simp at h
theorem g_nwa (h : nwa tag pc los st σ = some r) : Gd σ r := by
  unfold nwa at h; split at h
  · exact g_ite (g_nx (Nat.le_succ _)) g_no h
  · simp at h
theorem g_nwo (h : nwo own k pc los st σ = some r) : Gd σ r := by
  unfold nwo at h; split at h
  · exact g_ite (g_nx (Nat.le_succ _)) g_no h
  · simp at h
theorem g_inv (h : inv kind own k pc los st σ = some r) : Gd σ r := by
  unfold inv at h
  split at h
  · simp at h
  · split at h
    · exact g_ite (g_nx (Nat.le_refl _)) g_no h
    · simp at h
  · split at h
    · exact g_ite (g_nx (Nat.le_refl _)) g_no h
    · simp at h
  · split at h
    · exact g_ite (g_nx (Nat.le_refl _)) g_no h
    · simp at h
  · split at h
    · exact g_ite (fun h => by cases h; rfl) g_no h
    · split at h
      · exact g_ite (fun h => by cases h; rfl) g_no h
      · simp at h
  · simp at h
theorem g_exe {ins : Instr} (h : exe L xs M pc len ins los st σ = some r) : Gd σ r := by
  unfold exe at h
  split at h
  all_goals first
    | exact g_nx (Nat.le_refl _) h | exact g_ldi h | exact g_lda h | exact g_ldl h | exact g_sti h | exact g_sta h | exact g_stl h | exact g_bi h | exact g_bl h | exact g_bid h | exact g_bld h
    | exact g_brz h | exact g_brc h | exact g_gt h | exact g_gtf h | exact g_ptf h | exact g_ard h | exact g_awr h | exact g_aln h | exact g_ite g_arl g_ard h | exact g_ite g_alc g_aln h | exact g_nwa h | exact g_nwo h | exact g_inv h | exact g_no h
    | (split at h <;> first | exact g_nx (Nat.le_refl _) h | exact g_no h | exact g_ite (g_nx (Nat.le_refl _)) g_no h | exact g_ite g_gt g_no h | exact g_ite (fun h => by cases h; trivial) g_no h)
    | (split at h
       · refine g_ite g_gt (fun h => ?_) h
         split at h
         · exact g_gt h
         · exact g_no h
       · exact g_no h)
theorem g_stp (h : stp L xs M pc los st σ = some r) : Gd σ r := by
  unfold stp at h
  split at h
  · exact g_ite g_exe g_no h
  · simp at h
end
theorem run_n {L : Nat} {xs : Nat → Int32} : ∀ (n ρ M pc : Nat) (los : List (Option Value)) (st : List Value) (σ : Mm) (v : Option Value) (σ1 : Mm), run L xs n ρ M pc los st σ = some (v, σ1) → σ.1 ≤ σ1.1 := by
  intro n
  induction n with
  | zero => intro ρ M pc los st σ v σ1 h; simp [run] at h
  | succ n ih =>
    intro ρ M pc los st σ v σ1 h
    rw [run] at h
    cases hs : stp L xs M pc los st σ with
    | none => rw [hs] at h; simp at h
    | some q =>
      rw [hs] at h
      have hg := g_stp hs
      rcases q with ⟨pc1, los1, st1, σ2⟩ | ⟨K, As, pc1, los1, st1, σ2⟩ | w
      · exact Nat.le_trans hg (ih _ _ _ _ _ _ _ _ h)
      · simp only at h
        have e : σ2 = σ := hg
        subst e
        split at h
        · split at h
          · rename_i hk
            exact Nat.le_trans (ih _ _ _ _ _ _ _ _ hk) (ih _ _ _ _ _ _ _ _ h)
          · simp at h
        · simp at h
      · simp only [Option.some.injEq, Prod.mk.injEq] at h
        rw [h.2]
        exact Nat.le_refl _
