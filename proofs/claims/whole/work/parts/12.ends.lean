def IsL (r : Rsp) : Prop := match r with | .inl _ => True | _ => False
section
variable {L : Nat} {xs : Nat → Int32} {M pc len own k tag kind i : Nat} {los : List (Option Value)} {st : List Value} {σ : Mm} {r : Rsp}
theorem q_nx {σ1 : Mm} (h : nx pc los st σ1 = some r) : IsL r := by
  unfold nx at h; cases h; trivial
theorem q_gt {off : Int} (h : gt pc off los st σ = some r) : IsL r := by
  unfold gt at h; split at h
  · exact q_nx h
  · simp at h
theorem q_ldi (h : ldi i pc los st σ = some r) : IsL r := by
  unfold ldi at h; split at h
  · exact q_nx h
  · simp at h
theorem q_lda (h : lda i pc los st σ = some r) : IsL r := by
  unfold lda at h; split at h
  · exact q_nx h
  · simp at h
theorem q_ldl (h : ldl i pc los st σ = some r) : IsL r := by
  unfold ldl at h; split at h
  · exact q_nx h
  · simp at h
theorem q_sti (h : sti i pc los st σ = some r) : IsL r := by
  unfold sti at h; split at h
  · split at h
    · exact q_nx h
    · simp at h
  · simp at h
theorem q_sta (h : sta i pc los st σ = some r) : IsL r := by
  unfold sta at h; split at h
  · split at h
    · exact q_nx h
    · simp at h
  · simp at h
theorem q_stl (h : stl i pc los st σ = some r) : IsL r := by
  unfold stl at h; split at h
  · split at h
    · exact q_nx h
    · simp at h
  · simp at h
theorem q_bi {f : Int32 → Int32 → Int32} (h : bi f pc los st σ = some r) : IsL r := by
  unfold bi at h; split at h
  · exact q_nx h
  · simp at h
theorem q_bl {f : Int64 → Int64 → Int64} (h : bl f pc los st σ = some r) : IsL r := by
  unfold bl at h; split at h
  · exact q_nx h
  · simp at h
theorem q_bid {f : Int32 → Int32 → Int32} (h : bid f pc los st σ = some r) : IsL r := by
  unfold bid at h; split at h
  · split at h
    · simp at h
    · exact q_nx h
  · simp at h
theorem q_bld {f : Int64 → Int64 → Int64} (h : bld f pc los st σ = some r) : IsL r := by
  unfold bld at h; split at h
  · split at h
    · simp at h
    · exact q_nx h
  · simp at h
theorem q_ite {P : Prop} [dp : Decidable P] {a c : Option Rsp} (ha : a = some r → IsL r) (hc : c = some r → IsL r) (h : (if P then a else c) = some r) : IsL r := by
  by_cases q : P
  · rw [if_pos q] at h; exact ha h
  · rw [if_neg q] at h; exact hc h
theorem q_no (h : (none : Option Rsp) = some r) : IsL r := by simp at h
theorem q_brz {c : Jvm.ClassFile.Cond} {off : Int} (h : brz c off pc len los st σ = some r) : IsL r := by
  unfold brz at h; split at h
  · refine q_ite (fun h => ?_) q_no h
    cases c <;> exact q_ite q_nx q_nx h
  · simp at h
theorem q_brc {c : Jvm.ClassFile.Cond} {off : Int} (h : brc c off pc len los st σ = some r) : IsL r := by
  unfold brc at h; split at h
  · refine q_ite (fun h => ?_) q_no h
    cases c <;> exact q_ite q_nx q_nx h
  · simp at h
theorem q_gtf (h : gtf own k pc los st σ = some r) : IsL r := by
  unfold gtf at h; split at h
  · exact q_ite q_nx q_no h
  · simp at h
theorem q_ptf (h : ptf M own k pc los st σ = some r) : IsL r := by
  unfold ptf at h; split at h
  · refine q_ite (fun h => ?_) q_no h
    split at h
    · exact q_nx h
    · exact q_ite q_nx q_no h
    · exact q_nx h
    · exact q_nx h
    · simp at h
  · simp at h
theorem q_ard (h : ard tag pc los st σ = some r) : IsL r := by
  unfold ard at h; split at h
  · exact q_ite q_nx q_no h
  · simp at h
theorem q_arl (h : arl L xs pc los st σ = some r) : IsL r := by
  unfold arl at h; split at h
  · exact q_ite q_nx q_no h
  · simp at h
theorem q_awr (h : awr tag pc los st σ = some r) : IsL r := by
  unfold awr at h; split at h
  · refine q_ite (fun h => ?_) q_no h
    split at h
    · exact q_nx h
    · exact q_ite q_nx q_no h
    · exact q_nx h
    · simp at h
  · simp at h
theorem q_aln (h : aln pc los st σ = some r) : IsL r := by
  unfold aln at h; split at h
  · exact q_ite q_nx q_no h
  · simp at h
theorem q_alc (h : alc L pc los st σ = some r) : IsL r := by
  unfold alc at h; split at h
  · exact q_nx h
  · simp at h
theorem q_nwa (h : nwa tag pc los st σ = some r) : IsL r := by
  unfold nwa at h; split at h
  · exact q_ite q_nx q_no h
  · simp at h
theorem q_nwo (h : nwo own k pc los st σ = some r) : IsL r := by
  unfold nwo at h; split at h
  · exact q_ite q_nx q_no h
  · simp at h
/-- what a method's end is -/
def RF (M : Nat) (v : Option Value) (pc : Nat) : Prop := match v with
  | none => decode (mcd M) pc = .ok (.return_, 1) ∧ mrt M = 0
  | some (.int x) => decode (mcd M) pc = .ok (.ireturn, 1) ∧ (mrt M = 1 ∨ (mrt M = 2 ∧ (x = 0 ∨ x = 1)))
  | some (.long _) => decode (mcd M) pc = .ok (.lreturn, 1) ∧ mrt M = 3
  | _ => False
theorem x_ret {ins : Instr} {v : Option Value} (hd : decode (mcd M) pc = .ok (ins, len)) (hl : len = iln ins len) (h : exe L xs M pc len ins los st σ = some (.inr (.inr v))) : RF M v pc ∧ st = v.toList := by
  have no : ∀ {r : Rsp}, IsL r → r = .inr (.inr v) → False := fun h e => by rw [e] at h; exact h
  unfold exe at h
  split at h
  all_goals first
    | exact (no (q_nx h) rfl).elim | exact (no (q_ldi h) rfl).elim | exact (no (q_lda h) rfl).elim | exact (no (q_ldl h) rfl).elim | exact (no (q_sti h) rfl).elim | exact (no (q_sta h) rfl).elim | exact (no (q_stl h) rfl).elim
    | exact (no (q_bi h) rfl).elim | exact (no (q_bl h) rfl).elim | exact (no (q_bid h) rfl).elim | exact (no (q_bld h) rfl).elim | exact (no (q_brz h) rfl).elim | exact (no (q_brc h) rfl).elim | exact (no (q_gt h) rfl).elim
    | exact (no (q_gtf h) rfl).elim | exact (no (q_ptf h) rfl).elim | exact (no (q_ard h) rfl).elim | exact (no (q_awr h) rfl).elim | exact (no (q_aln h) rfl).elim | exact (no (q_ite q_arl q_ard h) rfl).elim | exact (no (q_ite q_alc q_aln h) rfl).elim | exact (no (q_nwa h) rfl).elim | exact (no (q_nwo h) rfl).elim
    | (have hl : len = 1 := hl; subst hl; split at h
       · split at h
         · rename_i hc; simp only [Option.some.injEq, Sum.inr.injEq] at h; subst h; exact ⟨⟨hd, hc⟩, rfl⟩
         · simp at h
       · simp at h)
    | (split at h <;> first | exact (no (q_nx h) rfl).elim | exact (no (q_no h) rfl).elim | exact (no (q_ite q_nx q_no h) rfl).elim | exact (no (q_ite q_gt q_no h) rfl).elim)
    | (split at h
       · split at h
         · exact (no (q_gt h) rfl).elim
         · split at h
           · exact (no (q_gt h) rfl).elim
           · simp at h
       · simp at h)
    | (unfold inv at h
       split at h
       · simp at h
       · split at h
         · exact (no (q_ite q_nx q_no h) rfl).elim
         · simp at h
       · split at h
         · exact (no (q_ite q_nx q_no h) rfl).elim
         · simp at h
       · split at h
         · exact (no (q_ite q_nx q_no h) rfl).elim
         · simp at h
       · split at h
         · split at h <;> simp at h
         · split at h
           · split at h <;> simp at h
           · simp at h
       · simp at h)
    | (simp at h; done)
theorem x_call {ins : Instr} {q : Nat × List Value × Cfg} (hl : len = iln ins len) (h : exe L xs M pc len ins los st σ = some (.inr (.inl q))) : len = 3 ∧ ∃ kind k, ((kind = 0 ∧ ins = .invokestatic k) ∨ (kind = 1 ∧ ins = .invokespecial k) ∨ (kind = 2 ∧ ins = .invokevirtual k)) ∧ inv kind (mcl M) k (pc + 3) los st σ = some (.inr (.inl q)) := by
  have no : ∀ {r : Rsp}, IsL r → r = .inr (.inl q) → False := fun h e => by rw [e] at h; exact h
  unfold exe at h
  split at h
  all_goals first
    | exact (no (q_nx h) rfl).elim | exact (no (q_ldi h) rfl).elim | exact (no (q_lda h) rfl).elim | exact (no (q_ldl h) rfl).elim | exact (no (q_sti h) rfl).elim | exact (no (q_sta h) rfl).elim | exact (no (q_stl h) rfl).elim
    | exact (no (q_bi h) rfl).elim | exact (no (q_bl h) rfl).elim | exact (no (q_bid h) rfl).elim | exact (no (q_bld h) rfl).elim | exact (no (q_brz h) rfl).elim | exact (no (q_brc h) rfl).elim | exact (no (q_gt h) rfl).elim
    | exact (no (q_gtf h) rfl).elim | exact (no (q_ptf h) rfl).elim | exact (no (q_ard h) rfl).elim | exact (no (q_awr h) rfl).elim | exact (no (q_aln h) rfl).elim | exact (no (q_ite q_arl q_ard h) rfl).elim | exact (no (q_ite q_alc q_aln h) rfl).elim | exact (no (q_nwa h) rfl).elim | exact (no (q_nwo h) rfl).elim
    | (have hl : len = 3 := hl; subst hl; exact ⟨rfl, 0, _, Or.inl ⟨rfl, rfl⟩, h⟩)
    | (have hl : len = 3 := hl; subst hl; exact ⟨rfl, 1, _, Or.inr (Or.inl ⟨rfl, rfl⟩), h⟩)
    | (have hl : len = 3 := hl; subst hl; exact ⟨rfl, 2, _, Or.inr (Or.inr ⟨rfl, rfl⟩), h⟩)
    | (split at h <;> first | exact (no (q_nx h) rfl).elim | exact (no (q_no h) rfl).elim | exact (no (q_ite q_nx q_no h) rfl).elim | exact (no (q_ite q_gt q_no h) rfl).elim)
    | (split at h
       · split at h
         · exact (no (q_gt h) rfl).elim
         · split at h
           · exact (no (q_gt h) rfl).elim
           · simp at h
       · simp at h)
    | (split at h
       · split at h <;> simp at h
       · simp at h)
    | (simp at h; done)
end
