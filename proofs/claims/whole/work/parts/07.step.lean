/-! ONE STEP of the small machine is steps of the machine -/
def shz (q : Nat × Nat) : Nat := if q.1 = 0 then nfl q.2 else q.2
def SS (n : Nat) : Nat := ((SHL.take n).map shz).sum
theorem SHL_len : SHL.length = NNN := by decide +kernel
theorem SS_1 {n : Nat} (h : n < NNN) : SS (n + 1) = SS n + shz (shp n) := by
  have hl : n < SHL.length := by rw [SHL_len]; exact h
  unfold SS shp
  rw [List.take_add_one, List.map_append, List.sum_append, List.getElem?_eq_getElem hl, List.getD_eq_getElem?_getD, List.getElem?_eq_getElem hl]
  simp
theorem SS_le {a c : Nat} (h : a ≤ c) : SS a ≤ SS c := by
  unfold SS
  obtain ⟨d, rfl⟩ := Nat.le.dest h
  rw [show SHL.take (a + d) = SHL.take a ++ (SHL.drop a).take d from List.take_add, List.map_append, List.sum_append]
  omega
theorem fv_len {ci k : Nat} (h : k < nfl ci) : True := trivial
section
variable (b L bs sa sv : Nat) (xs : Nat → Int32)
/-- what stands outside: the script, the text of the own words, what String asks -/
def XS (U : State) (H : Heap) : Prop := va_X b L xs U H ∧ b < bs ∧ vk_S 1 [STX.length] [STX.map (fun n => Int32.ofNat n)] (fun _ => sa) (fun _ => sv) (fun q => bs ≤ q) U H ∧
  vk_R "WageHats$Tokens" 27 "hours sort brings tires mind pride need hat keeps least looks after before even share person in pair works when or and not all many week last most drawn own kept min max " sa U ∧
  va_Z "java/lang/String" "COMPACT_STRINGS" "Z" (.int 1) (fun q => bs ≤ q) U H ∧ va_Zq "jdk/internal/util/Preconditions" "SIOOBE_FORMATTER" "Ljava/util/function/BiFunction;" (fun q => bs ≤ q) U H
end
section
variable {b L bs sa sv : Nat} {xs : Nat → Int32}
theorem XS.moved {u U : State} {H : Heap} (hW : u.WarmedH U.vm) (h : XS b L bs sa sv xs u H) : XS b L bs sa sv xs U H := ⟨h.1.moved hW.alike, h.2.1, h.2.2.1.moved hW.alike, h.2.2.2.1.warm hW, h.2.2.2.2.1.moved hW.alike, h.2.2.2.2.2.moved hW.alike⟩
theorem XS.same {u U : State} {H : Heap} (hv : U.vm = u.vm) (h : XS b L bs sa sv xs u H) : XS b L bs sa sv xs U H := by
  have ha : u.vm.Alike U.vm := by rw [hv]; exact Vm.Alike.refl _
  exact ⟨h.1.moved ha, h.2.1, h.2.2.1.moved ha, h.2.2.2.1.same hv, h.2.2.2.2.1.moved ha, h.2.2.2.2.2.moved ha⟩
theorem XS.kept {U : State} {H H1 : Heap} (h : XS b L bs sa sv xs U H) (hq : ∀ a : Nat, a < H.size → ¬ bs ≤ a → H1[a]? = H[a]?) : XS b L bs sa sv xs U H1 := by
  refine ⟨h.1.kept ?_, h.2.1, h.2.2.1.kept hq, h.2.2.2.1, h.2.2.2.2.1.kept hq, h.2.2.2.2.2.kept hq⟩
  obtain ⟨scr, hc, -⟩ := h.1
  exact hq b (Array.getElem?_eq_some_iff.mp hc).1 (by have := h.2.1; omega)
end
section
variable (p : Program) (l : Launch) (e : Env) (R : Room) (s : State) (m : MethodId) (args : Array Value) (below : List Frame) (meth : Method) (c : Code) (Q : State → Prop) (D : va_G) (ki kc kl : ClassId) (bs b sa sv : Nat) (L : Nat) (xs : Nat → Int32) (M n0 : Nat)
def CX : Prop := (p.tables.exec = Jvm.exec ∧ c.code = mcd M ∧ c.maxLocals = mmx M ∧ s.vm.findClass (cnm (mcl M)) = some m.cls ∧ (∀ w ∈ WS, w.before args s = true) ∧ (∀ w ∈ NW, va_Nw w s)) ∧ KK D ki kc kl s ∧ XS b L bs sa sv xs s s.heap ∧ bs ≤ s.heap.size ∧ (min_ M = true → meth.name = "<init>") ∧ 8 ≤ R.frames ∧ 400 ≤ R.locals
def GG (pc : Nat) (los : List (Option Value)) (st : List Value) (σ : Mm) : Prop := ∀ (H : Heap) (locs : List Loc) (ls : Array Slot), Pl D ki kc kl bs b sa σ H → va_S (fun q => bs ≤ q) s.heap H locs → LR bs b sa ls (mmx M) los → W p l e R s m args below meth c H locs (σ.1 - n0) (SS σ.1 - SS n0) Q (F0 m pc ls (st.map (cva bs b sa)))
end
section
variable {p : Program} {l : Launch} {e : Env} {R : Room} {s : State} {m : MethodId} {args : Array Value} {below : List Frame} {meth : Method} {c : Code} {Q : State → Prop} {D : va_G} {ki kc kl : ClassId} {bs b sa sv : Nat} {L : Nat} {xs : Nat → Int32} {M n0 : Nat}
variable {pc pc1 : Nat} {los los1 : List (Option Value)} {st st1 : List Value} {σ σ1 : Mm}
theorem nx_inj {pc pc1 : Nat} {los los1 : List (Option Value)} {st st1 : List Value} {σ σ1 : Mm} (h : nx pc los st σ = some (.inl (pc1, los1, st1, σ1))) : pc = pc1 ∧ los = los1 ∧ st = st1 ∧ σ = σ1 := by
  unfold nx at h
  simp only [Option.some.injEq, Sum.inl.injEq, Prod.mk.injEq] at h
  obtain ⟨rfl, rfl, rfl, rfl⟩ := h
  exact ⟨rfl, rfl, rfl, rfl⟩
theorem gt_inj {off : Int} {pc pc1 : Nat} {los los1 : List (Option Value)} {st st1 : List Value} {σ σ1 : Mm} (h : gt pc off los st σ = some (.inl (pc1, los1, st1, σ1))) : (pc : Int) + off = (pc1 : Int) ∧ los = los1 ∧ st = st1 ∧ σ = σ1 := by
  unfold gt at h
  split at h
  · obtain ⟨rfl, rfl, rfl, rfl⟩ := nx_inj h
    refine ⟨by omega, rfl, rfl, rfl⟩
  · simp at h
theorem s_ldi {i : Nat} {ln : Nat} (hh : ldi i (pc + ln) los st σ = some (.inl (pc1, los1, st1, σ1)))
    (row : ∀ {H : Heap} {locs : List Loc} {ls : Array Slot} {x : Int32} {rest : List Value}, ls[i]? = some (.val (.int x)) → W p l e R s m args below meth c H locs (σ.1 - n0) (SS σ.1 - SS n0) Q (F0 m (pc + ln) ls (.int x :: rest)) → W p l e R s m args below meth c H locs (σ.1 - n0) (SS σ.1 - SS n0) Q (F0 m pc ls rest))
    (k : GG p l e R s m args below meth c Q D ki kc kl bs b sa M n0 pc1 los1 st1 σ1) : GG p l e R s m args below meth c Q D ki kc kl bs b sa M n0 pc los st σ := by
  unfold ldi at hh
  split at hh
  · rename_i x hx
    obtain ⟨rfl, rfl, rfl, rfl⟩ := nx_inj hh
    intro H locs ls h1 h2 h3
    exact row (h3.get hx (fun h => by cases h)) (k H locs ls h1 h2 h3)
  · simp at hh
theorem s_lda {i : Nat} {ln : Nat} (hh : lda i (pc + ln) los st σ = some (.inl (pc1, los1, st1, σ1)))
    (row : ∀ {H : Heap} {locs : List Loc} {ls : Array Slot} {x : Nat} {rest : List Value}, ls[i]? = some (.val (.ref x)) → W p l e R s m args below meth c H locs (σ.1 - n0) (SS σ.1 - SS n0) Q (F0 m (pc + ln) ls (.ref x :: rest)) → W p l e R s m args below meth c H locs (σ.1 - n0) (SS σ.1 - SS n0) Q (F0 m pc ls rest))
    (k : GG p l e R s m args below meth c Q D ki kc kl bs b sa M n0 pc1 los1 st1 σ1) : GG p l e R s m args below meth c Q D ki kc kl bs b sa M n0 pc los st σ := by
  unfold lda at hh
  split at hh
  · rename_i x hx
    obtain ⟨rfl, rfl, rfl, rfl⟩ := nx_inj hh
    intro H locs ls h1 h2 h3
    exact row (h3.get hx (fun h => by cases h)) (k H locs ls h1 h2 h3)
  · simp at hh
theorem s_ldl {i : Nat} {ln : Nat} (hh : ldl i (pc + ln) los st σ = some (.inl (pc1, los1, st1, σ1)))
    (row : ∀ {H : Heap} {locs : List Loc} {ls : Array Slot} {x : Int64} {rest : List Value}, ls[i]? = some (.val (.long x)) → W p l e R s m args below meth c H locs (σ.1 - n0) (SS σ.1 - SS n0) Q (F0 m (pc + ln) ls (.long x :: rest)) → W p l e R s m args below meth c H locs (σ.1 - n0) (SS σ.1 - SS n0) Q (F0 m pc ls rest))
    (k : GG p l e R s m args below meth c Q D ki kc kl bs b sa M n0 pc1 los1 st1 σ1) : GG p l e R s m args below meth c Q D ki kc kl bs b sa M n0 pc los st σ := by
  unfold ldl at hh
  split at hh
  · rename_i x hx hy
    obtain ⟨rfl, rfl, rfl, rfl⟩ := nx_inj hh
    intro H locs ls h1 h2 h3
    exact row (h3.get hx (fun _ => hy)) (k H locs ls h1 h2 h3)
  · simp at hh
theorem s_sti {i : Nat} {ln : Nat} (hh : sti i (pc + ln) los st σ = some (.inl (pc1, los1, st1, σ1)))
    (row : ∀ {H : Heap} {locs : List Loc} {ls : Array Slot} {x : Int32} {rest : List Value} {lv : List (Nat × Value)}, lv_has ls (mmx M) lv → i < mmx M → (∀ ls' : Array Slot, lv_has ls' (mmx M) ((i, Value.int x) :: lv.filter (fun q => !(q.1 == i) && !(q.1 + 1 == i && q.2.category == 2))) → W p l e R s m args below meth c H locs (σ.1 - n0) (SS σ.1 - SS n0) Q (F0 m (pc + ln) ls' rest)) → W p l e R s m args below meth c H locs (σ.1 - n0) (SS σ.1 - SS n0) Q (F0 m pc ls (.int x :: rest)))
    (k : GG p l e R s m args below meth c Q D ki kc kl bs b sa M n0 pc1 los1 st1 σ1) : GG p l e R s m args below meth c Q D ki kc kl bs b sa M n0 pc los st σ := by
  unfold sti at hh
  split at hh
  · split at hh
    · rename_i hi
      obtain ⟨rfl, rfl, rfl, rfl⟩ := nx_inj hh
      intro H locs ls h1 h2 h3
      exact row h3.2 (by rw [← h3.1]; exact hi) (fun ls' h' => k H locs ls' h1 h2 (LR.set1 h3.1 (by rw [← h3.1]; exact hi) rfl h'))
    · simp at hh
  · simp at hh
theorem s_sta {i : Nat} {ln : Nat} (hh : sta i (pc + ln) los st σ = some (.inl (pc1, los1, st1, σ1)))
    (row : ∀ {H : Heap} {locs : List Loc} {ls : Array Slot} {x : Nat} {rest : List Value} {lv : List (Nat × Value)}, lv_has ls (mmx M) lv → i < mmx M → (∀ ls' : Array Slot, lv_has ls' (mmx M) ((i, Value.ref x) :: lv.filter (fun q => !(q.1 == i) && !(q.1 + 1 == i && q.2.category == 2))) → W p l e R s m args below meth c H locs (σ.1 - n0) (SS σ.1 - SS n0) Q (F0 m (pc + ln) ls' rest)) → W p l e R s m args below meth c H locs (σ.1 - n0) (SS σ.1 - SS n0) Q (F0 m pc ls (.ref x :: rest)))
    (k : GG p l e R s m args below meth c Q D ki kc kl bs b sa M n0 pc1 los1 st1 σ1) : GG p l e R s m args below meth c Q D ki kc kl bs b sa M n0 pc los st σ := by
  unfold sta at hh
  split at hh
  · split at hh
    · rename_i hi
      obtain ⟨rfl, rfl, rfl, rfl⟩ := nx_inj hh
      intro H locs ls h1 h2 h3
      exact row h3.2 (by rw [← h3.1]; exact hi) (fun ls' h' => k H locs ls' h1 h2 (LR.set1 h3.1 (by rw [← h3.1]; exact hi) rfl h'))
    · simp at hh
  · simp at hh
theorem s_stl {i : Nat} {ln : Nat} (hh : stl i (pc + ln) los st σ = some (.inl (pc1, los1, st1, σ1)))
    (row : ∀ {H : Heap} {locs : List Loc} {ls : Array Slot} {x : Int64} {rest : List Value} {lv : List (Nat × Value)}, lv_has ls (mmx M) lv → i + 1 < mmx M → (∀ ls' : Array Slot, lv_has ls' (mmx M) ((i, Value.long x) :: lv.filter (fun q => !(q.1 == i) && (!(q.1 == i + 1) && !(q.1 + 1 == i && q.2.category == 2)))) → W p l e R s m args below meth c H locs (σ.1 - n0) (SS σ.1 - SS n0) Q (F0 m (pc + ln) ls' rest)) → W p l e R s m args below meth c H locs (σ.1 - n0) (SS σ.1 - SS n0) Q (F0 m pc ls (.long x :: rest)))
    (k : GG p l e R s m args below meth c Q D ki kc kl bs b sa M n0 pc1 los1 st1 σ1) : GG p l e R s m args below meth c Q D ki kc kl bs b sa M n0 pc los st σ := by
  unfold stl at hh
  split at hh
  · split at hh
    · rename_i hi
      obtain ⟨rfl, rfl, rfl, rfl⟩ := nx_inj hh
      intro H locs ls h1 h2 h3
      exact row h3.2 (by rw [← h3.1]; exact hi) (fun ls' h' => k H locs ls' h1 h2 (LR.set2 h3.1 (by rw [← h3.1]; exact hi) rfl h'))
    · simp at hh
  · simp at hh
theorem s_bi {f : Int32 → Int32 → Int32} (hh : bi f (pc + 1) los st σ = some (.inl (pc1, los1, st1, σ1)))
    (row : ∀ {H : Heap} {locs : List Loc} {ls : Array Slot} {x y : Int32} {rest : List Value}, W p l e R s m args below meth c H locs (σ.1 - n0) (SS σ.1 - SS n0) Q (F0 m (pc + 1) ls (.int (f x y) :: rest)) → W p l e R s m args below meth c H locs (σ.1 - n0) (SS σ.1 - SS n0) Q (F0 m pc ls (.int y :: .int x :: rest)))
    (k : GG p l e R s m args below meth c Q D ki kc kl bs b sa M n0 pc1 los1 st1 σ1) : GG p l e R s m args below meth c Q D ki kc kl bs b sa M n0 pc los st σ := by
  unfold bi at hh
  split at hh
  · obtain ⟨rfl, rfl, rfl, rfl⟩ := nx_inj hh
    intro H locs ls h1 h2 h3
    exact row (k H locs ls h1 h2 h3)
  · simp at hh
theorem s_bl {f : Int64 → Int64 → Int64} (hh : bl f (pc + 1) los st σ = some (.inl (pc1, los1, st1, σ1)))
    (row : ∀ {H : Heap} {locs : List Loc} {ls : Array Slot} {x y : Int64} {rest : List Value}, W p l e R s m args below meth c H locs (σ.1 - n0) (SS σ.1 - SS n0) Q (F0 m (pc + 1) ls (.long (f x y) :: rest)) → W p l e R s m args below meth c H locs (σ.1 - n0) (SS σ.1 - SS n0) Q (F0 m pc ls (.long y :: .long x :: rest)))
    (k : GG p l e R s m args below meth c Q D ki kc kl bs b sa M n0 pc1 los1 st1 σ1) : GG p l e R s m args below meth c Q D ki kc kl bs b sa M n0 pc los st σ := by
  unfold bl at hh
  split at hh
  · obtain ⟨rfl, rfl, rfl, rfl⟩ := nx_inj hh
    intro H locs ls h1 h2 h3
    exact row (k H locs ls h1 h2 h3)
  · simp at hh
theorem s_bid {f : Int32 → Int32 → Int32} (hh : bid f (pc + 1) los st σ = some (.inl (pc1, los1, st1, σ1)))
    (row : ∀ {H : Heap} {locs : List Loc} {ls : Array Slot} {x y : Int32} {rest : List Value}, ¬ y = 0 → W p l e R s m args below meth c H locs (σ.1 - n0) (SS σ.1 - SS n0) Q (F0 m (pc + 1) ls (.int (f x y) :: rest)) → W p l e R s m args below meth c H locs (σ.1 - n0) (SS σ.1 - SS n0) Q (F0 m pc ls (.int y :: .int x :: rest)))
    (k : GG p l e R s m args below meth c Q D ki kc kl bs b sa M n0 pc1 los1 st1 σ1) : GG p l e R s m args below meth c Q D ki kc kl bs b sa M n0 pc los st σ := by
  unfold bid at hh
  split at hh
  · split at hh
    · simp at hh
    · rename_i hy
      obtain ⟨rfl, rfl, rfl, rfl⟩ := nx_inj hh
      intro H locs ls h1 h2 h3
      exact row hy (k H locs ls h1 h2 h3)
  · simp at hh
theorem s_bld {f : Int64 → Int64 → Int64} (hh : bld f (pc + 1) los st σ = some (.inl (pc1, los1, st1, σ1)))
    (row : ∀ {H : Heap} {locs : List Loc} {ls : Array Slot} {x y : Int64} {rest : List Value}, ¬ y = 0 → W p l e R s m args below meth c H locs (σ.1 - n0) (SS σ.1 - SS n0) Q (F0 m (pc + 1) ls (.long (f x y) :: rest)) → W p l e R s m args below meth c H locs (σ.1 - n0) (SS σ.1 - SS n0) Q (F0 m pc ls (.long y :: .long x :: rest)))
    (k : GG p l e R s m args below meth c Q D ki kc kl bs b sa M n0 pc1 los1 st1 σ1) : GG p l e R s m args below meth c Q D ki kc kl bs b sa M n0 pc los st σ := by
  unfold bld at hh
  split at hh
  · split at hh
    · simp at hh
    · rename_i hy
      obtain ⟨rfl, rfl, rfl, rfl⟩ := nx_inj hh
      intro H locs ls h1 h2 h3
      exact row hy (k H locs ls h1 h2 h3)
  · simp at hh
theorem s_gt {off : Int} (hh : gt pc off los st σ = some (.inl (pc1, los1, st1, σ1)))
    (row : ∀ {H : Heap} {locs : List Loc} {ls : Array Slot} {rest : List Value} {tgt : Nat}, (pc : Int) + off = (tgt : Int) → W p l e R s m args below meth c H locs (σ.1 - n0) (SS σ.1 - SS n0) Q (F0 m tgt ls rest) → W p l e R s m args below meth c H locs (σ.1 - n0) (SS σ.1 - SS n0) Q (F0 m pc ls rest))
    (k : GG p l e R s m args below meth c Q D ki kc kl bs b sa M n0 pc1 los1 st1 σ1) : GG p l e R s m args below meth c Q D ki kc kl bs b sa M n0 pc los st σ := by
  obtain ⟨h, rfl, rfl, rfl⟩ := gt_inj hh
  intro H locs ls h1 h2 h3
  exact row h (k H locs ls h1 h2 h3)
theorem s_ite {P : Prop} [dp : Decidable P] {off : Int} {r X : List Value} (h0 : 0 ≤ (pc : Int) + off) (hh : (if P then nx ((pc : Int) + off).toNat los r σ else nx (pc + 3) los r σ) = some (.inl (pc1, los1, st1, σ1)))
    (row : ∀ {H : Heap} {locs : List Loc} {ls : Array Slot} {tgt : Nat}, (pc : Int) + off = (tgt : Int) → (P → W p l e R s m args below meth c H locs (σ.1 - n0) (SS σ.1 - SS n0) Q (F0 m tgt ls (r.map (cva bs b sa)))) → (¬ P → W p l e R s m args below meth c H locs (σ.1 - n0) (SS σ.1 - SS n0) Q (F0 m (pc + 3) ls (r.map (cva bs b sa)))) → W p l e R s m args below meth c H locs (σ.1 - n0) (SS σ.1 - SS n0) Q (F0 m pc ls (X.map (cva bs b sa))))
    (k : GG p l e R s m args below meth c Q D ki kc kl bs b sa M n0 pc1 los1 st1 σ1) : GG p l e R s m args below meth c Q D ki kc kl bs b sa M n0 pc los X σ := by
  intro H locs ls h1 h2 h3
  refine row (tgt := ((pc : Int) + off).toNat) (by omega) (fun q => ?_) (fun q => ?_)
  · rw [if_pos q] at hh; obtain ⟨rfl, rfl, rfl, rfl⟩ := nx_inj hh; exact k H locs ls h1 h2 h3
  · rw [if_neg q] at hh; obtain ⟨rfl, rfl, rfl, rfl⟩ := nx_inj hh; exact k H locs ls h1 h2 h3
theorem s_ite2 {P : Prop} [dp : Decidable P] {off : Int} {r X : List Value} (h0 : 0 ≤ (pc : Int) + off) (hh : (if P then nx (pc + 3) los r σ else nx ((pc : Int) + off).toNat los r σ) = some (.inl (pc1, los1, st1, σ1)))
    (row : ∀ {H : Heap} {locs : List Loc} {ls : Array Slot} {tgt : Nat}, (pc : Int) + off = (tgt : Int) → (¬ P → W p l e R s m args below meth c H locs (σ.1 - n0) (SS σ.1 - SS n0) Q (F0 m tgt ls (r.map (cva bs b sa)))) → (P → W p l e R s m args below meth c H locs (σ.1 - n0) (SS σ.1 - SS n0) Q (F0 m (pc + 3) ls (r.map (cva bs b sa)))) → W p l e R s m args below meth c H locs (σ.1 - n0) (SS σ.1 - SS n0) Q (F0 m pc ls (X.map (cva bs b sa))))
    (k : GG p l e R s m args below meth c Q D ki kc kl bs b sa M n0 pc1 los1 st1 σ1) : GG p l e R s m args below meth c Q D ki kc kl bs b sa M n0 pc los X σ := by
  intro H locs ls h1 h2 h3
  refine row (tgt := ((pc : Int) + off).toNat) (by omega) (fun q => ?_) (fun q => ?_)
  · rw [if_neg q] at hh; obtain ⟨rfl, rfl, rfl, rfl⟩ := nx_inj hh; exact k H locs ls h1 h2 h3
  · rw [if_pos q] at hh; obtain ⟨rfl, rfl, rfl, rfl⟩ := nx_inj hh; exact k H locs ls h1 h2 h3
theorem s_brz (hx : p.tables.exec = Jvm.exec) (hb : c.code = mcd M) {cnd : Jvm.ClassFile.Cond} {off : Int} (hd : decode (mcd M) pc = .ok (.ifCond cnd off, 3)) (hh : brz cnd off pc 3 los st σ = some (.inl (pc1, los1, st1, σ1)))
    (k : GG p l e R s m args below meth c Q D ki kc kl bs b sa M n0 pc1 los1 st1 σ1) : GG p l e R s m args below meth c Q D ki kc kl bs b sa M n0 pc los st σ := by
  unfold brz at hh
  split at hh
  · split at hh
    · rename_i h0
      cases cnd
      · exact s_ite h0 hh (fun ht a1 a2 => lv_if_eq hx hb hd ht a1 a2) k
      · exact s_ite2 h0 hh (fun ht a1 a2 => lv_if_ne hx hb hd ht a1 a2) k
      · exact s_ite h0 hh (fun ht a1 a2 => lv_if_lt hx hb hd ht a1 a2) k
      · exact s_ite h0 hh (fun ht a1 a2 => lv_if_ge hx hb hd ht a1 a2) k
      · exact s_ite h0 hh (fun ht a1 a2 => lv_if_gt hx hb hd ht a1 a2) k
      · exact s_ite h0 hh (fun ht a1 a2 => lv_if_le hx hb hd ht a1 a2) k
    · simp at hh
  · simp at hh
theorem s_brc (hx : p.tables.exec = Jvm.exec) (hb : c.code = mcd M) {cnd : Jvm.ClassFile.Cond} {off : Int} (hd : decode (mcd M) pc = .ok (.if_icmp cnd off, 3)) (hh : brc cnd off pc 3 los st σ = some (.inl (pc1, los1, st1, σ1)))
    (k : GG p l e R s m args below meth c Q D ki kc kl bs b sa M n0 pc1 los1 st1 σ1) : GG p l e R s m args below meth c Q D ki kc kl bs b sa M n0 pc los st σ := by
  unfold brc at hh
  split at hh
  · split at hh
    · rename_i h0
      cases cnd
      · exact s_ite h0 hh (fun ht a1 a2 => lv_icmp_eq hx hb hd ht a1 a2) k
      · exact s_ite2 h0 hh (fun ht a1 a2 => lv_icmp_ne hx hb hd ht a1 a2) k
      · exact s_ite h0 hh (fun ht a1 a2 => lv_icmp_lt hx hb hd ht a1 a2) k
      · exact s_ite h0 hh (fun ht a1 a2 => lv_icmp_ge hx hb hd ht a1 a2) k
      · exact s_ite h0 hh (fun ht a1 a2 => lv_icmp_gt hx hb hd ht a1 a2) k
      · exact s_ite h0 hh (fun ht a1 a2 => lv_icmp_le hx hb hd ht a1 a2) k
    · simp at hh
  · simp at hh
/-- what a class's tables give -/
theorem cls_of {ci : Nat} (h : ci < 12) (hK : KK D ki kc kl s) : ∃ q : vw_C, vwCl[ci]? = some q ∧ q.1 = cnm ci ∧ q.2.2 = nfl ci ∧ (∀ k, k < q.2.2 → Kp ci k q) ∧ u_Kn s q.1 q.2.1 q.2.2 (D.1 ci) (D.2 ci) ∧ Jvm.Cond.instantiable q.1 q.2.2 ∈ WS ∧ Jvm.Cond.initialized q.1 ∈ WS ∧ (∀ a, a < q.2.2 → ∀ b, b < q.2.2 → a ≠ b → (q.2.1 a).2.1 ≠ (q.2.1 b).2.1) ∧ (∀ w ∈ u_ws q.1 q.2.1 q.2.2, w ∈ WS) := by
  obtain ⟨q, h1, h2, h3, h4, h5, h6, h7⟩ := cca h
  refine ⟨q, h1, h2, h3, h4, hK.1 ci q h1, h5, h6, h7, fun w hw => ?_⟩
  obtain ⟨k, hk, rfl⟩ := List.mem_map.mp hw
  exact (h4 k (List.mem_range.mp hk)).2.2.2
theorem vwCl_lt {ci : Nat} {q : vw_C} (h : vwCl[ci]? = some q) : ci < 12 := (List.getElem?_eq_some_iff.mp h).1
theorem s_gtf (hx : p.tables.exec = Jvm.exec) (hb : c.code = mcd M) (hown : s.vm.findClass (cnm (mcl M)) = some m.cls) (hts : ∀ w ∈ WS, w.before args s = true) (hK : KK D ki kc kl s) {f : Nat} (hN : NNN ≤ 1000) (hn : ∀ a, shp a ≠ (9, 0) → a < 1000)
    (hd : decode (mcd M) pc = .ok (.getfield f, 3)) (hh : gtf (mcl M) f (pc + 3) los st σ = some (.inl (pc1, los1, st1, σ1)))
    (k : GG p l e R s m args below meth c Q D ki kc kl bs b sa M n0 pc1 los1 st1 σ1) : GG p l e R s m args below meth c Q D ki kc kl bs b sa M n0 pc los st σ := by
  unfold gtf at hh
  split at hh
  · rename_i a r ci g hf
    split at hh
    · rename_i hc
      obtain ⟨rfl, rfl, rfl, rfl⟩ := nx_inj hh
      intro H locs ls h1 h2 h3
      have hal : a < 1000 := hn a (by rw [hc.2]; intro z; cases z)
      obtain ⟨q, e1, e2, e3⟩ := ffa (mcl M) _ (lk_mem hf)
      obtain ⟨q', g1, g2, g3, g4, g5, g6, g7, g8, g9⟩ := cls_of (vwCl_lt e1) hK
      have hq : q' = q := Option.some.inj (g1.symm.trans e1)
      subst hq
      obtain ⟨cell, q1, q2, q3, q4⟩ := (h1.2 a hc.1).obj hc.2
      obtain ⟨hS, hfc, kC, hkC, hkind⟩ := g5
      obtain ⟨cf, kf, fi, fd, hi, hsl⟩ := hS g e2
      have hst : (fvl bs b sa σ a g) = cva bs b sa (match knd ci g with | 0 => .int (σ.2.1 a g) | 1 => .int (σ.2.1 a g) | 2 => .long (σ.2.2.1 a g) | _ => rfv (σ.2.2.2 a g)) := by
        unfold fvl; rw [hc.2]; show (match knd ci g with | 0 => _ | 1 => _ | 2 => _ | _ => _) = _; generalize knd ci g = z; rcases z with _ | _ | _ | z <;> rfl
      have hP := k H locs ls h1 h2 h3
      show W p l e R s m args below meth c H locs _ _ Q (F0 m pc ls (.ref (adr bs b sa a) :: r.map (cva bs b sa)))
      rw [adr_lo hal]
      refine W.getf hx hb hown (hts _ e3) hi (u_facts hfc hkC (u_lays hts g9 e2) hi).1 q1 (by rw [q3]; exact fun h => by cases h) (v := fvl bs b sa σ a g) ?_ rfl rfl hd ?_
      · rw [hsl, q4 g (by rw [← g3]; exact e2)]
      · rw [hst]; exact hP
    · simp at hh
  · simp at hh
theorem Kp_ty {ci k : Nat} {q : vw_C} (h : Kp ci k q) : parseFieldDescriptor (q.2.1 k).2.2.1 = some ((parseFieldDescriptor (q.2.1 k).2.2.1).getD .int) := by
  obtain ⟨h1, -⟩ := h
  split at h1
  · rw [h1]; rfl
  · rw [h1]; rfl
  · rw [h1]; rfl
  · cases hp : parseFieldDescriptor (q.2.1 k).2.2.1 with
    | none => rw [hp] at h1; simp [isrt] at h1
    | some t => rfl
  · exact h1.elim
theorem cls_apart {ci : Nat} {q : vw_C} (hK : KK D ki kc kl s) (hts : ∀ w ∈ WS, w.before args s = true) (hc : vwCl[ci]? = some q) : ∀ x y, x < q.2.2 → y < q.2.2 → x ≠ y → (D.2 ci) x ≠ (D.2 ci) y := by
  obtain ⟨q', g1, g2, g3, g4, g5, g6, g7, g8, g9⟩ := cls_of (vwCl_lt hc) hK
  have hq : q' = q := Option.some.inj (g1.symm.trans hc)
  subst hq
  exact va_apart (own := "") (tys := []) (C := q'.1) (T := q'.2.1) (N := q'.2.2) (ci := ci) hts g9 (fun k => (parseFieldDescriptor (q'.2.1 k).2.2.1).getD .int) (fun k hk => Kp_ty (g4 k hk)) g8 ⟨hK.1, fun k q h => by simp at h⟩ hc
theorem fvl_I {ci a g j n : Nat} {I : Nat → Nat → Int32} {Lm : Nat → Nat → Int64} {Rm : Nat → Nat → Nat} {x : Int32} (hs : shp a = (0, ci)) (hk : knd ci g = 0 ∨ knd ci g = 1) : updV (fvl bs b sa (n, I, Lm, Rm) a) g (.int x) j = fvl bs b sa (n, up2 I a g x, Lm, Rm) a j := by
  unfold updV
  by_cases e : j = g
  · subst e
    rw [if_pos rfl]
    unfold fvl
    rw [hs]
    show _ = match knd ci j with | 0 => _ | 1 => _ | 2 => _ | _ => _
    rcases hk with h | h <;> rw [h] <;> simp [up2]
  · rw [if_neg e]
    unfold fvl
    simp only [up2, e, and_false, if_false]
theorem fvl_L {ci a g j n : Nat} {I : Nat → Nat → Int32} {Lm : Nat → Nat → Int64} {Rm : Nat → Nat → Nat} {x : Int64} (hs : shp a = (0, ci)) (hk : knd ci g = 2) : updV (fvl bs b sa (n, I, Lm, Rm) a) g (.long x) j = fvl bs b sa (n, I, up2 Lm a g x, Rm) a j := by
  unfold updV
  by_cases e : j = g
  · subst e
    rw [if_pos rfl]
    unfold fvl
    rw [hs]
    show _ = match knd ci j with | 0 => _ | 1 => _ | 2 => _ | _ => _
    rw [hk]; simp [up2]
  · rw [if_neg e]
    unfold fvl
    simp only [up2, e, and_false, if_false]
theorem fvl_R {ci a g j n q : Nat} {I : Nat → Nat → Int32} {Lm : Nat → Nat → Int64} {Rm : Nat → Nat → Nat} (hs : shp a = (0, ci)) (hk : knd ci g = 3) : updV (fvl bs b sa (n, I, Lm, Rm) a) g (.ref (adr bs b sa q)) j = fvl bs b sa (n, I, Lm, up2 Rm a g (q + 1)) a j := by
  unfold updV
  by_cases e : j = g
  · subst e
    rw [if_pos rfl]
    unfold fvl
    rw [hs]
    show _ = match knd ci j with | 0 => _ | 1 => _ | 2 => _ | _ => _
    rw [hk]; simp [up2, rfv, cva]
  · rw [if_neg e]
    unfold fvl
    simp only [up2, e, and_false, if_false]
theorem up2_ne {α : Type} {f : Nat → Nat → α} {a k p : Nat} {v : α} (h : p ≠ a) : up2 f a k v p = f p := by
  funext j; simp [up2, h]
theorem s_put (hx : p.tables.exec = Jvm.exec) (hb : c.code = mcd M) (hown : s.vm.findClass (cnm (mcl M)) = some m.cls) (hts : ∀ w ∈ WS, w.before args s = true) (hK : KK D ki kc kl s) {f a ci g : Nat} (hin : min_ M = true → meth.name = "<init>") (hal : a < 1000)
    (hd : decode (mcd M) pc = .ok (.putfield f, 3)) (hf : fld (mcl M) f = some (ci, g)) (hc : a < σ.1 ∧ shp a = (0, ci)) (hfi : fnl ci g = false ∨ (min_ M = true ∧ mcl M = ci)) {v : Value}
    (hty : ∀ q : vw_C, vwCl[ci]? = some q → Kp ci g q → ∃ ty, parseFieldDescriptor (q.2.1 g).2.2.1 = some ty ∧ narrow ty v = v ∧ fits ty v = true) (hn : σ1.1 = σ.1)
    (hv : ∀ j, updV (fvl bs b sa σ a) g v j = fvl bs b sa σ1 a j) (h1 : ∀ p, p ≠ a → σ1.2.1 p = σ.2.1 p) (h2 : ∀ p, p ≠ a → σ1.2.2.1 p = σ.2.2.1 p) (h3 : ∀ p, p ≠ a → σ1.2.2.2 p = σ.2.2.2 p) {r : List Value}
    (k : GG p l e R s m args below meth c Q D ki kc kl bs b sa M n0 (pc + 3) los r σ1) : ∀ (H : Heap) (locs : List Loc) (ls : Array Slot), Pl D ki kc kl bs b sa σ H → va_S (fun q => bs ≤ q) s.heap H locs → LR bs b sa ls (mmx M) los → W p l e R s m args below meth c H locs (σ.1 - n0) (SS σ.1 - SS n0) Q (F0 m pc ls (v :: .ref (adr bs b sa a) :: r.map (cva bs b sa))) := by
  intro H locs ls hP hS hL
  obtain ⟨q, e1, e2, e3⟩ := ffa (mcl M) _ (lk_mem hf)
  obtain ⟨q', g1, g2, g3, g4, g5, g6, g7, g8, g9⟩ := cls_of (vwCl_lt e1) hK
  have hq : q' = q := Option.some.inj (g1.symm.trans e1)
  subst hq
  obtain ⟨ty, t1, t2, t3⟩ := hty q' g1 (g4 g e2)
  have hap := cls_apart hK hts g1
  obtain ⟨cell, q1, q2, q3, q4⟩ := (hP.2 a hc.1).obj hc.2
  obtain ⟨hSl, hfc, kC, hkC, hkind⟩ := g5
  obtain ⟨cf, kf, fi, fd, hi, hsl⟩ := hSl g e2
  have hlay := hts _ (g9 _ (u_in_lay e2))
  have hst := (u_facts hfc hkC (u_lays hts g9 e2) hi).1
  have e2' : g < nfl ci := by rw [← g3]; exact e2
  have hlt : fd.slot < cell.slots.size := by rw [hsl]; exact k2_hasslot (q4 g e2')
  have hfl : (q'.2.1 g).2.2.2 = fnl ci g := (g4 g e2).2.1
  have done : ∀ H' : Heap, H'[bs + a]? = some (cell.setSlot fd.slot v) → H'.size = H.size → (∀ q, q ≠ bs + a → H'[q]? = H[q]?) → W p l e R s m args below meth c H' (locs ++ [⟨bs + a, fd.slot⟩]) (σ.1 - n0) (SS σ.1 - SS n0) Q (F0 m (pc + 3) ls (r.map (cva bs b sa))) := by
    intro H' w1 w2 w3
    rw [← hn]
    refine k H' _ ls (hP.put (a := a) hn w2 w3 (At1.ofObj hc.2 ⟨_, w1, q2, q3, fun j hj => ?_⟩) h1 h2 h3) (hS.put w2 w3 (by show bs ≤ bs + a; omega)) hL
    rw [← hv j, hsl]
    exact t_set (N := nfl ci) q4 (fun x y hx hy => hap x y (by rw [g3]; exact hx) (by rw [g3]; exact hy)) e2' v j hj
  rw [adr_lo hal]
  cases hf2 : fnl ci g with
  | false =>
    unfold u_lay at hlay
    rw [if_neg (by rw [hfl, hf2]; decide)] at hlay
    have h6 := u_store hfc hkC hkind hlay hi t1 t2 t3
    exact W.putK hx hb (f := fd) ⟨hown, hts _ e3, ⟨_, _, _, hi⟩, hst⟩ (by rw [q2]; exact h6) q1 q3 hlt rfl rfl hd done
  | true =>
    unfold u_lay at hlay
    rw [if_pos (by rw [hfl, hf2])] at hlay
    obtain ⟨hm1, hm2⟩ := hfi.resolve_left (by rw [hf2]; decide)
    have hcf : m.cls = cf := by
      obtain ⟨_, _, c', _, _, _, -, -, hf', -, -, -, hown2, -⟩ := Cond.laysFinal_spec hlay
      have e1 : c' = cf := by have := hi.symm.trans hf'; simp at this; exact this.1.symm
      rw [(g4 g e2).2.2.1, ← hm2] at hown2
      rw [← e1]; exact Option.some.inj (hown.symm.trans hown2)
    have h6 := u_fits hfc hkC hkind (Or.inr hlay) hi t1 t2 t3
    exact W.putFinK hx hb hown (hts _ e3) hi hst hcf (hin hm1) (by rw [q2]; exact h6) q1 q3 hlt rfl rfl hd done
theorem s_ptf (hx : p.tables.exec = Jvm.exec) (hb : c.code = mcd M) (hown : s.vm.findClass (cnm (mcl M)) = some m.cls) (hts : ∀ w ∈ WS, w.before args s = true) (hK : KK D ki kc kl s) {f : Nat} (hin : min_ M = true → meth.name = "<init>") (hn : ∀ a, shp a ≠ (9, 0) → a < 1000)
    (hd : decode (mcd M) pc = .ok (.putfield f, 3)) (hh : ptf M (mcl M) f (pc + 3) los st σ = some (.inl (pc1, los1, st1, σ1)))
    (k : GG p l e R s m args below meth c Q D ki kc kl bs b sa M n0 pc1 los1 st1 σ1) : GG p l e R s m args below meth c Q D ki kc kl bs b sa M n0 pc los st σ := by
  unfold ptf at hh
  split at hh
  · rename_i v a r ci g hf
    split at hh
    · rename_i hc
      have hal : a < 1000 := hn a (by rw [hc.1.2]; intro z; cases z)
      obtain ⟨n, I, Lm, Rm⟩ := σ
      split at hh
      · rename_i x hk
        obtain ⟨rfl, rfl, rfl, rfl⟩ := nx_inj hh
        exact s_put (σ := (n, I, Lm, Rm)) (σ1 := (n, up2 I a g x, Lm, Rm)) hx hb hown hts hK hin hal hd hf hc.1 hc.2 (v := .int x) (fun q _ hq => ⟨.int, by have := hq.1; rw [hk] at this; exact this, rfl, rfl⟩) rfl (fun j => fvl_I hc.1.2 (Or.inl hk)) (fun p hp => up2_ne hp) (fun _ _ => rfl) (fun _ _ => rfl) k
      · rename_i x hk
        split at hh
        · rename_i h01
          obtain ⟨rfl, rfl, rfl, rfl⟩ := nx_inj hh
          exact s_put (σ := (n, I, Lm, Rm)) (σ1 := (n, up2 I a g x, Lm, Rm)) hx hb hown hts hK hin hal hd hf hc.1 hc.2 (v := .int x) (fun q _ hq => ⟨.boolean, by have := hq.1; rw [hk] at this; exact this, by rcases h01 with rfl | rfl <;> rfl, by rcases h01 with rfl | rfl <;> rfl⟩) rfl (fun j => fvl_I hc.1.2 (Or.inr hk)) (fun p hp => up2_ne hp) (fun _ _ => rfl) (fun _ _ => rfl) k
        · simp at hh
      · rename_i x hk
        obtain ⟨rfl, rfl, rfl, rfl⟩ := nx_inj hh
        exact s_put (σ := (n, I, Lm, Rm)) (σ1 := (n, I, up2 Lm a g x, Rm)) hx hb hown hts hK hin hal hd hf hc.1 hc.2 (v := .long x) (fun q _ hq => ⟨.long, by have := hq.1; rw [hk] at this; exact this, rfl, rfl⟩) rfl (fun j => fvl_L hc.1.2 hk) (fun _ _ => rfl) (fun p hp => up2_ne hp) (fun _ _ => rfl) k
      · rename_i x hk
        obtain ⟨rfl, rfl, rfl, rfl⟩ := nx_inj hh
        refine s_put (σ := (n, I, Lm, Rm)) (σ1 := (n, I, Lm, up2 Rm a g (x + 1))) hx hb hown hts hK hin hal hd hf hc.1 hc.2 (v := .ref (adr bs b sa x)) (fun q _ hq => ?_) rfl (fun j => fvl_R hc.1.2 hk) (fun _ _ => rfl) (fun _ _ => rfl) (fun p hp => up2_ne hp) k
        have h1 := hq.1
        rw [hk] at h1
        simp only at h1
        cases hp : parseFieldDescriptor (q.2.1 g).2.2.1 with
        | none => rw [hp] at h1; simp [isrt] at h1
        | some t =>
          rw [hp] at h1
          cases t <;> first | exact ⟨_, rfl, rfl, rfl⟩ | (simp [isrt] at h1)
      · simp at hh
    · simp at hh
  · simp at hh
end
