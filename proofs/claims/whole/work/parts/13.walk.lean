section
variable {p : Program} {l : Launch} {e : Env} {R : Room} {s : State} {m : MethodId} {args : Array Value} {below : List Frame} {meth : Method} {c : Code} {Q : State → Prop} {D : va_G} {ki kc kl : ClassId} {bs b sa sv : Nat} {L : Nat} {xs : Nat → Int32} {M n0 : Nat}
/-- from a frame of the small machine: the walk, by the contracts of what it calls -/
theorem walk_of (C0 : CX p R s m args meth c D ki kc kl bs b sa sv L xs M) (hLen : LenMet l bs b sa sv L xs) (hChr : ChrMet l bs b sa sv L xs) {ρ : Nat} (hfr : ρ + 8 ≤ R.frames) (hlo : 60 * ρ + 400 ≤ R.locals) {v : Option Value} {σ1 : Mm}
    (hc1 : σ1.1 - n0 ≤ R.cells) (hs1 : SS σ1.1 - SS n0 ≤ R.slots)
    (fin : ∀ (pcr : Nat) (H : Heap) (locs : List Loc) (ls : Array Slot), RF M v pcr → Pl D ki kc kl bs b sa σ1 H → va_S (fun q => bs ≤ q) s.heap H locs → W p l e R s m args below meth c H locs (σ1.1 - n0) (SS σ1.1 - SS n0) Q (F0 m pcr ls (v.toList.map (cva bs b sa)))) :
    ∀ (n : Nat), (∀ j, j < n → ∀ (K : Nat) (As : List Value) (σ : Mm) (v : Option Value) (σ1 : Mm), (K < 302 ∧ K ≠ 301) → (lay1 As).length ≤ mmx K → run L xs j (rka K As) K 0 (lay (mmx K) As) [] σ = some (v, σ1) → MetS l D ki kc kl bs b sa sv L xs K As σ v σ1) →
    ∀ (pc : Nat) (los : List (Option Value)) (st : List Value) (σ : Mm), n0 ≤ σ.1 → run L xs n ρ M pc los st σ = some (v, σ1) → GG p l e R s m args below meth c Q D ki kc kl bs b sa M n0 pc los st σ := by
  intro n
  induction n with
  | zero => intro _ pc los st σ _ h; simp [run] at h
  | succ n ih =>
    intro hP pc los st σ hn0 h
    have ih := ih (fun j hj => hP j (by omega))
    have hnn := run_n _ _ _ _ _ _ _ _ _ h
    rw [run] at h
    cases hs : stp L xs M pc los st σ with
    | none => rw [hs] at h; simp at h
    | some q =>
      rw [hs] at h
      have hgd := g_stp hs
      unfold stp at hs
      split at hs
      · rename_i ins len hd
        by_cases hl : len = iln ins len
        · rw [if_pos hl] at hs
          rcases q with ⟨pc1, los1, st1, σ2⟩ | ⟨K, As, pc1, los1, st1, σ2⟩ | w
          · have h2 := run_n _ _ _ _ _ _ _ _ _ h
            have hg2 : σ.1 ≤ σ2.1 := hgd
            have hS2 := SS_le h2
            exact s_exe C0 hLen hChr hn0 (by omega) (by omega) hd hl hs (ih pc1 los1 st1 σ2 (by omega) h)
          · simp only at h
            have e2 : σ2 = σ := hgd
            subst e2
            split at h
            · rename_i hr
              split at h
              · rename_i v2 σ3 hk
                obtain ⟨rfl, kind, k, hki, hv⟩ := x_call hl hs
                have hcal := (inv_inr hv).2.1
                obtain ⟨hK302, -⟩ := lla (mcl M) _ (cal_mem (v := K + 9) hcal)
                have hk1 := run_n _ _ _ _ _ _ _ _ _ hk
                have hk2 := run_n _ _ _ _ _ _ _ _ _ h
                have hS3 := SS_le hk2
                exact s_call C0 hfr hlo hn0 hki hd hv hr.1 hk1 (by omega) (by omega) (hP n (by omega) K As σ2 v2 σ3 hK302 hr.2 hk) (ih pc1 los1 _ σ3 (by omega) h)
              · simp at h
            · simp at h
          · obtain ⟨hrf, rfl⟩ := x_ret hd hl hs
            simp only [Option.some.injEq, Prod.mk.injEq] at h
            obtain ⟨rfl, rfl⟩ := h
            intro H locs ls h1 h2 h3
            exact fin pc H locs ls hrf h1 h2
        · rw [if_neg hl] at hs; simp at hs
      · simp at hs
end
theorem Met.ofWF {l : Launch} {y : MethodName} {ws ws' : List Jvm.Cond} {rm : Room} {Pc : Array Value → State → Prop} {Qc : Array Value → State → Outcome → State → Prop} {mc ms : Nat} {free : Addr → Prop} {cc : ByteArray} {maxL : Nat} {ret : Option FieldType}
    (hy : plainFor y = true) (hw : ws = Jvm.Cond.code y cc maxL ret :: ws')
    (body : ∀ p e s m args below meth c s₁, BodyLoose p l y (headSpec ws rm) cc maxL ret e s m args below meth c s₁ → c.maxLocals = maxL → Pc args s →
      W p l e (headSpec ws rm).room s m args below meth c s.heap [] 0 0 (MQ below Qc args s mc ms free) (entryFrame m args maxL)) : Met l y ws rm Pc Qc mc ms free := by
  refine MetFree.of_bodySF (code := cc) (maxLocals := maxL) (ret := ret) hy ?_ ?_
  · intro args s m h hn
    obtain ⟨meth, c, h1, h2, h3, h4, h5, h6, -, -⟩ := Cond.code_spec hn (atoms_spec (ws := ws) h _ (by rw [hw]; exact List.mem_cons_self))
    exact ⟨meth, c, h1, h2, h3, h4, h5, h6⟩
  · intro p e s m args below meth c s₁ B hml hP _
    have hh0 : s₁.heap = s.heap := by rw [B.state]; rfl
    obtain ⟨t, a1, o, b1, b2, b3⟩ := body p e s m args below meth c s₁ B hml hP s₁ hh0 (Stand.of_body B)
    exact ⟨t, o, a1, b1, b2, ⟨b3.1, b3.2⟩⟩
/-- what the small machine answers of a method, the machine answers -/
theorem sound {l : Launch} {D : va_G} {ki kc kl : ClassId} {bs b sa sv : Nat} {L : Nat} {xs : Nat → Int32} (hLen : LenMet l bs b sa sv L xs) (hChr : ChrMet l bs b sa sv L xs) :
    ∀ (n : Nat) (K : Nat) (As : List Value) (σ : Mm) (v : Option Value) (σ1 : Mm), (K < 302 ∧ K ≠ 301) → (lay1 As).length ≤ mmx K → run L xs n (rka K As) K 0 (lay (mmx K) As) [] σ = some (v, σ1) → MetS l D ki kc kl bs b sa sv L xs K As σ v σ1 := by
  intro n
  induction n using Nat.strongRecOn with
  | _ n ih =>
    intro K As σ v σ1 hK302 hlay h
    obtain ⟨m1, m2, m3, m4, m5, m6, m7, m8, m9, m10, m11⟩ := mma hK302
    refine Met.ofWF (cc := mcd K) (maxL := mmx K) (ret := rtt (mrt K)) m4 rfl ?_
    intro p e s m args below meth c s₁ B hml hv
    obtain ⟨rfl, hPl, hKK, hNW, hXS⟩ := hv
    have hts0 := atoms_spec (ws := wsm K) B.pre
    have hts : ∀ w ∈ WS, w.before ((As.map (cva bs b sa)).toArray) s = true := fun w hw => hts0 w (List.mem_cons_of_mem _ hw)
    have hown : s.vm.findClass (cnm (mcl K)) = some m.cls := by rw [← m1]; exact findClass_of_methodNamed B.named
    have hlocks := B.notSynchronized
    have hr := B.returns
    have hx := B.exec
    have hb := B.bytes
    have hbs : bs ≤ s.heap.size := by rw [hPl.1]; omega
    have hin : min_ K = true → meth.name = "<init>" := fun h => ((name_of_methodNamed B.named B.method).1).trans (m7 h).1
    have C0 : CX p (rmm (rka K As) (σ1.1 - σ.1) (SS σ1.1 - SS σ.1)) s m ((As.map (cva bs b sa)).toArray) meth c D ki kc kl bs b sa sv L xs K := ⟨⟨hx, hb, hml, hown, hts, hNW⟩, hKK, hXS, hbs, hin, by show 8 ≤ rka K As + 8; omega, by show 400 ≤ 60 * rka K As + 400; omega⟩
    rw [lg_entry_eq]
    have hent := LR.entry (bs := bs) (b := b) (sa := sa) hlay
    have key := walk_of (n0 := σ.1) (Q := MQ below (QcM D ki kc kl bs b sa v σ1) ((As.map (cva bs b sa)).toArray) s (σ1.1 - σ.1) (SS σ1.1 - SS σ.1) (fun q => bs ≤ q)) (below := below) (e := e) C0 hLen hChr (ρ := rka K As) (Nat.le_refl _) (Nat.le_refl _) (v := v) (σ1 := σ1) (Nat.le_refl _) (Nat.le_refl _) ?_ n (fun j hj => ih j hj) 0 (lay (mmx K) As) [] σ (Nat.le_refl _) h
    · have := key s.heap [] _ hPl va_S.rf hent
      rw [Nat.sub_self, Nat.sub_self] at this
      exact this
    · intro pcr H locs ls hrf hP1 hS1
      have hq : ∀ t : State, t.heap = H → s.WarmedH t.vm → QcM D ki kc kl bs b sa v σ1 ((As.map (cva bs b sa)).toArray) s (.returned (v.map (cva bs b sa))) t := fun t ht _ => ⟨rfl, by rw [ht]; exact hP1, hS1.F ht⟩
      unfold RF at hrf
      split at hrf
      · have hr0 : meth.sig.returnType = none := by rw [hr, hrf.2]; rfl
        exact W.vret hx hb hr0 hq hS1.2.2 hrf.1
      · rename_i x
        rcases hrf.2 with h1 | ⟨h1, h2⟩
        · have hr0 : meth.sig.returnType = some .int := by rw [hr, h1]; rfl
          exact W.iret hx hb hr0 hq hS1.2.2 hrf.1
        · have hr0 : meth.sig.returnType = some .boolean := by rw [hr, h1]; rfl
          exact W.zret hx hb hr0 (by rcases h2 with rfl | rfl <;> rfl) hq hS1.2.2 hrf.1
      · have hr0 : meth.sig.returnType = some .long := by rw [hr, hrf.2]; rfl
        exact W.lret hx hb hr0 hq hS1.2.2 hrf.1
      · exact hrf.elim
