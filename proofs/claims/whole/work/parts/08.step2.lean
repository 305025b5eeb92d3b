section
variable {p : Program} {l : Launch} {e : Env} {R : Room} {s : State} {m : MethodId} {args : Array Value} {below : List Frame} {meth : Method} {c : Code} {Q : State → Prop} {D : va_G} {ki kc kl : ClassId} {bs b sa sv : Nat} {L : Nat} {xs : Nat → Int32} {M n0 : Nat}
variable {pc pc1 : Nat} {los los1 : List (Option Value)} {st st1 : List Value} {σ σ1 : Mm}
theorem shp_lo : ∀ a, shp a ≠ (9, 0) → a < 1000 := by
  intro a h
  by_cases ha : a < 1000
  · exact ha
  · exfalso
    apply h
    unfold shp
    rw [List.getD_eq_getElem?_getD, List.getElem?_eq_none (by rw [SHL_len]; unfold NNN; omega)]
    rfl
theorem shp_lo1 {a t : Nat} (h : (shp a).1 = t) (ht : t ≠ 9) : a < 1000 := shp_lo a (fun q => ht (by rw [← h, q]))
theorem inb_vp {i : Int32} {n : Nat} (h : inb i n) : vp_in i n := vp_in_iff.mpr h
theorem At1.arr1 {a : Nat} {H : Heap} (h : At1 D ki kc kl bs b sa σ a H) (hs : (shp a).1 = 1) : H[bs + a]? = some (arrV ki (shp a).2 (fun j => .int (σ.2.1 a j))) := by
  unfold At1 at h; rw [hs] at h; exact h
theorem At1.arr2 {a : Nat} {H : Heap} (h : At1 D ki kc kl bs b sa σ a H) (hs : (shp a).1 = 2) : H[bs + a]? = some (arrV kc (shp a).2 (fun j => .int (σ.2.1 a j))) := by
  unfold At1 at h; rw [hs] at h; exact h
theorem At1.arr3 {a : Nat} {H : Heap} (h : At1 D ki kc kl bs b sa σ a H) (hs : (shp a).1 = 3) : H[bs + a]? = some (arrV kl (shp a).2 (fun j => .long (σ.2.2.1 a j))) := by
  unfold At1 at h; rw [hs] at h; exact h
theorem inb_arr {k : ClassId} {i : Int32} {n : Nat} {f : Nat → Value} (h : inb i n) : ¬ (i < 0 ∨ (arrV k n f).slots.size ≤ i.toNatClampNeg) := by
  rw [arrV_size]; exact inb_vp h
theorem rd_arr {k : ClassId} {i : Int32} {n : Nat} {f : Nat → Value} (h : inb i n) : (arrV k n f).slots[i.toNatClampNeg]? = some (f (ixn i)) := by
  have e : i.toNatClampNeg = ixn i := rfl
  rw [e, arrV_read]
  unfold ixn
  have := h.2; have := h.1
  omega
theorem s_ard1 (hx : p.tables.exec = Jvm.exec) (hb : c.code = mcd M) (hK : KK D ki kc kl s) (hd : decode (mcd M) pc = .ok (.iaload, 1)) (hh : ard 1 (pc + 1) los st σ = some (.inl (pc1, los1, st1, σ1)))
    (k : GG p l e R s m args below meth c Q D ki kc kl bs b sa M n0 pc1 los1 st1 σ1) : GG p l e R s m args below meth c Q D ki kc kl bs b sa M n0 pc los st σ := by
  unfold ard at hh
  split at hh
  · rename_i i a r
    split at hh
    · rename_i hc
      obtain ⟨hc, hi⟩ := hc
      obtain ⟨rfl, rfl, rfl, rfl⟩ := nx_inj hh
      intro H locs ls h1 h2 h3
      show W p l e R s m args below meth c H locs _ _ Q (F0 m pc ls (.int i :: .ref (adr bs b sa a) :: r.map (cva bs b sa)))
      rw [adr_lo (shp_lo1 hc.2 (by decide))]
      exact W.iald hx hb ((h1.2 a hc.1).arr1 hc.2) (hK.2.1.1 _ _) (fun q => by cases q) (inb_arr hi) (rd_arr hi) rfl rfl hd (k H locs ls h1 h2 h3)
    · simp at hh
  · simp at hh
theorem s_ard2 (hx : p.tables.exec = Jvm.exec) (hb : c.code = mcd M) (hK : KK D ki kc kl s) (hd : decode (mcd M) pc = .ok (.caload, 1)) (hh : ard 2 (pc + 1) los st σ = some (.inl (pc1, los1, st1, σ1)))
    (k : GG p l e R s m args below meth c Q D ki kc kl bs b sa M n0 pc1 los1 st1 σ1) : GG p l e R s m args below meth c Q D ki kc kl bs b sa M n0 pc los st σ := by
  unfold ard at hh
  split at hh
  · rename_i i a r
    split at hh
    · rename_i hc
      obtain ⟨hc, hi⟩ := hc
      obtain ⟨rfl, rfl, rfl, rfl⟩ := nx_inj hh
      intro H locs ls h1 h2 h3
      show W p l e R s m args below meth c H locs _ _ Q (F0 m pc ls (.int i :: .ref (adr bs b sa a) :: r.map (cva bs b sa)))
      rw [adr_lo (shp_lo1 hc.2 (by decide))]
      exact W.cald hx hb ((h1.2 a hc.1).arr2 hc.2) (hK.2.2.1.1 _ _) (fun q => by cases q) (inb_arr hi) (rd_arr hi) rfl rfl hd (k H locs ls h1 h2 h3)
    · simp at hh
  · simp at hh
theorem s_ard3 (hx : p.tables.exec = Jvm.exec) (hb : c.code = mcd M) (hK : KK D ki kc kl s) (hd : decode (mcd M) pc = .ok (.laload, 1)) (hh : ard 3 (pc + 1) los st σ = some (.inl (pc1, los1, st1, σ1)))
    (k : GG p l e R s m args below meth c Q D ki kc kl bs b sa M n0 pc1 los1 st1 σ1) : GG p l e R s m args below meth c Q D ki kc kl bs b sa M n0 pc los st σ := by
  unfold ard at hh
  split at hh
  · rename_i i a r
    split at hh
    · rename_i hc
      obtain ⟨hc, hi⟩ := hc
      obtain ⟨rfl, rfl, rfl, rfl⟩ := nx_inj hh
      intro H locs ls h1 h2 h3
      show W p l e R s m args below meth c H locs _ _ Q (F0 m pc ls (.int i :: .ref (adr bs b sa a) :: r.map (cva bs b sa)))
      rw [adr_lo (shp_lo1 hc.2 (by decide))]
      exact W.lald hx hb ((h1.2 a hc.1).arr3 hc.2) (hK.2.2.2.1 _ _) (fun q => by cases q) (inb_arr hi) (rd_arr hi) rfl rfl hd (k H locs ls h1 h2 h3)
    · simp at hh
  · simp at hh
theorem s_arl (hx : p.tables.exec = Jvm.exec) (hb : c.code = mcd M) (hX : XS b L bs sa sv xs s s.heap) (hd : decode (mcd M) pc = .ok (.iaload, 1)) (hh : arl L xs (pc + 1) los st σ = some (.inl (pc1, los1, st1, σ1)))
    (k : GG p l e R s m args below meth c Q D ki kc kl bs b sa M n0 pc1 los1 st1 σ1) : GG p l e R s m args below meth c Q D ki kc kl bs b sa M n0 pc los st σ := by
  unfold arl at hh
  split at hh
  · rename_i i r
    split at hh
    · rename_i hi
      obtain ⟨rfl, rfl, rfl, rfl⟩ := nx_inj hh
      intro H locs ls h1 h2 h3
      have hbl : b < s.heap.size := by
        obtain ⟨scr, hcc, -⟩ := hX.1
        exact (Array.getElem?_eq_some_iff.mp hcc).1
      exact va_sld hx hb hX.1 hbl (by have := hX.2.1; show ¬ bs ≤ b; omega) h2 (inb_vp hi) hd (k H locs ls h1 h2 h3)
    · simp at hh
  · simp at hh
theorem updV_I {a k : Nat} {I : Nat → Nat → Int32} {x : Int32} : updV (fun j => Value.int (I a j)) k (.int x) = fun j => .int (up2 I a k x a j) := by
  funext j; unfold updV up2; by_cases h : j = k <;> simp [h]
theorem updV_L {a k : Nat} {I : Nat → Nat → Int64} {x : Int64} : updV (fun j => Value.long (I a j)) k (.long x) = fun j => .long (up2 I a k x a j) := by
  funext j; unfold updV up2; by_cases h : j = k <;> simp [h]
theorem At1.of1 {a : Nat} {H : Heap} (hs : (shp a).1 = 1) (h : H[bs + a]? = some (arrV ki (shp a).2 (fun j => .int (σ.2.1 a j)))) : At1 D ki kc kl bs b sa σ a H := by
  unfold At1; rw [hs]; exact h
theorem At1.of2 {a : Nat} {H : Heap} (hs : (shp a).1 = 2) (h : H[bs + a]? = some (arrV kc (shp a).2 (fun j => .int (σ.2.1 a j)))) : At1 D ki kc kl bs b sa σ a H := by
  unfold At1; rw [hs]; exact h
theorem At1.of3 {a : Nat} {H : Heap} (hs : (shp a).1 = 3) (h : H[bs + a]? = some (arrV kl (shp a).2 (fun j => .long (σ.2.2.1 a j)))) : At1 D ki kc kl bs b sa σ a H := by
  unfold At1; rw [hs]; exact h
theorem nar_char {x : Int32} (h : 0 ≤ x.toInt ∧ x.toInt < 65536) : narrow .char (.int x) = .int x := by
  obtain ⟨j, hj, rfl⟩ := vp_in_of (x := x) (n := 65536) (vp_in_iff.mpr h) (by decide)
  exact (pk_charN hj).1
theorem s_awr1 (hx : p.tables.exec = Jvm.exec) (hb : c.code = mcd M) (hK : KK D ki kc kl s) (hd : decode (mcd M) pc = .ok (.iastore, 1)) (hh : awr 1 (pc + 1) los st σ = some (.inl (pc1, los1, st1, σ1)))
    (k : GG p l e R s m args below meth c Q D ki kc kl bs b sa M n0 pc1 los1 st1 σ1) : GG p l e R s m args below meth c Q D ki kc kl bs b sa M n0 pc los st σ := by
  unfold awr at hh
  split at hh
  · rename_i v i a r
    split at hh
    · rename_i hc
      cases v <;> simp only at hh <;> first | (simp at hh; done) | skip
      rename_i x
      obtain ⟨rfl, rfl, rfl, rfl⟩ := nx_inj hh
      intro H locs ls h1 h2 h3
      show W p l e R s m args below meth c H locs _ _ Q (F0 m pc ls (.int x :: .int i :: .ref (adr bs b sa a) :: r.map (cva bs b sa)))
      rw [adr_lo (shp_lo1 hc.1.2 (by decide))]
      refine W.iast hx hb ((h1.2 a hc.1.1).arr1 hc.1.2) (hK.2.1.1 _ _) (fun q => by cases q) (inb_arr hc.2) rfl rfl hd fun H1 z1 z2 z3 => ?_
      refine k H1 _ ls (h1.put (a := a) rfl z2 z3 (At1.of1 hc.1.2 ?_) (fun p hp => up2_ne hp) (fun _ _ => rfl) (fun _ _ => rfl)) (h2.put z2 z3 (by show bs ≤ bs + a; omega)) h3
      rw [z1, arrV_store, updV_I]; rfl
    · simp at hh
  · simp at hh
theorem s_awr2 (hx : p.tables.exec = Jvm.exec) (hb : c.code = mcd M) (hK : KK D ki kc kl s) (hd : decode (mcd M) pc = .ok (.castore, 1)) (hh : awr 2 (pc + 1) los st σ = some (.inl (pc1, los1, st1, σ1)))
    (k : GG p l e R s m args below meth c Q D ki kc kl bs b sa M n0 pc1 los1 st1 σ1) : GG p l e R s m args below meth c Q D ki kc kl bs b sa M n0 pc los st σ := by
  unfold awr at hh
  split at hh
  · rename_i v i a r
    split at hh
    · rename_i hc
      cases v <;> simp only at hh <;> first | (simp at hh; done) | skip
      rename_i x
      split at hh
      · rename_i h65
        obtain ⟨rfl, rfl, rfl, rfl⟩ := nx_inj hh
        intro H locs ls h1 h2 h3
        show W p l e R s m args below meth c H locs _ _ Q (F0 m pc ls (.int x :: .int i :: .ref (adr bs b sa a) :: r.map (cva bs b sa)))
        rw [adr_lo (shp_lo1 hc.1.2 (by decide))]
        refine W.cast hx hb ((h1.2 a hc.1.1).arr2 hc.1.2) (hK.2.2.1.1 _ _) (fun q => by cases q) (inb_arr hc.2) rfl rfl hd fun H1 z1 z2 z3 => ?_
        refine k H1 _ ls (h1.put (a := a) rfl z2 z3 (At1.of2 hc.1.2 ?_) (fun p hp => up2_ne hp) (fun _ _ => rfl) (fun _ _ => rfl)) (h2.put z2 z3 (by show bs ≤ bs + a; omega)) h3
        rw [z1, nar_char h65, arrV_store, updV_I]; rfl
      · simp at hh
    · simp at hh
  · simp at hh
theorem s_awr3 (hx : p.tables.exec = Jvm.exec) (hb : c.code = mcd M) (hK : KK D ki kc kl s) (hd : decode (mcd M) pc = .ok (.lastore, 1)) (hh : awr 3 (pc + 1) los st σ = some (.inl (pc1, los1, st1, σ1)))
    (k : GG p l e R s m args below meth c Q D ki kc kl bs b sa M n0 pc1 los1 st1 σ1) : GG p l e R s m args below meth c Q D ki kc kl bs b sa M n0 pc los st σ := by
  unfold awr at hh
  split at hh
  · rename_i v i a r
    split at hh
    · rename_i hc
      cases v <;> simp only at hh <;> first | (simp at hh; done) | skip
      rename_i x
      obtain ⟨rfl, rfl, rfl, rfl⟩ := nx_inj hh
      intro H locs ls h1 h2 h3
      show W p l e R s m args below meth c H locs _ _ Q (F0 m pc ls (.long x :: .int i :: .ref (adr bs b sa a) :: r.map (cva bs b sa)))
      rw [adr_lo (shp_lo1 hc.1.2 (by decide))]
      refine W.last hx hb ((h1.2 a hc.1.1).arr3 hc.1.2) (hK.2.2.2.1 _ _) (fun q => by cases q) (inb_arr hc.2) rfl rfl hd fun H1 z1 z2 z3 => ?_
      refine k H1 _ ls (h1.put (a := a) rfl z2 z3 (At1.of3 hc.1.2 ?_) (fun _ _ => rfl) (fun p hp => up2_ne hp) (fun _ _ => rfl)) (h2.put z2 z3 (by show bs ≤ bs + a; omega)) h3
      rw [z1, arrV_store, updV_L]; rfl
    · simp at hh
  · simp at hh
theorem s_aln (hx : p.tables.exec = Jvm.exec) (hb : c.code = mcd M) (hK : KK D ki kc kl s) (hd : decode (mcd M) pc = .ok (.arraylength, 1)) (hh : aln (pc + 1) los st σ = some (.inl (pc1, los1, st1, σ1)))
    (k : GG p l e R s m args below meth c Q D ki kc kl bs b sa M n0 pc1 los1 st1 σ1) : GG p l e R s m args below meth c Q D ki kc kl bs b sa M n0 pc los st σ := by
  unfold aln at hh
  split at hh
  · rename_i a r
    split at hh
    · rename_i hc
      obtain ⟨rfl, rfl, rfl, rfl⟩ := nx_inj hh
      intro H locs ls h1 h2 h3
      have hat := h1.2 a hc.1
      have hal : a < 1000 := by
        apply shp_lo a
        intro q
        unfold At1 at hat
        rw [q] at hat
        exact hat
      show W p l e R s m args below meth c H locs _ _ Q (F0 m pc ls (.ref (adr bs b sa a) :: r.map (cva bs b sa)))
      rw [adr_lo hal]
      have hk := k H locs ls h1 h2 h3
      unfold At1 at hat
      split at hat
      · rename_i q; exact absurd q hc.2
      · exact W.alen hx hb hat (hK.2.1.1 _ _) (by rw [arrV_size]) rfl rfl hd hk
      · exact W.alen hx hb hat (hK.2.2.1.1 _ _) (by rw [arrV_size]) rfl rfl hd hk
      · exact W.alen hx hb hat (hK.2.2.2.1 _ _) (by rw [arrV_size]) rfl rfl hd hk
      · exact hat.elim
    · simp at hh
  · simp at hh
theorem s_alc (hx : p.tables.exec = Jvm.exec) (hb : c.code = mcd M) (hX : XS b L bs sa sv xs s s.heap) (hd : decode (mcd M) pc = .ok (.arraylength, 1)) (hh : alc L (pc + 1) los st σ = some (.inl (pc1, los1, st1, σ1)))
    (k : GG p l e R s m args below meth c Q D ki kc kl bs b sa M n0 pc1 los1 st1 σ1) : GG p l e R s m args below meth c Q D ki kc kl bs b sa M n0 pc los st σ := by
  unfold alc at hh
  split at hh
  · obtain ⟨rfl, rfl, rfl, rfl⟩ := nx_inj hh
    intro H locs ls h1 h2 h3
    have hbl : b < s.heap.size := by
      obtain ⟨scr, hcc, -⟩ := hX.1
      exact (Array.getElem?_eq_some_iff.mp hcc).1
    exact va_slen hx hb hX.1 hbl (by have := hX.2.1; show ¬ bs ≤ b; omega) h2 hd (k H locs ls h1 h2 h3)
  · simp at hh
theorem va_S.grow {A : Nat → Prop} {H0 H H1 : Heap} {locs : List Loc} (h : va_S A H0 H locs) (hz : H1.size = H.size + 1) (ho : ∀ q, q < H.size → H1[q]? = H[q]?) : va_S A H0 H1 locs :=
  ⟨Nat.le_trans h.1 (by omega), fun x h1 h2 => (ho x (Nat.lt_of_lt_of_le h1 h.1)).trans (h.2.1 x h1 h2), h.2.2⟩
theorem zr2_ne {α : Type} {f : Nat → Nat → α} {a p : Nat} {v : α} (h : p ≠ a) : zr2 f a v p = f p := by
  funext j; simp [zr2, h]
/-- a row of numbers comes -/
theorem s_nwa (hx : p.tables.exec = Jvm.exec) (hb : c.code = mcd M) {tag : Nat} {at_ : ArrayType} {kA : ClassId} {dv : Value} (harr : (Jvm.Cond.arrayClass (newarray.typeOf at_)).before args s = true) (hcl : KA s kA (newarray.typeOf at_)) (hdv : defaultValue (newarray.typeOf at_) = dv) (hcb : componentBytes (newarray.typeOf at_) ≤ 8)
    (hof : ∀ (n : Nat) (I : Nat → Nat → Int32) (Lm : Nat → Nat → Int64) (Rm : Nat → Nat → Nat) (H : Heap), (shp n).1 = tag → H[bs + n]? = some (arrV kA (shp n).2 (fun _ => dv)) → At1 D ki kc kl bs b sa (n + 1, zr2 I n 0, zr2 Lm n 0, zr2 Rm n 0) n H) (ht : tag ≠ 9) (ht0 : tag ≠ 0) (hsz : ∀ n, n < NNN → (shp n).1 = tag → (shp n).2 ≤ 4000)
    (hn0 : n0 ≤ σ.1) (hc1 : σ1.1 - n0 ≤ R.cells) (hs1 : SS σ1.1 - SS n0 ≤ R.slots)
    (hd : decode (mcd M) pc = .ok (.newarray at_, 2)) (hh : nwa tag (pc + 2) los st σ = some (.inl (pc1, los1, st1, σ1)))
    (k : GG p l e R s m args below meth c Q D ki kc kl bs b sa M n0 pc1 los1 st1 σ1) : GG p l e R s m args below meth c Q D ki kc kl bs b sa M n0 pc los st σ := by
  unfold nwa at hh
  split at hh
  · rename_i i r
    split at hh
    · rename_i hc
      obtain ⟨n, I, Lm, Rm⟩ := σ
      obtain ⟨rfl, rfl, rfl, rfl⟩ := nx_inj hh
      intro H locs ls h1 h2 h3
      obtain ⟨⟨hn1, hn2⟩, hi0, hi1⟩ := hc
      simp only at hn1 hn2 hi1 hn0 hc1 hs1
      have hz : H.size = bs + n := h1.1
      have h4 := hsz n hn1 hn2
      have hSS : SS (n + 1) = SS n + (shp n).2 := by rw [SS_1 hn1]; unfold shz; rw [if_neg (by rw [hn2]; exact ht0)]
      have hle := SS_le hn0
      have hcl1 : i.toNatClampNeg = (shp n).2 := by show i.toInt.toNat = _; omega
      refine va_newaK hx hb harr rfl hd rfl (n := i) (N := (shp n).2) (h := bs + n) (fun q => ?_) hcl1 ?_ (by show n - n0 + 1 ≤ R.cells; omega) (by show SS n - SS n0 + (shp n).2 ≤ R.slots; rw [hSS] at hs1; omega) hz fun H1 cA w1 w2 w3 w4 w5 => ?_
      · have := Int32.lt_iff_toInt_lt.mp q
        simp at this; omega
      · calc (shp n).2 * componentBytes (newarray.typeOf at_) ≤ 4000 * 8 := Nat.mul_le_mul h4 hcb
          _ ≤ 536870912 := by decide
      · have hce : cA = kA := Option.some.inj (w5.symm.trans hcl.2)
        subst hce
        have hw2 : H1.size = H.size + 1 := by rw [w2, hz]
        have hw3 : ∀ q, q < H.size → H1[q]? = H[q]? := fun q hq => w3 q (by rw [← hz]; exact hq)
        have hal : n < 1000 := shp_lo1 hn2 ht
        have k1 := k H1 locs ls (h1.new (σ := (n, I, Lm, Rm)) rfl hw2 hw3 (hof n I Lm Rm H1 hn2 (by rw [w1, hdv])) (fun p hp => zr2_ne hp) (fun p hp => zr2_ne hp) (fun p hp => zr2_ne hp)) (h2.grow hw2 hw3) h3
        have e1 : n + 1 - n0 = n - n0 + 1 := by omega
        have e2 : SS (n + 1) - SS n0 = SS n - SS n0 + (shp n).2 := by rw [hSS]; omega
        simp only at k1
        rw [e1, e2] at k1
        have e3 : cva bs b sa (.ref n) = .ref (bs + n) := by show Value.ref (adr bs b sa n) = _; rw [adr_lo hal]
        rw [List.map_cons, e3] at k1
        exact k1
    · simp at hh
  · simp at hh
theorem s_nwo (hx : p.tables.exec = Jvm.exec) (hb : c.code = mcd M) (hown : s.vm.findClass (cnm (mcl M)) = some m.cls) (hts : ∀ w ∈ WS, w.before args s = true) (hK : KK D ki kc kl s) {f : Nat}
    (hn0 : n0 ≤ σ.1) (hc1 : σ1.1 - n0 ≤ R.cells) (hs1 : SS σ1.1 - SS n0 ≤ R.slots)
    (hd : decode (mcd M) pc = .ok (.new f, 3)) (hh : nwo (mcl M) f (pc + 3) los st σ = some (.inl (pc1, los1, st1, σ1)))
    (k : GG p l e R s m args below meth c Q D ki kc kl bs b sa M n0 pc1 los1 st1 σ1) : GG p l e R s m args below meth c Q D ki kc kl bs b sa M n0 pc los st σ := by
  unfold nwo at hh
  split at hh
  · rename_i ci hf
    split at hh
    · rename_i hc
      obtain ⟨n, I, Lm, Rm⟩ := σ
      obtain ⟨rfl, rfl, rfl, rfl⟩ := nx_inj hh
      intro H locs ls h1 h2 h3
      obtain ⟨hn1, hn2⟩ := hc
      simp only at hn1 hn2 hn0 hc1 hs1
      have hz : H.size = bs + n := h1.1
      obtain ⟨hc12, hlk⟩ := nna (mcl M) _ (lk_mem hf)
      obtain ⟨q, g1, g2, g3, g4, g5, g6, g7, g8, g9⟩ := cls_of hc12 hK
      simp only at g1 g3 hlk
      have hSS : SS (n + 1) = SS n + nfl ci := by rw [SS_1 hn1]; unfold shz; rw [hn2]; rfl
      have hle := SS_le hn0
      rw [← g2] at hlk
      refine W.newcK hx hb hown (hts _ hlk) (hts _ g6) (hts _ g7) rfl hd (by show n - n0 + 1 ≤ R.cells; omega) (by show SS n - SS n0 + q.2.2 ≤ R.slots; rw [hSS] at hs1; rw [g3]; omega) g5.2.1 (h := bs + n) hz fun H1 kC hkC w1 w2 w3 => ?_
      have hw2 : H1.size = H.size + 1 := by rw [w2, hz]
      have hw3 : ∀ q, q < H.size → H1[q]? = H[q]? := fun q hq => w3 q (by rw [← hz]; exact hq)
      have hal : n < 1000 := shp_lo n (by rw [hn2]; intro z; cases z)
      have hborn := u_born (fun k => (parseFieldDescriptor (q.2.1 k).2.2.1).getD .int) hts g9 g5 hkC w1 (fun k hk => Kp_ty (g4 k hk))
      have hat : At1 D ki kc kl bs b sa (n + 1, zr2 I n 0, zr2 Lm n 0, zr2 Rm n 0) n H1 := by
        refine At1.ofObj hn2 ?_
        rw [← g3]
        refine hborn.to fun j hj => ?_
        have h5 := (g4 j hj).1
        unfold fvl
        rw [hn2]
        simp only [zr2, if_true]
        split at h5
        · rename_i h6; rw [h5, h6]; rfl
        · rename_i h6; rw [h5, h6]; rfl
        · rename_i h6; rw [h5, h6]; rfl
        · rename_i h6
          rw [h6]
          cases hp : parseFieldDescriptor (q.2.1 j).2.2.1 with
          | none => rw [hp] at h5; simp [isrt] at h5
          | some t =>
            rw [hp] at h5
            cases t <;> first | rfl | (simp [isrt] at h5)
        · exact h5.elim
      have k1 := k H1 locs ls (h1.new (σ := (n, I, Lm, Rm)) rfl hw2 hw3 hat (fun p hp => zr2_ne hp) (fun p hp => zr2_ne hp) (fun p hp => zr2_ne hp)) (h2.grow hw2 hw3) h3
      have e1 : n + 1 - n0 = n - n0 + 1 := by omega
      have e2 : SS (n + 1) - SS n0 = SS n - SS n0 + q.2.2 := by rw [hSS, g3]; omega
      simp only at k1
      rw [e1, e2] at k1
      have e3 : cva bs b sa (.ref n) = .ref (bs + n) := by show Value.ref (adr bs b sa n) = _; rw [adr_lo hal]
      rw [List.map_cons, e3] at k1
      exact k1
    · simp at hh
  · simp at hh
end
