/-! WHAT A HEAP OF PLACES IS ON THE MACHINE'S HEAP, and one row of the small machine after the other -/
section
variable (D : va_G) (ki kc kl : ClassId) (bs b sa : Nat)
def adr (p : Nat) : Nat := if p = 1000 then b else if p = 1001 then sa else bs + p
def cva (v : Value) : Value := match v with | .ref q => .ref (adr bs b sa q) | v => v
def fvl (σ : Mm) (p k : Nat) : Value := match knd (shp p).2 k with | 0 => .int (σ.2.1 p k) | 1 => .int (σ.2.1 p k) | 2 => .long (σ.2.2.1 p k) | _ => cva bs b sa (rfv (σ.2.2.2 p k))
def At1 (σ : Mm) (p : Nat) (H : Heap) : Prop := match (shp p).1 with
  | 0 => t_OB (bs + p) (D.1 (shp p).2) (nfl (shp p).2) (D.2 (shp p).2) H (fvl bs b sa σ p)
  | 1 => H[bs + p]? = some (arrV ki (shp p).2 (fun j => .int (σ.2.1 p j)))
  | 2 => H[bs + p]? = some (arrV kc (shp p).2 (fun j => .int (σ.2.1 p j)))
  | 3 => H[bs + p]? = some (arrV kl (shp p).2 (fun j => .long (σ.2.2.1 p j)))
  | _ => False
def Pl (σ : Mm) (H : Heap) : Prop := H.size = bs + σ.1 ∧ ∀ p, p < σ.1 → At1 D ki kc kl bs b sa σ p H
def KA (U : State) (k : ClassId) (t : FieldType) : Prop := ArrOfT U k t ∧ U.vm.findClass ("[" ++ t.toString) = some k
def KK (U : State) : Prop := (∀ (ci : Nat) (q : vw_C), vwCl[ci]? = some q → u_Kn U q.1 q.2.1 q.2.2 (D.1 ci) (D.2 ci)) ∧ KA U ki .int ∧ KA U kc .char ∧ KA U kl .long
end
theorem KA.moved {u U : State} {k : ClassId} {t : FieldType} (hvm : u.vm.Alike U.vm) (h : KA u k t) : KA U k t := ⟨arrOfT_moved hvm h.1, by rw [hvm.findClass]; exact h.2⟩
theorem KK.moved {D : va_G} {ki kc kl : ClassId} {u U : State} (hvm : u.vm.Alike U.vm) (h : KK D ki kc kl u) : KK D ki kc kl U := ⟨fun ci q hq => u_Kn_moved hvm (h.1 ci q hq), h.2.1.moved hvm, h.2.2.1.moved hvm, h.2.2.2.moved hvm⟩
section
variable {D : va_G} {ki kc kl : ClassId} {bs b sa : Nat}
theorem adr_lo {p : Nat} (h : p < 1000) : adr bs b sa p = bs + p := by unfold adr; rw [if_neg (by omega), if_neg (by omega)]
theorem cva_rfv (r : Nat) : ∀ q, rfv r = .ref q → cva bs b sa (rfv r) = .ref (adr bs b sa q) := by intro q h; rw [h]; rfl
theorem At1.kept {σ σ1 : Mm} {p : Nat} {H H1 : Heap} (h : At1 D ki kc kl bs b sa σ p H) (hq : H1[bs + p]? = H[bs + p]?) (h1 : σ1.2.1 p = σ.2.1 p) (h2 : σ1.2.2.1 p = σ.2.2.1 p) (h3 : σ1.2.2.2 p = σ.2.2.2 p) : At1 D ki kc kl bs b sa σ1 p H1 := by
  unfold At1 at h ⊢
  have e : fvl bs b sa σ1 p = fvl bs b sa σ p := by funext k; unfold fvl; rw [h1, h2, h3]
  split
  · rename_i e0
    rw [e0] at h
    rw [e]
    exact t_OB.kept h hq
  · rename_i e0; rw [e0] at h; rw [hq, h1]; exact h
  · rename_i e0; rw [e0] at h; rw [hq, h1]; exact h
  · rename_i e0; rw [e0] at h; rw [hq, h2]; exact h
  · rename_i e0 e1 e2 e3
    split at h <;> first | contradiction | exact h
theorem At1.obj {σ : Mm} {p ci : Nat} {H : Heap} (h : At1 D ki kc kl bs b sa σ p H) (hs : shp p = (0, ci)) : t_OB (bs + p) (D.1 ci) (nfl ci) (D.2 ci) H (fvl bs b sa σ p) := by
  unfold At1 at h; rw [hs] at h; exact h
theorem At1.ofObj {σ : Mm} {p ci : Nat} {H : Heap} (hs : shp p = (0, ci)) (h : t_OB (bs + p) (D.1 ci) (nfl ci) (D.2 ci) H (fvl bs b sa σ p)) : At1 D ki kc kl bs b sa σ p H := by
  unfold At1; rw [hs]; exact h
theorem At1.lt {σ : Mm} {p : Nat} {H : Heap} (h : At1 D ki kc kl bs b sa σ p H) : bs + p < H.size := by
  unfold At1 at h
  split at h
  · obtain ⟨cell, q, -⟩ := h; exact (Array.getElem?_eq_some_iff.mp q).1
  · exact (Array.getElem?_eq_some_iff.mp h).1
  · exact (Array.getElem?_eq_some_iff.mp h).1
  · exact (Array.getElem?_eq_some_iff.mp h).1
  · exact h.elim
/-- one cell is written -/
theorem Pl.put {σ σ1 : Mm} {a : Nat} {H H1 : Heap} (h : Pl D ki kc kl bs b sa σ H) (hn : σ1.1 = σ.1) (hz : H1.size = H.size) (ho : ∀ q, q ≠ bs + a → H1[q]? = H[q]?) (ha : At1 D ki kc kl bs b sa σ1 a H1)
    (h1 : ∀ p, p ≠ a → σ1.2.1 p = σ.2.1 p) (h2 : ∀ p, p ≠ a → σ1.2.2.1 p = σ.2.2.1 p) (h3 : ∀ p, p ≠ a → σ1.2.2.2 p = σ.2.2.2 p) : Pl D ki kc kl bs b sa σ1 H1 := by
  refine ⟨by rw [hz, hn]; exact h.1, fun p hp => ?_⟩
  by_cases e : p = a
  · subst e; exact ha
  · exact (h.2 p (by rw [← hn]; exact hp)).kept (ho _ (by omega)) (h1 p e) (h2 p e) (h3 p e)
/-- one cell comes -/
theorem Pl.new {σ σ1 : Mm} {H H1 : Heap} (h : Pl D ki kc kl bs b sa σ H) (hn : σ1.1 = σ.1 + 1) (hz : H1.size = H.size + 1) (ho : ∀ q, q < H.size → H1[q]? = H[q]?) (ha : At1 D ki kc kl bs b sa σ1 σ.1 H1)
    (h1 : ∀ p, p ≠ σ.1 → σ1.2.1 p = σ.2.1 p) (h2 : ∀ p, p ≠ σ.1 → σ1.2.2.1 p = σ.2.2.1 p) (h3 : ∀ p, p ≠ σ.1 → σ1.2.2.2 p = σ.2.2.2 p) : Pl D ki kc kl bs b sa σ1 H1 := by
  refine ⟨by rw [hz, hn, h.1]; omega, fun p hp => ?_⟩
  by_cases e : p = σ.1
  · subst e; exact ha
  · have hp2 : p < σ.1 := by omega
    exact (h.2 p hp2).kept (ho _ (h.2 p hp2).lt) (h1 p e) (h2 p e) (h3 p e)
end
/-! LOCALS -/
section
variable (bs b sa : Nat)
def lvo (los : List (Option Value)) : List (Nat × Value) := (List.range los.length).filterMap (fun k => match los[k]? with
  | some (some v) => if v.category = 2 ∧ los[k + 1]? ≠ some none then none else some (k, cva bs b sa v)
  | _ => none)
def LR (ls : Array Slot) (nL : Nat) (los : List (Option Value)) : Prop := los.length = nL ∧ lv_has ls nL (lvo bs b sa los)
end
section
variable {bs b sa : Nat}
theorem cva_cat (v : Value) : (cva bs b sa v).category = v.category := by cases v <;> rfl
theorem mem_lvo {los : List (Option Value)} {k : Nat} {w : Value} : (k, w) ∈ lvo bs b sa los ↔ ∃ v, los[k]? = some (some v) ∧ (v.category = 2 → los[k + 1]? = some none) ∧ w = cva bs b sa v := by
  unfold lvo
  rw [List.mem_filterMap]
  constructor
  · rintro ⟨j, hj, h⟩
    split at h
    · rename_i v hv
      split at h
      · simp at h
      · rename_i hc
        simp only [Option.some.injEq, Prod.mk.injEq] at h
        obtain ⟨rfl, rfl⟩ := h
        exact ⟨v, hv, fun h2 => Classical.byContradiction fun h3 => hc ⟨h2, h3⟩, rfl⟩
    · simp at h
  · rintro ⟨v, hv, hc, rfl⟩
    refine ⟨k, List.mem_range.mpr (List.getElem?_eq_some_iff.mp hv).1, ?_⟩
    rw [hv]
    simp only
    rw [if_neg (fun h => h.2 (hc h.1))]
theorem LR.get {ls : Array Slot} {nL : Nat} {los : List (Option Value)} (h : LR bs b sa ls nL los) {k : Nat} {v : Value} (hv : los[k]? = some (some v)) (hc : v.category = 2 → los[k + 1]? = some none) : ls[k]? = some (.val (cva bs b sa v)) :=
  h.2.2.2 (k, cva bs b sa v) (mem_lvo.mpr ⟨v, hv, hc, rfl⟩)
theorem lv_mono {ls : Array Slot} {nL : Nat} {l l' : List (Nat × Value)} (h : lv_has ls nL l) (hm : ∀ q ∈ l', q ∈ l) : lv_has ls nL l' := ⟨h.1, h.2.1, fun q hq => h.2.2 q (hm q hq)⟩
theorem LR.set1 {ls : Array Slot} {nL i : Nat} {los : List (Option Value)} {v : Value} (hl : los.length = nL) (hi : i < nL) (hv : v.category = 1)
    (h : lv_has ls nL ((i, cva bs b sa v) :: (lvo bs b sa los).filter (fun q => !(q.1 == i) && !(q.1 + 1 == i && q.2.category == 2)))) : LR bs b sa ls nL (los.set i (some v)) := by
  refine ⟨by rw [List.length_set]; exact hl, lv_mono h ?_⟩
  rintro ⟨k, w⟩ hq
  obtain ⟨u, hu, hc, rfl⟩ := mem_lvo.mp hq
  by_cases e : k = i
  · subst e
    rw [List.getElem?_set_self (by omega)] at hu
    simp only [Option.some.injEq] at hu
    subst hu
    exact List.mem_cons_self
  · rw [List.getElem?_set_ne (fun q => e q.symm)] at hu
    refine List.mem_cons_of_mem _ (List.mem_filter.mpr ⟨mem_lvo.mpr ⟨u, hu, fun h2 => ?_, rfl⟩, ?_⟩)
    · have h3 := hc h2
      by_cases e1 : k + 1 = i
      · rw [e1, List.getElem?_set_self (by omega)] at h3; simp at h3
      · rw [List.getElem?_set_ne (fun q => e1 q.symm)] at h3; exact h3
    · by_cases e1 : k + 1 = i
      · have h2 : ¬ u.category = 2 := fun h2 => by
          have h3 := hc h2
          rw [e1, List.getElem?_set_self (by omega)] at h3; simp at h3
        simp [e, cva_cat, h2]
      · simp [e, e1]
theorem LR.set2 {ls : Array Slot} {nL i : Nat} {los : List (Option Value)} {v : Value} (hl : los.length = nL) (hi : i + 1 < nL) (hv : v.category = 2)
    (h : lv_has ls nL ((i, cva bs b sa v) :: (lvo bs b sa los).filter (fun q => !(q.1 == i) && (!(q.1 == i + 1) && !(q.1 + 1 == i && q.2.category == 2))))) : LR bs b sa ls nL ((los.set i (some v)).set (i + 1) none) := by
  refine ⟨by rw [List.length_set, List.length_set]; exact hl, lv_mono h ?_⟩
  rintro ⟨k, w⟩ hq
  obtain ⟨u, hu, hc, rfl⟩ := mem_lvo.mp hq
  by_cases e2 : k = i + 1
  · subst e2
    rw [List.getElem?_set_self (by rw [List.length_set]; omega)] at hu
    simp at hu
  · rw [List.getElem?_set_ne (fun q => e2 q.symm)] at hu
    by_cases e : k = i
    · subst e
      rw [List.getElem?_set_self (by omega)] at hu
      simp only [Option.some.injEq] at hu
      subst hu
      exact List.mem_cons_self
    · rw [List.getElem?_set_ne (fun q => e q.symm)] at hu
      refine List.mem_cons_of_mem _ (List.mem_filter.mpr ⟨mem_lvo.mpr ⟨u, hu, fun h2 => ?_, rfl⟩, ?_⟩)
      · have h3 := hc h2
        rw [List.getElem?_set_ne (by omega)] at h3
        by_cases e1 : k + 1 = i
        · rw [e1, List.getElem?_set_self (by omega)] at h3; simp at h3
        · rw [List.getElem?_set_ne (fun q => e1 q.symm)] at h3; exact h3
      · by_cases e1 : k + 1 = i
        · have h2 : ¬ u.category = 2 := fun h2 => by
            have h3 := hc h2
            rw [List.getElem?_set_ne (by omega), e1, List.getElem?_set_self (by omega)] at h3; simp at h3
          simp [e, e2, cva_cat, h2]
        · simp [e, e1, e2]
theorem lay1_map (As : List Value) : lg_sl (As.map (cva bs b sa)) = (lay1 As).map (fun o => match o with | some v => Slot.val (cva bs b sa v) | none => Slot.second) := by
  induction As with
  | nil => rfl
  | cons v t ih =>
    show lg_sl (cva bs b sa v :: t.map (cva bs b sa)) = _
    have e1 : ∀ (x : Value) (xs : List Value), lg_sl (x :: xs) = (if x.category = 2 then [Slot.val x, Slot.second] else [Slot.val x]) ++ lg_sl xs := fun x xs => rfl
    have e2 : ∀ (x : Value) (xs : List Value), lay1 (x :: xs) = (if x.category = 2 then [some x, none] else [some x]) ++ lay1 xs := fun x xs => rfl
    rw [e1, e2, ih, List.map_append, cva_cat]
    by_cases h : v.category = 2 <;> simp [h]
theorem LR.entry {As : List Value} {n : Nat} (h : (lay1 As).length ≤ n) : LR bs b sa ((lg_sl (As.map (cva bs b sa)) ++ List.replicate (n - (lg_sl (As.map (cva bs b sa))).length) Slot.unset).toArray) n (lay n As) := by
  have hlen : (lg_sl (As.map (cva bs b sa))).length = (lay1 As).length := by rw [lay1_map, List.length_map]
  obtain ⟨h1, h2, -⟩ := lv_entry (As.map (cva bs b sa)) (n := n) (by rw [hlen]; exact h)
  refine ⟨by unfold lay; simp; omega, h1, h2, ?_⟩
  rintro ⟨k, w⟩ hq
  obtain ⟨u, hu, hc, rfl⟩ := mem_lvo.mp hq
  unfold lay at hu
  have hk : k < (lay1 As).length := by
    by_cases hk : k < (lay1 As).length
    · exact hk
    · rw [List.getElem?_append_right (by omega)] at hu
      rw [List.getElem?_replicate] at hu
      split at hu <;> simp at hu
  rw [List.getElem?_append_left hk] at hu
  show (List.toArray _)[k]? = _
  rw [List.getElem?_toArray, List.getElem?_append_left (by rw [hlen]; exact hk), lay1_map, List.getElem?_map, hu]
  rfl
end
