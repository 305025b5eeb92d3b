/-! THE CLAIM OUT OF ONE WALK OF THE LAW'S BODY. Your part is whole_start (and what it stands on); all else here is the same for every law, but numbers. -/
def R_law : String := "WageHatsLaw"
def lw_P (b : Addr) (xs : List Int32) (args : Array Value) (s : State) : Prop := args = #[.ref b] ∧ s.IntsAt b xs ∧ xs.length ≤ 3072 ∧ (Jvm.Cond.and given_1 narrow_1).before args s = true
def lw_Q (_ : Array Value) (s : State) (o : Outcome) (t : State) : Prop := o = .returned (some (.int 1)) ∧ Framed s o t [] 600000 7302249
def lw_Z (below : List Frame) (a : Array Value) (s : State) : State → Prop := fun t => ∃ o, t.status = .running ∧ Ended t below o ∧ lw_Q a s o t
/-- the law's own end, with 1 on the stack, nothing written that was there before, its room as the claim has it -/
theorem lw_ret {p : Program} {l : Launch} {e : Env} {s : State} {m : MethodId} {below : List Frame} {meth : Method} {c : Code} {b : Nat} (hx : p.tables.exec = Jvm.exec) (hb : c.code = code) (hr : meth.sig.returnType = ret) (hlocks : meth.locks = false) {pc : Nat} {H : Heap} {ls : Array Slot} (hdg : decode code pc = .ok (.ireturn, 1)) : W p l e room_1 s m #[Value.ref b] below meth c H [] 600000 7302249 (lw_Z below #[Value.ref b] s) (F0 m pc ls [.int 1]) := by
  intro T hT X
  obtain ⟨fs, hret, hrun, hended, hW, hframe⟩ := X.leave (v := some (.int 1)) (hlocks := hlocks) (fun h => by rw [hr] at h; cases h)
  have hmeth' : T.vm.method? m = some meth := X.method'
  refine ⟨T.setFrames fs, ?_, .returned (some (.int 1)), hrun, hended, rfl, ⟨_, rfl⟩, hW, hframe⟩
  jvm_step X.here [X.here.top, hx, hb, hdg, hmeth', hr, ret, narrow_b1]
  (try refine ⟨rfl, ?_⟩); (try refine ⟨rfl, ?_⟩)
  first | (intro acts; rw [hret _ acts rfl rfl rfl]) | rw [hret _ _ rfl rfl rfl]
  exact Steps.refl _
/-- what holds at the law's entry: the machine, the code, the tables' words (any of lw_tbl by 'hts w (by decide +kernel)'), the script of L ints xs at the cell b, what the Statement gives of the start (any of its parts by flat_of_before) -/
def lw_At (p : Program) (s : State) (m : MethodId) (meth : Method) (c : Code) (b L : Nat) (xs : Nat → Int32) : Prop :=
  p.tables.exec = Jvm.exec ∧ c.code = code ∧ meth.sig.returnType = ret ∧ c.maxLocals = 4 ∧ s.vm.findClass R_law = some m.cls ∧ (∀ w ∈ lw_tbl, w.before #[Value.ref b] s = true) ∧ va_X b L xs s s.heap ∧ b < s.heap.size ∧ meth.locks = false ∧ (Jvm.Cond.and given_1 narrow_1).before #[Value.ref b] s = true
-- ===== YOUR PART BEGINS =====
theorem KA_of {args : Array Value} {s : State} {t : FieldType} (h : (Jvm.Cond.arrayClass t).before args s = true) : ∃ k, KA s k t := by
  obtain ⟨c, k, comp, h1, h2, h3⟩ := Cond.arrayClass_spec (first := s) (o := none) (idx := []) h
  exact ⟨c, fun n z => ⟨fun k h => (by cases h), k, h2, comp, h3⟩, h1⟩
theorem getD_map1 {l : List Nat} {f : Nat → Int32} {j : Nat} (h : j < l.length) : (([l.map f] : List (List Int32)).getD 0 []).getD j 0 = f (l.getD j 0) := by
  show (l.map f).getD j 0 = _
  rw [List.getD_eq_getElem?_getD, List.getElem?_map, List.getD_eq_getElem?_getD, List.getElem?_eq_getElem h]
  rfl
theorem RF_1 {x : Int32} {pc : Nat} (h : RF 301 (some (.int x)) pc) : decode code pc = .ok (.ireturn, 1) := h.1
/-- from the small machine's run of the law to the machine's -/
theorem start_of {p : Program} {e : Env} {s : State} {m : MethodId} {below : List Frame} {meth : Method} {c : Code} (l : Launch) {b L : Nat} {xs : Nat → Int32} (C0 : lw_At p s m meth c b L xs)
    (hLen : ∀ (bs sa sv : Nat), LenMet l bs b sa sv L xs) (hChr : ∀ (bs sa sv : Nat), ChrMet l bs b sa sv L xs)
    (hrun : ∃ (n : Nat) (I1 : Nat → Nat → Int32) (L1 : Nat → Nat → Int64) (R1 : Nat → Nat → Nat), run L xs n 80 301 0 (lay 4 [.ref 1000]) [] (0, fun _ _ => 0, fun _ _ => 0, fun _ _ => 0) = some (some (.int 1), 179, I1, L1, R1)) :
    W p l e room_1 s m #[Value.ref b] below meth c s.heap [] 0 0 (lw_Z below #[Value.ref b] s) (entryFrame m ([Value.ref b] : List Value).toArray 4) := by
  obtain ⟨hx, hb, hr, hml, hown, hts, hX, hbl, hlocks, hgv⟩ := id C0
  have hfl := flat_of_before _ hgv
  have hA : ∀ a : Nat, a < s.heap.size → ¬ (fun q : Nat => s.heap.size ≤ q) a := fun a h => Nat.not_le.mpr h
  have htsW : ∀ w ∈ WS, w.before #[Value.ref b] s = true := fun w h => hts w (ws_in h)
  obtain ⟨ki, hki⟩ := KA_of (htsW _ ac_int)
  obtain ⟨kc, hkc⟩ := KA_of (htsW _ ac_char)
  obtain ⟨kl, hkl⟩ := KA_of (htsW _ ac_long)
  have hcl : ∀ ci : Nat, ∃ q : ClassId × (Nat → Nat), ∀ r : vw_C, vwCl[ci]? = some r → u_Kn s r.1 r.2.1 r.2.2 q.1 q.2 := by
    intro ci
    by_cases h : ci < 12
    · obtain ⟨r, g1, g2, g3, g4, g5, g6, g7⟩ := cca h
      obtain ⟨cC, iS, hK⟩ := u_known (C := r.1) (T := r.2.1) (N := r.2.2) (n := r.2.2) htsW (fun w hw => by
        obtain ⟨k, hk, rfl⟩ := List.mem_map.mp hw
        exact (g4 k (List.mem_range.mp hk)).2.2.2) (htsW _ g5)
      exact ⟨(cC, iS), fun r' h' => by cases g1.symm.trans h'; exact hK⟩
    · exact ⟨(0, fun _ => 0), fun r h' => absurd (vwCl_lt h') h⟩
  obtain ⟨dd, hdd⟩ := Classical.axiomOfChoice hcl
  obtain ⟨adK, adV, hvS, hvE⟩ := vk_Sof (args := #[Value.ref b]) (s := s) (N := 1) (tm := fun _ => Jvm.Term.string "WageHats$Tokens" 27) (len := [STX.length]) (byt := [STX.map (fun n => Int32.ofNat n)]) (A := fun q => s.heap.size ≤ q)
    (fun i hi => by have : i = 0 := by omega
                    subst this; rw [STX_len]; decide) (fun _ _ => hfl _ fl_9) (fun _ _ => hfl _ fl_10) (fun _ _ => hfl _ fl_11)
    (fun i hi => by have : i = 0 := by omega
                    subst this; rw [STX_len]; exact hfl _ fl_12)
    (fun i hi j hj => by
      have : i = 0 := by omega
      subst this
      have hj2 : j < 170 := by rw [STX_len] at hj; exact hj
      have hg : (([STX.map (fun n => Int32.ofNat n)] : List (List Int32)).getD 0 []).getD j 0 = Int32.ofNat (STX.getD j 0) := by
        exact getD_map1 (by rw [STX_len]; exact hj2)
      rw [hg]
      exact hfl _ (fl_el hj2))
    (fun i j hi hj hne => absurd (by omega) hne) hA
  have hXS : XS b L s.heap.size (adK 0) (adV 0) xs s s.heap := by
    refine ⟨hX, hbl, ⟨fun i hi => ?_, fun i j hi hj _ => by omega⟩, ?_, ?_, ?_⟩
    · have : i = 0 := by omega
      subst this
      exact hvS.1 0 (by decide)
    · exact vk_R.of (hts _ tw_str) (hvE 0 (by decide))
    · exact va_Zof (hts _ tw_cs) (hts _ tw_csi) (va_eqi (hfl _ fl_4)) hA
    · exact va_Zqof (hts _ tw_si) (hts _ tw_sii) (hfl _ fl_5) hA
  have hKK : KK (fun k => (dd k).1, fun k => (dd k).2) ki kc kl s := ⟨fun ci q hq => hdd ci q hq, hki, hkc, hkl⟩
  have hnw : ∀ w ∈ NW, va_Nw w s := fun w hw => by
    have h1 := (List.mem_filter.mp hw).1
    have h2 := (List.mem_filter.mp hw).2
    refine va_Nw.of ?_ (hts w h1)
    cases w <;> first | rfl | (simp at h2)
  have CC : CX p room_1 s m #[Value.ref b] meth c (fun k => (dd k).1, fun k => (dd k).2) ki kc kl s.heap.size b (adK 0) (adV 0) L xs 301 := ⟨⟨hx, hb, hml, hown, htsW, hnw⟩, hKK, hXS, Nat.le_refl _, (fun h => absurd h (by decide)), by decide, by decide⟩
  obtain ⟨n, I1, L1, R1, hrun⟩ := hrun
  rw [lg_entry_eq]
  have hent := LR.entry (bs := s.heap.size) (b := b) (sa := adK 0) (As := [.ref 1000]) (n := 4) (by decide)
  have hP0 : Pl (fun k => (dd k).1, fun k => (dd k).2) ki kc kl s.heap.size b (adK 0) (0, fun _ _ => 0, fun _ _ => 0, fun _ _ => 0) s.heap := ⟨rfl, fun p hp => absurd hp (Nat.not_lt_zero _)⟩
  have key := walk_of (n0 := 0) (Q := lw_Z below #[Value.ref b] s) (below := below) (e := e) CC (hLen _ _ _) (hChr _ _ _) (ρ := 80) (by decide) (by decide) (v := some (.int 1)) (σ1 := (179, I1, L1, R1)) (show 179 - 0 ≤ 600000 by decide) (show SS 179 - SS 0 ≤ 7302249 by decide +kernel) ?_ n
    (fun j _ K As σ v σ1 h1 h2 h3 => sound (hLen _ _ _) (hChr _ _ _) j K As σ v σ1 h1 h2 h3) 0 (lay 4 [.ref 1000]) [] (0, fun _ _ => 0, fun _ _ => 0, fun _ _ => 0) (Nat.le_refl _) hrun
  · exact key s.heap [] _ hP0 va_S.rf hent
  · intro pcr H locs ls hrf hP1 hS1
    refine va_forget (fun q hq => hS1.2.2 q hq) (W.widen (k := 600000) (n := 7302249) (show 179 - 0 ≤ 600000 by decide) (show SS 179 - SS 0 ≤ 7302249 by decide +kernel) ?_)
    exact lw_ret hx hb hr hlocks (RF_1 hrf)
