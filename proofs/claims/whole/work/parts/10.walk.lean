/-! THE SMALL MACHINE IS RIGHT: what it answers, the machine answers -/
section
variable (l : Launch) (D : va_G) (ki kc kl : ClassId) (bs b sa sv : Nat) (L : Nat) (xs : Nat → Int32)
def PcM (As : List Value) (σ : Mm) : Array Value → State → Prop := fun a U => a = (As.map (cva bs b sa)).toArray ∧ Pl D ki kc kl bs b sa σ U.heap ∧ KK D ki kc kl U ∧ (∀ w ∈ NW, va_Nw w U) ∧ XS b L bs sa sv xs U U.heap
def QcM (v : Option Value) (σ1 : Mm) : Array Value → State → Outcome → State → Prop := fun _ st o t => o = .returned (v.map (cva bs b sa)) ∧ Pl D ki kc kl bs b sa σ1 t.heap ∧ va_F (fun q => bs ≤ q) st t
def wsm (K : Nat) : List Jvm.Cond := Jvm.Cond.code (myn K) (mcd K) (mmx K) (rtt (mrt K)) :: WS
def rmm (ρ mc ms : Nat) : Room := { frames := ρ + 8, cells := mc, slots := ms, locals := 60 * ρ + 400 }
def MetS (K : Nat) (As : List Value) (σ : Mm) (v : Option Value) (σ1 : Mm) : Prop := Met l (myn K) (wsm K) (rmm (rka K As) (σ1.1 - σ.1) (SS σ1.1 - SS σ.1)) (PcM D ki kc kl bs b sa sv L xs As σ) (QcM D ki kc kl bs b sa v σ1) (σ1.1 - σ.1) (SS σ1.1 - SS σ.1) (fun q => bs ≤ q)
/-- String.length and String.charAt at the text of the own words -/
def LenMet : Prop := Met l yJ0_length_8abf5 (Jvm.Cond.code yJ0_length_8abf5 cJ0_length_8abf5 1 (some .int) :: WS) { frames := 6, cells := 0, slots := 0, locals := 300 } (fun a U => a = #[Value.ref sa] ∧ XS b L bs sa sv xs U U.heap) (fun _ st o t => o = .returned (some (.int (Int32.ofNat STX.length))) ∧ t.heap = st.heap) 0 0 (fun q => bs ≤ q)
def ChrMet : Prop := ∀ i : Int32, inb i STX.length → Met l yJ0_charAt_5068e (Jvm.Cond.code yJ0_charAt_5068e cJ0_charAt_5068e 2 (some .char) :: WS) { frames := 6, cells := 0, slots := 0, locals := 300 } (fun a U => a = #[Value.ref sa, Value.int i] ∧ XS b L bs sa sv xs U U.heap) (fun _ st o t => o = .returned (some (.int (sch (ixn i)))) ∧ t.heap = st.heap) 0 0 (fun q => bs ≤ q)
end
section
variable {p : Program} {l : Launch} {e : Env} {R : Room} {s : State} {m : MethodId} {args : Array Value} {below : List Frame} {meth : Method} {c : Code} {Q : State → Prop} {D : va_G} {ki kc kl : ClassId} {bs b sa sv : Nat} {L : Nat} {xs : Nat → Int32} {M n0 : Nat}
variable {pc pc1 : Nat} {los los1 : List (Option Value)} {st st1 : List Value} {σ σ1 : Mm}
theorem map_drop (As : List Value) : (As.map (cva bs b sa)).map (fun v => v.category) = As.map (fun v => v.category) := by
  rw [List.map_map]; exact List.map_congr_left fun v _ => cva_cat v
theorem ctg_map (r : List Value) : ((r.map (cva bs b sa)).map (fun v => v.category)).sum = ctg r := by unfold ctg; rw [map_drop]
theorem nx_r {v : Value} {ln : Nat} (hh : pus v (pc + ln) los st σ = some (.inl (pc1, los1, st1, σ1)))
    (row : ∀ {H : Heap} {locs : List Loc} {ls : Array Slot} {rest : List Value}, W p l e R s m args below meth c H locs (σ.1 - n0) (SS σ.1 - SS n0) Q (F0 m (pc + ln) ls (cva bs b sa v :: rest)) → W p l e R s m args below meth c H locs (σ.1 - n0) (SS σ.1 - SS n0) Q (F0 m pc ls rest))
    (k : GG p l e R s m args below meth c Q D ki kc kl bs b sa M n0 pc1 los1 st1 σ1) : GG p l e R s m args below meth c Q D ki kc kl bs b sa M n0 pc los st σ := by
  unfold pus at hh
  obtain ⟨rfl, rfl, rfl, rfl⟩ := nx_inj hh
  intro H locs ls h1 h2 h3
  exact row (k H locs ls h1 h2 h3)
theorem cal_mem {o k v : Nat} (h : cal o k = v + 1) : (k, v + 1) ∈ CALL.getD o [] := by
  unfold cal at h
  cases hl : (CALL.getD o []).lookup k with
  | none => rw [hl] at h; simp at h
  | some w => rw [hl] at h; simp at h; subst h; exact lk_mem hl
theorem s_obj (C0 : CX p R s m args meth c D ki kc kl bs b sa sv L xs M) {k : Nat} (hd : decode (mcd M) pc = .ok (.invokespecial k, 3)) (hcal : cal (mcl M) k = 1) {a : Nat} {r : List Value} (h8 : ctg r ≤ 8)
    (kk : GG p l e R s m args below meth c Q D ki kc kl bs b sa M n0 (pc + 3) los r σ) : GG p l e R s m args below meth c Q D ki kc kl bs b sa M n0 pc los (.ref a :: r) σ := by
  obtain ⟨⟨hx, hb, hml, hown, hts, hnw⟩, hK, hX, hbs, hin, hfr, hlo⟩ := C0
  have hl := lla (mcl M) _ (cal_mem (v := 0) hcal)
  intro H locs ls h1 h2 h3
  refine W.objInit hx hb hown (hts _ hl) (hts _ oi_1) (hts _ oi_2) rfl (by rw [hml]; exact h3.2.1) rfl hd (by omega) ?_ (kk H locs ls h1 h2 h3)
  show 2 * 0 + ((r.map (cva bs b sa)).map (fun v => v.category)).sum + 12 ≤ R.locals
  rw [ctg_map]; omega
theorem s_after {mc ms : Nat} {v : Option Value} {hn : σ.1 ≤ σ1.1} (hn0 : n0 ≤ σ.1) {H : Heap} {locs : List Loc} {ls : Array Slot} {st0 : List Value} {aa : Array Value} {r : List Value} (hmc : mc = σ1.1 - σ.1) (hms : ms = SS σ1.1 - SS σ.1)
    (hr : va_Run p l e R s m args below meth c H locs (σ.1 - n0) (SS σ.1 - SS n0) mc ms (F0 m pc ls st0) (r.map (cva bs b sa)) (QcM D ki kc kl bs b sa v σ1 aa) (fun q => bs ≤ q)) (hS : va_S (fun q => bs ≤ q) s.heap H locs) (h3 : LR bs b sa ls (mmx M) los)
    (k : GG p l e R s m args below meth c Q D ki kc kl bs b sa M n0 (pc + 3) los (v.toList ++ r) σ1) : W p l e R s m args below meth c H locs (σ.1 - n0) (SS σ.1 - SS n0) Q (F0 m pc ls st0) := by
  intro T hT X
  obtain ⟨v', st₀, t, T', L', h0, X', hL, e1, e2, ⟨hv, hPl, hz, hk⟩, st⟩ := hr T hT X
  have hv' : v' = v.map (cva bs b sa) := by injection hv
  subst hv'
  rw [h0] at hz hk
  have e3 : σ.1 - n0 + mc = σ1.1 - n0 := by omega
  have hle1 := SS_le hn0
  have hle2 := SS_le hn
  have e4 : SS σ.1 - SS n0 + ms = SS σ1.1 - SS n0 := by omega
  rw [e3, e4] at X'
  have hS1 : va_S (fun q => bs ≤ q) s.heap T'.heap (locs ++ L') := ⟨Nat.le_trans hS.1 (by rw [e1]; exact hz), fun q h1 h2 => by rw [e1, hk q (Nat.lt_of_lt_of_le h1 hS.1) h2]; exact hS.2.1 q h1 h2, fun q hq => by
      rcases List.mem_append.mp hq with h | h
      · exact hS.2.2 q h
      · exact hL q h⟩
  obtain ⟨t2, a1, b1⟩ := k T'.heap (locs ++ L') ls (by rw [e1]; exact hPl) hS1 h3 T' rfl X'
  refine ⟨t2, st t2 ?_, b1⟩
  cases v with
  | none => exact a1
  | some w => exact a1
theorem PcM.blind {As : List Value} : FrameBlind (PcM D ki kc kl bs b sa sv L xs As σ) := by
  intro a U g mk h
  obtain ⟨h1, h2, h3, h4, h5⟩ := h
  exact ⟨h1, h2, KK.moved (u := U) (U := U.calling g mk a) (Vm.Alike.refl U.vm) h3, fun w hw => va_Nw.same (by
    have := (List.mem_filter.mp hw).2
    cases w <;> first | rfl | (simp at this)) (rfl : U.vm = (U.calling g mk a).vm) (h4 w hw), XS.same (u := U) (U := U.calling g mk a) rfl h5⟩
theorem nw_warm {w : Jvm.Cond} (hw : w ∈ NW) {U : State} (hW : s.WarmedH U.vm) (h : va_Nw w s) : va_Nw w U := by
  have := (List.mem_filter.mp hw).2
  cases w <;> first | exact va_Nw.warmM hW h | (simp at this)
theorem pay_ws2 (hts : ∀ w ∈ WS, w.before args s = true) {K : Nat} (hc : Jvm.Cond.code (myn K) (mcd K) (mmx K) (rtt (mrt K)) ∈ WS) : ∀ w ∈ wsm K, ∀ (a' : Array Value) (U : State), s.WarmedH U.vm → w.before a' U = true := by
  intro w hw a' U hW
  have h1 : w ∈ WS := by
    rcases List.mem_cons.mp hw with h | h
    · rw [h]; exact hc
    · exact h
  exact word_at hW (good_of_word (ws_good h1)) (hts w h1)
theorem inv_inr {kind own k K pc pc1 : Nat} {As : List Value} {los los1 : List (Option Value)} {st st1 : List Value} {σ σ1 : Mm} (h : inv kind own k pc los st σ = some (.inr (.inl (K, As, pc1, los1, st1, σ1)))) :
    (pc1 = pc ∧ los1 = los ∧ σ1 = σ) ∧ cal own k = K + 10 ∧ ctg st1 ≤ 8 ∧
    ((mst K = true ∧ kind = 0 ∧ mnp K ≤ st.length ∧ st1 = st.drop (mnp K) ∧ As = (st.take (mnp K)).reverse) ∨
     (mst K = false ∧ kind = (if min_ K then 1 else 2) ∧ ∃ a, (a < σ.1 ∧ shp a = (0, mcl K)) ∧ st.drop (mnp K) = .ref a :: st1 ∧ As = .ref a :: (st.take (mnp K)).reverse)) := by
  unfold inv at h
  split at h
  · simp at h
  · split at h
    · split at h <;> simp [nx] at h
    · simp at h
  · split at h
    · split at h <;> simp [nx] at h
    · simp at h
  · split at h
    · split at h <;> simp [nx] at h
    · simp at h
  · rename_i K' hcal
    split at h
    · rename_i hm
      split at h
      · rename_i hc
        simp only [Option.some.injEq, Sum.inr.injEq, Sum.inl.injEq, Prod.mk.injEq] at h
        obtain ⟨rfl, rfl, rfl, rfl, rfl, rfl⟩ := h
        exact ⟨⟨rfl, rfl, rfl⟩, hcal, hc.2, Or.inl ⟨hm, hc.1.1, hc.1.2, rfl, rfl⟩⟩
      · simp at h
    · rename_i hm
      split at h
      · rename_i a r hdr
        by_cases hc : ((kind = (if min_ K' then 1 else 2)) ∧ ctg r ≤ 8) ∧ (a < σ.1 ∧ shp a = (0, mcl K'))
        · rw [if_pos hc] at h
          simp only [Option.some.injEq, Sum.inr.injEq, Sum.inl.injEq, Prod.mk.injEq] at h
          obtain ⟨rfl, rfl, rfl, rfl, rfl, rfl⟩ := h
          exact ⟨⟨rfl, rfl, rfl⟩, hcal, hc.1.2, Or.inr ⟨by simpa using hm, hc.1.1, a, hc.2, hdr, rfl⟩⟩
        · rw [if_neg hc] at h; simp at h
      · simp at h
  · simp at h
theorem len_rev {n : Nat} {st : List Value} (h : n ≤ st.length) : ((st.take n).reverse.map (cva bs b sa)).length = n := by
  rw [List.length_map, List.length_reverse, List.length_take]; omega
theorem st_cut {n : Nat} {st : List Value} : st.map (cva bs b sa) = ((st.take n).reverse.map (cva bs b sa)).reverse ++ (st.drop n).map (cva bs b sa) := by
  rw [List.map_reverse, List.reverse_reverse, ← List.map_append, List.take_append_drop]
set_option maxRecDepth 20000 in
theorem arith_lo {a b c d : Nat} (h1 : a ≤ 20) (h2 : b < c) (h3 : 60 * c + 400 ≤ d) : 8 + (a + 11) + (60 * b + 400) ≤ d := by omega
/-- a call, by the contract of the called -/
theorem s_call (C0 : CX p R s m args meth c D ki kc kl bs b sa sv L xs M) {ρ : Nat} (hfr : ρ + 8 ≤ R.frames) (hlo : 60 * ρ + 400 ≤ R.locals) (hn0 : n0 ≤ σ.1) {K : Nat} {As : List Value} {v : Option Value} {kind k : Nat} {ins : Instr}
    (hki : (kind = 0 ∧ ins = .invokestatic k) ∨ (kind = 1 ∧ ins = .invokespecial k) ∨ (kind = 2 ∧ ins = .invokevirtual k)) (hd : decode (mcd M) pc = .ok (ins, 3))
    (hh : inv kind (mcl M) k (pc + 3) los st σ = some (.inr (.inl (K, As, pc1, los1, st1, σ)))) (hρ : rka K As < ρ) (hnn : σ.1 ≤ σ1.1) (hc1 : σ1.1 - n0 ≤ R.cells) (hs1 : SS σ1.1 - SS n0 ≤ R.slots)
    (hM : MetS l D ki kc kl bs b sa sv L xs K As σ v σ1)
    (kk : GG p l e R s m args below meth c Q D ki kc kl bs b sa M n0 pc1 los1 (v.toList ++ st1) σ1) : GG p l e R s m args below meth c Q D ki kc kl bs b sa M n0 pc los st σ := by
  obtain ⟨⟨hx, hb, hml, hown, hts, hnw⟩, hK, hX, hbs, hin, hfr0, hlo0⟩ := C0
  obtain ⟨⟨rfl, rfl, -⟩, hcal, h8, hor⟩ := inv_inr hh
  obtain ⟨hK302, hlink⟩ := lla (mcl M) _ (cal_mem (v := K + 9) hcal)
  obtain ⟨m1, m2, m3, m4, m5, m6, m7, m8, m9, m10, m11⟩ := mma hK302
  have hS0 : CallFix p m c (mcd M) (mmx M) s args WS (cnm (mcl M)) := ⟨hx, hb, hml, hown, hts⟩
  have hpay := pay_ws2 (s := s) (args := args) hts m2
  have hfr1 : (rmm (rka K As) (σ1.1 - σ.1) (SS σ1.1 - SS σ.1)).frames + 1 ≤ R.frames := by show rka K As + 8 + 1 ≤ _; omega
  have hlo1 : 8 + (mmx K + 11) + (rmm (rka K As) (σ1.1 - σ.1) (SS σ1.1 - SS σ.1)).locals ≤ R.locals := arith_lo m9 hρ hlo
  have hcode := hts _ m2
  have hini : (Jvm.Cond.initialized (myn K).cls).before args s = true := by rw [m1]; exact hts _ m3
  have hmh : (myn K).cls ≠ "java/lang/invoke/MethodHandle" ∧ (myn K).cls ≠ "java/lang/invoke/VarHandle" := by rw [m1]; exact m5
  have hlen : ∀ sig, parseMethodDescriptor (myn K).desc = some sig → mnp K = sig.parameters.length := fun sig h => by
    rw [h] at m6; exact (Option.some.inj m6).symm
  have hin1 : Jvm.Cond.code (myn K) (mcd K) (mmx K) (rtt (mrt K)) ∈ wsm K := List.mem_cons_self
  have hle1 := SS_le hn0
  have hle2 := SS_le hnn
  have hf : (σ.1 - n0) + (σ1.1 - σ.1) ≤ R.cells ∧ (SS σ.1 - SS n0) + (SS σ1.1 - SS σ.1) ≤ R.slots := ⟨by omega, by omega⟩
  have pre : ∀ {H : Heap} {locs : List Loc}, Pl D ki kc kl bs b sa σ H → va_S (fun q => bs ≤ q) s.heap H locs → ∀ U : State, U.heap = H → s.WarmedH U.vm → PcM D ki kc kl bs b sa sv L xs As σ (As.map (cva bs b sa)).toArray U := by
    intro H locs hP hS U hU hW
    refine ⟨rfl, by rw [hU]; exact hP, hK.moved hW.alike, fun w hw => nw_warm hw hW (hnw w hw), ?_⟩
    rw [hU]
    exact (hX.moved hW).kept hS.2.1
  have hct : ∀ r : List Value, ctg r ≤ 8 → 2 * (F0 m pc (#[] : Array Slot) []).monitorRoom + ((r.map (cva bs b sa)).map fun v => v.category).sum ≤ 8 := by
    intro r hr; rw [ctg_map]; show 2 * 0 + _ ≤ 8; omega
  intro H locs ls h1 h2 h3
  rcases hor with ⟨hst, rfl, hnp, rfl, rfl⟩ | ⟨hst, hkd, a, ⟨ha1, ha2⟩, hdr, rfl⟩
  · have hins : ins = .invokestatic k := by rcases hki with ⟨-, h⟩ | ⟨h, -⟩ | ⟨h, -⟩ <;> first | exact h | (exact absurd h (by decide))
    subst hins
    refine s_after (hn := hnn) hn0 rfl rfl (r := st.drop (mnp K)) (aa := (((st.take (mnp K)).reverse).map (cva bs b sa)).toArray) ?_ h2 h3 kk
    rcases hlink with hl | hl
    · exact va_runS (ret := rtt (mrt K)) hS0 hM ⟨⟨rfl, rfl, hfr1, hlo1, hpay, hin1, hcode, hini, hmh, hlen, hts _ hl⟩, hts _ (m10 hst)⟩ ⟨PcM.blind, pre h1 h2⟩ rfl (len_rev hnp) h3.2.1 st_cut (hct _ h8) hd hf
    · exact va_runSN (ret := rtt (mrt K)) hS0 hM ⟨⟨⟨rfl, rfl, hfr1, hlo1, hpay, hin1⟩, hcode, hini, hmh, hlen, va_Nw.use rfl (hnw _ hl)⟩, hts _ (m10 hst), trivial⟩ ⟨PcM.blind, pre h1 h2⟩ rfl (len_rev hnp) h3.2.1 st_cut (hct _ h8) hd hf
  · obtain ⟨i1, i2, i3⟩ := m11 hst
    have hal : a < 1000 := shp_lo a (by rw [ha2]; intro z; cases z)
    have hnp : mnp K ≤ st.length := by
      by_cases h : mnp K ≤ st.length
      · exact h
      · rw [List.drop_eq_nil_of_le (by omega)] at hdr; simp at hdr
    have hcutR : st.map (cva bs b sa) = ((st.take (mnp K)).reverse.map (cva bs b sa)).reverse ++ .ref (adr bs b sa a) :: st1.map (cva bs b sa) := by
      rw [st_cut (n := mnp K), hdr]; rfl
    refine s_after (hn := hnn) hn0 rfl rfl (r := st1) (aa := (Value.ref (adr bs b sa a) :: ((st.take (mnp K)).reverse).map (cva bs b sa)).toArray) ?_ h2 h3 kk
    by_cases hmi : min_ K = true
    · rw [if_pos hmi] at hkd
      subst hkd
      have hins : ins = .invokespecial k := by rcases hki with ⟨h, -⟩ | ⟨-, h⟩ | ⟨h, -⟩ <;> first | exact h | (exact absurd h (by decide))
      subst hins
      obtain ⟨j1, j2⟩ := m7 hmi
      have hr0 : rtt (mrt K) = none := by rw [j2]; rfl
      rw [hr0] at hin1 hcode
      rcases hlink with hl | hl
      · exact va_runI hS0 hM ⟨⟨rfl, rfl, hfr1, hlo1, hpay, hin1, hcode, hini, hmh, hlen, hts _ hl⟩, j1, hts _ i1⟩ ⟨PcM.blind, pre h1 h2⟩ rfl (len_rev hnp) h3.2.1 hcutR (hct _ h8) hd hf
      · exact va_runIN hS0 hM ⟨⟨⟨rfl, rfl, hfr1, hlo1, hpay, hin1⟩, hcode, hini, hmh, hlen, va_Nw.use rfl (hnw _ hl)⟩, j1, hts _ i1⟩ ⟨PcM.blind, pre h1 h2⟩ rfl (len_rev hnp) h3.2.1 hcutR (hct _ h8) hd hf
    · rw [if_neg hmi] at hkd
      subst hkd
      have hins : ins = .invokevirtual k := by rcases hki with ⟨h, -⟩ | ⟨h, -⟩ | ⟨-, h⟩ <;> first | exact h | (exact absurd h (by decide))
      subst hins
      have hsel := hts _ (i3 (by simpa using hmi))
      have hrec : ∃ cellB : Cell, H[adr bs b sa a]? = some cellB ∧ cellB.vm.isStatics = false ∧ s.vm.findClass (cnm (mcl K)) = some cellB.cls := by
        obtain ⟨cell, q1, q2, q3, -⟩ := (h1.2 a ha1).obj ha2
        obtain ⟨q, g1, g2, g3, g4, g5, -⟩ := cls_of i2 hK
        refine ⟨cell, by rw [adr_lo hal]; exact q1, by rw [q3]; rfl, by rw [q2, ← g2]; exact g5.2.1⟩
      rcases hlink with hl | hl
      · exact va_runV (ret := rtt (mrt K)) hS0 hM ⟨⟨rfl, rfl, hfr1, hlo1, hpay, hin1, hcode, hini, hmh, hlen, hts _ hl⟩, hts _ i1, hsel⟩ ⟨PcM.blind, hrec, pre h1 h2⟩ rfl (len_rev hnp) h3.2.1 hcutR (hct _ h8) hd hf
      · exact va_runVN (ret := rtt (mrt K)) hS0 hM ⟨⟨⟨rfl, rfl, hfr1, hlo1, hpay, hin1⟩, hcode, hini, hmh, hlen, va_Nw.use rfl (hnw _ hl)⟩, hts _ i1, hsel⟩ ⟨PcM.blind, hrec, pre h1 h2⟩ rfl (len_rev hnp) h3.2.1 hcutR (hct _ h8) hd hf
end
