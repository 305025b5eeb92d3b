theorem j_pay {args : Array Value} {s : State} {y : MethodName} {cc : ByteArray} {mx : Nat} {rt : Option FieldType} (hts : ∀ w ∈ WS, w.before args s = true) (hc : Jvm.Cond.code y cc mx rt ∈ WS) : ∀ w ∈ (Jvm.Cond.code y cc mx rt :: WS), ∀ (a' : Array Value) (U : State), s.WarmedH U.vm → w.before a' U = true := by
  intro w hw a' U hW
  have h1 : w ∈ WS := by
    rcases List.mem_cons.mp hw with h | h
    · rw [h]; exact hc
    · exact h
  exact word_at hW (good_of_word (ws_good h1)) (hts w h1)
theorem j_same {p : Program} {l : Launch} {e : Env} {R : Room} {s : State} {m : MethodId} {args : Array Value} {below : List Frame} {meth : Method} {c : Code} {Q : State → Prop} {H : Heap} {locs : List Loc} {cells slots pc bs : Nat} {ls : Array Slot} {st0 rest : List Value} {v : Option Value}
    (hr : va_Run p l e R s m args below meth c H locs cells slots 0 0 (F0 m pc ls st0) rest (fun st o t => o = .returned v ∧ t.heap = st.heap) (fun q => bs ≤ q)) (hS : va_S (fun q => bs ≤ q) s.heap H locs)
    (k : ∀ locs1, va_S (fun q => bs ≤ q) s.heap H locs1 → W p l e R s m args below meth c H locs1 cells slots Q (F0 m (pc + 3) ls (v.toList ++ rest))) : W p l e R s m args below meth c H locs cells slots Q (F0 m pc ls st0) := by
  intro T hT X
  obtain ⟨v', st₀, t, T', L', h0, X', hL, e1, e2, ⟨hv, hk⟩, st⟩ := hr T hT X
  have hv' : v' = v := by injection hv
  subst hv'
  have e3 : T'.heap = H := by rw [e1, hk, h0]
  have hS1 : va_S (fun q => bs ≤ q) s.heap H (locs ++ L') := ⟨hS.1, hS.2.1, fun q hq => by
    rcases List.mem_append.mp hq with h | h
    · exact hS.2.2 q h
    · exact hL q h⟩
  obtain ⟨t2, a1, b1⟩ := k (locs ++ L') hS1 T' e3 X'
  exact ⟨t2, st t2 a1, b1⟩
theorem j_par {d : String} {n : Nat} (h : (parseMethodDescriptor d).map (fun d => d.parameters.length) = some n) : ∀ sig, parseMethodDescriptor d = some sig → n = sig.parameters.length := fun sig h2 => by
  rw [h2] at h; exact (Option.some.inj h).symm
set_option maxRecDepth 100000 in
theorem jm_co {l : Launch} {bs b sa sv L : Nat} {xs : Nat → Int32} : Met l yJ0_coder_7d493 (Jvm.Cond.code yJ0_coder_7d493 cJ0_coder_7d493 1 (some .byte) :: WS) { frames := 0, cells := 0, slots := 0, locals := 0 } (fun a U => a = ([Value.ref sa] : List Value).toArray ∧ XS b L bs sa sv xs U U.heap) (fun _ st o t => o = .returned (some (.int 0)) ∧ t.heap = st.heap) 0 0 (fun q => bs ≤ q) := by
  refine Met.ofWF (cc := cJ0_coder_7d493) (maxL := 1) (ret := (some .byte)) (by decide +kernel) rfl ?_
  intro p e s m args below meth c s₁ B hml hv
  obtain ⟨rfl, hX⟩ := hv
  have hx := B.exec
  have hb := B.bytes
  have hr := B.returns
  have hts0 := atoms_spec (ws := Jvm.Cond.code yJ0_coder_7d493 cJ0_coder_7d493 1 (some .byte) :: WS) B.pre
  have hts : ∀ w ∈ WS, w.before (([Value.ref sa] : List Value).toArray) s = true := fun w hw => hts0 w (List.mem_cons_of_mem _ hw)
  have hown : s.vm.findClass yJ0_coder_7d493.cls = some m.cls := findClass_of_methodNamed B.named
  have hlocks := B.notSynchronized
  have hS : va_S (fun q => bs ≤ q) s.heap s.heap [] := va_S.rf
  rw [lg_entry_eq]
  have hl := lv_entry ([Value.ref sa] : List Value) (n := 1) (Nat.le_of_ble_eq_true rfl)
  generalize (lg_sl ([Value.ref sa] : List Value) ++ List.replicate (1 - (lg_sl ([Value.ref sa] : List Value)).length) Slot.unset).toArray = ls at hl ⊢
  have hl : lv_has ls 1 [(0, .ref sa)] := hl
  refine va_gets hx hb hX.2.2.2.2.1 hS hown (hts _ jf_s) (fun _ h => h) dJ0_coder_7d493_0 ?_
  refine lv_if_eq (tgt := 13) hx hb dJ0_coder_7d493_3 (by decide) (fun h => absurd h (by decide)) (fun _ => ?_)
  refine lv_aload_n hx hb dJ0_coder_7d493_6 rfl (lv_at hl 0 rfl) ?_
  refine vk_getf hx hb (hX.2.2.1.1 0 (by decide)).2.1 hS hown (hts _ jf_c) (fun _ h => h) dJ0_coder_7d493_7 ?_
  refine lv_goto (tgt := 14) hx hb dJ0_coder_7d493_10 (by decide) ?_
  exact W.zret hx hb hr rfl (fun t ht _ => ⟨rfl, ht⟩) hS.2.2 dJ0_coder_7d493_14
set_option maxRecDepth 100000 in
theorem jm_la {l : Launch} {bs b sa sv L : Nat} {xs : Nat → Int32} : Met l yJ0_isLatin1_aae02 (Jvm.Cond.code yJ0_isLatin1_aae02 cJ0_isLatin1_aae02 1 (some .boolean) :: WS) { frames := 0, cells := 0, slots := 0, locals := 0 } (fun a U => a = ([Value.ref sa] : List Value).toArray ∧ XS b L bs sa sv xs U U.heap) (fun _ st o t => o = .returned (some (.int 1)) ∧ t.heap = st.heap) 0 0 (fun q => bs ≤ q) := by
  refine Met.ofWF (cc := cJ0_isLatin1_aae02) (maxL := 1) (ret := (some .boolean)) (by decide +kernel) rfl ?_
  intro p e s m args below meth c s₁ B hml hv
  obtain ⟨rfl, hX⟩ := hv
  have hx := B.exec
  have hb := B.bytes
  have hr := B.returns
  have hts0 := atoms_spec (ws := Jvm.Cond.code yJ0_isLatin1_aae02 cJ0_isLatin1_aae02 1 (some .boolean) :: WS) B.pre
  have hts : ∀ w ∈ WS, w.before (([Value.ref sa] : List Value).toArray) s = true := fun w hw => hts0 w (List.mem_cons_of_mem _ hw)
  have hown : s.vm.findClass yJ0_isLatin1_aae02.cls = some m.cls := findClass_of_methodNamed B.named
  have hlocks := B.notSynchronized
  have hS : va_S (fun q => bs ≤ q) s.heap s.heap [] := va_S.rf
  rw [lg_entry_eq]
  have hl := lv_entry ([Value.ref sa] : List Value) (n := 1) (Nat.le_of_ble_eq_true rfl)
  generalize (lg_sl ([Value.ref sa] : List Value) ++ List.replicate (1 - (lg_sl ([Value.ref sa] : List Value)).length) Slot.unset).toArray = ls at hl ⊢
  have hl : lv_has ls 1 [(0, .ref sa)] := hl
  refine va_gets hx hb hX.2.2.2.2.1 hS hown (hts _ jf_s) (fun _ h => h) dJ0_isLatin1_aae02_0 ?_
  refine lv_if_eq (tgt := 17) hx hb dJ0_isLatin1_aae02_3 (by decide) (fun h => absurd h (by decide)) (fun _ => ?_)
  refine lv_aload_n hx hb dJ0_isLatin1_aae02_6 rfl (lv_at hl 0 rfl) ?_
  refine vk_getf hx hb (hX.2.2.1.1 0 (by decide)).2.1 hS hown (hts _ jf_c) (fun _ h => h) dJ0_isLatin1_aae02_7 ?_
  refine lv_if_ne (tgt := 17) hx hb dJ0_isLatin1_aae02_10 (by decide) (fun h => absurd rfl h) (fun _ => ?_)
  refine lv_iconst (v := 1) hx hb dJ0_isLatin1_aae02_13 (by decide) ?_
  refine lv_goto (tgt := 18) hx hb dJ0_isLatin1_aae02_14 (by decide) ?_
  exact W.zret hx hb hr rfl (fun t ht _ => ⟨rfl, ht⟩) hS.2.2 dJ0_isLatin1_aae02_18
set_option maxRecDepth 100000 in
theorem jm_le {l : Launch} {bs b sa sv L : Nat} {xs : Nat → Int32} : Met l yJ0_length_8abf5 (Jvm.Cond.code yJ0_length_8abf5 cJ0_length_8abf5 1 (some .int) :: WS) { frames := 6, cells := 0, slots := 0, locals := 300 } (fun a U => a = ([Value.ref sa] : List Value).toArray ∧ XS b L bs sa sv xs U U.heap) (fun _ st o t => o = .returned (some (.int (Int32.ofNat STX.length))) ∧ t.heap = st.heap) 0 0 (fun q => bs ≤ q) := by
  refine Met.ofWF (cc := cJ0_length_8abf5) (maxL := 1) (ret := (some .int)) (by decide +kernel) rfl ?_
  intro p e s m args below meth c s₁ B hml hv
  obtain ⟨rfl, hX⟩ := hv
  have hx := B.exec
  have hb := B.bytes
  have hr := B.returns
  have hts0 := atoms_spec (ws := Jvm.Cond.code yJ0_length_8abf5 cJ0_length_8abf5 1 (some .int) :: WS) B.pre
  have hts : ∀ w ∈ WS, w.before (([Value.ref sa] : List Value).toArray) s = true := fun w hw => hts0 w (List.mem_cons_of_mem _ hw)
  have hown : s.vm.findClass yJ0_length_8abf5.cls = some m.cls := findClass_of_methodNamed B.named
  have hlocks := B.notSynchronized
  have hS : va_S (fun q => bs ≤ q) s.heap s.heap [] := va_S.rf
  rw [lg_entry_eq]
  have hl := lv_entry ([Value.ref sa] : List Value) (n := 1) (Nat.le_of_ble_eq_true rfl)
  generalize (lg_sl ([Value.ref sa] : List Value) ++ List.replicate (1 - (lg_sl ([Value.ref sa] : List Value)).length) Slot.unset).toArray = ls at hl ⊢
  have hl : lv_has ls 1 [(0, .ref sa)] := hl
  refine lv_aload_n hx hb dJ0_length_8abf5_0 rfl (lv_at hl 0 rfl) ?_
  refine vk_getf hx hb (hX.2.2.1.1 0 (by decide)).2.2.1 hS hown (hts _ jf_v) (fun _ h => h) dJ0_length_8abf5_1 ?_
  refine va_tlen hx hb (hX.2.2.1.1 0 (by decide)).2.2.2 hS (v := Int32.ofNat STX.length) rfl dJ0_length_8abf5_4 ?_
  refine lv_aload_n hx hb dJ0_length_8abf5_5 rfl (lv_at hl 0 rfl) ?_
  refine j_same (v := some (.int 0)) (rest := [.int (Int32.ofNat STX.length)]) (va_runV (C := RJ0) (As := []) (b := sa) (own := "java/lang/String") ⟨hx, hb, hml, hown, hts⟩ (jm_co (l := l) (b := b) (L := L) (xs := xs) (sv := sv)) ⟨⟨rfl, rfl, by show 0 + 1 ≤ _; decide, by show 8 + (1 + 11) + 0 ≤ _; decide, j_pay hts jc_co, List.mem_cons_self, hts _ jc_co, hts _ jn_0, ⟨by decide +kernel, by decide +kernel⟩, j_par (d := "()B") (n := 0) (by decide +kernel), hts _ jk_co⟩, hts _ ji_co, hts _ jl_co⟩ ⟨fun a U g mk h => ⟨h.1, XS.same (u := U) (U := U.calling g mk a) rfl h.2⟩, vk_recv hX.2.2.1 (i := 0) (by decide) hS, fun U hU hW => ⟨rfl, by rw [hU]; exact (hX.moved hW).kept hS.2.1⟩⟩ rfl rfl hl.1 rfl (lv_room (by decide)) dJ0_length_8abf5_6 ⟨Nat.le_refl _, Nat.le_refl _⟩) hS fun locs hS => ?_
  refine lv_ishr hx hb dJ0_length_8abf5_9 ?_
  have e0 : Int32.ofNat STX.length >>> ((0 : Int32) &&& 31) = Int32.ofNat STX.length := by rw [STX_len]; decide
  rw [e0]
  exact W.iret hx hb hr (fun t ht _ => ⟨rfl, ht⟩) hS.2.2 dJ0_length_8abf5_10
set_option maxRecDepth 100000 in
theorem jm_pk {l : Launch} {bs b sa sv L : Nat} {xs : Nat → Int32} {i n : Int32} {z : Value} (h0 : ¬ i < 0) (h1 : i < n) (hw : z = .null ∨ ∃ t, z = .ref t) : Met l yJ3_checkIndex_8e157 (Jvm.Cond.code yJ3_checkIndex_8e157 cJ3_checkIndex_8e157 3 (some .int) :: WS) { frames := 0, cells := 0, slots := 0, locals := 0 } (fun a U => a = ([Value.int i, Value.int n, z] : List Value).toArray ∧ True) (fun _ st o t => o = .returned (some (.int i)) ∧ t.heap = st.heap) 0 0 (fun q => bs ≤ q) := by
  refine Met.ofWF (cc := cJ3_checkIndex_8e157) (maxL := 3) (ret := (some .int)) (by decide +kernel) rfl ?_
  intro p e s m args below meth c s₁ B hml hv
  obtain ⟨rfl, hX⟩ := hv
  have hx := B.exec
  have hb := B.bytes
  have hr := B.returns
  have hts0 := atoms_spec (ws := Jvm.Cond.code yJ3_checkIndex_8e157 cJ3_checkIndex_8e157 3 (some .int) :: WS) B.pre
  have hts : ∀ w ∈ WS, w.before (([Value.int i, Value.int n, z] : List Value).toArray) s = true := fun w hw => hts0 w (List.mem_cons_of_mem _ hw)
  have hown : s.vm.findClass yJ3_checkIndex_8e157.cls = some m.cls := findClass_of_methodNamed B.named
  have hlocks := B.notSynchronized
  have hS : va_S (fun q => bs ≤ q) s.heap s.heap [] := va_S.rf
  rw [lg_entry_eq]
  have hl := lv_entry ([Value.int i, Value.int n, z] : List Value) (n := 3) (by rcases hw with rfl | ⟨t, rfl⟩ <;> exact Nat.le_of_ble_eq_true rfl)
  generalize (lg_sl ([Value.int i, Value.int n, z] : List Value) ++ List.replicate (3 - (lg_sl ([Value.int i, Value.int n, z] : List Value)).length) Slot.unset).toArray = ls at hl ⊢
  have hl : lv_has ls 3 [(0, .int i), (1, .int n), (2, z)] := hl
  refine lv_iload_n hx hb dJ3_checkIndex_8e157_0 rfl (lv_at hl 0 rfl) ?_
  refine lv_if_lt (tgt := 9) hx hb dJ3_checkIndex_8e157_1 (by decide) (fun h => absurd h h0) (fun _ => ?_)
  refine lv_iload_n hx hb dJ3_checkIndex_8e157_4 rfl (lv_at hl 0 rfl) ?_
  refine lv_iload_n hx hb dJ3_checkIndex_8e157_5 rfl (lv_at hl 1 rfl) ?_
  refine lv_icmp_lt (tgt := 16) hx hb dJ3_checkIndex_8e157_6 (by decide) (fun _ => ?_) (fun h => absurd h1 h)
  refine lv_iload_n hx hb dJ3_checkIndex_8e157_16 rfl (lv_at hl 0 rfl) ?_
  exact W.iret hx hb hr (fun t ht _ => ⟨rfl, ht⟩) hS.2.2 dJ3_checkIndex_8e157_17
set_option maxRecDepth 100000 in
theorem jm_ck {l : Launch} {bs b sa sv L : Nat} {xs : Nat → Int32} {i n : Int32} (h0 : ¬ i < 0) (h1 : i < n) : Met l yJ0_checkIndex_df160 (Jvm.Cond.code yJ0_checkIndex_df160 cJ0_checkIndex_df160 2 none :: WS) { frames := 2, cells := 0, slots := 0, locals := 100 } (fun a U => a = ([Value.int i, Value.int n] : List Value).toArray ∧ XS b L bs sa sv xs U U.heap) (fun _ st o t => o = .returned none ∧ t.heap = st.heap) 0 0 (fun q => bs ≤ q) := by
  refine Met.ofWF (cc := cJ0_checkIndex_df160) (maxL := 2) (ret := none) (by decide +kernel) rfl ?_
  intro p e s m args below meth c s₁ B hml hv
  obtain ⟨rfl, hX⟩ := hv
  have hx := B.exec
  have hb := B.bytes
  have hr := B.returns
  have hts0 := atoms_spec (ws := Jvm.Cond.code yJ0_checkIndex_df160 cJ0_checkIndex_df160 2 none :: WS) B.pre
  have hts : ∀ w ∈ WS, w.before (([Value.int i, Value.int n] : List Value).toArray) s = true := fun w hw => hts0 w (List.mem_cons_of_mem _ hw)
  have hown : s.vm.findClass yJ0_checkIndex_df160.cls = some m.cls := findClass_of_methodNamed B.named
  have hlocks := B.notSynchronized
  have hS : va_S (fun q => bs ≤ q) s.heap s.heap [] := va_S.rf
  rw [lg_entry_eq]
  have hl := lv_entry ([Value.int i, Value.int n] : List Value) (n := 2) (Nat.le_of_ble_eq_true rfl)
  generalize (lg_sl ([Value.int i, Value.int n] : List Value) ++ List.replicate (2 - (lg_sl ([Value.int i, Value.int n] : List Value)).length) Slot.unset).toArray = ls at hl ⊢
  have hl : lv_has ls 2 [(0, .int i), (1, .int n)] := hl
  obtain ⟨z, hwc, hZ⟩ : ∃ z : Value, (z = .null ∨ ∃ t, z = .ref t) ∧ va_Z "jdk/internal/util/Preconditions" "SIOOBE_FORMATTER" "Ljava/util/function/BiFunction;" z (fun q => bs ≤ q) s s.heap := by
    rcases hX.2.2.2.2.2 with h | ⟨t, h⟩
    · exact ⟨.null, Or.inl rfl, h⟩
    · exact ⟨.ref t, Or.inr ⟨t, rfl⟩, h⟩
  refine lv_iload_n hx hb dJ0_checkIndex_df160_0 rfl (lv_at hl 0 rfl) ?_
  refine lv_iload_n hx hb dJ0_checkIndex_df160_1 rfl (lv_at hl 1 rfl) ?_
  refine va_gets hx hb hZ hS hown (hts _ jf_p) (fun _ h => h) dJ0_checkIndex_df160_2 ?_
  refine j_same (v := some (.int i)) (rest := []) (va_runS (As := [.int i, .int n, z]) (own := "java/lang/String") ⟨hx, hb, hml, hown, hts⟩ (jm_pk (l := l) (bs := bs) (b := b) (sa := sa) (sv := sv) (L := L) (xs := xs) (i := i) (n := n) (z := z) h0 h1 hwc) ⟨⟨rfl, rfl, by show 0 + 1 ≤ _; decide, by show 8 + (3 + 11) + 0 ≤ _; decide, j_pay hts jc_pk, List.mem_cons_self, hts _ jc_pk, hts _ jn_3, ⟨by decide +kernel, by decide +kernel⟩, j_par (d := "(IILjava/util/function/BiFunction;)I") (n := 3) (by decide +kernel), hts _ jk_pk⟩, hts _ js_pk⟩ ⟨fun a U g mk h => h, fun U hU hW => ⟨rfl, trivial⟩⟩ rfl rfl hl.1 rfl (lv_room (by decide)) dJ0_checkIndex_df160_5 ⟨Nat.le_refl _, Nat.le_refl _⟩) hS fun locs hS => ?_
  refine lv_pop hx hb dJ0_checkIndex_df160_8 rfl ?_
  exact W.vret hx hb hr (fun t ht _ => ⟨rfl, ht⟩) hS.2.2 dJ0_checkIndex_df160_9
theorem j_chr : ∀ j, j < 170 → ((Int32.ofNat (STX.getD j 0) &&& 255).toUInt32 % 65536).toInt32 = Int32.ofNat (STX.getD j 0) ∧ narrow .char (.int (Int32.ofNat (STX.getD j 0))) = .int (Int32.ofNat (STX.getD j 0)) := by decide +kernel
theorem j_chi {i : Int32} (hi : inb i STX.length) : ixn i < 170 := by
  have h1 := hi.1
  have h2 := hi.2
  rw [STX_len] at h2
  unfold ixn
  omega
set_option maxRecDepth 100000 in
theorem jm_lc {l : Launch} {bs b sa sv L : Nat} {xs : Nat → Int32} {i : Int32} (hi : inb i STX.length) : Met l yJ1_charAt_3b067 (Jvm.Cond.code yJ1_charAt_3b067 cJ1_charAt_3b067 2 (some .char) :: WS) { frames := 4, cells := 0, slots := 0, locals := 200 } (fun a U => a = ([Value.ref sv, Value.int i] : List Value).toArray ∧ XS b L bs sa sv xs U U.heap) (fun _ st o t => o = .returned (some (.int (sch (ixn i)))) ∧ t.heap = st.heap) 0 0 (fun q => bs ≤ q) := by
  refine Met.ofWF (cc := cJ1_charAt_3b067) (maxL := 2) (ret := (some .char)) (by decide +kernel) rfl ?_
  intro p e s m args below meth c s₁ B hml hv
  obtain ⟨rfl, hX⟩ := hv
  have hx := B.exec
  have hb := B.bytes
  have hr := B.returns
  have hts0 := atoms_spec (ws := Jvm.Cond.code yJ1_charAt_3b067 cJ1_charAt_3b067 2 (some .char) :: WS) B.pre
  have hts : ∀ w ∈ WS, w.before (([Value.ref sv, Value.int i] : List Value).toArray) s = true := fun w hw => hts0 w (List.mem_cons_of_mem _ hw)
  have hown : s.vm.findClass yJ1_charAt_3b067.cls = some m.cls := findClass_of_methodNamed B.named
  have hlocks := B.notSynchronized
  have hS : va_S (fun q => bs ≤ q) s.heap s.heap [] := va_S.rf
  rw [lg_entry_eq]
  have hl := lv_entry ([Value.ref sv, Value.int i] : List Value) (n := 2) (Nat.le_of_ble_eq_true rfl)
  generalize (lg_sl ([Value.ref sv, Value.int i] : List Value) ++ List.replicate (2 - (lg_sl ([Value.ref sv, Value.int i] : List Value)).length) Slot.unset).toArray = ls at hl ⊢
  have hl : lv_has ls 2 [(0, .ref sv), (1, .int i)] := hl
  have hi0 : ¬ i < 0 := fun h => by have h1 := Int32.lt_iff_toInt_lt.mp h; have h2 := hi.1; simp at h1; omega
  have hi1 : i < Int32.ofNat STX.length := by
    have h2 := hi.2
    rw [STX_len] at h2 ⊢
    exact Int32.lt_iff_toInt_lt.mpr (by rw [show (Int32.ofNat 170).toInt = 170 by decide]; omega)
  refine lv_iload_n hx hb dJ1_charAt_3b067_0 rfl (lv_at hl 1 rfl) ?_
  refine lv_aload_n hx hb dJ1_charAt_3b067_1 rfl (lv_at hl 0 rfl) ?_
  refine va_tlen hx hb (hX.2.2.1.1 0 (by decide)).2.2.2 hS (v := Int32.ofNat STX.length) rfl dJ1_charAt_3b067_2 ?_
  refine j_same (v := none) (rest := []) (va_runS (As := [.int i, .int (Int32.ofNat STX.length)]) (own := "java/lang/StringLatin1") ⟨hx, hb, hml, hown, hts⟩ (jm_ck (l := l) (bs := bs) (b := b) (sa := sa) (sv := sv) (L := L) (xs := xs) hi0 hi1) ⟨⟨rfl, rfl, by show 2 + 1 ≤ _; decide, by show 8 + (2 + 11) + 100 ≤ _; decide, j_pay hts jc_ck, List.mem_cons_self, hts _ jc_ck, hts _ jn_0, ⟨by decide +kernel, by decide +kernel⟩, j_par (d := "(II)V") (n := 2) (by decide +kernel), hts _ jk_ck⟩, hts _ js_ck⟩ ⟨fun a U g mk h => ⟨h.1, XS.same (u := U) (U := U.calling g mk a) rfl h.2⟩, fun U hU hW => ⟨rfl, by rw [hU]; exact (hX.moved hW).kept hS.2.1⟩⟩ rfl rfl hl.1 rfl (lv_room (by decide)) dJ1_charAt_3b067_3 ⟨Nat.le_refl _, Nat.le_refl _⟩) hS fun locs hS => ?_
  refine lv_aload_n hx hb dJ1_charAt_3b067_6 rfl (lv_at hl 0 rfl) ?_
  refine lv_iload_n hx hb dJ1_charAt_3b067_7 rfl (lv_at hl 1 rfl) ?_
  have hlt := j_chi hi
  have hrd : (fun j => Value.int (([STX.map (fun n => Int32.ofNat n)].getD 0 []).getD j 0)) i.toNatClampNeg = .int (Int32.ofNat (STX.getD (ixn i) 0)) := by
    show Value.int _ = _
    rw [getD_map1 (j := i.toNatClampNeg) (by rw [STX_len]; exact hlt)]
    rfl
  refine va_tb hx hb (hX.2.2.1.1 0 (by decide)).2.2.2 hS (inb_vp hi) hrd dJ1_charAt_3b067_8 ?_
  refine lv_sipush (v := 255) hx hb dJ1_charAt_3b067_9 (by decide) ?_
  refine lv_iand hx hb dJ1_charAt_3b067_12 ?_
  refine lv_i2c hx hb dJ1_charAt_3b067_13 (v := Int32.ofNat (STX.getD (ixn i) 0)) (j_chr _ hlt).1 ?_
  exact W.zret hx hb hr (j_chr _ hlt).2 (fun t ht _ => ⟨rfl, ht⟩) hS.2.2 dJ1_charAt_3b067_14
set_option maxRecDepth 100000 in
theorem jm_ch {l : Launch} {bs b sa sv L : Nat} {xs : Nat → Int32} {i : Int32} (hi : inb i STX.length) : Met l yJ0_charAt_5068e (Jvm.Cond.code yJ0_charAt_5068e cJ0_charAt_5068e 2 (some .char) :: WS) { frames := 6, cells := 0, slots := 0, locals := 300 } (fun a U => a = ([Value.ref sa, Value.int i] : List Value).toArray ∧ XS b L bs sa sv xs U U.heap) (fun _ st o t => o = .returned (some (.int (sch (ixn i)))) ∧ t.heap = st.heap) 0 0 (fun q => bs ≤ q) := by
  refine Met.ofWF (cc := cJ0_charAt_5068e) (maxL := 2) (ret := (some .char)) (by decide +kernel) rfl ?_
  intro p e s m args below meth c s₁ B hml hv
  obtain ⟨rfl, hX⟩ := hv
  have hx := B.exec
  have hb := B.bytes
  have hr := B.returns
  have hts0 := atoms_spec (ws := Jvm.Cond.code yJ0_charAt_5068e cJ0_charAt_5068e 2 (some .char) :: WS) B.pre
  have hts : ∀ w ∈ WS, w.before (([Value.ref sa, Value.int i] : List Value).toArray) s = true := fun w hw => hts0 w (List.mem_cons_of_mem _ hw)
  have hown : s.vm.findClass yJ0_charAt_5068e.cls = some m.cls := findClass_of_methodNamed B.named
  have hlocks := B.notSynchronized
  have hS : va_S (fun q => bs ≤ q) s.heap s.heap [] := va_S.rf
  rw [lg_entry_eq]
  have hl := lv_entry ([Value.ref sa, Value.int i] : List Value) (n := 2) (Nat.le_of_ble_eq_true rfl)
  generalize (lg_sl ([Value.ref sa, Value.int i] : List Value) ++ List.replicate (2 - (lg_sl ([Value.ref sa, Value.int i] : List Value)).length) Slot.unset).toArray = ls at hl ⊢
  have hl : lv_has ls 2 [(0, .ref sa), (1, .int i)] := hl
  refine lv_aload_n hx hb dJ0_charAt_5068e_0 rfl (lv_at hl 0 rfl) ?_
  refine j_same (v := some (.int 1)) (rest := []) (va_runV (C := RJ0) (As := []) (b := sa) (own := "java/lang/String") ⟨hx, hb, hml, hown, hts⟩ (jm_la (l := l) (b := b) (L := L) (xs := xs) (sv := sv)) ⟨⟨rfl, rfl, by show 0 + 1 ≤ _; decide, by show 8 + (1 + 11) + 0 ≤ _; decide, j_pay hts jc_la, List.mem_cons_self, hts _ jc_la, hts _ jn_0, ⟨by decide +kernel, by decide +kernel⟩, j_par (d := "()Z") (n := 0) (by decide +kernel), hts _ jk_la⟩, hts _ ji_la, hts _ jl_la⟩ ⟨fun a U g mk h => ⟨h.1, XS.same (u := U) (U := U.calling g mk a) rfl h.2⟩, vk_recv hX.2.2.1 (i := 0) (by decide) hS, fun U hU hW => ⟨rfl, by rw [hU]; exact (hX.moved hW).kept hS.2.1⟩⟩ rfl rfl hl.1 rfl (lv_room (by decide)) dJ0_charAt_5068e_1 ⟨Nat.le_refl _, Nat.le_refl _⟩) hS fun locs hS => ?_
  refine lv_if_eq (tgt := 16) hx hb dJ0_charAt_5068e_4 (by decide) (fun h => absurd h (by decide)) (fun _ => ?_)
  refine lv_aload_n hx hb dJ0_charAt_5068e_7 rfl (lv_at hl 0 rfl) ?_
  refine vk_getf hx hb (hX.2.2.1.1 0 (by decide)).2.2.1 hS hown (hts _ jf_v) (fun _ h => h) dJ0_charAt_5068e_8 ?_
  refine lv_iload_n hx hb dJ0_charAt_5068e_11 rfl (lv_at hl 1 rfl) ?_
  refine j_same (v := some (.int (sch (ixn i)))) (rest := []) (va_runS (As := [.ref sv, .int i]) (own := "java/lang/String") ⟨hx, hb, hml, hown, hts⟩ (jm_lc (l := l) (bs := bs) (b := b) (sa := sa) (sv := sv) (L := L) (xs := xs) hi) ⟨⟨rfl, rfl, by show 4 + 1 ≤ _; decide, by show 8 + (2 + 11) + 200 ≤ _; decide, j_pay hts jc_lc, List.mem_cons_self, hts _ jc_lc, hts _ jn_1, ⟨by decide +kernel, by decide +kernel⟩, j_par (d := "([BI)C") (n := 2) (by decide +kernel), hts _ jk_lc⟩, hts _ js_lc⟩ ⟨fun a U g mk h => ⟨h.1, XS.same (u := U) (U := U.calling g mk a) rfl h.2⟩, fun U hU hW => ⟨rfl, by rw [hU]; exact (hX.moved hW).kept hS.2.1⟩⟩ rfl rfl hl.1 rfl (lv_room (by decide)) dJ0_charAt_5068e_12 ⟨Nat.le_refl _, Nat.le_refl _⟩) hS fun locs hS => ?_
  exact W.zret hx hb hr (j_chr _ (j_chi hi)).2 (fun t ht _ => ⟨rfl, ht⟩) hS.2.2 dJ0_charAt_5068e_15
theorem len_met {l : Launch} {bs b sa sv L : Nat} {xs : Nat → Int32} : LenMet l bs b sa sv L xs := jm_le
theorem chr_met {l : Launch} {bs b sa sv L : Nat} {xs : Nat → Int32} : ChrMet l bs b sa sv L xs := fun i hi => jm_ch hi
