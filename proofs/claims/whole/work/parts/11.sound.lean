section
variable {p : Program} {l : Launch} {e : Env} {R : Room} {s : State} {m : MethodId} {args : Array Value} {below : List Frame} {meth : Method} {c : Code} {Q : State → Prop} {D : va_G} {ki kc kl : ClassId} {bs b sa sv : Nat} {L : Nat} {xs : Nat → Int32} {M n0 : Nat}
variable {pc pc1 : Nat} {los los1 : List (Option Value)} {st st1 : List Value} {σ σ1 : Mm}
theorem s_same {H : Heap} {locs : List Loc} {ls : Array Slot} {st0 : List Value} {w : Value} {r : List Value}
    (hr : va_Run p l e R s m args below meth c H locs (σ.1 - n0) (SS σ.1 - SS n0) 0 0 (F0 m pc ls st0) (r.map (cva bs b sa)) (fun st o t => o = .returned (some (cva bs b sa w)) ∧ t.heap = st.heap) (fun q => bs ≤ q)) (hP : Pl D ki kc kl bs b sa σ H) (hS : va_S (fun q => bs ≤ q) s.heap H locs) (h3 : LR bs b sa ls (mmx M) los)
    (k : GG p l e R s m args below meth c Q D ki kc kl bs b sa M n0 (pc + 3) los (w :: r) σ) : W p l e R s m args below meth c H locs (σ.1 - n0) (SS σ.1 - SS n0) Q (F0 m pc ls st0) := by
  intro T hT X
  obtain ⟨v', st₀, t, T', L', h0, X', hL, e1, e2, ⟨hv, hk⟩, st⟩ := hr T hT X
  have hv' : v' = some (cva bs b sa w) := by injection hv
  subst hv'
  have e3 : T'.heap = H := by rw [e1, hk, h0]
  have hS1 : va_S (fun q => bs ≤ q) s.heap T'.heap (locs ++ L') := by
    rw [e3]
    exact ⟨hS.1, hS.2.1, fun q hq => by
      rcases List.mem_append.mp hq with h | h
      · exact hS.2.2 q h
      · exact hL q h⟩
  obtain ⟨t2, a1, b1⟩ := k T'.heap (locs ++ L') ls (by rw [e3]; exact hP) hS1 h3 T' rfl X'
  exact ⟨t2, st t2 a1, b1⟩
theorem inv_inl {kind own k pc pc1 : Nat} {los los1 : List (Option Value)} {st st1 : List Value} {σ σ1 : Mm} (h : inv kind own k pc los st σ = some (.inl (pc1, los1, st1, σ1))) :
    (pc1 = pc ∧ los1 = los ∧ σ1 = σ) ∧ ((kind = 1 ∧ cal own k = 1 ∧ ∃ a, st = .ref a :: st1 ∧ ctg st1 ≤ 8) ∨ (kind = 2 ∧ cal own k = 2 ∧ ∃ r, st = .ref 1001 :: r ∧ ctg r ≤ 8 ∧ st1 = .int (Int32.ofNat STX.length) :: r) ∨ (kind = 2 ∧ cal own k = 3 ∧ ∃ i r, st = .int i :: .ref 1001 :: r ∧ ctg r ≤ 8 ∧ inb i STX.length ∧ st1 = .int (sch (ixn i)) :: r)) := by
  unfold inv at h
  split at h
  · simp at h
  · rename_i hcal
    split at h
    · rename_i a r
      split at h
      · rename_i hc
        obtain ⟨rfl, rfl, rfl, rfl⟩ := nx_inj h
        exact ⟨⟨rfl, rfl, rfl⟩, Or.inl ⟨hc.1, hcal, a, rfl, hc.2⟩⟩
      · simp at h
    · simp at h
  · rename_i hcal
    split at h
    · rename_i r
      split at h
      · rename_i hc
        obtain ⟨rfl, rfl, rfl, rfl⟩ := nx_inj h
        exact ⟨⟨rfl, rfl, rfl⟩, Or.inr (Or.inl ⟨hc.1, hcal, r, rfl, hc.2, rfl⟩)⟩
      · simp at h
    · simp at h
  · rename_i hcal
    split at h
    · rename_i i r
      split at h
      · rename_i hc
        obtain ⟨rfl, rfl, rfl, rfl⟩ := nx_inj h
        exact ⟨⟨rfl, rfl, rfl⟩, Or.inr (Or.inr ⟨hc.1.1, hcal, i, r, rfl, hc.1.2, hc.2, rfl⟩)⟩
      · simp at h
    · simp at h
  · split at h
    · split at h <;> simp at h
    · split at h
      · split at h <;> simp at h
      · simp at h
  · simp at h
theorem s_inv (C0 : CX p R s m args meth c D ki kc kl bs b sa sv L xs M) (hLen : LenMet l bs b sa sv L xs) (hChr : ChrMet l bs b sa sv L xs) {kind k : Nat} {ins : Instr}
    (hki : (kind = 0 ∧ ins = .invokestatic k) ∨ (kind = 1 ∧ ins = .invokespecial k) ∨ (kind = 2 ∧ ins = .invokevirtual k)) (hd : decode (mcd M) pc = .ok (ins, 3)) (hcl : σ.1 - n0 ≤ R.cells) (hsl : SS σ.1 - SS n0 ≤ R.slots)
    (hh : inv kind (mcl M) k (pc + 3) los st σ = some (.inl (pc1, los1, st1, σ1))) (kk : GG p l e R s m args below meth c Q D ki kc kl bs b sa M n0 pc1 los1 st1 σ1) : GG p l e R s m args below meth c Q D ki kc kl bs b sa M n0 pc los st σ := by
  obtain ⟨⟨rfl, rfl, rfl⟩, hor⟩ := inv_inl hh
  rcases hor with ⟨rfl, hcal, a, rfl, h8⟩ | ⟨rfl, hcal, r, rfl, h8, rfl⟩ | ⟨rfl, hcal, i, r, rfl, h8, hi, rfl⟩
  · have hins : ins = .invokespecial k := by rcases hki with ⟨h, -⟩ | ⟨-, h⟩ | ⟨h, -⟩ <;> first | exact h | (exact absurd h (by decide))
    subst hins
    exact s_obj C0 hd hcal h8 kk
  · have hins : ins = .invokevirtual k := by rcases hki with ⟨h, -⟩ | ⟨h, -⟩ | ⟨-, h⟩ <;> first | exact h | (exact absurd h (by decide))
    subst hins
    obtain ⟨⟨hx, hb, hml, hown, hts, hnw⟩, hK, hX, hbs, hin, hfr0, hlo0⟩ := C0
    obtain ⟨-, hl⟩ := lla (mcl M) _ (cal_mem (v := 1) hcal)
    have hpay : ∀ w ∈ (Jvm.Cond.code yJ0_length_8abf5 cJ0_length_8abf5 1 (some .int) :: WS), ∀ (a' : Array Value) (U : State), s.WarmedH U.vm → w.before a' U = true := by
      intro w hw a' U hW
      have h1 : w ∈ WS := by
        rcases List.mem_cons.mp hw with h | h
        · rw [h]; exact sl_2
        · exact h
      exact word_at hW (good_of_word (ws_good h1)) (hts w h1)
    intro H locs ls h1 h2 h3
    have hfl : (σ1.1 - n0) + 0 ≤ R.cells ∧ (SS σ1.1 - SS n0) + 0 ≤ R.slots := ⟨by omega, by omega⟩
    refine s_same (w := .int (Int32.ofNat STX.length)) (r := r) (σ := σ1) ?_ h1 h2 h3 kk
    exact va_runV (C := RJ0) (As := []) (b := sa) (ret := some .int) ⟨hx, hb, hml, hown, hts⟩ hLen ⟨⟨rfl, rfl, by show 6 + 1 ≤ _; omega, by show 8 + (1 + 11) + 300 ≤ _; omega, hpay, List.mem_cons_self, hts _ sl_2, hts _ st_i, ⟨by decide +kernel, by decide +kernel⟩, fun sig h => by
        have e0 : (parseMethodDescriptor "()I").map (fun d => d.parameters.length) = some 0 := by decide +kernel
        rw [show parseMethodDescriptor "()I" = some sig from h] at e0; exact (Option.some.inj e0).symm, hts _ hl⟩, hts _ sl_1, hts _ sl_3⟩
      ⟨fun a U g mk h => ⟨h.1, XS.same (u := U) (U := U.calling g mk a) rfl h.2⟩, vk_recv hX.2.2.1 (i := 0) (by decide) h2, fun U hU hW => ⟨rfl, by rw [hU]; exact (hX.moved hW).kept h2.2.1⟩⟩ rfl rfl h3.2.1 rfl (by rw [ctg_map]; show 2 * 0 + _ ≤ 8; omega) hd hfl
  · have hins : ins = .invokevirtual k := by rcases hki with ⟨h, -⟩ | ⟨h, -⟩ | ⟨-, h⟩ <;> first | exact h | (exact absurd h (by decide))
    subst hins
    obtain ⟨⟨hx, hb, hml, hown, hts, hnw⟩, hK, hX, hbs, hin, hfr0, hlo0⟩ := C0
    obtain ⟨-, hl⟩ := lla (mcl M) _ (cal_mem (v := 2) hcal)
    have hpay : ∀ w ∈ (Jvm.Cond.code yJ0_charAt_5068e cJ0_charAt_5068e 2 (some .char) :: WS), ∀ (a' : Array Value) (U : State), s.WarmedH U.vm → w.before a' U = true := by
      intro w hw a' U hW
      have h1 : w ∈ WS := by
        rcases List.mem_cons.mp hw with h | h
        · rw [h]; exact sc_2
        · exact h
      exact word_at hW (good_of_word (ws_good h1)) (hts w h1)
    intro H locs ls h1 h2 h3
    have hfl : (σ1.1 - n0) + 0 ≤ R.cells ∧ (SS σ1.1 - SS n0) + 0 ≤ R.slots := ⟨by omega, by omega⟩
    refine s_same (w := .int (sch (ixn i))) (r := r) (σ := σ1) ?_ h1 h2 h3 kk
    exact va_runV (C := RJ0) (As := [.int i]) (b := sa) (ret := some .char) ⟨hx, hb, hml, hown, hts⟩ (hChr i hi) ⟨⟨rfl, rfl, by show 6 + 1 ≤ _; omega, by show 8 + (2 + 11) + 300 ≤ _; omega, hpay, List.mem_cons_self, hts _ sc_2, hts _ st_i, ⟨by decide +kernel, by decide +kernel⟩, fun sig h => by
        have e0 : (parseMethodDescriptor "(I)C").map (fun d => d.parameters.length) = some 1 := by decide +kernel
        rw [show parseMethodDescriptor "(I)C" = some sig from h] at e0; exact (Option.some.inj e0).symm, hts _ hl⟩, hts _ sc_1, hts _ sc_3⟩
      ⟨fun a U g mk h => ⟨h.1, XS.same (u := U) (U := U.calling g mk a) rfl h.2⟩, vk_recv hX.2.2.1 (i := 0) (by decide) h2, fun U hU hW => ⟨rfl, by rw [hU]; exact (hX.moved hW).kept h2.2.1⟩⟩ rfl rfl h3.2.1 rfl (by rw [ctg_map]; show 2 * 0 + _ ≤ 8; omega) hd hfl
theorem sz_ok1 : ∀ n, n < NNN → (shp n).1 = 1 → (shp n).2 ≤ 4000 := by decide +kernel
theorem sz_ok2 : ∀ n, n < NNN → (shp n).1 = 2 → (shp n).2 ≤ 4000 := by decide +kernel
theorem sz_ok3 : ∀ n, n < NNN → (shp n).1 = 3 → (shp n).2 ≤ 4000 := by decide +kernel
set_option maxHeartbeats 4000000 in
theorem s_exe (C0 : CX p R s m args meth c D ki kc kl bs b sa sv L xs M) (hLen : LenMet l bs b sa sv L xs) (hChr : ChrMet l bs b sa sv L xs) (hn0 : n0 ≤ σ.1) (hc1 : σ1.1 - n0 ≤ R.cells) (hs1 : SS σ1.1 - SS n0 ≤ R.slots) {ins : Instr} {len : Nat}
    (hd : decode (mcd M) pc = .ok (ins, len)) (hl : len = iln ins len) (hh : exe L xs M pc len ins los st σ = some (.inl (pc1, los1, st1, σ1)))
    (k : GG p l e R s m args below meth c Q D ki kc kl bs b sa M n0 pc1 los1 st1 σ1) : GG p l e R s m args below meth c Q D ki kc kl bs b sa M n0 pc los st σ := by
  have hg : σ.1 ≤ σ1.1 := g_exe hh
  have hSg := SS_le hg
  obtain ⟨⟨hx, hb, hml, hown, hts, hnw⟩, hK, hX, hbs, hin, hfr0, hlo0⟩ := id C0
  unfold exe at hh
  split at hh
  · have hl : len = 1 := hl; subst hl; exact nx_r hh (fun w => lv_iconst hx hb hd rfl w) k
  · have hl : len = 2 := hl; subst hl; exact nx_r hh (fun w => lv_bipush hx hb hd rfl w) k
  · have hl : len = 3 := hl; subst hl; exact nx_r hh (fun w => lv_sipush hx hb hd rfl w) k
  · have hl : len = 1 := hl; subst hl; exact nx_r hh (fun w => lv_lconst hx hb hd rfl w) k
  · have hl : len = 2 := hl; subst hl
    split at hh
    · rename_i v hv
      have := vva (mcl M) _ (lk_mem hv)
      exact nx_r hh (fun w => lv_ldc hx hb hown (hts _ this) hd w) k
    · rename_i hv
      obtain ⟨h7, h27⟩ := vva (mcl M) _ (lk_mem hv)
      simp only at h27
      subst h27
      exact nx_r hh (fun w => va_ldcS hx hb hown (by rw [h7]; exact hX.2.2.2.1) hd w) k
    · simp at hh
  · have hl : len = 3 := hl; subst hl
    split at hh
    · rename_i v hv
      have := vva (mcl M) _ (lk_mem hv)
      exact nx_r hh (fun w => lv_ldcw hx hb hown (hts _ this) hd w) k
    · simp at hh
  · have hl : len = 3 := hl; subst hl
    split at hh
    · rename_i v hv
      have := vva (mcl M) _ (lk_mem hv)
      exact nx_r hh (fun w => lv_ldc2 hx hb hown (hts _ this) hd w) k
    · simp at hh
  · have hl : len = 2 := hl; subst hl; exact s_ldi hh (fun h w => lv_iload hx hb hd h w) k
  · have hl : len = 1 := hl; subst hl; exact s_ldi hh (fun h w => lv_iload_n hx hb hd rfl h w) k
  · have hl : len = 2 := hl; subst hl; exact s_ldl hh (fun h w => lv_lload hx hb hd h w) k
  · have hl : len = 1 := hl; subst hl; exact s_ldl hh (fun h w => lv_lload_n hx hb hd rfl h w) k
  · have hl : len = 2 := hl; subst hl; exact s_lda hh (fun h w => lv_aload hx hb hd h w) k
  · have hl : len = 1 := hl; subst hl; exact s_lda hh (fun h w => lv_aload_n hx hb hd rfl h w) k
  · have hl : len = 2 := hl; subst hl; exact s_sti hh (fun h hi w => lv_istore hx hb hd h hi rfl w) k
  · have hl : len = 1 := hl; subst hl; exact s_sti hh (fun h hi w => lv_istore_n hx hb hd rfl h hi rfl w) k
  · have hl : len = 2 := hl; subst hl; exact s_stl hh (fun h hi w => lv_lstore hx hb hd h hi rfl w) k
  · have hl : len = 1 := hl; subst hl; exact s_stl hh (fun h hi w => lv_lstore_n hx hb hd rfl h hi rfl w) k
  · have hl : len = 2 := hl; subst hl; exact s_sta hh (fun h hi w => lv_astore hx hb hd h hi rfl w) k
  · have hl : len = 1 := hl; subst hl; exact s_sta hh (fun h hi w => lv_astore_n hx hb hd rfl h hi rfl w) k
  · have hl : len = 3 := hl; subst hl
    split at hh
    · rename_i x hx1
      obtain ⟨rfl, rfl, rfl, rfl⟩ := nx_inj hh
      intro H locs ls h1 h2 h3
      have hi := (List.getElem?_eq_some_iff.mp hx1).1
      obtain ⟨j, hj⟩ := List.getElem?_of_mem (mem_lvo (bs := bs) (b := b) (sa := sa).mpr ⟨.int x, hx1, (fun h => by cases h), rfl⟩)
      exact lv_iinc hx hb hd h3.2 hj rfl (by rw [← h3.1]; exact hi) rfl (fun ls' h' => k H locs ls' h1 h2 (LR.set1 h3.1 (by rw [← h3.1]; exact hi) rfl h'))
    · simp at hh
  · have hl : len = 1 := hl; subst hl; exact s_bi hh (fun w => lv_iadd hx hb hd w) k
  · have hl : len = 1 := hl; subst hl; exact s_bi hh (fun w => lv_isub hx hb hd w) k
  · have hl : len = 1 := hl; subst hl; exact s_bi hh (fun w => lv_imul hx hb hd w) k
  · have hl : len = 1 := hl; subst hl; exact s_bi hh (fun w => lv_iand hx hb hd w) k
  · have hl : len = 1 := hl; subst hl; exact s_bi hh (fun w => lv_ior hx hb hd w) k
  · have hl : len = 1 := hl; subst hl; exact s_bi hh (fun w => lv_ixor hx hb hd w) k
  · have hl : len = 1 := hl; subst hl; exact s_bi hh (fun w => lv_ishl hx hb hd w) k
  · have hl : len = 1 := hl; subst hl; exact s_bi hh (fun w => lv_ishr hx hb hd w) k
  · have hl : len = 1 := hl; subst hl; exact s_bi hh (fun w => lv_iushr hx hb hd rfl w) k
  · have hl : len = 1 := hl; subst hl; exact s_bid hh (fun h w => lv_idiv hx hb hd h w) k
  · have hl : len = 1 := hl; subst hl; exact s_bid hh (fun h w => lv_irem hx hb hd h w) k
  · have hl : len = 1 := hl; subst hl
    split at hh
    · obtain ⟨rfl, rfl, rfl, rfl⟩ := nx_inj hh; exact fun H locs ls h1 h2 h3 => lv_ineg hx hb hd (k H locs ls h1 h2 h3)
    · simp at hh
  · have hl : len = 1 := hl; subst hl; exact s_bl hh (fun w => lv_ladd hx hb hd w) k
  · have hl : len = 1 := hl; subst hl; exact s_bl hh (fun w => lv_lsub hx hb hd w) k
  · have hl : len = 1 := hl; subst hl; exact s_bl hh (fun w => lv_lmul hx hb hd w) k
  · have hl : len = 1 := hl; subst hl; exact s_bl hh (fun w => lv_land hx hb hd w) k
  · have hl : len = 1 := hl; subst hl; exact s_bld hh (fun h w => lv_ldiv hx hb hd h w) k
  · have hl : len = 1 := hl; subst hl; exact s_bld hh (fun h w => lv_lrem hx hb hd h w) k
  · have hl : len = 1 := hl; subst hl
    split at hh
    · obtain ⟨rfl, rfl, rfl, rfl⟩ := nx_inj hh; exact fun H locs ls h1 h2 h3 => lv_i2l hx hb hd rfl (k H locs ls h1 h2 h3)
    · simp at hh
  · have hl : len = 1 := hl; subst hl
    split at hh
    · obtain ⟨rfl, rfl, rfl, rfl⟩ := nx_inj hh; exact fun H locs ls h1 h2 h3 => lv_l2i hx hb hd rfl (k H locs ls h1 h2 h3)
    · simp at hh
  · have hl : len = 1 := hl; subst hl
    split at hh
    · obtain ⟨rfl, rfl, rfl, rfl⟩ := nx_inj hh
      exact fun H locs ls h1 h2 h3 => W.lcmp hx hb hd (k H locs ls h1 h2 h3)
    · simp at hh
  · have hl : len = 1 := hl; subst hl
    split at hh
    · split at hh
      · rename_i hv
        obtain ⟨rfl, rfl, rfl, rfl⟩ := nx_inj hh
        exact fun H locs ls h1 h2 h3 => lv_dup hx hb hd (by rw [cva_cat]; exact hv) (k H locs ls h1 h2 h3)
      · simp at hh
    · simp at hh
  · have hl : len = 1 := hl; subst hl
    split at hh
    · split at hh
      · rename_i hv
        obtain ⟨rfl, rfl, rfl, rfl⟩ := nx_inj hh
        exact fun H locs ls h1 h2 h3 => lv_dup2_11 hx hb hd (by rw [cva_cat]; exact hv.1) (by rw [cva_cat]; exact hv.2) (k H locs ls h1 h2 h3)
      · simp at hh
    · simp at hh
  · have hl : len = 1 := hl; subst hl
    split at hh
    · split at hh
      · rename_i hv
        obtain ⟨rfl, rfl, rfl, rfl⟩ := nx_inj hh
        exact fun H locs ls h1 h2 h3 => lv_pop hx hb hd (by rw [cva_cat]; exact hv) (k H locs ls h1 h2 h3)
      · simp at hh
    · simp at hh
  · have hl : len = 3 := hl; subst hl; exact s_brz hx hb hd hh k
  · have hl : len = 3 := hl; subst hl; exact s_brc hx hb hd hh k
  · have hl : len = 3 := hl; subst hl; exact s_gt hh (fun ht w => lv_goto hx hb hd ht w) k
  · split at hh
    · split at hh
      · rename_i hv
        obtain ⟨ht, rfl, rfl, rfl⟩ := gt_inj hh
        exact fun H locs ls h1 h2 h3 => lv_tableOut hx hb hd hv ht (k H locs ls h1 h2 h3)
      · rename_i hv
        split at hh
        · rename_i o ho
          obtain ⟨ht, rfl, rfl, rfl⟩ := gt_inj hh
          exact fun H locs ls h1 h2 h3 => lv_tableIn hx hb hd (fun q => hv (Or.inl q)) (fun q => hv (Or.inr q)) ho ht (k H locs ls h1 h2 h3)
        · simp at hh
    · simp at hh
  · split at hh
    · split at hh
      · rename_i hv
        obtain ⟨ht, rfl, rfl, rfl⟩ := gt_inj hh
        exact fun H locs ls h1 h2 h3 => lv_lookup hx hb hd hv rfl ht (k H locs ls h1 h2 h3)
      · simp at hh
    · simp at hh
  · have hl : len = 3 := hl; subst hl; exact s_gtf hx hb hown hts hK (by decide) shp_lo hd hh k
  · have hl : len = 3 := hl; subst hl; exact s_ptf hx hb hown hts hK hin shp_lo hd hh k
  · have hl : len = 1 := hl; subst hl; split at hh
    · exact s_arl hx hb hX hd hh k
    · exact s_ard1 hx hb hK hd hh k
  · have hl : len = 1 := hl; subst hl; exact s_ard2 hx hb hK hd hh k
  · have hl : len = 1 := hl; subst hl; exact s_ard3 hx hb hK hd hh k
  · have hl : len = 1 := hl; subst hl; exact s_awr1 hx hb hK hd hh k
  · have hl : len = 1 := hl; subst hl; exact s_awr2 hx hb hK hd hh k
  · have hl : len = 1 := hl; subst hl; exact s_awr3 hx hb hK hd hh k
  · have hl : len = 1 := hl; subst hl; split at hh
    · exact s_alc hx hb hX hd hh k
    · exact s_aln hx hb hK hd hh k
  · have hl : len = 2 := hl; subst hl
    exact s_nwa hx hb (at_ := .int) (kA := ki) (hts _ ac_int) hK.2.1 rfl (by decide) (fun n I Lm Rm H h1 h2 => At1.of1 h1 (by rw [h2]; congr 2; funext j; simp [zr2]; rfl)) (by decide) (by decide) sz_ok1 hn0 hc1 hs1 hd hh k
  · have hl : len = 2 := hl; subst hl
    exact s_nwa hx hb (at_ := .char) (kA := kc) (hts _ ac_char) hK.2.2.1 rfl (by decide) (fun n I Lm Rm H h1 h2 => At1.of2 h1 (by rw [h2]; congr 2; funext j; simp [zr2]; rfl)) (by decide) (by decide) sz_ok2 hn0 hc1 hs1 hd hh k
  · have hl : len = 2 := hl; subst hl
    exact s_nwa hx hb (at_ := .long) (kA := kl) (hts _ ac_long) hK.2.2.2 rfl (by decide) (fun n I Lm Rm H h1 h2 => At1.of3 h1 (by rw [h2]; congr 2; funext j; simp [zr2]; rfl)) (by decide) (by decide) sz_ok3 hn0 hc1 hs1 hd hh k
  · have hl : len = 3 := hl; subst hl; exact s_nwo hx hb hown hts hK hn0 hc1 hs1 hd hh k
  · have hl : len = 3 := hl; subst hl; exact s_inv C0 hLen hChr (Or.inl ⟨rfl, rfl⟩) hd (by omega) (by omega) hh k
  · have hl : len = 3 := hl; subst hl; exact s_inv C0 hLen hChr (Or.inr (Or.inl ⟨rfl, rfl⟩)) hd (by omega) (by omega) hh k
  · have hl : len = 3 := hl; subst hl; exact s_inv C0 hLen hChr (Or.inr (Or.inr ⟨rfl, rfl⟩)) hd (by omega) (by omega) hh k
  all_goals first
    | (simp at hh; done)
    | (split at hh
       · split at hh <;> simp at hh
       · simp at hh)
end
