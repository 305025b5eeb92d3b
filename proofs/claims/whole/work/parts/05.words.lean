/-! what the tables of the Statement say of each site, by their places, by program -/
def WS : List Jvm.Cond := lw_tbl.filter goodWord
theorem ws_in {w : Jvm.Cond} (h : w ∈ WS) : w ∈ lw_tbl := (List.mem_filter.mp h).1
theorem ws_good {w : Jvm.Cond} (h : w ∈ WS) : goodWord w = true := (List.mem_filter.mp h).2
theorem ws_0 {w : Jvm.Cond} (i : Nat) (h : (k2_sels lw_privs)[i]? = some w) (hg : goodWord w = true) : w ∈ WS := List.mem_filter.mpr ⟨List.mem_append_left _ (List.mem_of_getElem? h), hg⟩
theorem tb_1 {w : Jvm.Cond} (i : Nat) (h : tables_1_1[i]? = some w) : w ∈ lw_tbl := List.mem_append_right _ (List.mem_append_left _ (List.mem_of_getElem? h))
theorem ws_1 {w : Jvm.Cond} (i : Nat) (h : tables_1_1[i]? = some w) (hg : goodWord w = true) : w ∈ WS := List.mem_filter.mpr ⟨tb_1 i h, hg⟩
theorem tb_2 {w : Jvm.Cond} (i : Nat) (h : tables_1_2[i]? = some w) : w ∈ lw_tbl := List.mem_append_right _ (List.mem_append_right _ (List.mem_append_left _ (List.mem_of_getElem? h)))
theorem ws_2 {w : Jvm.Cond} (i : Nat) (h : tables_1_2[i]? = some w) (hg : goodWord w = true) : w ∈ WS := List.mem_filter.mpr ⟨tb_2 i h, hg⟩
theorem tb_3 {w : Jvm.Cond} (i : Nat) (h : tables_1_3[i]? = some w) : w ∈ lw_tbl := List.mem_append_right _ (List.mem_append_right _ (List.mem_append_right _ (List.mem_append_left _ (List.mem_of_getElem? h))))
theorem ws_3 {w : Jvm.Cond} (i : Nat) (h : tables_1_3[i]? = some w) (hg : goodWord w = true) : w ∈ WS := List.mem_filter.mpr ⟨tb_3 i h, hg⟩
theorem tb_4 {w : Jvm.Cond} (i : Nat) (h : tables_1_4[i]? = some w) : w ∈ lw_tbl := List.mem_append_right _ (List.mem_append_right _ (List.mem_append_right _ (List.mem_append_right _ (List.mem_append_left _ (List.mem_of_getElem? h)))))
theorem ws_4 {w : Jvm.Cond} (i : Nat) (h : tables_1_4[i]? = some w) (hg : goodWord w = true) : w ∈ WS := List.mem_filter.mpr ⟨tb_4 i h, hg⟩
theorem tb_5 {w : Jvm.Cond} (i : Nat) (h : tables_1_5[i]? = some w) : w ∈ lw_tbl := List.mem_append_right _ (List.mem_append_right _ (List.mem_append_right _ (List.mem_append_right _ (List.mem_append_right _ (List.mem_append_left _ (List.mem_of_getElem? h))))))
theorem ws_5 {w : Jvm.Cond} (i : Nat) (h : tables_1_5[i]? = some w) (hg : goodWord w = true) : w ∈ WS := List.mem_filter.mpr ⟨tb_5 i h, hg⟩
theorem tb_6 {w : Jvm.Cond} (i : Nat) (h : tables_1_6[i]? = some w) : w ∈ lw_tbl := List.mem_append_right _ (List.mem_append_right _ (List.mem_append_right _ (List.mem_append_right _ (List.mem_append_right _ (List.mem_append_right _ (List.mem_append_left _ (List.mem_of_getElem? h)))))))
theorem ws_6 {w : Jvm.Cond} (i : Nat) (h : tables_1_6[i]? = some w) (hg : goodWord w = true) : w ∈ WS := List.mem_filter.mpr ⟨tb_6 i h, hg⟩
theorem tb_7 {w : Jvm.Cond} (i : Nat) (h : tables_1_7[i]? = some w) : w ∈ lw_tbl := List.mem_append_right _ (List.mem_append_right _ (List.mem_append_right _ (List.mem_append_right _ (List.mem_append_right _ (List.mem_append_right _ (List.mem_append_right _ (List.mem_append_left _ (List.mem_of_getElem? h))))))))
theorem ws_7 {w : Jvm.Cond} (i : Nat) (h : tables_1_7[i]? = some w) (hg : goodWord w = true) : w ∈ WS := List.mem_filter.mpr ⟨tb_7 i h, hg⟩
theorem tb_8 {w : Jvm.Cond} (i : Nat) (h : tables_1_8[i]? = some w) : w ∈ lw_tbl := List.mem_append_right _ (List.mem_append_right _ (List.mem_append_right _ (List.mem_append_right _ (List.mem_append_right _ (List.mem_append_right _ (List.mem_append_right _ (List.mem_append_right _ (List.mem_append_left _ (List.mem_of_getElem? h)))))))))
theorem ws_8 {w : Jvm.Cond} (i : Nat) (h : tables_1_8[i]? = some w) (hg : goodWord w = true) : w ∈ WS := List.mem_filter.mpr ⟨tb_8 i h, hg⟩
theorem tb_9 {w : Jvm.Cond} (i : Nat) (h : tables_1_9[i]? = some w) : w ∈ lw_tbl := List.mem_append_right _ (List.mem_append_right _ (List.mem_append_right _ (List.mem_append_right _ (List.mem_append_right _ (List.mem_append_right _ (List.mem_append_right _ (List.mem_append_right _ (List.mem_append_right _ (List.mem_of_getElem? h)))))))))
theorem ws_9 {w : Jvm.Cond} (i : Nat) (h : tables_1_9[i]? = some w) (hg : goodWord w = true) : w ∈ WS := List.mem_filter.mpr ⟨tb_9 i h, hg⟩
theorem lk_mem {α : Type} {k : Nat} {v : α} : ∀ {l : List (Nat × α)}, l.lookup k = some v → (k, v) ∈ l := by
  intro l
  induction l with
  | nil => intro h; simp at h
  | cons a t ih =>
    intro h
    obtain ⟨a1, a2⟩ := a
    rw [List.lookup_cons] at h
    by_cases hk : (k == a1) = true
    · rw [hk] at h
      have e1 : k = a1 := by simpa using hk
      have e2 : a2 = v := by simpa using h
      subst e1; subst e2
      exact List.mem_cons_self
    · have hk2 : (k == a1) = false := by simpa using hk
      rw [hk2] at h
      exact List.mem_cons_of_mem _ (ih h)
def rtt (r : Nat) : Option FieldType := match r with | 0 => none | 1 => some .int | 2 => some .boolean | _ => some .long
def NW : List Jvm.Cond := lw_tbl.filter (fun w => match w with | .methodLinkNest .. => true | _ => false)
theorem nw_of {a : String} {k : Nat} {y : MethodName} {h0 : String} (h : Jvm.Cond.methodLinkNest a k y h0 ∈ lw_tbl) : Jvm.Cond.methodLinkNest a k y h0 ∈ NW := List.mem_filter.mpr ⟨h, rfl⟩
def isrt (t : Option FieldType) : Bool := match t with | some (.object _) => true | some (.array _) => true | _ => false
def Fp (own : Nat) (e : Nat × (Nat × Nat)) : Prop := ∃ q : vw_C, vwCl[e.2.1]? = some q ∧ e.2.2 < q.2.2 ∧ Jvm.Cond.fieldLink (cnm own) e.1 (q.2.1 e.2.2).1 (q.2.1 e.2.2).2.1 (q.2.1 e.2.2).2.2.1 ∈ WS
/-- a class's slot k: its kind, whether it is final, its word -/
def Kp (ci k : Nat) (q : vw_C) : Prop := (match knd ci k with | 0 => parseFieldDescriptor (q.2.1 k).2.2.1 = some .int | 1 => parseFieldDescriptor (q.2.1 k).2.2.1 = some .boolean | 2 => parseFieldDescriptor (q.2.1 k).2.2.1 = some .long | 3 => isrt (parseFieldDescriptor (q.2.1 k).2.2.1) = true | _ => False) ∧ (q.2.1 k).2.2.2 = fnl ci k ∧ (q.2.1 k).1 = cnm ci ∧ u_lay q.1 q.2.1 k ∈ WS
def Cp (ci : Nat) : Prop := ∃ q : vw_C, vwCl[ci]? = some q ∧ q.1 = cnm ci ∧ q.2.2 = nfl ci ∧ (∀ k, k < q.2.2 → Kp ci k q) ∧ Jvm.Cond.instantiable q.1 q.2.2 ∈ WS ∧ Jvm.Cond.initialized q.1 ∈ WS ∧ (∀ a, a < q.2.2 → ∀ b, b < q.2.2 → a ≠ b → (q.2.1 a).2.1 ≠ (q.2.1 b).2.1)
def Mp (K : Nat) : Prop := (myn K).cls = cnm (mcl K) ∧ Jvm.Cond.code (myn K) (mcd K) (mmx K) (rtt (mrt K)) ∈ WS ∧ Jvm.Cond.initialized (cnm (mcl K)) ∈ WS ∧ plainFor (myn K) = true ∧ (cnm (mcl K) ≠ "java/lang/invoke/MethodHandle" ∧ cnm (mcl K) ≠ "java/lang/invoke/VarHandle") ∧ (parseMethodDescriptor (myn K).desc).map (fun d => d.parameters.length) = some (mnp K) ∧ (min_ K = true → (myn K).name = "<init>" ∧ mrt K = 0) ∧ mrt K < 4 ∧ mmx K ≤ 20 ∧ (mst K = true → Jvm.Cond.static (myn K) ∈ WS) ∧ (mst K = false → Jvm.Cond.instanceMethod (myn K) ∈ WS ∧ mcl K < 12 ∧ (min_ K = false → Jvm.Cond.selects (cnm (mcl K)) (myn K) (myn K) ∈ WS))
def Lp (own : Nat) (e : Nat × Nat) : Prop := match e.2 with
  | 1 => Jvm.Cond.methodLink (cnm own) e.1 Lib.objectInit ∈ WS
  | 2 => own = 7 ∧ Jvm.Cond.methodLink (cnm own) e.1 yJ0_length_8abf5 ∈ WS
  | 3 => own = 7 ∧ Jvm.Cond.methodLink (cnm own) e.1 yJ0_charAt_5068e ∈ WS
  | K + 10 => (K < 302 ∧ K ≠ 301) ∧ (Jvm.Cond.methodLink (cnm own) e.1 (myn K) ∈ WS ∨ Jvm.Cond.methodLinkNest (cnm own) e.1 (myn K) "WageHats" ∈ NW)
  | _ => False
def Np (own : Nat) (e : Nat × Nat) : Prop := e.2 < 12 ∧ Jvm.Cond.classLink (cnm own) e.1 (cnm e.2) ∈ WS
def Vp (own : Nat) (e : Nat × Value) : Prop := match e.2 with
  | .int v => Jvm.Cond.constant (cnm own) e.1 v ∈ WS
  | .long v => Jvm.Cond.constantLong (cnm own) e.1 v ∈ WS
  | .ref 1001 => own = 7 ∧ e.1 = 27
  | _ => False
set_option maxRecDepth 100000 in
theorem ff_0_9 : Fp 0 (9, (0, 0)) := ⟨(RX0, TX0, 16), rfl, by decide, (ws_1 133 rfl rfl)⟩
set_option maxRecDepth 100000 in
theorem ff_0_15 : Fp 0 (15, (5, 5)) := ⟨(RX5, TX5, 7), rfl, by decide, (ws_2 77 rfl rfl)⟩
set_option maxRecDepth 100000 in
theorem ff_0_21 : Fp 0 (21, (5, 1)) := ⟨(RX5, TX5, 7), rfl, by decide, (ws_2 69 rfl rfl)⟩
set_option maxRecDepth 100000 in
theorem ff_0_25 : Fp 0 (25, (2, 1)) := ⟨(RX2, TX2, 10), rfl, by decide, (ws_2 2 rfl rfl)⟩
set_option maxRecDepth 100000 in
theorem ff_0_38 : Fp 0 (38, (0, 1)) := ⟨(RX0, TX0, 16), rfl, by decide, (ws_1 135 rfl rfl)⟩
set_option maxRecDepth 100000 in
theorem ff_0_42 : Fp 0 (42, (0, 3)) := ⟨(RX0, TX0, 16), rfl, by decide, (ws_1 137 rfl rfl)⟩
set_option maxRecDepth 100000 in
theorem ff_0_46 : Fp 0 (46, (0, 4)) := ⟨(RX0, TX0, 16), rfl, by decide, (ws_1 138 rfl rfl)⟩
set_option maxRecDepth 100000 in
theorem ff_0_49 : Fp 0 (49, (0, 15)) := ⟨(RX0, TX0, 16), rfl, by decide, (ws_1 149 rfl rfl)⟩
set_option maxRecDepth 100000 in
theorem ff_0_52 : Fp 0 (52, (0, 5)) := ⟨(RX0, TX0, 16), rfl, by decide, (ws_1 139 rfl rfl)⟩
set_option maxRecDepth 100000 in
theorem ff_0_55 : Fp 0 (55, (0, 6)) := ⟨(RX0, TX0, 16), rfl, by decide, (ws_1 140 rfl rfl)⟩
set_option maxRecDepth 100000 in
theorem ff_0_58 : Fp 0 (58, (0, 2)) := ⟨(RX0, TX0, 16), rfl, by decide, (ws_1 136 rfl rfl)⟩
set_option maxRecDepth 100000 in
theorem ff_0_61 : Fp 0 (61, (5, 0)) := ⟨(RX5, TX5, 7), rfl, by decide, (ws_2 65 rfl rfl)⟩
set_option maxRecDepth 100000 in
theorem ff_0_69 : Fp 0 (69, (2, 8)) := ⟨(RX2, TX2, 10), rfl, by decide, (ws_2 34 rfl rfl)⟩
set_option maxRecDepth 100000 in
theorem ff_0_72 : Fp 0 (72, (2, 2)) := ⟨(RX2, TX2, 10), rfl, by decide, (ws_2 8 rfl rfl)⟩
set_option maxRecDepth 100000 in
theorem ff_0_79 : Fp 0 (79, (0, 7)) := ⟨(RX0, TX0, 16), rfl, by decide, (ws_1 141 rfl rfl)⟩
set_option maxRecDepth 100000 in
theorem ff_0_93 : Fp 0 (93, (2, 3)) := ⟨(RX2, TX2, 10), rfl, by decide, (ws_2 14 rfl rfl)⟩
set_option maxRecDepth 100000 in
theorem ff_0_101 : Fp 0 (101, (2, 5)) := ⟨(RX2, TX2, 10), rfl, by decide, (ws_2 21 rfl rfl)⟩
set_option maxRecDepth 100000 in
theorem ff_0_104 : Fp 0 (104, (6, 1)) := ⟨(RX6, TX6, 7), rfl, by decide, (ws_1 193 rfl rfl)⟩
set_option maxRecDepth 100000 in
theorem ff_0_109 : Fp 0 (109, (0, 11)) := ⟨(RX0, TX0, 16), rfl, by decide, (ws_1 145 rfl rfl)⟩
set_option maxRecDepth 100000 in
theorem ff_0_111 : Fp 0 (111, (6, 2)) := ⟨(RX6, TX6, 7), rfl, by decide, (ws_1 198 rfl rfl)⟩
set_option maxRecDepth 100000 in
theorem ff_0_114 : Fp 0 (114, (0, 12)) := ⟨(RX0, TX0, 16), rfl, by decide, (ws_1 146 rfl rfl)⟩
set_option maxRecDepth 100000 in
theorem ff_0_116 : Fp 0 (116, (6, 3)) := ⟨(RX6, TX6, 7), rfl, by decide, (ws_1 201 rfl rfl)⟩
set_option maxRecDepth 100000 in
theorem ff_0_119 : Fp 0 (119, (0, 13)) := ⟨(RX0, TX0, 16), rfl, by decide, (ws_1 147 rfl rfl)⟩
set_option maxRecDepth 100000 in
theorem ff_0_121 : Fp 0 (121, (6, 4)) := ⟨(RX6, TX6, 7), rfl, by decide, (ws_1 204 rfl rfl)⟩
set_option maxRecDepth 100000 in
theorem ff_0_124 : Fp 0 (124, (0, 14)) := ⟨(RX0, TX0, 16), rfl, by decide, (ws_1 148 rfl rfl)⟩
set_option maxRecDepth 100000 in
theorem ff_0_126 : Fp 0 (126, (6, 5)) := ⟨(RX6, TX6, 7), rfl, by decide, (ws_1 207 rfl rfl)⟩
set_option maxRecDepth 100000 in
theorem ff_0_128 : Fp 0 (128, (1, 1)) := ⟨(RX1, TX1, 6), rfl, by decide, (ws_1 88 rfl rfl)⟩
set_option maxRecDepth 100000 in
theorem ff_0_132 : Fp 0 (132, (1, 2)) := ⟨(RX1, TX1, 6), rfl, by decide, (ws_1 94 rfl rfl)⟩
set_option maxRecDepth 100000 in
theorem ff_0_135 : Fp 0 (135, (0, 8)) := ⟨(RX0, TX0, 16), rfl, by decide, (ws_1 142 rfl rfl)⟩
set_option maxRecDepth 100000 in
theorem ff_0_137 : Fp 0 (137, (1, 3)) := ⟨(RX1, TX1, 6), rfl, by decide, (ws_1 100 rfl rfl)⟩
set_option maxRecDepth 100000 in
theorem ff_0_140 : Fp 0 (140, (0, 9)) := ⟨(RX0, TX0, 16), rfl, by decide, (ws_1 143 rfl rfl)⟩
set_option maxRecDepth 100000 in
theorem ff_0_142 : Fp 0 (142, (1, 4)) := ⟨(RX1, TX1, 6), rfl, by decide, (ws_1 105 rfl rfl)⟩
set_option maxRecDepth 100000 in
theorem ff_0_145 : Fp 0 (145, (0, 10)) := ⟨(RX0, TX0, 16), rfl, by decide, (ws_1 144 rfl rfl)⟩
set_option maxRecDepth 100000 in
theorem ff_1_9 : Fp 1 (9, (1, 0)) := ⟨(RX1, TX1, 6), rfl, by decide, (ws_1 84 rfl rfl)⟩
set_option maxRecDepth 100000 in
theorem ff_1_15 : Fp 1 (15, (1, 1)) := ⟨(RX1, TX1, 6), rfl, by decide, (ws_1 87 rfl rfl)⟩
set_option maxRecDepth 100000 in
theorem ff_1_18 : Fp 1 (18, (1, 2)) := ⟨(RX1, TX1, 6), rfl, by decide, (ws_1 93 rfl rfl)⟩
set_option maxRecDepth 100000 in
theorem ff_1_21 : Fp 1 (21, (1, 3)) := ⟨(RX1, TX1, 6), rfl, by decide, (ws_1 99 rfl rfl)⟩
set_option maxRecDepth 100000 in
theorem ff_1_24 : Fp 1 (24, (1, 4)) := ⟨(RX1, TX1, 6), rfl, by decide, (ws_1 104 rfl rfl)⟩
set_option maxRecDepth 100000 in
theorem ff_1_27 : Fp 1 (27, (1, 5)) := ⟨(RX1, TX1, 6), rfl, by decide, (ws_1 109 rfl rfl)⟩
set_option maxRecDepth 100000 in
theorem ff_2_9 : Fp 2 (9, (2, 6)) := ⟨(RX2, TX2, 10), rfl, by decide, (ws_2 24 rfl rfl)⟩
set_option maxRecDepth 100000 in
theorem ff_2_15 : Fp 2 (15, (2, 7)) := ⟨(RX2, TX2, 10), rfl, by decide, (ws_2 28 rfl rfl)⟩
set_option maxRecDepth 100000 in
theorem ff_2_24 : Fp 2 (24, (2, 0)) := ⟨(RX2, TX2, 10), rfl, by decide, (ws_1 238 rfl rfl)⟩
set_option maxRecDepth 100000 in
theorem ff_2_27 : Fp 2 (27, (2, 1)) := ⟨(RX2, TX2, 10), rfl, by decide, (ws_2 1 rfl rfl)⟩
set_option maxRecDepth 100000 in
theorem ff_2_30 : Fp 2 (30, (2, 2)) := ⟨(RX2, TX2, 10), rfl, by decide, (ws_2 7 rfl rfl)⟩
set_option maxRecDepth 100000 in
theorem ff_2_33 : Fp 2 (33, (2, 3)) := ⟨(RX2, TX2, 10), rfl, by decide, (ws_2 13 rfl rfl)⟩
set_option maxRecDepth 100000 in
theorem ff_2_36 : Fp 2 (36, (2, 4)) := ⟨(RX2, TX2, 10), rfl, by decide, (ws_2 19 rfl rfl)⟩
set_option maxRecDepth 100000 in
theorem ff_2_39 : Fp 2 (39, (2, 5)) := ⟨(RX2, TX2, 10), rfl, by decide, (ws_2 20 rfl rfl)⟩
set_option maxRecDepth 100000 in
theorem ff_2_42 : Fp 2 (42, (2, 8)) := ⟨(RX2, TX2, 10), rfl, by decide, (ws_2 32 rfl rfl)⟩
set_option maxRecDepth 100000 in
theorem ff_3_12 : Fp 3 (12, (3, 0)) := ⟨(RX3, TX3, 10), rfl, by decide, (ws_3 14 rfl rfl)⟩
set_option maxRecDepth 100000 in
theorem ff_3_18 : Fp 3 (18, (3, 9)) := ⟨(RX3, TX3, 10), rfl, by decide, (ws_3 25 rfl rfl)⟩
set_option maxRecDepth 100000 in
theorem ff_3_26 : Fp 3 (26, (8, 0)) := ⟨(RX8, TX8, 2), rfl, by decide, (ws_2 147 rfl rfl)⟩
set_option maxRecDepth 100000 in
theorem ff_3_32 : Fp 3 (32, (3, 1)) := ⟨(RX3, TX3, 10), rfl, by decide, (ws_3 15 rfl rfl)⟩
set_option maxRecDepth 100000 in
theorem ff_3_33 : Fp 3 (33, (5, 5)) := ⟨(RX5, TX5, 7), rfl, by decide, (ws_2 78 rfl rfl)⟩
set_option maxRecDepth 100000 in
theorem ff_3_39 : Fp 3 (39, (3, 2)) := ⟨(RX3, TX3, 10), rfl, by decide, (ws_3 16 rfl rfl)⟩
set_option maxRecDepth 100000 in
theorem ff_3_40 : Fp 3 (40, (5, 0)) := ⟨(RX5, TX5, 7), rfl, by decide, (ws_2 64 rfl rfl)⟩
set_option maxRecDepth 100000 in
theorem ff_3_44 : Fp 3 (44, (3, 3)) := ⟨(RX3, TX3, 10), rfl, by decide, (ws_3 17 rfl rfl)⟩
set_option maxRecDepth 100000 in
theorem ff_3_45 : Fp 3 (45, (5, 1)) := ⟨(RX5, TX5, 7), rfl, by decide, (ws_2 70 rfl rfl)⟩
set_option maxRecDepth 100000 in
theorem ff_3_49 : Fp 3 (49, (3, 4)) := ⟨(RX3, TX3, 10), rfl, by decide, (ws_3 18 rfl rfl)⟩
set_option maxRecDepth 100000 in
theorem ff_3_50 : Fp 3 (50, (8, 1)) := ⟨(RX8, TX8, 2), rfl, by decide, (ws_2 151 rfl rfl)⟩
set_option maxRecDepth 100000 in
theorem ff_3_54 : Fp 3 (54, (3, 5)) := ⟨(RX3, TX3, 10), rfl, by decide, (ws_3 19 rfl rfl)⟩
set_option maxRecDepth 100000 in
theorem ff_3_65 : Fp 3 (65, (3, 6)) := ⟨(RX3, TX3, 10), rfl, by decide, (ws_3 20 rfl rfl)⟩
set_option maxRecDepth 100000 in
theorem ff_3_68 : Fp 3 (68, (3, 7)) := ⟨(RX3, TX3, 10), rfl, by decide, (ws_3 21 rfl rfl)⟩
set_option maxRecDepth 100000 in
theorem ff_3_71 : Fp 3 (71, (3, 8)) := ⟨(RX3, TX3, 10), rfl, by decide, (ws_3 23 rfl rfl)⟩
set_option maxRecDepth 100000 in
theorem ff_3_78 : Fp 3 (78, (7, 1)) := ⟨(RX7, TX7, 6), rfl, by decide, (ws_2 228 rfl rfl)⟩
set_option maxRecDepth 100000 in
theorem ff_3_86 : Fp 3 (86, (7, 2)) := ⟨(RX7, TX7, 6), rfl, by decide, (ws_2 230 rfl rfl)⟩
set_option maxRecDepth 100000 in
theorem ff_3_93 : Fp 3 (93, (7, 4)) := ⟨(RX7, TX7, 6), rfl, by decide, (ws_2 234 rfl rfl)⟩
set_option maxRecDepth 100000 in
theorem ff_3_96 : Fp 3 (96, (7, 3)) := ⟨(RX7, TX7, 6), rfl, by decide, (ws_2 232 rfl rfl)⟩
set_option maxRecDepth 100000 in
theorem ff_3_118 : Fp 3 (118, (6, 0)) := ⟨(RX6, TX6, 7), rfl, by decide, (ws_1 191 rfl rfl)⟩
set_option maxRecDepth 100000 in
theorem ff_3_123 : Fp 3 (123, (6, 6)) := ⟨(RX6, TX6, 7), rfl, by decide, (ws_1 212 rfl rfl)⟩
set_option maxRecDepth 100000 in
theorem ff_3_130 : Fp 3 (130, (1, 0)) := ⟨(RX1, TX1, 6), rfl, by decide, (ws_1 86 rfl rfl)⟩
set_option maxRecDepth 100000 in
theorem ff_3_133 : Fp 3 (133, (1, 5)) := ⟨(RX1, TX1, 6), rfl, by decide, (ws_1 113 rfl rfl)⟩
set_option maxRecDepth 100000 in
theorem ff_3_134 : Fp 3 (134, (2, 0)) := ⟨(RX2, TX2, 10), rfl, by decide, (ws_2 0 rfl rfl)⟩
set_option maxRecDepth 100000 in
theorem ff_3_137 : Fp 3 (137, (2, 8)) := ⟨(RX2, TX2, 10), rfl, by decide, (ws_2 37 rfl rfl)⟩
set_option maxRecDepth 100000 in
theorem ff_3_138 : Fp 3 (138, (2, 5)) := ⟨(RX2, TX2, 10), rfl, by decide, (ws_2 23 rfl rfl)⟩
set_option maxRecDepth 100000 in
theorem ff_3_147 : Fp 3 (147, (5, 6)) := ⟨(RX5, TX5, 7), rfl, by decide, (ws_2 84 rfl rfl)⟩
set_option maxRecDepth 100000 in
theorem ff_3_168 : Fp 3 (168, (4, 6)) := ⟨(RX4, TX4, 8), rfl, by decide, (ws_2 126 rfl rfl)⟩
set_option maxRecDepth 100000 in
theorem ff_3_176 : Fp 3 (176, (6, 1)) := ⟨(RX6, TX6, 7), rfl, by decide, (ws_1 196 rfl rfl)⟩
set_option maxRecDepth 100000 in
theorem ff_3_183 : Fp 3 (183, (6, 2)) := ⟨(RX6, TX6, 7), rfl, by decide, (ws_1 199 rfl rfl)⟩
set_option maxRecDepth 100000 in
theorem ff_3_186 : Fp 3 (186, (6, 3)) := ⟨(RX6, TX6, 7), rfl, by decide, (ws_1 202 rfl rfl)⟩
set_option maxRecDepth 100000 in
theorem ff_3_189 : Fp 3 (189, (6, 4)) := ⟨(RX6, TX6, 7), rfl, by decide, (ws_1 205 rfl rfl)⟩
set_option maxRecDepth 100000 in
theorem ff_3_192 : Fp 3 (192, (6, 5)) := ⟨(RX6, TX6, 7), rfl, by decide, (ws_1 209 rfl rfl)⟩
set_option maxRecDepth 100000 in
theorem ff_3_194 : Fp 3 (194, (1, 1)) := ⟨(RX1, TX1, 6), rfl, by decide, (ws_1 92 rfl rfl)⟩
set_option maxRecDepth 100000 in
theorem ff_3_197 : Fp 3 (197, (1, 2)) := ⟨(RX1, TX1, 6), rfl, by decide, (ws_1 98 rfl rfl)⟩
set_option maxRecDepth 100000 in
theorem ff_3_200 : Fp 3 (200, (1, 3)) := ⟨(RX1, TX1, 6), rfl, by decide, (ws_1 103 rfl rfl)⟩
set_option maxRecDepth 100000 in
theorem ff_3_203 : Fp 3 (203, (1, 4)) := ⟨(RX1, TX1, 6), rfl, by decide, (ws_1 108 rfl rfl)⟩
set_option maxRecDepth 100000 in
theorem ff_3_206 : Fp 3 (206, (2, 1)) := ⟨(RX2, TX2, 10), rfl, by decide, (ws_2 6 rfl rfl)⟩
set_option maxRecDepth 100000 in
theorem ff_3_212 : Fp 3 (212, (2, 2)) := ⟨(RX2, TX2, 10), rfl, by decide, (ws_2 12 rfl rfl)⟩
set_option maxRecDepth 100000 in
theorem ff_3_215 : Fp 3 (215, (2, 3)) := ⟨(RX2, TX2, 10), rfl, by decide, (ws_2 18 rfl rfl)⟩
set_option maxRecDepth 100000 in
theorem ff_3_222 : Fp 3 (222, (2, 6)) := ⟨(RX2, TX2, 10), rfl, by decide, (ws_2 26 rfl rfl)⟩
set_option maxRecDepth 100000 in
theorem ff_3_225 : Fp 3 (225, (2, 9)) := ⟨(RX2, TX2, 10), rfl, by decide, (ws_2 41 rfl rfl)⟩
set_option maxRecDepth 100000 in
theorem ff_3_228 : Fp 3 (228, (2, 7)) := ⟨(RX2, TX2, 10), rfl, by decide, (ws_2 30 rfl rfl)⟩
set_option maxRecDepth 100000 in
theorem ff_3_231 : Fp 3 (231, (4, 0)) := ⟨(RX4, TX4, 8), rfl, by decide, (ws_2 115 rfl rfl)⟩
set_option maxRecDepth 100000 in
theorem ff_3_232 : Fp 3 (232, (4, 1)) := ⟨(RX4, TX4, 8), rfl, by decide, (ws_2 117 rfl rfl)⟩
set_option maxRecDepth 100000 in
theorem ff_3_235 : Fp 3 (235, (4, 7)) := ⟨(RX4, TX4, 8), rfl, by decide, (ws_2 128 rfl rfl)⟩
set_option maxRecDepth 100000 in
theorem ff_3_241 : Fp 3 (241, (4, 2)) := ⟨(RX4, TX4, 8), rfl, by decide, (ws_2 119 rfl rfl)⟩
set_option maxRecDepth 100000 in
theorem ff_3_247 : Fp 3 (247, (4, 3)) := ⟨(RX4, TX4, 8), rfl, by decide, (ws_2 121 rfl rfl)⟩
set_option maxRecDepth 100000 in
theorem ff_4_9 : Fp 4 (9, (4, 0)) := ⟨(RX4, TX4, 8), rfl, by decide, (ws_2 114 rfl rfl)⟩
set_option maxRecDepth 100000 in
theorem ff_4_15 : Fp 4 (15, (4, 1)) := ⟨(RX4, TX4, 8), rfl, by decide, (ws_2 116 rfl rfl)⟩
set_option maxRecDepth 100000 in
theorem ff_4_18 : Fp 4 (18, (4, 2)) := ⟨(RX4, TX4, 8), rfl, by decide, (ws_2 118 rfl rfl)⟩
set_option maxRecDepth 100000 in
theorem ff_4_21 : Fp 4 (21, (4, 3)) := ⟨(RX4, TX4, 8), rfl, by decide, (ws_2 120 rfl rfl)⟩
set_option maxRecDepth 100000 in
theorem ff_4_24 : Fp 4 (24, (4, 4)) := ⟨(RX4, TX4, 8), rfl, by decide, (ws_2 122 rfl rfl)⟩
set_option maxRecDepth 100000 in
theorem ff_4_27 : Fp 4 (27, (4, 5)) := ⟨(RX4, TX4, 8), rfl, by decide, (ws_2 123 rfl rfl)⟩
set_option maxRecDepth 100000 in
theorem ff_4_30 : Fp 4 (30, (4, 6)) := ⟨(RX4, TX4, 8), rfl, by decide, (ws_2 124 rfl rfl)⟩
set_option maxRecDepth 100000 in
theorem ff_4_34 : Fp 4 (34, (4, 7)) := ⟨(RX4, TX4, 8), rfl, by decide, (ws_2 127 rfl rfl)⟩
set_option maxRecDepth 100000 in
theorem ff_5_12 : Fp 5 (12, (5, 0)) := ⟨(RX5, TX5, 7), rfl, by decide, (ws_2 63 rfl rfl)⟩
set_option maxRecDepth 100000 in
theorem ff_5_21 : Fp 5 (21, (5, 2)) := ⟨(RX5, TX5, 7), rfl, by decide, (ws_2 73 rfl rfl)⟩
set_option maxRecDepth 100000 in
theorem ff_5_28 : Fp 5 (28, (5, 5)) := ⟨(RX5, TX5, 7), rfl, by decide, (ws_2 76 rfl rfl)⟩
set_option maxRecDepth 100000 in
theorem ff_5_32 : Fp 5 (32, (5, 6)) := ⟨(RX5, TX5, 7), rfl, by decide, (ws_2 81 rfl rfl)⟩
set_option maxRecDepth 100000 in
theorem ff_5_42 : Fp 5 (42, (5, 4)) := ⟨(RX5, TX5, 7), rfl, by decide, (ws_2 75 rfl rfl)⟩
set_option maxRecDepth 100000 in
theorem ff_5_50 : Fp 5 (50, (5, 1)) := ⟨(RX5, TX5, 7), rfl, by decide, (ws_2 68 rfl rfl)⟩
set_option maxRecDepth 100000 in
theorem ff_5_54 : Fp 5 (54, (5, 3)) := ⟨(RX5, TX5, 7), rfl, by decide, (ws_2 74 rfl rfl)⟩
set_option maxRecDepth 100000 in
theorem ff_5_58 : Fp 5 (58, (6, 6)) := ⟨(RX6, TX6, 7), rfl, by decide, (ws_1 210 rfl rfl)⟩
set_option maxRecDepth 100000 in
theorem ff_5_61 : Fp 5 (61, (1, 5)) := ⟨(RX1, TX1, 6), rfl, by decide, (ws_1 110 rfl rfl)⟩
set_option maxRecDepth 100000 in
theorem ff_5_62 : Fp 5 (62, (2, 8)) := ⟨(RX2, TX2, 10), rfl, by decide, (ws_2 33 rfl rfl)⟩
set_option maxRecDepth 100000 in
theorem ff_5_63 : Fp 5 (63, (2, 9)) := ⟨(RX2, TX2, 10), rfl, by decide, (ws_2 38 rfl rfl)⟩
set_option maxRecDepth 100000 in
theorem ff_5_77 : Fp 5 (77, (2, 3)) := ⟨(RX2, TX2, 10), rfl, by decide, (ws_2 15 rfl rfl)⟩
set_option maxRecDepth 100000 in
theorem ff_5_84 : Fp 5 (84, (6, 1)) := ⟨(RX6, TX6, 7), rfl, by decide, (ws_1 194 rfl rfl)⟩
set_option maxRecDepth 100000 in
theorem ff_5_87 : Fp 5 (87, (2, 1)) := ⟨(RX2, TX2, 10), rfl, by decide, (ws_2 3 rfl rfl)⟩
set_option maxRecDepth 100000 in
theorem ff_5_90 : Fp 5 (90, (6, 5)) := ⟨(RX6, TX6, 7), rfl, by decide, (ws_1 208 rfl rfl)⟩
set_option maxRecDepth 100000 in
theorem ff_5_93 : Fp 5 (93, (2, 2)) := ⟨(RX2, TX2, 10), rfl, by decide, (ws_2 10 rfl rfl)⟩
set_option maxRecDepth 100000 in
theorem ff_5_100 : Fp 5 (100, (1, 1)) := ⟨(RX1, TX1, 6), rfl, by decide, (ws_1 89 rfl rfl)⟩
set_option maxRecDepth 100000 in
theorem ff_5_118 : Fp 5 (118, (0, 0)) := ⟨(RX0, TX0, 16), rfl, by decide, (ws_1 134 rfl rfl)⟩
set_option maxRecDepth 100000 in
theorem ff_5_143 : Fp 5 (143, (1, 2)) := ⟨(RX1, TX1, 6), rfl, by decide, (ws_1 97 rfl rfl)⟩
set_option maxRecDepth 100000 in
theorem ff_6_9 : Fp 6 (9, (6, 0)) := ⟨(RX6, TX6, 7), rfl, by decide, (ws_1 189 rfl rfl)⟩
set_option maxRecDepth 100000 in
theorem ff_6_15 : Fp 6 (15, (6, 1)) := ⟨(RX6, TX6, 7), rfl, by decide, (ws_1 192 rfl rfl)⟩
set_option maxRecDepth 100000 in
theorem ff_6_18 : Fp 6 (18, (6, 2)) := ⟨(RX6, TX6, 7), rfl, by decide, (ws_1 197 rfl rfl)⟩
set_option maxRecDepth 100000 in
theorem ff_6_21 : Fp 6 (21, (6, 3)) := ⟨(RX6, TX6, 7), rfl, by decide, (ws_1 200 rfl rfl)⟩
set_option maxRecDepth 100000 in
theorem ff_6_24 : Fp 6 (24, (6, 4)) := ⟨(RX6, TX6, 7), rfl, by decide, (ws_1 203 rfl rfl)⟩
set_option maxRecDepth 100000 in
theorem ff_6_27 : Fp 6 (27, (6, 5)) := ⟨(RX6, TX6, 7), rfl, by decide, (ws_1 206 rfl rfl)⟩
set_option maxRecDepth 100000 in
theorem ff_7_11 : Fp 7 (11, (7, 0)) := ⟨(RX7, TX7, 6), rfl, by decide, (ws_2 226 rfl rfl)⟩
set_option maxRecDepth 100000 in
theorem ff_7_15 : Fp 7 (15, (7, 1)) := ⟨(RX7, TX7, 6), rfl, by decide, (ws_2 227 rfl rfl)⟩
set_option maxRecDepth 100000 in
theorem ff_7_18 : Fp 7 (18, (7, 2)) := ⟨(RX7, TX7, 6), rfl, by decide, (ws_2 229 rfl rfl)⟩
set_option maxRecDepth 100000 in
theorem ff_7_21 : Fp 7 (21, (7, 3)) := ⟨(RX7, TX7, 6), rfl, by decide, (ws_2 231 rfl rfl)⟩
set_option maxRecDepth 100000 in
theorem ff_7_24 : Fp 7 (24, (7, 4)) := ⟨(RX7, TX7, 6), rfl, by decide, (ws_2 233 rfl rfl)⟩
set_option maxRecDepth 100000 in
theorem ff_7_47 : Fp 7 (47, (7, 5)) := ⟨(RX7, TX7, 6), rfl, by decide, (ws_2 235 rfl rfl)⟩
set_option maxRecDepth 100000 in
theorem ff_8_14 : Fp 8 (14, (8, 0)) := ⟨(RX8, TX8, 2), rfl, by decide, (ws_2 146 rfl rfl)⟩
set_option maxRecDepth 100000 in
theorem ff_8_23 : Fp 8 (23, (8, 1)) := ⟨(RX8, TX8, 2), rfl, by decide, (ws_2 150 rfl rfl)⟩
set_option maxRecDepth 100000 in
theorem ff_9_9 : Fp 9 (9, (9, 0)) := ⟨(RX9, TX9, 10), rfl, by decide, (ws_1 33 rfl rfl)⟩
set_option maxRecDepth 100000 in
theorem ff_9_15 : Fp 9 (15, (9, 1)) := ⟨(RX9, TX9, 10), rfl, by decide, (ws_1 35 rfl rfl)⟩
set_option maxRecDepth 100000 in
theorem ff_9_18 : Fp 9 (18, (9, 2)) := ⟨(RX9, TX9, 10), rfl, by decide, (ws_1 37 rfl rfl)⟩
set_option maxRecDepth 100000 in
theorem ff_9_21 : Fp 9 (21, (9, 3)) := ⟨(RX9, TX9, 10), rfl, by decide, (ws_1 39 rfl rfl)⟩
set_option maxRecDepth 100000 in
theorem ff_9_24 : Fp 9 (24, (9, 4)) := ⟨(RX9, TX9, 10), rfl, by decide, (ws_1 41 rfl rfl)⟩
set_option maxRecDepth 100000 in
theorem ff_9_27 : Fp 9 (27, (9, 5)) := ⟨(RX9, TX9, 10), rfl, by decide, (ws_1 42 rfl rfl)⟩
set_option maxRecDepth 100000 in
theorem ff_9_32 : Fp 9 (32, (9, 6)) := ⟨(RX9, TX9, 10), rfl, by decide, (ws_1 43 rfl rfl)⟩
set_option maxRecDepth 100000 in
theorem ff_9_35 : Fp 9 (35, (9, 9)) := ⟨(RX9, TX9, 10), rfl, by decide, (ws_1 48 rfl rfl)⟩
set_option maxRecDepth 100000 in
theorem ff_9_48 : Fp 9 (48, (9, 7)) := ⟨(RX9, TX9, 10), rfl, by decide, (ws_1 44 rfl rfl)⟩
set_option maxRecDepth 100000 in
theorem ff_9_51 : Fp 9 (51, (9, 8)) := ⟨(RX9, TX9, 10), rfl, by decide, (ws_1 46 rfl rfl)⟩
set_option maxRecDepth 100000 in
theorem ff_9_54 : Fp 9 (54, (8, 0)) := ⟨(RX8, TX8, 2), rfl, by decide, (ws_2 148 rfl rfl)⟩
set_option maxRecDepth 100000 in
theorem ff_9_75 : Fp 9 (75, (5, 1)) := ⟨(RX5, TX5, 7), rfl, by decide, (ws_2 71 rfl rfl)⟩
set_option maxRecDepth 100000 in
theorem ff_9_95 : Fp 9 (95, (5, 0)) := ⟨(RX5, TX5, 7), rfl, by decide, (ws_2 66 rfl rfl)⟩
set_option maxRecDepth 100000 in
theorem ff_9_99 : Fp 9 (99, (1, 5)) := ⟨(RX1, TX1, 6), rfl, by decide, (ws_1 111 rfl rfl)⟩
set_option maxRecDepth 100000 in
theorem ff_9_104 : Fp 9 (104, (1, 4)) := ⟨(RX1, TX1, 6), rfl, by decide, (ws_1 106 rfl rfl)⟩
set_option maxRecDepth 100000 in
theorem ff_9_115 : Fp 9 (115, (2, 8)) := ⟨(RX2, TX2, 10), rfl, by decide, (ws_2 35 rfl rfl)⟩
set_option maxRecDepth 100000 in
theorem ff_9_118 : Fp 9 (118, (2, 2)) := ⟨(RX2, TX2, 10), rfl, by decide, (ws_2 9 rfl rfl)⟩
set_option maxRecDepth 100000 in
theorem ff_9_132 : Fp 9 (132, (8, 1)) := ⟨(RX8, TX8, 2), rfl, by decide, (ws_2 153 rfl rfl)⟩
set_option maxRecDepth 100000 in
theorem ff_9_136 : Fp 9 (136, (2, 1)) := ⟨(RX2, TX2, 10), rfl, by decide, (ws_2 4 rfl rfl)⟩
set_option maxRecDepth 100000 in
theorem ff_9_143 : Fp 9 (143, (2, 3)) := ⟨(RX2, TX2, 10), rfl, by decide, (ws_2 16 rfl rfl)⟩
set_option maxRecDepth 100000 in
theorem ff_9_149 : Fp 9 (149, (5, 6)) := ⟨(RX5, TX5, 7), rfl, by decide, (ws_2 83 rfl rfl)⟩
set_option maxRecDepth 100000 in
theorem ff_9_167 : Fp 9 (167, (1, 1)) := ⟨(RX1, TX1, 6), rfl, by decide, (ws_1 90 rfl rfl)⟩
set_option maxRecDepth 100000 in
theorem ff_9_170 : Fp 9 (170, (5, 5)) := ⟨(RX5, TX5, 7), rfl, by decide, (ws_2 80 rfl rfl)⟩
set_option maxRecDepth 100000 in
theorem ff_9_174 : Fp 9 (174, (6, 1)) := ⟨(RX6, TX6, 7), rfl, by decide, (ws_1 195 rfl rfl)⟩
set_option maxRecDepth 100000 in
theorem ff_9_195 : Fp 9 (195, (1, 2)) := ⟨(RX1, TX1, 6), rfl, by decide, (ws_1 96 rfl rfl)⟩
set_option maxRecDepth 100000 in
theorem ff_9_198 : Fp 9 (198, (1, 3)) := ⟨(RX1, TX1, 6), rfl, by decide, (ws_1 102 rfl rfl)⟩
set_option maxRecDepth 100000 in
theorem ff_9_202 : Fp 9 (202, (2, 9)) := ⟨(RX2, TX2, 10), rfl, by decide, (ws_2 40 rfl rfl)⟩
set_option maxRecDepth 100000 in
theorem ff_9_205 : Fp 9 (205, (2, 6)) := ⟨(RX2, TX2, 10), rfl, by decide, (ws_2 25 rfl rfl)⟩
set_option maxRecDepth 100000 in
theorem ff_9_208 : Fp 9 (208, (2, 7)) := ⟨(RX2, TX2, 10), rfl, by decide, (ws_2 29 rfl rfl)⟩
set_option maxRecDepth 100000 in
theorem ff_10_9 : Fp 10 (9, (10, 0)) := ⟨(RX10, TX10, 9), rfl, by decide, (ws_3 48 rfl rfl)⟩
set_option maxRecDepth 100000 in
theorem ff_10_13 : Fp 10 (13, (10, 1)) := ⟨(RX10, TX10, 9), rfl, by decide, (ws_3 49 rfl rfl)⟩
set_option maxRecDepth 100000 in
theorem ff_10_19 : Fp 10 (19, (10, 2)) := ⟨(RX10, TX10, 9), rfl, by decide, (ws_3 50 rfl rfl)⟩
set_option maxRecDepth 100000 in
theorem ff_10_28 : Fp 10 (28, (10, 3)) := ⟨(RX10, TX10, 9), rfl, by decide, (ws_3 51 rfl rfl)⟩
set_option maxRecDepth 100000 in
theorem ff_10_35 : Fp 10 (35, (10, 4)) := ⟨(RX10, TX10, 9), rfl, by decide, (ws_3 52 rfl rfl)⟩
set_option maxRecDepth 100000 in
theorem ff_10_39 : Fp 10 (39, (10, 5)) := ⟨(RX10, TX10, 9), rfl, by decide, (ws_3 53 rfl rfl)⟩
set_option maxRecDepth 100000 in
theorem ff_10_47 : Fp 10 (47, (10, 6)) := ⟨(RX10, TX10, 9), rfl, by decide, (ws_3 54 rfl rfl)⟩
set_option maxRecDepth 100000 in
theorem ff_10_51 : Fp 10 (51, (10, 7)) := ⟨(RX10, TX10, 9), rfl, by decide, (ws_3 55 rfl rfl)⟩
set_option maxRecDepth 100000 in
theorem ff_10_75 : Fp 10 (75, (3, 7)) := ⟨(RX3, TX3, 10), rfl, by decide, (ws_3 22 rfl rfl)⟩
set_option maxRecDepth 100000 in
theorem ff_10_78 : Fp 10 (78, (3, 8)) := ⟨(RX3, TX3, 10), rfl, by decide, (ws_3 24 rfl rfl)⟩
set_option maxRecDepth 100000 in
theorem ff_10_81 : Fp 10 (81, (3, 9)) := ⟨(RX3, TX3, 10), rfl, by decide, (ws_3 26 rfl rfl)⟩
set_option maxRecDepth 100000 in
theorem ff_10_84 : Fp 10 (84, (8, 0)) := ⟨(RX8, TX8, 2), rfl, by decide, (ws_2 149 rfl rfl)⟩
set_option maxRecDepth 100000 in
theorem ff_10_87 : Fp 10 (87, (5, 5)) := ⟨(RX5, TX5, 7), rfl, by decide, (ws_2 79 rfl rfl)⟩
set_option maxRecDepth 100000 in
theorem ff_10_91 : Fp 10 (91, (6, 6)) := ⟨(RX6, TX6, 7), rfl, by decide, (ws_1 211 rfl rfl)⟩
set_option maxRecDepth 100000 in
theorem ff_10_96 : Fp 10 (96, (5, 0)) := ⟨(RX5, TX5, 7), rfl, by decide, (ws_2 67 rfl rfl)⟩
set_option maxRecDepth 100000 in
theorem ff_10_100 : Fp 10 (100, (1, 5)) := ⟨(RX1, TX1, 6), rfl, by decide, (ws_1 112 rfl rfl)⟩
set_option maxRecDepth 100000 in
theorem ff_10_103 : Fp 10 (103, (5, 1)) := ⟨(RX5, TX5, 7), rfl, by decide, (ws_2 72 rfl rfl)⟩
set_option maxRecDepth 100000 in
theorem ff_10_107 : Fp 10 (107, (2, 8)) := ⟨(RX2, TX2, 10), rfl, by decide, (ws_2 36 rfl rfl)⟩
set_option maxRecDepth 100000 in
theorem ff_10_110 : Fp 10 (110, (2, 9)) := ⟨(RX2, TX2, 10), rfl, by decide, (ws_2 39 rfl rfl)⟩
set_option maxRecDepth 100000 in
theorem ff_10_113 : Fp 10 (113, (8, 1)) := ⟨(RX8, TX8, 2), rfl, by decide, (ws_2 152 rfl rfl)⟩
set_option maxRecDepth 100000 in
theorem ff_10_117 : Fp 10 (117, (4, 6)) := ⟨(RX4, TX4, 8), rfl, by decide, (ws_2 125 rfl rfl)⟩
set_option maxRecDepth 100000 in
theorem ff_10_120 : Fp 10 (120, (5, 6)) := ⟨(RX5, TX5, 7), rfl, by decide, (ws_2 82 rfl rfl)⟩
set_option maxRecDepth 100000 in
theorem ff_10_123 : Fp 10 (123, (9, 7)) := ⟨(RX9, TX9, 10), rfl, by decide, (ws_1 45 rfl rfl)⟩
set_option maxRecDepth 100000 in
theorem ff_10_126 : Fp 10 (126, (9, 8)) := ⟨(RX9, TX9, 10), rfl, by decide, (ws_1 47 rfl rfl)⟩
set_option maxRecDepth 100000 in
theorem ff_10_137 : Fp 10 (137, (6, 0)) := ⟨(RX6, TX6, 7), rfl, by decide, (ws_1 190 rfl rfl)⟩
set_option maxRecDepth 100000 in
theorem ff_10_148 : Fp 10 (148, (1, 0)) := ⟨(RX1, TX1, 6), rfl, by decide, (ws_1 85 rfl rfl)⟩
set_option maxRecDepth 100000 in
theorem ff_10_149 : Fp 10 (149, (2, 0)) := ⟨(RX2, TX2, 10), rfl, by decide, (ws_1 239 rfl rfl)⟩
set_option maxRecDepth 100000 in
theorem ff_10_154 : Fp 10 (154, (2, 1)) := ⟨(RX2, TX2, 10), rfl, by decide, (ws_2 5 rfl rfl)⟩
set_option maxRecDepth 100000 in
theorem ff_10_157 : Fp 10 (157, (2, 2)) := ⟨(RX2, TX2, 10), rfl, by decide, (ws_2 11 rfl rfl)⟩
set_option maxRecDepth 100000 in
theorem ff_10_160 : Fp 10 (160, (2, 3)) := ⟨(RX2, TX2, 10), rfl, by decide, (ws_2 17 rfl rfl)⟩
set_option maxRecDepth 100000 in
theorem ff_10_163 : Fp 10 (163, (2, 5)) := ⟨(RX2, TX2, 10), rfl, by decide, (ws_2 22 rfl rfl)⟩
set_option maxRecDepth 100000 in
theorem ff_10_172 : Fp 10 (172, (9, 0)) := ⟨(RX9, TX9, 10), rfl, by decide, (ws_1 34 rfl rfl)⟩
set_option maxRecDepth 100000 in
theorem ff_10_175 : Fp 10 (175, (9, 1)) := ⟨(RX9, TX9, 10), rfl, by decide, (ws_1 36 rfl rfl)⟩
set_option maxRecDepth 100000 in
theorem ff_10_181 : Fp 10 (181, (1, 1)) := ⟨(RX1, TX1, 6), rfl, by decide, (ws_1 91 rfl rfl)⟩
set_option maxRecDepth 100000 in
theorem ff_10_184 : Fp 10 (184, (1, 2)) := ⟨(RX1, TX1, 6), rfl, by decide, (ws_1 95 rfl rfl)⟩
set_option maxRecDepth 100000 in
theorem ff_10_187 : Fp 10 (187, (1, 3)) := ⟨(RX1, TX1, 6), rfl, by decide, (ws_1 101 rfl rfl)⟩
set_option maxRecDepth 100000 in
theorem ff_10_190 : Fp 10 (190, (1, 4)) := ⟨(RX1, TX1, 6), rfl, by decide, (ws_1 107 rfl rfl)⟩
set_option maxRecDepth 100000 in
theorem ff_10_270 : Fp 10 (270, (2, 6)) := ⟨(RX2, TX2, 10), rfl, by decide, (ws_2 27 rfl rfl)⟩
set_option maxRecDepth 100000 in
theorem ff_10_273 : Fp 10 (273, (2, 7)) := ⟨(RX2, TX2, 10), rfl, by decide, (ws_2 31 rfl rfl)⟩
set_option maxRecDepth 100000 in
theorem ff_10_285 : Fp 10 (285, (9, 9)) := ⟨(RX9, TX9, 10), rfl, by decide, (ws_1 49 rfl rfl)⟩
set_option maxRecDepth 100000 in
theorem ff_10_292 : Fp 10 (292, (9, 2)) := ⟨(RX9, TX9, 10), rfl, by decide, (ws_1 38 rfl rfl)⟩
set_option maxRecDepth 100000 in
theorem ff_10_295 : Fp 10 (295, (9, 3)) := ⟨(RX9, TX9, 10), rfl, by decide, (ws_1 40 rfl rfl)⟩
set_option maxRecDepth 100000 in
theorem ff_10_298 : Fp 10 (298, (10, 8)) := ⟨(RX10, TX10, 9), rfl, by decide, (ws_3 56 rfl rfl)⟩
set_option maxRecDepth 100000 in
theorem ff_11_7 : Fp 11 (7, (11, 0)) := ⟨(RX11, TX11, 94), rfl, by decide, (ws_6 24 rfl rfl)⟩
set_option maxRecDepth 100000 in
theorem ff_11_13 : Fp 11 (13, (11, 8)) := ⟨(RX11, TX11, 94), rfl, by decide, (ws_6 32 rfl rfl)⟩
set_option maxRecDepth 100000 in
theorem ff_11_17 : Fp 11 (17, (11, 9)) := ⟨(RX11, TX11, 94), rfl, by decide, (ws_6 33 rfl rfl)⟩
set_option maxRecDepth 100000 in
theorem ff_11_21 : Fp 11 (21, (11, 10)) := ⟨(RX11, TX11, 94), rfl, by decide, (ws_6 34 rfl rfl)⟩
set_option maxRecDepth 100000 in
theorem ff_11_24 : Fp 11 (24, (11, 11)) := ⟨(RX11, TX11, 94), rfl, by decide, (ws_6 35 rfl rfl)⟩
set_option maxRecDepth 100000 in
theorem ff_11_27 : Fp 11 (27, (11, 12)) := ⟨(RX11, TX11, 94), rfl, by decide, (ws_6 36 rfl rfl)⟩
set_option maxRecDepth 100000 in
theorem ff_11_30 : Fp 11 (30, (11, 13)) := ⟨(RX11, TX11, 94), rfl, by decide, (ws_6 37 rfl rfl)⟩
set_option maxRecDepth 100000 in
theorem ff_11_33 : Fp 11 (33, (11, 14)) := ⟨(RX11, TX11, 94), rfl, by decide, (ws_6 38 rfl rfl)⟩
set_option maxRecDepth 100000 in
theorem ff_11_36 : Fp 11 (36, (11, 15)) := ⟨(RX11, TX11, 94), rfl, by decide, (ws_6 39 rfl rfl)⟩
set_option maxRecDepth 100000 in
theorem ff_11_39 : Fp 11 (39, (11, 16)) := ⟨(RX11, TX11, 94), rfl, by decide, (ws_6 40 rfl rfl)⟩
set_option maxRecDepth 100000 in
theorem ff_11_42 : Fp 11 (42, (11, 17)) := ⟨(RX11, TX11, 94), rfl, by decide, (ws_6 41 rfl rfl)⟩
set_option maxRecDepth 100000 in
theorem ff_11_45 : Fp 11 (45, (11, 18)) := ⟨(RX11, TX11, 94), rfl, by decide, (ws_6 42 rfl rfl)⟩
set_option maxRecDepth 100000 in
theorem ff_11_48 : Fp 11 (48, (11, 19)) := ⟨(RX11, TX11, 94), rfl, by decide, (ws_6 43 rfl rfl)⟩
set_option maxRecDepth 100000 in
theorem ff_11_51 : Fp 11 (51, (11, 20)) := ⟨(RX11, TX11, 94), rfl, by decide, (ws_6 44 rfl rfl)⟩
set_option maxRecDepth 100000 in
theorem ff_11_54 : Fp 11 (54, (11, 21)) := ⟨(RX11, TX11, 94), rfl, by decide, (ws_6 45 rfl rfl)⟩
set_option maxRecDepth 100000 in
theorem ff_11_57 : Fp 11 (57, (11, 22)) := ⟨(RX11, TX11, 94), rfl, by decide, (ws_6 46 rfl rfl)⟩
set_option maxRecDepth 100000 in
theorem ff_11_60 : Fp 11 (60, (11, 23)) := ⟨(RX11, TX11, 94), rfl, by decide, (ws_6 47 rfl rfl)⟩
set_option maxRecDepth 100000 in
theorem ff_11_63 : Fp 11 (63, (11, 24)) := ⟨(RX11, TX11, 94), rfl, by decide, (ws_6 48 rfl rfl)⟩
set_option maxRecDepth 100000 in
theorem ff_11_66 : Fp 11 (66, (11, 25)) := ⟨(RX11, TX11, 94), rfl, by decide, (ws_6 49 rfl rfl)⟩
set_option maxRecDepth 100000 in
theorem ff_11_69 : Fp 11 (69, (11, 26)) := ⟨(RX11, TX11, 94), rfl, by decide, (ws_6 50 rfl rfl)⟩
set_option maxRecDepth 100000 in
theorem ff_11_72 : Fp 11 (72, (11, 27)) := ⟨(RX11, TX11, 94), rfl, by decide, (ws_6 51 rfl rfl)⟩
set_option maxRecDepth 100000 in
theorem ff_11_75 : Fp 11 (75, (11, 28)) := ⟨(RX11, TX11, 94), rfl, by decide, (ws_6 52 rfl rfl)⟩
set_option maxRecDepth 100000 in
theorem ff_11_78 : Fp 11 (78, (11, 29)) := ⟨(RX11, TX11, 94), rfl, by decide, (ws_6 53 rfl rfl)⟩
set_option maxRecDepth 100000 in
theorem ff_11_81 : Fp 11 (81, (11, 30)) := ⟨(RX11, TX11, 94), rfl, by decide, (ws_6 54 rfl rfl)⟩
set_option maxRecDepth 100000 in
theorem ff_11_84 : Fp 11 (84, (11, 31)) := ⟨(RX11, TX11, 94), rfl, by decide, (ws_6 55 rfl rfl)⟩
set_option maxRecDepth 100000 in
theorem ff_11_87 : Fp 11 (87, (11, 32)) := ⟨(RX11, TX11, 94), rfl, by decide, (ws_6 56 rfl rfl)⟩
set_option maxRecDepth 100000 in
theorem ff_11_90 : Fp 11 (90, (11, 33)) := ⟨(RX11, TX11, 94), rfl, by decide, (ws_6 57 rfl rfl)⟩
set_option maxRecDepth 100000 in
theorem ff_11_93 : Fp 11 (93, (11, 34)) := ⟨(RX11, TX11, 94), rfl, by decide, (ws_6 58 rfl rfl)⟩
set_option maxRecDepth 100000 in
theorem ff_11_96 : Fp 11 (96, (11, 35)) := ⟨(RX11, TX11, 94), rfl, by decide, (ws_6 59 rfl rfl)⟩
set_option maxRecDepth 100000 in
theorem ff_11_99 : Fp 11 (99, (11, 36)) := ⟨(RX11, TX11, 94), rfl, by decide, (ws_6 60 rfl rfl)⟩
set_option maxRecDepth 100000 in
theorem ff_11_102 : Fp 11 (102, (11, 37)) := ⟨(RX11, TX11, 94), rfl, by decide, (ws_6 61 rfl rfl)⟩
set_option maxRecDepth 100000 in
theorem ff_11_105 : Fp 11 (105, (11, 38)) := ⟨(RX11, TX11, 94), rfl, by decide, (ws_6 62 rfl rfl)⟩
set_option maxRecDepth 100000 in
theorem ff_11_108 : Fp 11 (108, (11, 39)) := ⟨(RX11, TX11, 94), rfl, by decide, (ws_6 63 rfl rfl)⟩
set_option maxRecDepth 100000 in
theorem ff_11_111 : Fp 11 (111, (11, 40)) := ⟨(RX11, TX11, 94), rfl, by decide, (ws_6 64 rfl rfl)⟩
set_option maxRecDepth 100000 in
theorem ff_11_114 : Fp 11 (114, (11, 41)) := ⟨(RX11, TX11, 94), rfl, by decide, (ws_6 65 rfl rfl)⟩
set_option maxRecDepth 100000 in
theorem ff_11_117 : Fp 11 (117, (11, 43)) := ⟨(RX11, TX11, 94), rfl, by decide, (ws_6 67 rfl rfl)⟩
set_option maxRecDepth 100000 in
theorem ff_11_121 : Fp 11 (121, (11, 44)) := ⟨(RX11, TX11, 94), rfl, by decide, (ws_6 68 rfl rfl)⟩
set_option maxRecDepth 100000 in
theorem ff_11_124 : Fp 11 (124, (11, 45)) := ⟨(RX11, TX11, 94), rfl, by decide, (ws_6 69 rfl rfl)⟩
set_option maxRecDepth 100000 in
theorem ff_11_127 : Fp 11 (127, (11, 46)) := ⟨(RX11, TX11, 94), rfl, by decide, (ws_6 70 rfl rfl)⟩
set_option maxRecDepth 100000 in
theorem ff_11_130 : Fp 11 (130, (11, 47)) := ⟨(RX11, TX11, 94), rfl, by decide, (ws_6 71 rfl rfl)⟩
set_option maxRecDepth 100000 in
theorem ff_11_133 : Fp 11 (133, (11, 48)) := ⟨(RX11, TX11, 94), rfl, by decide, (ws_6 72 rfl rfl)⟩
set_option maxRecDepth 100000 in
theorem ff_11_136 : Fp 11 (136, (11, 49)) := ⟨(RX11, TX11, 94), rfl, by decide, (ws_6 73 rfl rfl)⟩
set_option maxRecDepth 100000 in
theorem ff_11_139 : Fp 11 (139, (11, 51)) := ⟨(RX11, TX11, 94), rfl, by decide, (ws_6 75 rfl rfl)⟩
set_option maxRecDepth 100000 in
theorem ff_11_142 : Fp 11 (142, (11, 52)) := ⟨(RX11, TX11, 94), rfl, by decide, (ws_6 76 rfl rfl)⟩
set_option maxRecDepth 100000 in
theorem ff_11_145 : Fp 11 (145, (11, 55)) := ⟨(RX11, TX11, 94), rfl, by decide, (ws_6 79 rfl rfl)⟩
set_option maxRecDepth 100000 in
theorem ff_11_148 : Fp 11 (148, (11, 57)) := ⟨(RX11, TX11, 94), rfl, by decide, (ws_6 81 rfl rfl)⟩
set_option maxRecDepth 100000 in
theorem ff_11_151 : Fp 11 (151, (11, 60)) := ⟨(RX11, TX11, 94), rfl, by decide, (ws_6 84 rfl rfl)⟩
set_option maxRecDepth 100000 in
theorem ff_11_154 : Fp 11 (154, (11, 61)) := ⟨(RX11, TX11, 94), rfl, by decide, (ws_6 85 rfl rfl)⟩
set_option maxRecDepth 100000 in
theorem ff_11_157 : Fp 11 (157, (11, 62)) := ⟨(RX11, TX11, 94), rfl, by decide, (ws_6 86 rfl rfl)⟩
set_option maxRecDepth 100000 in
theorem ff_11_160 : Fp 11 (160, (11, 63)) := ⟨(RX11, TX11, 94), rfl, by decide, (ws_6 87 rfl rfl)⟩
set_option maxRecDepth 100000 in
theorem ff_11_163 : Fp 11 (163, (11, 64)) := ⟨(RX11, TX11, 94), rfl, by decide, (ws_6 88 rfl rfl)⟩
set_option maxRecDepth 100000 in
theorem ff_11_166 : Fp 11 (166, (11, 66)) := ⟨(RX11, TX11, 94), rfl, by decide, (ws_6 90 rfl rfl)⟩
set_option maxRecDepth 100000 in
theorem ff_11_169 : Fp 11 (169, (11, 67)) := ⟨(RX11, TX11, 94), rfl, by decide, (ws_6 91 rfl rfl)⟩
set_option maxRecDepth 100000 in
theorem ff_11_172 : Fp 11 (172, (11, 68)) := ⟨(RX11, TX11, 94), rfl, by decide, (ws_6 92 rfl rfl)⟩
set_option maxRecDepth 100000 in
theorem ff_11_175 : Fp 11 (175, (11, 69)) := ⟨(RX11, TX11, 94), rfl, by decide, (ws_6 93 rfl rfl)⟩
set_option maxRecDepth 100000 in
theorem ff_11_178 : Fp 11 (178, (11, 70)) := ⟨(RX11, TX11, 94), rfl, by decide, (ws_6 94 rfl rfl)⟩
set_option maxRecDepth 100000 in
theorem ff_11_181 : Fp 11 (181, (11, 71)) := ⟨(RX11, TX11, 94), rfl, by decide, (ws_6 95 rfl rfl)⟩
set_option maxRecDepth 100000 in
theorem ff_11_184 : Fp 11 (184, (11, 72)) := ⟨(RX11, TX11, 94), rfl, by decide, (ws_6 96 rfl rfl)⟩
set_option maxRecDepth 100000 in
theorem ff_11_187 : Fp 11 (187, (11, 73)) := ⟨(RX11, TX11, 94), rfl, by decide, (ws_6 97 rfl rfl)⟩
set_option maxRecDepth 100000 in
theorem ff_11_190 : Fp 11 (190, (11, 74)) := ⟨(RX11, TX11, 94), rfl, by decide, (ws_6 98 rfl rfl)⟩
set_option maxRecDepth 100000 in
theorem ff_11_193 : Fp 11 (193, (11, 80)) := ⟨(RX11, TX11, 94), rfl, by decide, (ws_6 104 rfl rfl)⟩
set_option maxRecDepth 100000 in
theorem ff_11_196 : Fp 11 (196, (11, 83)) := ⟨(RX11, TX11, 94), rfl, by decide, (ws_6 107 rfl rfl)⟩
set_option maxRecDepth 100000 in
theorem ff_11_199 : Fp 11 (199, (11, 84)) := ⟨(RX11, TX11, 94), rfl, by decide, (ws_6 108 rfl rfl)⟩
set_option maxRecDepth 100000 in
theorem ff_11_202 : Fp 11 (202, (11, 85)) := ⟨(RX11, TX11, 94), rfl, by decide, (ws_6 109 rfl rfl)⟩
set_option maxRecDepth 100000 in
theorem ff_11_205 : Fp 11 (205, (11, 86)) := ⟨(RX11, TX11, 94), rfl, by decide, (ws_6 110 rfl rfl)⟩
set_option maxRecDepth 100000 in
theorem ff_11_208 : Fp 11 (208, (11, 89)) := ⟨(RX11, TX11, 94), rfl, by decide, (ws_6 113 rfl rfl)⟩
set_option maxRecDepth 100000 in
theorem ff_11_212 : Fp 11 (212, (11, 90)) := ⟨(RX11, TX11, 94), rfl, by decide, (ws_6 114 rfl rfl)⟩
set_option maxRecDepth 100000 in
theorem ff_11_215 : Fp 11 (215, (11, 91)) := ⟨(RX11, TX11, 94), rfl, by decide, (ws_6 115 rfl rfl)⟩
set_option maxRecDepth 100000 in
theorem ff_11_218 : Fp 11 (218, (11, 92)) := ⟨(RX11, TX11, 94), rfl, by decide, (ws_6 116 rfl rfl)⟩
set_option maxRecDepth 100000 in
theorem ff_11_221 : Fp 11 (221, (11, 1)) := ⟨(RX11, TX11, 94), rfl, by decide, (ws_6 25 rfl rfl)⟩
set_option maxRecDepth 100000 in
theorem ff_11_224 : Fp 11 (224, (11, 5)) := ⟨(RX11, TX11, 94), rfl, by decide, (ws_6 29 rfl rfl)⟩
set_option maxRecDepth 100000 in
theorem ff_11_227 : Fp 11 (227, (11, 6)) := ⟨(RX11, TX11, 94), rfl, by decide, (ws_6 30 rfl rfl)⟩
set_option maxRecDepth 100000 in
theorem ff_11_230 : Fp 11 (230, (11, 2)) := ⟨(RX11, TX11, 94), rfl, by decide, (ws_6 26 rfl rfl)⟩
set_option maxRecDepth 100000 in
theorem ff_11_233 : Fp 11 (233, (11, 3)) := ⟨(RX11, TX11, 94), rfl, by decide, (ws_6 27 rfl rfl)⟩
set_option maxRecDepth 100000 in
theorem ff_11_244 : Fp 11 (244, (11, 4)) := ⟨(RX11, TX11, 94), rfl, by decide, (ws_6 28 rfl rfl)⟩
set_option maxRecDepth 100000 in
theorem ff_11_272 : Fp 11 (272, (11, 42)) := ⟨(RX11, TX11, 94), rfl, by decide, (ws_6 66 rfl rfl)⟩
set_option maxRecDepth 100000 in
theorem ff_11_279 : Fp 11 (279, (11, 53)) := ⟨(RX11, TX11, 94), rfl, by decide, (ws_6 77 rfl rfl)⟩
set_option maxRecDepth 100000 in
theorem ff_11_282 : Fp 11 (282, (11, 56)) := ⟨(RX11, TX11, 94), rfl, by decide, (ws_6 80 rfl rfl)⟩
set_option maxRecDepth 100000 in
theorem ff_11_315 : Fp 11 (315, (11, 50)) := ⟨(RX11, TX11, 94), rfl, by decide, (ws_6 74 rfl rfl)⟩
set_option maxRecDepth 100000 in
theorem ff_11_318 : Fp 11 (318, (11, 54)) := ⟨(RX11, TX11, 94), rfl, by decide, (ws_6 78 rfl rfl)⟩
set_option maxRecDepth 100000 in
theorem ff_11_349 : Fp 11 (349, (11, 7)) := ⟨(RX11, TX11, 94), rfl, by decide, (ws_6 31 rfl rfl)⟩
set_option maxRecDepth 100000 in
theorem ff_11_355 : Fp 11 (355, (11, 75)) := ⟨(RX11, TX11, 94), rfl, by decide, (ws_6 99 rfl rfl)⟩
set_option maxRecDepth 100000 in
theorem ff_11_358 : Fp 11 (358, (11, 76)) := ⟨(RX11, TX11, 94), rfl, by decide, (ws_6 100 rfl rfl)⟩
set_option maxRecDepth 100000 in
theorem ff_11_361 : Fp 11 (361, (11, 77)) := ⟨(RX11, TX11, 94), rfl, by decide, (ws_6 101 rfl rfl)⟩
set_option maxRecDepth 100000 in
theorem ff_11_364 : Fp 11 (364, (11, 78)) := ⟨(RX11, TX11, 94), rfl, by decide, (ws_6 102 rfl rfl)⟩
set_option maxRecDepth 100000 in
theorem ff_11_367 : Fp 11 (367, (11, 79)) := ⟨(RX11, TX11, 94), rfl, by decide, (ws_6 103 rfl rfl)⟩
set_option maxRecDepth 100000 in
theorem ff_11_370 : Fp 11 (370, (11, 59)) := ⟨(RX11, TX11, 94), rfl, by decide, (ws_6 83 rfl rfl)⟩
set_option maxRecDepth 100000 in
theorem ff_11_373 : Fp 11 (373, (11, 58)) := ⟨(RX11, TX11, 94), rfl, by decide, (ws_6 82 rfl rfl)⟩
set_option maxRecDepth 100000 in
theorem ff_11_379 : Fp 11 (379, (11, 65)) := ⟨(RX11, TX11, 94), rfl, by decide, (ws_6 89 rfl rfl)⟩
set_option maxRecDepth 100000 in
theorem ff_11_508 : Fp 11 (508, (11, 81)) := ⟨(RX11, TX11, 94), rfl, by decide, (ws_6 105 rfl rfl)⟩
set_option maxRecDepth 100000 in
theorem ff_11_511 : Fp 11 (511, (11, 82)) := ⟨(RX11, TX11, 94), rfl, by decide, (ws_6 106 rfl rfl)⟩
set_option maxRecDepth 100000 in
theorem ff_11_540 : Fp 11 (540, (11, 87)) := ⟨(RX11, TX11, 94), rfl, by decide, (ws_6 111 rfl rfl)⟩
set_option maxRecDepth 100000 in
theorem ff_11_569 : Fp 11 (569, (11, 88)) := ⟨(RX11, TX11, 94), rfl, by decide, (ws_6 112 rfl rfl)⟩
set_option maxRecDepth 100000 in
theorem ff_11_609 : Fp 11 (609, (11, 93)) := ⟨(RX11, TX11, 94), rfl, by decide, (ws_6 117 rfl rfl)⟩
set_option maxRecDepth 100000 in
theorem ll_0_3 : Lp 0 (3, 1) := (show Jvm.Cond.methodLink (cnm 0) 3 Lib.objectInit ∈ WS from (ws_1 132 rfl rfl))
set_option maxRecDepth 100000 in
theorem ll_0_30 : Lp 0 (30, 170) := ⟨by decide, Or.inr (nw_of (tb_4 97 rfl))⟩
set_option maxRecDepth 100000 in
theorem ll_0_34 : Lp 0 (34, 12) := ⟨by decide, Or.inl (ws_4 98 rfl rfl)⟩
set_option maxRecDepth 100000 in
theorem ll_0_65 : Lp 0 (65, 13) := ⟨by decide, Or.inl (ws_4 102 rfl rfl)⟩
set_option maxRecDepth 100000 in
theorem ll_0_75 : Lp 0 (75, 74) := ⟨by decide, Or.inl (ws_4 106 rfl rfl)⟩
set_option maxRecDepth 100000 in
theorem ll_0_82 : Lp 0 (82, 173) := ⟨by decide, Or.inr (nw_of (tb_4 107 rfl))⟩
set_option maxRecDepth 100000 in
theorem ll_0_86 : Lp 0 (86, 171) := ⟨by decide, Or.inr (nw_of (tb_4 108 rfl))⟩
set_option maxRecDepth 100000 in
theorem ll_0_90 : Lp 0 (90, 75) := ⟨by decide, Or.inl (ws_4 109 rfl rfl)⟩
set_option maxRecDepth 100000 in
theorem ll_0_96 : Lp 0 (96, 306) := ⟨by decide, Or.inl (ws_4 113 rfl rfl)⟩
set_option maxRecDepth 100000 in
theorem ll_0_147 : Lp 0 (147, 174) := ⟨by decide, Or.inr (nw_of (tb_4 118 rfl))⟩
set_option maxRecDepth 100000 in
theorem ll_0_151 : Lp 0 (151, 304) := ⟨by decide, Or.inl (ws_4 124 rfl rfl)⟩
set_option maxRecDepth 100000 in
theorem ll_1_3 : Lp 1 (3, 1) := (show Jvm.Cond.methodLink (cnm 1) 3 Lib.objectInit ∈ WS from (ws_1 83 rfl rfl))
set_option maxRecDepth 100000 in
theorem ll_1_31 : Lp 1 (31, 170) := ⟨by decide, Or.inr (nw_of (tb_4 218 rfl))⟩
set_option maxRecDepth 100000 in
theorem ll_1_35 : Lp 1 (35, 171) := ⟨by decide, Or.inr (nw_of (tb_4 219 rfl))⟩
set_option maxRecDepth 100000 in
theorem ll_2_3 : Lp 2 (3, 1) := (show Jvm.Cond.methodLink (cnm 2) 3 Lib.objectInit ∈ WS from (ws_1 236 rfl rfl))
set_option maxRecDepth 100000 in
theorem ll_2_18 : Lp 2 (18, 306) := ⟨by decide, Or.inl (ws_1 237 rfl rfl)⟩
set_option maxRecDepth 100000 in
theorem ll_2_46 : Lp 2 (46, 170) := ⟨by decide, Or.inr (nw_of (tb_4 55 rfl))⟩
set_option maxRecDepth 100000 in
theorem ll_2_50 : Lp 2 (50, 171) := ⟨by decide, Or.inr (nw_of (tb_4 224 rfl))⟩
set_option maxRecDepth 100000 in
theorem ll_3_3 : Lp 3 (3, 1) := (show Jvm.Cond.methodLink (cnm 3) 3 Lib.objectInit ∈ WS from (ws_2 164 rfl rfl))
set_option maxRecDepth 100000 in
theorem ll_3_11 : Lp 3 (11, 97) := ⟨by decide, Or.inl (ws_2 167 rfl rfl)⟩
set_option maxRecDepth 100000 in
theorem ll_3_22 : Lp 3 (22, 26) := ⟨by decide, Or.inl (ws_3 10 rfl rfl)⟩
set_option maxRecDepth 100000 in
theorem ll_3_55 : Lp 3 (55, 69) := ⟨by decide, Or.inl (ws_3 96 rfl rfl)⟩
set_option maxRecDepth 100000 in
theorem ll_3_58 : Lp 3 (58, 61) := ⟨by decide, Or.inl (ws_3 100 rfl rfl)⟩
set_option maxRecDepth 100000 in
theorem ll_3_61 : Lp 3 (61, 99) := ⟨by decide, Or.inl (ws_3 104 rfl rfl)⟩
set_option maxRecDepth 100000 in
theorem ll_3_74 : Lp 3 (74, 30) := ⟨by decide, Or.inl (ws_3 142 rfl rfl)⟩
set_option maxRecDepth 100000 in
theorem ll_3_82 : Lp 3 (82, 170) := ⟨by decide, Or.inr (nw_of (tb_3 146 rfl))⟩
set_option maxRecDepth 100000 in
theorem ll_3_89 : Lp 3 (89, 31) := ⟨by decide, Or.inl (ws_3 155 rfl rfl)⟩
set_option maxRecDepth 100000 in
theorem ll_3_99 : Lp 3 (99, 33) := ⟨by decide, Or.inl (ws_3 192 rfl rfl)⟩
set_option maxRecDepth 100000 in
theorem ll_3_103 : Lp 3 (103, 34) := ⟨by decide, Or.inl (ws_3 166 rfl rfl)⟩
set_option maxRecDepth 100000 in
theorem ll_3_107 : Lp 3 (107, 28) := ⟨by decide, Or.inl (ws_3 162 rfl rfl)⟩
set_option maxRecDepth 100000 in
theorem ll_3_111 : Lp 3 (111, 36) := ⟨by decide, Or.inl (ws_3 178 rfl rfl)⟩
set_option maxRecDepth 100000 in
theorem ll_3_114 : Lp 3 (114, 38) := ⟨by decide, Or.inl (ws_3 182 rfl rfl)⟩
set_option maxRecDepth 100000 in
theorem ll_3_126 : Lp 3 (126, 175) := ⟨by decide, Or.inr (nw_of (tb_3 186 rfl))⟩
set_option maxRecDepth 100000 in
theorem ll_3_141 : Lp 3 (141, 42) := ⟨by decide, Or.inl (ws_3 151 rfl rfl)⟩
set_option maxRecDepth 100000 in
theorem ll_3_144 : Lp 3 (144, 43) := ⟨by decide, Or.inl (ws_3 159 rfl rfl)⟩
set_option maxRecDepth 100000 in
theorem ll_3_150 : Lp 3 (150, 44) := ⟨by decide, Or.inl (ws_3 170 rfl rfl)⟩
set_option maxRecDepth 100000 in
theorem ll_3_153 : Lp 3 (153, 45) := ⟨by decide, Or.inl (ws_3 196 rfl rfl)⟩
set_option maxRecDepth 100000 in
theorem ll_3_156 : Lp 3 (156, 46) := ⟨by decide, Or.inl (ws_3 200 rfl rfl)⟩
set_option maxRecDepth 100000 in
theorem ll_3_159 : Lp 3 (159, 47) := ⟨by decide, Or.inl (ws_3 208 rfl rfl)⟩
set_option maxRecDepth 100000 in
theorem ll_3_162 : Lp 3 (162, 48) := ⟨by decide, Or.inl (ws_3 212 rfl rfl)⟩
set_option maxRecDepth 100000 in
theorem ll_3_165 : Lp 3 (165, 49) := ⟨by decide, Or.inl (ws_3 220 rfl rfl)⟩
set_option maxRecDepth 100000 in
theorem ll_3_169 : Lp 3 (169, 37) := ⟨by decide, Or.inl (ws_3 174 rfl rfl)⟩
set_option maxRecDepth 100000 in
theorem ll_3_172 : Lp 3 (172, 171) := ⟨by decide, Or.inr (nw_of (tb_3 187 rfl))⟩
set_option maxRecDepth 100000 in
theorem ll_3_179 : Lp 3 (179, 35) := ⟨by decide, Or.inl (ws_3 188 rfl rfl)⟩
set_option maxRecDepth 100000 in
theorem ll_3_209 : Lp 3 (209, 39) := ⟨by decide, Or.inl (ws_3 204 rfl rfl)⟩
set_option maxRecDepth 100000 in
theorem ll_3_218 : Lp 3 (218, 40) := ⟨by decide, Or.inl (ws_3 216 rfl rfl)⟩
set_option maxRecDepth 100000 in
theorem ll_3_238 : Lp 3 (238, 55) := ⟨by decide, Or.inl (ws_3 224 rfl rfl)⟩
set_option maxRecDepth 100000 in
theorem ll_3_244 : Lp 3 (244, 50) := ⟨by decide, Or.inl (ws_4 15 rfl rfl)⟩
set_option maxRecDepth 100000 in
theorem ll_3_250 : Lp 3 (250, 51) := ⟨by decide, Or.inl (ws_4 19 rfl rfl)⟩
set_option maxRecDepth 100000 in
theorem ll_3_253 : Lp 3 (253, 32) := ⟨by decide, Or.inl (ws_3 239 rfl rfl)⟩
set_option maxRecDepth 100000 in
theorem ll_3_256 : Lp 3 (256, 62) := ⟨by decide, Or.inl (ws_4 11 rfl rfl)⟩
set_option maxRecDepth 100000 in
theorem ll_3_259 : Lp 3 (259, 52) := ⟨by decide, Or.inl (ws_4 23 rfl rfl)⟩
set_option maxRecDepth 100000 in
theorem ll_3_262 : Lp 3 (262, 54) := ⟨by decide, Or.inl (ws_4 7 rfl rfl)⟩
set_option maxRecDepth 100000 in
theorem ll_3_265 : Lp 3 (265, 53) := ⟨by decide, Or.inl (ws_4 27 rfl rfl)⟩
set_option maxRecDepth 100000 in
theorem ll_3_268 : Lp 3 (268, 56) := ⟨by decide, Or.inl (ws_3 228 rfl rfl)⟩
set_option maxRecDepth 100000 in
theorem ll_3_271 : Lp 3 (271, 57) := ⟨by decide, Or.inl (ws_3 232 rfl rfl)⟩
set_option maxRecDepth 100000 in
theorem ll_3_274 : Lp 3 (274, 59) := ⟨by decide, Or.inl (ws_3 236 rfl rfl)⟩
set_option maxRecDepth 100000 in
theorem ll_3_277 : Lp 3 (277, 58) := ⟨by decide, Or.inl (ws_4 3 rfl rfl)⟩
set_option maxRecDepth 100000 in
theorem ll_4_3 : Lp 4 (3, 1) := (show Jvm.Cond.methodLink (cnm 4) 3 Lib.objectInit ∈ WS from (ws_2 113 rfl rfl))
set_option maxRecDepth 100000 in
theorem ll_4_37 : Lp 4 (37, 170) := ⟨by decide, Or.inr (nw_of (tb_5 153 rfl))⟩
set_option maxRecDepth 100000 in
theorem ll_4_41 : Lp 4 (41, 65) := ⟨by decide, Or.inl (ws_5 154 rfl rfl)⟩
set_option maxRecDepth 100000 in
theorem ll_4_45 : Lp 4 (45, 306) := ⟨by decide, Or.inl (ws_5 158 rfl rfl)⟩
set_option maxRecDepth 100000 in
theorem ll_4_51 : Lp 4 (51, 171) := ⟨by decide, Or.inr (nw_of (tb_5 159 rfl))⟩
set_option maxRecDepth 100000 in
theorem ll_4_55 : Lp 4 (55, 66) := ⟨by decide, Or.inl (ws_5 160 rfl rfl)⟩
set_option maxRecDepth 100000 in
theorem ll_4_59 : Lp 4 (59, 67) := ⟨by decide, Or.inl (ws_5 163 rfl rfl)⟩
set_option maxRecDepth 100000 in
theorem ll_4_63 : Lp 4 (63, 304) := ⟨by decide, Or.inl (ws_5 174 rfl rfl)⟩
set_option maxRecDepth 100000 in
theorem ll_4_66 : Lp 4 (66, 308) := ⟨by decide, Or.inl (ws_5 175 rfl rfl)⟩
set_option maxRecDepth 100000 in
theorem ll_4_73 : Lp 4 (73, 309) := ⟨by decide, Or.inl (ws_5 168 rfl rfl)⟩
set_option maxRecDepth 100000 in
theorem ll_4_76 : Lp 4 (76, 307) := ⟨by decide, Or.inl (ws_5 171 rfl rfl)⟩
set_option maxRecDepth 100000 in
theorem ll_5_3 : Lp 5 (3, 1) := (show Jvm.Cond.methodLink (cnm 5) 3 Lib.objectInit ∈ WS from (ws_1 77 rfl rfl))
set_option maxRecDepth 100000 in
theorem ll_5_11 : Lp 5 (11, 15) := ⟨by decide, Or.inr (nw_of (tb_1 80 rfl))⟩
set_option maxRecDepth 100000 in
theorem ll_5_20 : Lp 5 (20, 10) := ⟨by decide, Or.inr (nw_of (tb_1 129 rfl))⟩
set_option maxRecDepth 100000 in
theorem ll_5_27 : Lp 5 (27, 96) := ⟨by decide, Or.inr (nw_of (tb_1 185 rfl))⟩
set_option maxRecDepth 100000 in
theorem ll_5_36 : Lp 5 (36, 306) := ⟨by decide, Or.inl (ws_1 228 rfl rfl)⟩
set_option maxRecDepth 100000 in
theorem ll_5_47 : Lp 5 (47, 17) := ⟨by decide, Or.inl (ws_1 233 rfl rfl)⟩
set_option maxRecDepth 100000 in
theorem ll_5_66 : Lp 5 (66, 16) := ⟨by decide, Or.inl (ws_4 214 rfl rfl)⟩
set_option maxRecDepth 100000 in
theorem ll_5_70 : Lp 5 (70, 18) := ⟨by decide, Or.inl (ws_4 220 rfl rfl)⟩
set_option maxRecDepth 100000 in
theorem ll_5_73 : Lp 5 (73, 169) := ⟨by decide, Or.inr (nw_of (tb_4 75 rfl))⟩
set_option maxRecDepth 100000 in
theorem ll_5_80 : Lp 5 (80, 170) := ⟨by decide, Or.inr (nw_of (tb_4 80 rfl))⟩
set_option maxRecDepth 100000 in
theorem ll_5_96 : Lp 5 (96, 74) := ⟨by decide, Or.inl (ws_4 85 rfl rfl)⟩
set_option maxRecDepth 100000 in
theorem ll_5_103 : Lp 5 (103, 173) := ⟨by decide, Or.inr (nw_of (tb_4 86 rfl))⟩
set_option maxRecDepth 100000 in
theorem ll_5_106 : Lp 5 (106, 76) := ⟨by decide, Or.inl (ws_4 135 rfl rfl)⟩
set_option maxRecDepth 100000 in
theorem ll_5_109 : Lp 5 (109, 75) := ⟨by decide, Or.inl (ws_5 198 rfl rfl)⟩
set_option maxRecDepth 100000 in
theorem ll_5_112 : Lp 5 (112, 20) := ⟨by decide, Or.inl (ws_4 140 rfl rfl)⟩
set_option maxRecDepth 100000 in
theorem ll_5_115 : Lp 5 (115, 77) := ⟨by decide, Or.inl (ws_4 141 rfl rfl)⟩
set_option maxRecDepth 100000 in
theorem ll_5_121 : Lp 5 (121, 171) := ⟨by decide, Or.inr (nw_of (tb_4 146 rfl))⟩
set_option maxRecDepth 100000 in
theorem ll_5_125 : Lp 5 (125, 174) := ⟨by decide, Or.inr (nw_of (tb_4 147 rfl))⟩
set_option maxRecDepth 100000 in
theorem ll_5_129 : Lp 5 (129, 11) := ⟨by decide, Or.inl (ws_4 93 rfl rfl)⟩
set_option maxRecDepth 100000 in
theorem ll_5_133 : Lp 5 (133, 14) := ⟨by decide, Or.inl (ws_4 114 rfl rfl)⟩
set_option maxRecDepth 100000 in
theorem ll_5_136 : Lp 5 (136, 81) := ⟨by decide, Or.inl (ws_4 178 rfl rfl)⟩
set_option maxRecDepth 100000 in
theorem ll_5_140 : Lp 5 (140, 82) := ⟨by decide, Or.inl (ws_4 191 rfl rfl)⟩
set_option maxRecDepth 100000 in
theorem ll_5_146 : Lp 5 (146, 87) := ⟨by decide, Or.inl (ws_4 200 rfl rfl)⟩
set_option maxRecDepth 100000 in
theorem ll_5_149 : Lp 5 (149, 90) := ⟨by decide, Or.inl (ws_4 229 rfl rfl)⟩
set_option maxRecDepth 100000 in
theorem ll_5_152 : Lp 5 (152, 88) := ⟨by decide, Or.inl (ws_4 233 rfl rfl)⟩
set_option maxRecDepth 100000 in
theorem ll_5_156 : Lp 5 (156, 91) := ⟨by decide, Or.inl (ws_4 234 rfl rfl)⟩
set_option maxRecDepth 100000 in
theorem ll_5_159 : Lp 5 (159, 92) := ⟨by decide, Or.inl (ws_4 238 rfl rfl)⟩
set_option maxRecDepth 100000 in
theorem ll_5_163 : Lp 5 (163, 93) := ⟨by decide, Or.inl (ws_5 90 rfl rfl)⟩
set_option maxRecDepth 100000 in
theorem ll_6_3 : Lp 6 (3, 1) := (show Jvm.Cond.methodLink (cnm 6) 3 Lib.objectInit ∈ WS from (ws_1 188 rfl rfl))
set_option maxRecDepth 100000 in
theorem ll_7_3 : Lp 7 (3, 1) := (show Jvm.Cond.methodLink (cnm 7) 3 Lib.objectInit ∈ WS from (ws_2 170 rfl rfl))
set_option maxRecDepth 100000 in
theorem ll_7_29 : Lp 7 (29, 2) := ⟨rfl, (ws_2 172 rfl rfl)⟩
set_option maxRecDepth 100000 in
theorem ll_7_35 : Lp 7 (35, 3) := ⟨rfl, (ws_2 182 rfl rfl)⟩
set_option maxRecDepth 100000 in
theorem ll_7_39 : Lp 7 (39, 98) := ⟨by decide, Or.inl (ws_2 220 rfl rfl)⟩
set_option maxRecDepth 100000 in
theorem ll_7_43 : Lp 7 (43, 171) := ⟨by decide, Or.inr (nw_of (tb_2 223 rfl))⟩
set_option maxRecDepth 100000 in
theorem ll_7_51 : Lp 7 (51, 170) := ⟨by decide, Or.inr (nw_of (tb_3 108 rfl))⟩
set_option maxRecDepth 100000 in
theorem ll_7_55 : Lp 7 (55, 102) := ⟨by decide, Or.inl (ws_3 111 rfl rfl)⟩
set_option maxRecDepth 100000 in
theorem ll_7_59 : Lp 7 (59, 103) := ⟨by decide, Or.inl (ws_3 120 rfl rfl)⟩
set_option maxRecDepth 100000 in
theorem ll_7_62 : Lp 7 (62, 306) := ⟨by decide, Or.inl (ws_3 137 rfl rfl)⟩
set_option maxRecDepth 100000 in
theorem ll_7_67 : Lp 7 (67, 100) := ⟨by decide, Or.inl (ws_3 114 rfl rfl)⟩
set_option maxRecDepth 100000 in
theorem ll_7_71 : Lp 7 (71, 101) := ⟨by decide, Or.inl (ws_3 117 rfl rfl)⟩
set_option maxRecDepth 100000 in
theorem ll_7_74 : Lp 7 (74, 104) := ⟨by decide, Or.inl (ws_3 124 rfl rfl)⟩
set_option maxRecDepth 100000 in
theorem ll_7_77 : Lp 7 (77, 105) := ⟨by decide, Or.inl (ws_3 128 rfl rfl)⟩
set_option maxRecDepth 100000 in
theorem ll_7_80 : Lp 7 (80, 175) := ⟨by decide, Or.inr (nw_of (tb_3 131 rfl))⟩
set_option maxRecDepth 100000 in
theorem ll_7_83 : Lp 7 (83, 106) := ⟨by decide, Or.inl (ws_3 134 rfl rfl)⟩
set_option maxRecDepth 100000 in
theorem ll_8_3 : Lp 8 (3, 1) := (show Jvm.Cond.methodLink (cnm 8) 3 Lib.objectInit ∈ WS from (ws_2 105 rfl rfl))
set_option maxRecDepth 100000 in
theorem ll_8_11 : Lp 8 (11, 68) := ⟨by decide, Or.inl (ws_2 107 rfl rfl)⟩
set_option maxRecDepth 100000 in
theorem ll_8_22 : Lp 8 (22, 60) := ⟨by decide, Or.inr (nw_of (tb_2 110 rfl))⟩
set_option maxRecDepth 100000 in
theorem ll_9_3 : Lp 9 (3, 1) := (show Jvm.Cond.methodLink (cnm 9) 3 Lib.objectInit ∈ WS from (ws_1 32 rfl rfl))
set_option maxRecDepth 100000 in
theorem ll_9_39 : Lp 9 (39, 310) := ⟨by decide, Or.inl (ws_4 36 rfl rfl)⟩
set_option maxRecDepth 100000 in
theorem ll_9_45 : Lp 9 (45, 110) := ⟨by decide, Or.inl (ws_4 39 rfl rfl)⟩
set_option maxRecDepth 100000 in
theorem ll_9_60 : Lp 9 (60, 113) := ⟨by decide, Or.inl (ws_5 119 rfl rfl)⟩
set_option maxRecDepth 100000 in
theorem ll_9_64 : Lp 9 (64, 115) := ⟨by decide, Or.inl (ws_5 136 rfl rfl)⟩
set_option maxRecDepth 100000 in
theorem ll_9_68 : Lp 9 (68, 117) := ⟨by decide, Or.inl (ws_5 184 rfl rfl)⟩
set_option maxRecDepth 100000 in
theorem ll_9_72 : Lp 9 (72, 119) := ⟨by decide, Or.inl (ws_5 200 rfl rfl)⟩
set_option maxRecDepth 100000 in
theorem ll_9_81 : Lp 9 (81, 120) := ⟨by decide, Or.inl (ws_5 205 rfl rfl)⟩
set_option maxRecDepth 100000 in
theorem ll_9_85 : Lp 9 (85, 121) := ⟨by decide, Or.inl (ws_5 209 rfl rfl)⟩
set_option maxRecDepth 100000 in
theorem ll_9_107 : Lp 9 (107, 170) := ⟨by decide, Or.inr (nw_of (tb_5 123 rfl))⟩
set_option maxRecDepth 100000 in
theorem ll_9_111 : Lp 9 (111, 114) := ⟨by decide, Or.inl (ws_5 124 rfl rfl)⟩
set_option maxRecDepth 100000 in
theorem ll_9_121 : Lp 9 (121, 171) := ⟨by decide, Or.inr (nw_of (tb_5 128 rfl))⟩
set_option maxRecDepth 100000 in
theorem ll_9_125 : Lp 9 (125, 112) := ⟨by decide, Or.inl (ws_5 129 rfl rfl)⟩
set_option maxRecDepth 100000 in
theorem ll_9_129 : Lp 9 (129, 116) := ⟨by decide, Or.inl (ws_5 140 rfl rfl)⟩
set_option maxRecDepth 100000 in
theorem ll_9_139 : Lp 9 (139, 63) := ⟨by decide, Or.inl (ws_5 149 rfl rfl)⟩
set_option maxRecDepth 100000 in
theorem ll_9_146 : Lp 9 (146, 64) := ⟨by decide, Or.inl (ws_5 178 rfl rfl)⟩
set_option maxRecDepth 100000 in
theorem ll_9_152 : Lp 9 (152, 308) := ⟨by decide, Or.inl (ws_5 182 rfl rfl)⟩
set_option maxRecDepth 100000 in
theorem ll_9_158 : Lp 9 (158, 306) := ⟨by decide, Or.inl (ws_5 183 rfl rfl)⟩
set_option maxRecDepth 100000 in
theorem ll_9_161 : Lp 9 (161, 20) := ⟨by decide, Or.inl (ws_5 144 rfl rfl)⟩
set_option maxRecDepth 100000 in
theorem ll_9_164 : Lp 9 (164, 21) := ⟨by decide, Or.inl (ws_5 145 rfl rfl)⟩
set_option maxRecDepth 100000 in
theorem ll_9_179 : Lp 9 (179, 118) := ⟨by decide, Or.inl (ws_5 188 rfl rfl)⟩
set_option maxRecDepth 100000 in
theorem ll_9_183 : Lp 9 (183, 76) := ⟨by decide, Or.inl (ws_5 192 rfl rfl)⟩
set_option maxRecDepth 100000 in
theorem ll_9_186 : Lp 9 (186, 75) := ⟨by decide, Or.inl (ws_5 193 rfl rfl)⟩
set_option maxRecDepth 100000 in
theorem ll_9_189 : Lp 9 (189, 78) := ⟨by decide, Or.inl (ws_5 194 rfl rfl)⟩
set_option maxRecDepth 100000 in
theorem ll_9_192 : Lp 9 (192, 77) := ⟨by decide, Or.inl (ws_5 199 rfl rfl)⟩
set_option maxRecDepth 100000 in
theorem ll_9_211 : Lp 9 (211, 74) := ⟨by decide, Or.inl (ws_5 213 rfl rfl)⟩
set_option maxRecDepth 100000 in
theorem ll_10_1 : Lp 10 (1, 1) := (show Jvm.Cond.methodLink (cnm 10) 1 Lib.objectInit ∈ WS from (ws_1 24 rfl rfl))
set_option maxRecDepth 100000 in
theorem ll_10_18 : Lp 10 (18, 108) := ⟨by decide, Or.inr (nw_of (tb_1 29 rfl))⟩
set_option maxRecDepth 100000 in
theorem ll_10_25 : Lp 10 (25, 68) := ⟨by decide, Or.inl (ws_1 74 rfl rfl)⟩
set_option maxRecDepth 100000 in
theorem ll_10_34 : Lp 10 (34, 107) := ⟨by decide, Or.inr (nw_of (tb_2 102 rfl))⟩
set_option maxRecDepth 100000 in
theorem ll_10_44 : Lp 10 (44, 25) := ⟨by decide, Or.inl (ws_2 161 rfl rfl)⟩
set_option maxRecDepth 100000 in
theorem ll_10_55 : Lp 10 (55, 124) := ⟨by decide, Or.inl (ws_3 80 rfl rfl)⟩
set_option maxRecDepth 100000 in
theorem ll_10_58 : Lp 10 (58, 27) := ⟨by decide, Or.inl (ws_3 92 rfl rfl)⟩
set_option maxRecDepth 100000 in
theorem ll_10_62 : Lp 10 (62, 29) := ⟨by decide, Or.inl (ws_3 138 rfl rfl)⟩
set_option maxRecDepth 100000 in
theorem ll_10_66 : Lp 10 (66, 41) := ⟨by decide, Or.inl (ws_3 147 rfl rfl)⟩
set_option maxRecDepth 100000 in
theorem ll_10_69 : Lp 10 (69, 28) := ⟨by decide, Or.inl (ws_4 31 rfl rfl)⟩
set_option maxRecDepth 100000 in
theorem ll_10_72 : Lp 10 (72, 109) := ⟨by decide, Or.inl (ws_4 32 rfl rfl)⟩
set_option maxRecDepth 100000 in
theorem ll_10_129 : Lp 10 (129, 20) := ⟨by decide, Or.inl (ws_4 51 rfl rfl)⟩
set_option maxRecDepth 100000 in
theorem ll_10_133 : Lp 10 (133, 169) := ⟨by decide, Or.inl (ws_4 60 rfl rfl)⟩
set_option maxRecDepth 100000 in
theorem ll_10_140 : Lp 10 (140, 170) := ⟨by decide, Or.inl (ws_4 63 rfl rfl)⟩
set_option maxRecDepth 100000 in
theorem ll_10_144 : Lp 10 (144, 172) := ⟨by decide, Or.inl (ws_4 64 rfl rfl)⟩
set_option maxRecDepth 100000 in
theorem ll_10_150 : Lp 10 (150, 71) := ⟨by decide, Or.inl (ws_4 71 rfl rfl)⟩
set_option maxRecDepth 100000 in
theorem ll_10_166 : Lp 10 (166, 74) := ⟨by decide, Or.inl (ws_4 76 rfl rfl)⟩
set_option maxRecDepth 100000 in
theorem ll_10_169 : Lp 10 (169, 76) := ⟨by decide, Or.inl (ws_4 81 rfl rfl)⟩
set_option maxRecDepth 100000 in
theorem ll_10_178 : Lp 10 (178, 87) := ⟨by decide, Or.inl (ws_4 89 rfl rfl)⟩
set_option maxRecDepth 100000 in
theorem ll_10_193 : Lp 10 (193, 77) := ⟨by decide, Or.inl (ws_4 131 rfl rfl)⟩
set_option maxRecDepth 100000 in
theorem ll_10_196 : Lp 10 (196, 79) := ⟨by decide, Or.inl (ws_4 136 rfl rfl)⟩
set_option maxRecDepth 100000 in
theorem ll_10_199 : Lp 10 (199, 80) := ⟨by decide, Or.inl (ws_4 142 rfl rfl)⟩
set_option maxRecDepth 100000 in
theorem ll_10_202 : Lp 10 (202, 72) := ⟨by decide, Or.inl (ws_4 152 rfl rfl)⟩
set_option maxRecDepth 100000 in
theorem ll_10_205 : Lp 10 (205, 171) := ⟨by decide, Or.inl (ws_4 156 rfl rfl)⟩
set_option maxRecDepth 100000 in
theorem ll_10_209 : Lp 10 (209, 73) := ⟨by decide, Or.inl (ws_4 161 rfl rfl)⟩
set_option maxRecDepth 100000 in
theorem ll_10_213 : Lp 10 (213, 82) := ⟨by decide, Or.inl (ws_4 174 rfl rfl)⟩
set_option maxRecDepth 100000 in
theorem ll_10_216 : Lp 10 (216, 81) := ⟨by decide, Or.inl (ws_4 182 rfl rfl)⟩
set_option maxRecDepth 100000 in
theorem ll_10_220 : Lp 10 (220, 83) := ⟨by decide, Or.inl (ws_4 187 rfl rfl)⟩
set_option maxRecDepth 100000 in
theorem ll_10_224 : Lp 10 (224, 88) := ⟨by decide, Or.inl (ws_4 196 rfl rfl)⟩
set_option maxRecDepth 100000 in
theorem ll_10_227 : Lp 10 (227, 306) := ⟨by decide, Or.inl (ws_4 205 rfl rfl)⟩
set_option maxRecDepth 100000 in
theorem ll_10_232 : Lp 10 (232, 70) := ⟨by decide, Or.inl (ws_4 210 rfl rfl)⟩
set_option maxRecDepth 100000 in
theorem ll_10_236 : Lp 10 (236, 89) := ⟨by decide, Or.inl (ws_4 225 rfl rfl)⟩
set_option maxRecDepth 100000 in
theorem ll_10_239 : Lp 10 (239, 86) := ⟨by decide, Or.inl (ws_5 6 rfl rfl)⟩
set_option maxRecDepth 100000 in
theorem ll_10_242 : Lp 10 (242, 143) := ⟨by decide, Or.inl (ws_5 14 rfl rfl)⟩
set_option maxRecDepth 100000 in
theorem ll_10_245 : Lp 10 (245, 144) := ⟨by decide, Or.inl (ws_5 18 rfl rfl)⟩
set_option maxRecDepth 100000 in
theorem ll_10_249 : Lp 10 (249, 19) := ⟨by decide, Or.inl (ws_5 22 rfl rfl)⟩
set_option maxRecDepth 100000 in
theorem ll_10_252 : Lp 10 (252, 85) := ⟨by decide, Or.inl (ws_5 34 rfl rfl)⟩
set_option maxRecDepth 100000 in
theorem ll_10_255 : Lp 10 (255, 147) := ⟨by decide, Or.inl (ws_5 42 rfl rfl)⟩
set_option maxRecDepth 100000 in
theorem ll_10_258 : Lp 10 (258, 84) := ⟨by decide, Or.inl (ws_5 50 rfl rfl)⟩
set_option maxRecDepth 100000 in
theorem ll_10_261 : Lp 10 (261, 23) := ⟨by decide, Or.inl (ws_5 54 rfl rfl)⟩
set_option maxRecDepth 100000 in
theorem ll_10_264 : Lp 10 (264, 24) := ⟨by decide, Or.inl (ws_5 58 rfl rfl)⟩
set_option maxRecDepth 100000 in
theorem ll_10_267 : Lp 10 (267, 22) := ⟨by decide, Or.inl (ws_5 46 rfl rfl)⟩
set_option maxRecDepth 100000 in
theorem ll_10_276 : Lp 10 (276, 93) := ⟨by decide, Or.inl (ws_5 78 rfl rfl)⟩
set_option maxRecDepth 100000 in
theorem ll_10_279 : Lp 10 (279, 94) := ⟨by decide, Or.inl (ws_5 86 rfl rfl)⟩
set_option maxRecDepth 100000 in
theorem ll_10_282 : Lp 10 (282, 95) := ⟨by decide, Or.inl (ws_5 103 rfl rfl)⟩
set_option maxRecDepth 100000 in
theorem ll_10_288 : Lp 10 (288, 111) := ⟨by decide, Or.inl (ws_5 115 rfl rfl)⟩
set_option maxRecDepth 100000 in
theorem ll_10_301 : Lp 10 (301, 162) := ⟨by decide, Or.inl (ws_5 230 rfl rfl)⟩
set_option maxRecDepth 100000 in
theorem ll_10_304 : Lp 10 (304, 163) := ⟨by decide, Or.inl (ws_5 234 rfl rfl)⟩
set_option maxRecDepth 100000 in
theorem ll_10_307 : Lp 10 (307, 168) := ⟨by decide, Or.inl (ws_5 238 rfl rfl)⟩
set_option maxRecDepth 100000 in
theorem ll_10_310 : Lp 10 (310, 166) := ⟨by decide, Or.inl (ws_6 9 rfl rfl)⟩
set_option maxRecDepth 100000 in
theorem ll_10_313 : Lp 10 (313, 167) := ⟨by decide, Or.inl (ws_6 13 rfl rfl)⟩
set_option maxRecDepth 100000 in
theorem ll_10_316 : Lp 10 (316, 110) := ⟨by decide, Or.inl (ws_6 17 rfl rfl)⟩
set_option maxRecDepth 100000 in
theorem ll_10_319 : Lp 10 (319, 305) := ⟨by decide, Or.inl (ws_4 121 rfl rfl)⟩
set_option maxRecDepth 100000 in
theorem ll_11_1 : Lp 11 (1, 1) := (show Jvm.Cond.methodLink (cnm 11) 1 Lib.objectInit ∈ WS from (ws_6 23 rfl rfl))
set_option maxRecDepth 100000 in
theorem ll_11_236 : Lp 11 (236, 183) := ⟨by decide, Or.inl (ws_7 85 rfl rfl)⟩
set_option maxRecDepth 100000 in
theorem ll_11_240 : Lp 11 (240, 181) := ⟨by decide, Or.inl (ws_7 105 rfl rfl)⟩
set_option maxRecDepth 100000 in
theorem ll_11_247 : Lp 11 (247, 184) := ⟨by decide, Or.inl (ws_7 101 rfl rfl)⟩
set_option maxRecDepth 100000 in
theorem ll_11_251 : Lp 11 (251, 185) := ⟨by decide, Or.inl (ws_7 97 rfl rfl)⟩
set_option maxRecDepth 100000 in
theorem ll_11_254 : Lp 11 (254, 180) := ⟨by decide, Or.inl (ws_7 93 rfl rfl)⟩
set_option maxRecDepth 100000 in
theorem ll_11_258 : Lp 11 (258, 187) := ⟨by decide, Or.inl (ws_7 192 rfl rfl)⟩
set_option maxRecDepth 100000 in
theorem ll_11_261 : Lp 11 (261, 182) := ⟨by decide, Or.inl (ws_7 112 rfl rfl)⟩
set_option maxRecDepth 100000 in
theorem ll_11_264 : Lp 11 (264, 177) := ⟨by decide, Or.inl (ws_7 115 rfl rfl)⟩
set_option maxRecDepth 100000 in
theorem ll_11_268 : Lp 11 (268, 190) := ⟨by decide, Or.inl (ws_7 134 rfl rfl)⟩
set_option maxRecDepth 100000 in
theorem ll_11_285 : Lp 11 (285, 191) := ⟨by decide, Or.inl (ws_7 130 rfl rfl)⟩
set_option maxRecDepth 100000 in
theorem ll_11_289 : Lp 11 (289, 193) := ⟨by decide, Or.inl (ws_7 140 rfl rfl)⟩
set_option maxRecDepth 100000 in
theorem ll_11_293 : Lp 11 (293, 196) := ⟨by decide, Or.inl (ws_7 122 rfl rfl)⟩
set_option maxRecDepth 100000 in
theorem ll_11_297 : Lp 11 (297, 194) := ⟨by decide, Or.inl (ws_7 126 rfl rfl)⟩
set_option maxRecDepth 100000 in
theorem ll_11_301 : Lp 11 (301, 186) := ⟨by decide, Or.inl (ws_7 144 rfl rfl)⟩
set_option maxRecDepth 100000 in
theorem ll_11_305 : Lp 11 (305, 189) := ⟨by decide, Or.inl (ws_7 108 rfl rfl)⟩
set_option maxRecDepth 100000 in
theorem ll_11_309 : Lp 11 (309, 195) := ⟨by decide, Or.inl (ws_7 156 rfl rfl)⟩
set_option maxRecDepth 100000 in
theorem ll_11_312 : Lp 11 (312, 201) := ⟨by decide, Or.inl (ws_7 168 rfl rfl)⟩
set_option maxRecDepth 100000 in
theorem ll_11_321 : Lp 11 (321, 197) := ⟨by decide, Or.inl (ws_7 118 rfl rfl)⟩
set_option maxRecDepth 100000 in
theorem ll_11_325 : Lp 11 (325, 198) := ⟨by decide, Or.inl (ws_7 148 rfl rfl)⟩
set_option maxRecDepth 100000 in
theorem ll_11_328 : Lp 11 (328, 199) := ⟨by decide, Or.inl (ws_7 152 rfl rfl)⟩
set_option maxRecDepth 100000 in
theorem ll_11_331 : Lp 11 (331, 200) := ⟨by decide, Or.inl (ws_7 160 rfl rfl)⟩
set_option maxRecDepth 100000 in
theorem ll_11_334 : Lp 11 (334, 202) := ⟨by decide, Or.inl (ws_7 164 rfl rfl)⟩
set_option maxRecDepth 100000 in
theorem ll_11_337 : Lp 11 (337, 221) := ⟨by decide, Or.inl (ws_7 172 rfl rfl)⟩
set_option maxRecDepth 100000 in
theorem ll_11_340 : Lp 11 (340, 188) := ⟨by decide, Or.inl (ws_7 188 rfl rfl)⟩
set_option maxRecDepth 100000 in
theorem ll_11_343 : Lp 11 (343, 192) := ⟨by decide, Or.inl (ws_7 81 rfl rfl)⟩
set_option maxRecDepth 100000 in
theorem ll_11_346 : Lp 11 (346, 203) := ⟨by decide, Or.inl (ws_7 89 rfl rfl)⟩
set_option maxRecDepth 100000 in
theorem ll_11_352 : Lp 11 (352, 205) := ⟨by decide, Or.inl (ws_8 4 rfl rfl)⟩
set_option maxRecDepth 100000 in
theorem ll_11_376 : Lp 11 (376, 206) := ⟨by decide, Or.inl (ws_7 196 rfl rfl)⟩
set_option maxRecDepth 100000 in
theorem ll_11_382 : Lp 11 (382, 210) := ⟨by decide, Or.inl (ws_7 208 rfl rfl)⟩
set_option maxRecDepth 100000 in
theorem ll_11_385 : Lp 11 (385, 209) := ⟨by decide, Or.inl (ws_7 216 rfl rfl)⟩
set_option maxRecDepth 100000 in
theorem ll_11_388 : Lp 11 (388, 207) := ⟨by decide, Or.inl (ws_7 184 rfl rfl)⟩
set_option maxRecDepth 100000 in
theorem ll_11_391 : Lp 11 (391, 211) := ⟨by decide, Or.inl (ws_7 204 rfl rfl)⟩
set_option maxRecDepth 100000 in
theorem ll_11_394 : Lp 11 (394, 212) := ⟨by decide, Or.inl (ws_7 212 rfl rfl)⟩
set_option maxRecDepth 100000 in
theorem ll_11_397 : Lp 11 (397, 208) := ⟨by decide, Or.inl (ws_7 220 rfl rfl)⟩
set_option maxRecDepth 100000 in
theorem ll_11_400 : Lp 11 (400, 213) := ⟨by decide, Or.inl (ws_7 180 rfl rfl)⟩
set_option maxRecDepth 100000 in
theorem ll_11_403 : Lp 11 (403, 214) := ⟨by decide, Or.inl (ws_7 200 rfl rfl)⟩
set_option maxRecDepth 100000 in
theorem ll_11_406 : Lp 11 (406, 215) := ⟨by decide, Or.inl (ws_7 176 rfl rfl)⟩
set_option maxRecDepth 100000 in
theorem ll_11_409 : Lp 11 (409, 216) := ⟨by decide, Or.inl (ws_7 228 rfl rfl)⟩
set_option maxRecDepth 100000 in
theorem ll_11_412 : Lp 11 (412, 218) := ⟨by decide, Or.inl (ws_7 232 rfl rfl)⟩
set_option maxRecDepth 100000 in
theorem ll_11_415 : Lp 11 (415, 220) := ⟨by decide, Or.inl (ws_7 236 rfl rfl)⟩
set_option maxRecDepth 100000 in
theorem ll_11_418 : Lp 11 (418, 217) := ⟨by decide, Or.inl (ws_8 0 rfl rfl)⟩
set_option maxRecDepth 100000 in
theorem ll_11_421 : Lp 11 (421, 219) := ⟨by decide, Or.inl (ws_7 224 rfl rfl)⟩
set_option maxRecDepth 100000 in
theorem ll_11_424 : Lp 11 (424, 223) := ⟨by decide, Or.inl (ws_8 16 rfl rfl)⟩
set_option maxRecDepth 100000 in
theorem ll_11_427 : Lp 11 (427, 224) := ⟨by decide, Or.inl (ws_8 106 rfl rfl)⟩
set_option maxRecDepth 100000 in
theorem ll_11_434 : Lp 11 (434, 229) := ⟨by decide, Or.inl (ws_8 38 rfl rfl)⟩
set_option maxRecDepth 100000 in
theorem ll_11_437 : Lp 11 (437, 231) := ⟨by decide, Or.inl (ws_8 34 rfl rfl)⟩
set_option maxRecDepth 100000 in
theorem ll_11_440 : Lp 11 (440, 230) := ⟨by decide, Or.inl (ws_8 46 rfl rfl)⟩
set_option maxRecDepth 100000 in
theorem ll_11_443 : Lp 11 (443, 232) := ⟨by decide, Or.inl (ws_8 42 rfl rfl)⟩
set_option maxRecDepth 100000 in
theorem ll_11_446 : Lp 11 (446, 234) := ⟨by decide, Or.inl (ws_8 78 rfl rfl)⟩
set_option maxRecDepth 100000 in
theorem ll_11_449 : Lp 11 (449, 235) := ⟨by decide, Or.inl (ws_8 82 rfl rfl)⟩
set_option maxRecDepth 100000 in
theorem ll_11_454 : Lp 11 (454, 237) := ⟨by decide, Or.inl (ws_8 74 rfl rfl)⟩
set_option maxRecDepth 100000 in
theorem ll_11_457 : Lp 11 (457, 238) := ⟨by decide, Or.inl (ws_8 86 rfl rfl)⟩
set_option maxRecDepth 100000 in
theorem ll_11_460 : Lp 11 (460, 236) := ⟨by decide, Or.inl (ws_8 91 rfl rfl)⟩
set_option maxRecDepth 100000 in
theorem ll_11_463 : Lp 11 (463, 240) := ⟨by decide, Or.inl (ws_8 95 rfl rfl)⟩
set_option maxRecDepth 100000 in
theorem ll_11_466 : Lp 11 (466, 233) := ⟨by decide, Or.inl (ws_8 50 rfl rfl)⟩
set_option maxRecDepth 100000 in
theorem ll_11_469 : Lp 11 (469, 239) := ⟨by decide, Or.inl (ws_8 66 rfl rfl)⟩
set_option maxRecDepth 100000 in
theorem ll_11_472 : Lp 11 (472, 241) := ⟨by decide, Or.inl (ws_8 70 rfl rfl)⟩
set_option maxRecDepth 100000 in
theorem ll_11_475 : Lp 11 (475, 242) := ⟨by decide, Or.inl (ws_8 62 rfl rfl)⟩
set_option maxRecDepth 100000 in
theorem ll_11_478 : Lp 11 (478, 243) := ⟨by decide, Or.inl (ws_8 58 rfl rfl)⟩
set_option maxRecDepth 100000 in
theorem ll_11_481 : Lp 11 (481, 225) := ⟨by decide, Or.inl (ws_8 30 rfl rfl)⟩
set_option maxRecDepth 100000 in
theorem ll_11_484 : Lp 11 (484, 244) := ⟨by decide, Or.inl (ws_8 54 rfl rfl)⟩
set_option maxRecDepth 100000 in
theorem ll_11_487 : Lp 11 (487, 226) := ⟨by decide, Or.inl (ws_8 102 rfl rfl)⟩
set_option maxRecDepth 100000 in
theorem ll_11_491 : Lp 11 (491, 251) := ⟨by decide, Or.inl (ws_8 131 rfl rfl)⟩
set_option maxRecDepth 100000 in
theorem ll_11_494 : Lp 11 (494, 253) := ⟨by decide, Or.inl (ws_8 144 rfl rfl)⟩
set_option maxRecDepth 100000 in
theorem ll_11_499 : Lp 11 (499, 254) := ⟨by decide, Or.inl (ws_8 140 rfl rfl)⟩
set_option maxRecDepth 100000 in
theorem ll_11_502 : Lp 11 (502, 257) := ⟨by decide, Or.inl (ws_8 156 rfl rfl)⟩
set_option maxRecDepth 100000 in
theorem ll_11_505 : Lp 11 (505, 258) := ⟨by decide, Or.inl (ws_8 160 rfl rfl)⟩
set_option maxRecDepth 100000 in
theorem ll_11_514 : Lp 11 (514, 262) := ⟨by decide, Or.inl (ws_8 172 rfl rfl)⟩
set_option maxRecDepth 100000 in
theorem ll_11_519 : Lp 11 (519, 261) := ⟨by decide, Or.inl (ws_8 177 rfl rfl)⟩
set_option maxRecDepth 100000 in
theorem ll_11_527 : Lp 11 (527, 269) := ⟨by decide, Or.inl (ws_8 207 rfl rfl)⟩
set_option maxRecDepth 100000 in
theorem ll_11_530 : Lp 11 (530, 271) := ⟨by decide, Or.inl (ws_8 215 rfl rfl)⟩
set_option maxRecDepth 100000 in
theorem ll_11_533 : Lp 11 (533, 276) := ⟨by decide, Or.inl (ws_8 235 rfl rfl)⟩
set_option maxRecDepth 100000 in
theorem ll_11_543 : Lp 11 (543, 278) := ⟨by decide, Or.inl (ws_9 51 rfl rfl)⟩
set_option maxRecDepth 100000 in
theorem ll_11_547 : Lp 11 (547, 280) := ⟨by decide, Or.inl (ws_9 35 rfl rfl)⟩
set_option maxRecDepth 100000 in
theorem ll_11_551 : Lp 11 (551, 279) := ⟨by decide, Or.inl (ws_9 56 rfl rfl)⟩
set_option maxRecDepth 100000 in
theorem ll_11_563 : Lp 11 (563, 283) := ⟨by decide, Or.inl (ws_9 43 rfl rfl)⟩
set_option maxRecDepth 100000 in
theorem ll_11_566 : Lp 11 (566, 281) := ⟨by decide, Or.inl (ws_9 47 rfl rfl)⟩
set_option maxRecDepth 100000 in
theorem ll_11_580 : Lp 11 (580, 285) := ⟨by decide, Or.inl (ws_9 19 rfl rfl)⟩
set_option maxRecDepth 100000 in
theorem ll_11_583 : Lp 11 (583, 286) := ⟨by decide, Or.inl (ws_9 15 rfl rfl)⟩
set_option maxRecDepth 100000 in
theorem ll_11_586 : Lp 11 (586, 282) := ⟨by decide, Or.inl (ws_9 31 rfl rfl)⟩
set_option maxRecDepth 100000 in
theorem ll_11_593 : Lp 11 (593, 287) := ⟨by decide, Or.inl (ws_9 11 rfl rfl)⟩
set_option maxRecDepth 100000 in
theorem ll_11_596 : Lp 11 (596, 288) := ⟨by decide, Or.inl (ws_9 27 rfl rfl)⟩
set_option maxRecDepth 100000 in
theorem ll_11_599 : Lp 11 (599, 289) := ⟨by decide, Or.inl (ws_9 59 rfl rfl)⟩
set_option maxRecDepth 100000 in
theorem ll_11_602 : Lp 11 (602, 290) := ⟨by decide, Or.inl (ws_9 63 rfl rfl)⟩
set_option maxRecDepth 100000 in
theorem ll_11_606 : Lp 11 (606, 291) := ⟨by decide, Or.inl (ws_9 7 rfl rfl)⟩
set_option maxRecDepth 100000 in
theorem ll_11_612 : Lp 11 (612, 296) := ⟨by decide, Or.inl (ws_9 84 rfl rfl)⟩
set_option maxRecDepth 100000 in
theorem ll_11_615 : Lp 11 (615, 297) := ⟨by decide, Or.inl (ws_9 88 rfl rfl)⟩
set_option maxRecDepth 100000 in
theorem ll_11_618 : Lp 11 (618, 298) := ⟨by decide, Or.inl (ws_9 92 rfl rfl)⟩
set_option maxRecDepth 100000 in
theorem ll_11_622 : Lp 11 (622, 301) := ⟨by decide, Or.inl (ws_9 107 rfl rfl)⟩
set_option maxRecDepth 100000 in
theorem ll_11_625 : Lp 11 (625, 302) := ⟨by decide, Or.inl (ws_9 103 rfl rfl)⟩
set_option maxRecDepth 100000 in
theorem ll_12_9 : Lp 12 (9, 122) := ⟨by decide, Or.inl (ws_1 21 rfl rfl)⟩
set_option maxRecDepth 100000 in
theorem ll_12_12 : Lp 12 (12, 176) := ⟨by decide, Or.inl (ws_6 20 rfl rfl)⟩
set_option maxRecDepth 100000 in
theorem ll_12_13 : Lp 12 (13, 123) := ⟨by decide, Or.inl (ws_3 76 rfl rfl)⟩
set_option maxRecDepth 100000 in
theorem ll_12_17 : Lp 12 (17, 178) := ⟨by decide, Or.inl (ws_7 69 rfl rfl)⟩
set_option maxRecDepth 100000 in
theorem ll_12_18 : Lp 12 (18, 125) := ⟨by decide, Or.inl (ws_3 84 rfl rfl)⟩
set_option maxRecDepth 100000 in
theorem ll_12_22 : Lp 12 (22, 179) := ⟨by decide, Or.inl (ws_7 73 rfl rfl)⟩
set_option maxRecDepth 100000 in
theorem ll_12_23 : Lp 12 (23, 126) := ⟨by decide, Or.inl (ws_3 88 rfl rfl)⟩
set_option maxRecDepth 100000 in
theorem ll_12_27 : Lp 12 (27, 204) := ⟨by decide, Or.inl (ws_7 77 rfl rfl)⟩
set_option maxRecDepth 100000 in
theorem ll_12_28 : Lp 12 (28, 127) := ⟨by decide, Or.inl (ws_4 43 rfl rfl)⟩
set_option maxRecDepth 100000 in
theorem ll_12_32 : Lp 12 (32, 222) := ⟨by decide, Or.inl (ws_8 8 rfl rfl)⟩
set_option maxRecDepth 100000 in
theorem ll_12_33 : Lp 12 (33, 128) := ⟨by decide, Or.inl (ws_4 47 rfl rfl)⟩
set_option maxRecDepth 100000 in
theorem ll_12_36 : Lp 12 (36, 227) := ⟨by decide, Or.inl (ws_8 12 rfl rfl)⟩
set_option maxRecDepth 100000 in
theorem ll_12_37 : Lp 12 (37, 129) := ⟨by decide, Or.inl (ws_4 56 rfl rfl)⟩
set_option maxRecDepth 100000 in
theorem ll_12_41 : Lp 12 (41, 228) := ⟨by decide, Or.inl (ws_8 20 rfl rfl)⟩
set_option maxRecDepth 100000 in
theorem ll_12_42 : Lp 12 (42, 130) := ⟨by decide, Or.inl (ws_4 67 rfl rfl)⟩
set_option maxRecDepth 100000 in
theorem ll_12_46 : Lp 12 (46, 245) := ⟨by decide, Or.inl (ws_8 26 rfl rfl)⟩
set_option maxRecDepth 100000 in
theorem ll_12_47 : Lp 12 (47, 131) := ⟨by decide, Or.inl (ws_4 127 rfl rfl)⟩
set_option maxRecDepth 100000 in
theorem ll_12_50 : Lp 12 (50, 246) := ⟨by decide, Or.inl (ws_8 98 rfl rfl)⟩
set_option maxRecDepth 100000 in
theorem ll_12_51 : Lp 12 (51, 132) := ⟨by decide, Or.inl (ws_4 148 rfl rfl)⟩
set_option maxRecDepth 100000 in
theorem ll_12_54 : Lp 12 (54, 247) := ⟨by decide, Or.inl (ws_8 110 rfl rfl)⟩
set_option maxRecDepth 100000 in
theorem ll_12_55 : Lp 12 (55, 133) := ⟨by decide, Or.inl (ws_4 157 rfl rfl)⟩
set_option maxRecDepth 100000 in
theorem ll_12_59 : Lp 12 (59, 248) := ⟨by decide, Or.inl (ws_8 114 rfl rfl)⟩
set_option maxRecDepth 100000 in
theorem ll_12_60 : Lp 12 (60, 134) := ⟨by decide, Or.inl (ws_4 165 rfl rfl)⟩
set_option maxRecDepth 100000 in
theorem ll_12_63 : Lp 12 (63, 249) := ⟨by decide, Or.inl (ws_8 118 rfl rfl)⟩
set_option maxRecDepth 100000 in
theorem ll_12_64 : Lp 12 (64, 135) := ⟨by decide, Or.inl (ws_4 169 rfl rfl)⟩
set_option maxRecDepth 100000 in
theorem ll_12_67 : Lp 12 (67, 250) := ⟨by decide, Or.inl (ws_8 122 rfl rfl)⟩
set_option maxRecDepth 100000 in
theorem ll_12_68 : Lp 12 (68, 136) := ⟨by decide, Or.inl (ws_4 183 rfl rfl)⟩
set_option maxRecDepth 100000 in
theorem ll_12_71 : Lp 12 (71, 252) := ⟨by decide, Or.inl (ws_8 127 rfl rfl)⟩
set_option maxRecDepth 100000 in
theorem ll_12_72 : Lp 12 (72, 137) := ⟨by decide, Or.inl (ws_4 192 rfl rfl)⟩
set_option maxRecDepth 100000 in
theorem ll_12_75 : Lp 12 (75, 255) := ⟨by decide, Or.inl (ws_8 135 rfl rfl)⟩
set_option maxRecDepth 100000 in
theorem ll_12_76 : Lp 12 (76, 138) := ⟨by decide, Or.inl (ws_4 201 rfl rfl)⟩
set_option maxRecDepth 100000 in
theorem ll_12_79 : Lp 12 (79, 256) := ⟨by decide, Or.inl (ws_8 148 rfl rfl)⟩
set_option maxRecDepth 100000 in
theorem ll_12_80 : Lp 12 (80, 139) := ⟨by decide, Or.inl (ws_4 206 rfl rfl)⟩
set_option maxRecDepth 100000 in
theorem ll_12_83 : Lp 12 (83, 259) := ⟨by decide, Or.inl (ws_8 152 rfl rfl)⟩
set_option maxRecDepth 100000 in
theorem ll_12_84 : Lp 12 (84, 140) := ⟨by decide, Or.inl (ws_5 2 rfl rfl)⟩
set_option maxRecDepth 100000 in
theorem ll_12_87 : Lp 12 (87, 260) := ⟨by decide, Or.inl (ws_8 164 rfl rfl)⟩
set_option maxRecDepth 100000 in
theorem ll_12_88 : Lp 12 (88, 141) := ⟨by decide, Or.inl (ws_5 10 rfl rfl)⟩
set_option maxRecDepth 100000 in
theorem ll_12_92 : Lp 12 (92, 263) := ⟨by decide, Or.inl (ws_8 168 rfl rfl)⟩
set_option maxRecDepth 100000 in
theorem ll_12_93 : Lp 12 (93, 142) := ⟨by decide, Or.inl (ws_5 26 rfl rfl)⟩
set_option maxRecDepth 100000 in
theorem ll_12_96 : Lp 12 (96, 264) := ⟨by decide, Or.inl (ws_8 181 rfl rfl)⟩
set_option maxRecDepth 100000 in
theorem ll_12_97 : Lp 12 (97, 145) := ⟨by decide, Or.inl (ws_5 30 rfl rfl)⟩
set_option maxRecDepth 100000 in
theorem ll_12_100 : Lp 12 (100, 265) := ⟨by decide, Or.inl (ws_8 185 rfl rfl)⟩
set_option maxRecDepth 100000 in
theorem ll_12_101 : Lp 12 (101, 146) := ⟨by decide, Or.inl (ws_5 38 rfl rfl)⟩
set_option maxRecDepth 100000 in
theorem ll_12_104 : Lp 12 (104, 266) := ⟨by decide, Or.inl (ws_8 190 rfl rfl)⟩
set_option maxRecDepth 100000 in
theorem ll_12_105 : Lp 12 (105, 148) := ⟨by decide, Or.inl (ws_5 62 rfl rfl)⟩
set_option maxRecDepth 100000 in
theorem ll_12_108 : Lp 12 (108, 267) := ⟨by decide, Or.inl (ws_8 195 rfl rfl)⟩
set_option maxRecDepth 100000 in
theorem ll_12_109 : Lp 12 (109, 149) := ⟨by decide, Or.inl (ws_5 66 rfl rfl)⟩
set_option maxRecDepth 100000 in
theorem ll_12_112 : Lp 12 (112, 268) := ⟨by decide, Or.inl (ws_8 199 rfl rfl)⟩
set_option maxRecDepth 100000 in
theorem ll_12_113 : Lp 12 (113, 150) := ⟨by decide, Or.inl (ws_5 70 rfl rfl)⟩
set_option maxRecDepth 100000 in
theorem ll_12_116 : Lp 12 (116, 270) := ⟨by decide, Or.inl (ws_8 203 rfl rfl)⟩
set_option maxRecDepth 100000 in
theorem ll_12_117 : Lp 12 (117, 151) := ⟨by decide, Or.inl (ws_5 74 rfl rfl)⟩
set_option maxRecDepth 100000 in
theorem ll_12_120 : Lp 12 (120, 272) := ⟨by decide, Or.inl (ws_8 211 rfl rfl)⟩
set_option maxRecDepth 100000 in
theorem ll_12_121 : Lp 12 (121, 152) := ⟨by decide, Or.inl (ws_5 82 rfl rfl)⟩
set_option maxRecDepth 100000 in
theorem ll_12_124 : Lp 12 (124, 273) := ⟨by decide, Or.inl (ws_8 219 rfl rfl)⟩
set_option maxRecDepth 100000 in
theorem ll_12_125 : Lp 12 (125, 153) := ⟨by decide, Or.inl (ws_5 91 rfl rfl)⟩
set_option maxRecDepth 100000 in
theorem ll_12_128 : Lp 12 (128, 274) := ⟨by decide, Or.inl (ws_8 223 rfl rfl)⟩
set_option maxRecDepth 100000 in
theorem ll_12_129 : Lp 12 (129, 154) := ⟨by decide, Or.inl (ws_5 95 rfl rfl)⟩
set_option maxRecDepth 100000 in
theorem ll_12_132 : Lp 12 (132, 275) := ⟨by decide, Or.inl (ws_8 227 rfl rfl)⟩
set_option maxRecDepth 100000 in
theorem ll_12_133 : Lp 12 (133, 155) := ⟨by decide, Or.inl (ws_5 99 rfl rfl)⟩
set_option maxRecDepth 100000 in
theorem ll_12_136 : Lp 12 (136, 277) := ⟨by decide, Or.inl (ws_8 231 rfl rfl)⟩
set_option maxRecDepth 100000 in
theorem ll_12_137 : Lp 12 (137, 156) := ⟨by decide, Or.inl (ws_5 107 rfl rfl)⟩
set_option maxRecDepth 100000 in
theorem ll_12_140 : Lp 12 (140, 284) := ⟨by decide, Or.inl (ws_8 239 rfl rfl)⟩
set_option maxRecDepth 100000 in
theorem ll_12_141 : Lp 12 (141, 157) := ⟨by decide, Or.inl (ws_5 111 rfl rfl)⟩
set_option maxRecDepth 100000 in
theorem ll_12_144 : Lp 12 (144, 292) := ⟨by decide, Or.inl (ws_9 3 rfl rfl)⟩
set_option maxRecDepth 100000 in
theorem ll_12_145 : Lp 12 (145, 158) := ⟨by decide, Or.inl (ws_5 214 rfl rfl)⟩
set_option maxRecDepth 100000 in
theorem ll_12_148 : Lp 12 (148, 293) := ⟨by decide, Or.inl (ws_9 68 rfl rfl)⟩
set_option maxRecDepth 100000 in
theorem ll_12_149 : Lp 12 (149, 159) := ⟨by decide, Or.inl (ws_5 218 rfl rfl)⟩
set_option maxRecDepth 100000 in
theorem ll_12_152 : Lp 12 (152, 294) := ⟨by decide, Or.inl (ws_9 72 rfl rfl)⟩
set_option maxRecDepth 100000 in
theorem ll_12_153 : Lp 12 (153, 160) := ⟨by decide, Or.inl (ws_5 222 rfl rfl)⟩
set_option maxRecDepth 100000 in
theorem ll_12_156 : Lp 12 (156, 295) := ⟨by decide, Or.inl (ws_9 76 rfl rfl)⟩
set_option maxRecDepth 100000 in
theorem ll_12_157 : Lp 12 (157, 161) := ⟨by decide, Or.inl (ws_5 226 rfl rfl)⟩
set_option maxRecDepth 100000 in
theorem ll_12_160 : Lp 12 (160, 299) := ⟨by decide, Or.inl (ws_9 80 rfl rfl)⟩
set_option maxRecDepth 100000 in
theorem ll_12_161 : Lp 12 (161, 164) := ⟨by decide, Or.inl (ws_6 1 rfl rfl)⟩
set_option maxRecDepth 100000 in
theorem ll_12_164 : Lp 12 (164, 300) := ⟨by decide, Or.inl (ws_9 95 rfl rfl)⟩
set_option maxRecDepth 100000 in
theorem ll_12_165 : Lp 12 (165, 165) := ⟨by decide, Or.inl (ws_6 5 rfl rfl)⟩
set_option maxRecDepth 100000 in
theorem ll_12_169 : Lp 12 (169, 303) := ⟨by decide, Or.inl (ws_9 99 rfl rfl)⟩
set_option maxRecDepth 100000 in
theorem nn_3_9 : Np 3 (9, 7) := ⟨by decide, (ws_2 165 rfl rfl)⟩
set_option maxRecDepth 100000 in
theorem nn_5_9 : Np 5 (9, 1) := ⟨by decide, (ws_1 78 rfl rfl)⟩
set_option maxRecDepth 100000 in
theorem nn_5_18 : Np 5 (18, 0) := ⟨by decide, (ws_1 127 rfl rfl)⟩
set_option maxRecDepth 100000 in
theorem nn_5_25 : Np 5 (25, 6) := ⟨by decide, (ws_1 183 rfl rfl)⟩
set_option maxRecDepth 100000 in
theorem nn_5_45 : Np 5 (45, 2) := ⟨by decide, (ws_1 231 rfl rfl)⟩
set_option maxRecDepth 100000 in
theorem nn_8_9 : Np 8 (9, 5) := ⟨by decide, (ws_2 106 rfl rfl)⟩
set_option maxRecDepth 100000 in
theorem nn_8_20 : Np 8 (20, 4) := ⟨by decide, (ws_2 108 rfl rfl)⟩
set_option maxRecDepth 100000 in
theorem nn_10_16 : Np 10 (16, 9) := ⟨by decide, (ws_1 27 rfl rfl)⟩
set_option maxRecDepth 100000 in
theorem nn_10_23 : Np 10 (23, 5) := ⟨by decide, (ws_1 72 rfl rfl)⟩
set_option maxRecDepth 100000 in
theorem nn_10_32 : Np 10 (32, 8) := ⟨by decide, (ws_2 100 rfl rfl)⟩
set_option maxRecDepth 100000 in
theorem nn_10_42 : Np 10 (42, 3) := ⟨by decide, (ws_2 159 rfl rfl)⟩
set_option maxRecDepth 100000 in
theorem nn_12_7 : Np 12 (7, 10) := ⟨by decide, (ws_1 19 rfl rfl)⟩
set_option maxRecDepth 100000 in
theorem nn_12_10 : Np 12 (10, 11) := ⟨by decide, (ws_6 18 rfl rfl)⟩
set_option maxRecDepth 100000 in
theorem vv_4_69 : Vp 4 (69, Value.long (-1000000)) := (ws_5 166 rfl rfl)
set_option maxRecDepth 100000 in
theorem vv_4_71 : Vp 4 (71, Value.long (1000000)) := (ws_5 167 rfl rfl)
set_option maxRecDepth 100000 in
theorem vv_7_27 : Vp 7 (27, Value.ref 1001) := ⟨rfl, rfl⟩
set_option maxRecDepth 100000 in
theorem vv_9_89 : Vp 9 (89, Value.long (1103515245)) := (ws_5 133 rfl rfl)
set_option maxRecDepth 100000 in
theorem vv_9_91 : Vp 9 (91, Value.long (12345)) := (ws_5 134 rfl rfl)
set_option maxRecDepth 100000 in
theorem vv_9_93 : Vp 9 (93, Value.long (2147483647)) := (ws_5 135 rfl rfl)
set_option maxRecDepth 100000 in
theorem vv_9_201 : Vp 9 (201, Value.int (1000000000)) := (ws_5 204 rfl rfl)
set_option maxRecDepth 100000 in
theorem vv_10_212 : Vp 10 (212, Value.int (-1000000000)) := (ws_4 173 rfl rfl)
set_option maxRecDepth 100000 in
theorem vv_11_275 : Vp 11 (275, Value.long (27)) := (ws_7 138 rfl rfl)
set_option maxRecDepth 100000 in
theorem vv_11_277 : Vp 11 (277, Value.long (97)) := (ws_7 139 rfl rfl)
set_option maxRecDepth 100000 in
theorem vv_11_430 : Vp 11 (430, Value.long (2)) := (ws_8 24 rfl rfl)
set_option maxRecDepth 100000 in
theorem vv_11_432 : Vp 11 (432, Value.long (5)) := (ws_8 25 rfl rfl)
set_option maxRecDepth 100000 in
theorem vv_11_452 : Vp 11 (452, Value.long (100)) := (ws_8 90 rfl rfl)
set_option maxRecDepth 100000 in
theorem vv_11_490 : Vp 11 (490, Value.int (-1000000000)) := (ws_8 126 rfl rfl)
set_option maxRecDepth 100000 in
theorem vv_11_497 : Vp 11 (497, Value.long (60)) := (ws_8 139 rfl rfl)
set_option maxRecDepth 100000 in
theorem vv_11_517 : Vp 11 (517, Value.long (20)) := (ws_8 176 rfl rfl)
set_option maxRecDepth 100000 in
theorem vv_11_523 : Vp 11 (523, Value.long (3)) := (ws_8 189 rfl rfl)
set_option maxRecDepth 100000 in
theorem vv_11_525 : Vp 11 (525, Value.long (4)) := (ws_8 194 rfl rfl)
set_option maxRecDepth 100000 in
theorem vv_11_536 : Vp 11 (536, Value.long (1000000)) := (ws_9 54 rfl rfl)
set_option maxRecDepth 100000 in
theorem vv_11_538 : Vp 11 (538, Value.long (-1000000)) := (ws_9 55 rfl rfl)
set_option maxRecDepth 100000 in
theorem vv_11_555 : Vp 11 (555, Value.long (7)) := (ws_9 39 rfl rfl)
set_option maxRecDepth 100000 in
theorem vv_11_557 : Vp 11 (557, Value.long (10)) := (ws_9 40 rfl rfl)
set_option maxRecDepth 100000 in
theorem vv_11_559 : Vp 11 (559, Value.long (30)) := (ws_9 41 rfl rfl)
set_option maxRecDepth 100000 in
theorem vv_11_561 : Vp 11 (561, Value.long (32)) := (ws_9 42 rfl rfl)
set_option maxRecDepth 100000 in
theorem vv_11_572 : Vp 11 (572, Value.long (1103515245)) := (ws_9 23 rfl rfl)
set_option maxRecDepth 100000 in
theorem vv_11_574 : Vp 11 (574, Value.long (12345)) := (ws_9 24 rfl rfl)
set_option maxRecDepth 100000 in
theorem vv_11_576 : Vp 11 (576, Value.long (2147483648)) := (ws_9 25 rfl rfl)
set_option maxRecDepth 100000 in
theorem vv_11_578 : Vp 11 (578, Value.long (64)) := (ws_9 26 rfl rfl)
set_option maxRecDepth 100000 in
theorem vv_11_590 : Vp 11 (590, Value.long (1000000000)) := (ws_9 66 rfl rfl)
set_option maxRecDepth 100000 in
theorem vv_11_592 : Vp 11 (592, Value.int (1000000000)) := (ws_9 67 rfl rfl)
set_option maxRecDepth 100000 in
theorem ffa_0 : ∀ e ∈ FLL.getD 0 [], Fp 0 e := (List.forall_mem_cons.mpr ⟨ff_0_9, (List.forall_mem_cons.mpr ⟨ff_0_15, (List.forall_mem_cons.mpr ⟨ff_0_21, (List.forall_mem_cons.mpr ⟨ff_0_25, (List.forall_mem_cons.mpr ⟨ff_0_38, (List.forall_mem_cons.mpr ⟨ff_0_42, (List.forall_mem_cons.mpr ⟨ff_0_46, (List.forall_mem_cons.mpr ⟨ff_0_49, (List.forall_mem_cons.mpr ⟨ff_0_52, (List.forall_mem_cons.mpr ⟨ff_0_55, (List.forall_mem_cons.mpr ⟨ff_0_58, (List.forall_mem_cons.mpr ⟨ff_0_61, (List.forall_mem_cons.mpr ⟨ff_0_69, (List.forall_mem_cons.mpr ⟨ff_0_72, (List.forall_mem_cons.mpr ⟨ff_0_79, (List.forall_mem_cons.mpr ⟨ff_0_93, (List.forall_mem_cons.mpr ⟨ff_0_101, (List.forall_mem_cons.mpr ⟨ff_0_104, (List.forall_mem_cons.mpr ⟨ff_0_109, (List.forall_mem_cons.mpr ⟨ff_0_111, (List.forall_mem_cons.mpr ⟨ff_0_114, (List.forall_mem_cons.mpr ⟨ff_0_116, (List.forall_mem_cons.mpr ⟨ff_0_119, (List.forall_mem_cons.mpr ⟨ff_0_121, (List.forall_mem_cons.mpr ⟨ff_0_124, (List.forall_mem_cons.mpr ⟨ff_0_126, (List.forall_mem_cons.mpr ⟨ff_0_128, (List.forall_mem_cons.mpr ⟨ff_0_132, (List.forall_mem_cons.mpr ⟨ff_0_135, (List.forall_mem_cons.mpr ⟨ff_0_137, (List.forall_mem_cons.mpr ⟨ff_0_140, (List.forall_mem_cons.mpr ⟨ff_0_142, (List.forall_mem_cons.mpr ⟨ff_0_145, (fun _ h => absurd h List.not_mem_nil)⟩)⟩)⟩)⟩)⟩)⟩)⟩)⟩)⟩)⟩)⟩)⟩)⟩)⟩)⟩)⟩)⟩)⟩)⟩)⟩)⟩)⟩)⟩)⟩)⟩)⟩)⟩)⟩)⟩)⟩)⟩)⟩)⟩)
set_option maxRecDepth 100000 in
theorem ffa_1 : ∀ e ∈ FLL.getD 1 [], Fp 1 e := (List.forall_mem_cons.mpr ⟨ff_1_9, (List.forall_mem_cons.mpr ⟨ff_1_15, (List.forall_mem_cons.mpr ⟨ff_1_18, (List.forall_mem_cons.mpr ⟨ff_1_21, (List.forall_mem_cons.mpr ⟨ff_1_24, (List.forall_mem_cons.mpr ⟨ff_1_27, (fun _ h => absurd h List.not_mem_nil)⟩)⟩)⟩)⟩)⟩)⟩)
set_option maxRecDepth 100000 in
theorem ffa_2 : ∀ e ∈ FLL.getD 2 [], Fp 2 e := (List.forall_mem_cons.mpr ⟨ff_2_9, (List.forall_mem_cons.mpr ⟨ff_2_15, (List.forall_mem_cons.mpr ⟨ff_2_24, (List.forall_mem_cons.mpr ⟨ff_2_27, (List.forall_mem_cons.mpr ⟨ff_2_30, (List.forall_mem_cons.mpr ⟨ff_2_33, (List.forall_mem_cons.mpr ⟨ff_2_36, (List.forall_mem_cons.mpr ⟨ff_2_39, (List.forall_mem_cons.mpr ⟨ff_2_42, (fun _ h => absurd h List.not_mem_nil)⟩)⟩)⟩)⟩)⟩)⟩)⟩)⟩)⟩)
set_option maxRecDepth 100000 in
theorem ffa_3 : ∀ e ∈ FLL.getD 3 [], Fp 3 e := (List.forall_mem_cons.mpr ⟨ff_3_12, (List.forall_mem_cons.mpr ⟨ff_3_18, (List.forall_mem_cons.mpr ⟨ff_3_26, (List.forall_mem_cons.mpr ⟨ff_3_32, (List.forall_mem_cons.mpr ⟨ff_3_33, (List.forall_mem_cons.mpr ⟨ff_3_39, (List.forall_mem_cons.mpr ⟨ff_3_40, (List.forall_mem_cons.mpr ⟨ff_3_44, (List.forall_mem_cons.mpr ⟨ff_3_45, (List.forall_mem_cons.mpr ⟨ff_3_49, (List.forall_mem_cons.mpr ⟨ff_3_50, (List.forall_mem_cons.mpr ⟨ff_3_54, (List.forall_mem_cons.mpr ⟨ff_3_65, (List.forall_mem_cons.mpr ⟨ff_3_68, (List.forall_mem_cons.mpr ⟨ff_3_71, (List.forall_mem_cons.mpr ⟨ff_3_78, (List.forall_mem_cons.mpr ⟨ff_3_86, (List.forall_mem_cons.mpr ⟨ff_3_93, (List.forall_mem_cons.mpr ⟨ff_3_96, (List.forall_mem_cons.mpr ⟨ff_3_118, (List.forall_mem_cons.mpr ⟨ff_3_123, (List.forall_mem_cons.mpr ⟨ff_3_130, (List.forall_mem_cons.mpr ⟨ff_3_133, (List.forall_mem_cons.mpr ⟨ff_3_134, (List.forall_mem_cons.mpr ⟨ff_3_137, (List.forall_mem_cons.mpr ⟨ff_3_138, (List.forall_mem_cons.mpr ⟨ff_3_147, (List.forall_mem_cons.mpr ⟨ff_3_168, (List.forall_mem_cons.mpr ⟨ff_3_176, (List.forall_mem_cons.mpr ⟨ff_3_183, (List.forall_mem_cons.mpr ⟨ff_3_186, (List.forall_mem_cons.mpr ⟨ff_3_189, (List.forall_mem_cons.mpr ⟨ff_3_192, (List.forall_mem_cons.mpr ⟨ff_3_194, (List.forall_mem_cons.mpr ⟨ff_3_197, (List.forall_mem_cons.mpr ⟨ff_3_200, (List.forall_mem_cons.mpr ⟨ff_3_203, (List.forall_mem_cons.mpr ⟨ff_3_206, (List.forall_mem_cons.mpr ⟨ff_3_212, (List.forall_mem_cons.mpr ⟨ff_3_215, (List.forall_mem_cons.mpr ⟨ff_3_222, (List.forall_mem_cons.mpr ⟨ff_3_225, (List.forall_mem_cons.mpr ⟨ff_3_228, (List.forall_mem_cons.mpr ⟨ff_3_231, (List.forall_mem_cons.mpr ⟨ff_3_232, (List.forall_mem_cons.mpr ⟨ff_3_235, (List.forall_mem_cons.mpr ⟨ff_3_241, (List.forall_mem_cons.mpr ⟨ff_3_247, (fun _ h => absurd h List.not_mem_nil)⟩)⟩)⟩)⟩)⟩)⟩)⟩)⟩)⟩)⟩)⟩)⟩)⟩)⟩)⟩)⟩)⟩)⟩)⟩)⟩)⟩)⟩)⟩)⟩)⟩)⟩)⟩)⟩)⟩)⟩)⟩)⟩)⟩)⟩)⟩)⟩)⟩)⟩)⟩)⟩)⟩)⟩)⟩)⟩)⟩)⟩)⟩)⟩)
set_option maxRecDepth 100000 in
theorem ffa_4 : ∀ e ∈ FLL.getD 4 [], Fp 4 e := (List.forall_mem_cons.mpr ⟨ff_4_9, (List.forall_mem_cons.mpr ⟨ff_4_15, (List.forall_mem_cons.mpr ⟨ff_4_18, (List.forall_mem_cons.mpr ⟨ff_4_21, (List.forall_mem_cons.mpr ⟨ff_4_24, (List.forall_mem_cons.mpr ⟨ff_4_27, (List.forall_mem_cons.mpr ⟨ff_4_30, (List.forall_mem_cons.mpr ⟨ff_4_34, (fun _ h => absurd h List.not_mem_nil)⟩)⟩)⟩)⟩)⟩)⟩)⟩)⟩)
set_option maxRecDepth 100000 in
theorem ffa_5 : ∀ e ∈ FLL.getD 5 [], Fp 5 e := (List.forall_mem_cons.mpr ⟨ff_5_12, (List.forall_mem_cons.mpr ⟨ff_5_21, (List.forall_mem_cons.mpr ⟨ff_5_28, (List.forall_mem_cons.mpr ⟨ff_5_32, (List.forall_mem_cons.mpr ⟨ff_5_42, (List.forall_mem_cons.mpr ⟨ff_5_50, (List.forall_mem_cons.mpr ⟨ff_5_54, (List.forall_mem_cons.mpr ⟨ff_5_58, (List.forall_mem_cons.mpr ⟨ff_5_61, (List.forall_mem_cons.mpr ⟨ff_5_62, (List.forall_mem_cons.mpr ⟨ff_5_63, (List.forall_mem_cons.mpr ⟨ff_5_77, (List.forall_mem_cons.mpr ⟨ff_5_84, (List.forall_mem_cons.mpr ⟨ff_5_87, (List.forall_mem_cons.mpr ⟨ff_5_90, (List.forall_mem_cons.mpr ⟨ff_5_93, (List.forall_mem_cons.mpr ⟨ff_5_100, (List.forall_mem_cons.mpr ⟨ff_5_118, (List.forall_mem_cons.mpr ⟨ff_5_143, (fun _ h => absurd h List.not_mem_nil)⟩)⟩)⟩)⟩)⟩)⟩)⟩)⟩)⟩)⟩)⟩)⟩)⟩)⟩)⟩)⟩)⟩)⟩)⟩)
set_option maxRecDepth 100000 in
theorem ffa_6 : ∀ e ∈ FLL.getD 6 [], Fp 6 e := (List.forall_mem_cons.mpr ⟨ff_6_9, (List.forall_mem_cons.mpr ⟨ff_6_15, (List.forall_mem_cons.mpr ⟨ff_6_18, (List.forall_mem_cons.mpr ⟨ff_6_21, (List.forall_mem_cons.mpr ⟨ff_6_24, (List.forall_mem_cons.mpr ⟨ff_6_27, (fun _ h => absurd h List.not_mem_nil)⟩)⟩)⟩)⟩)⟩)⟩)
set_option maxRecDepth 100000 in
theorem ffa_7 : ∀ e ∈ FLL.getD 7 [], Fp 7 e := (List.forall_mem_cons.mpr ⟨ff_7_11, (List.forall_mem_cons.mpr ⟨ff_7_15, (List.forall_mem_cons.mpr ⟨ff_7_18, (List.forall_mem_cons.mpr ⟨ff_7_21, (List.forall_mem_cons.mpr ⟨ff_7_24, (List.forall_mem_cons.mpr ⟨ff_7_47, (fun _ h => absurd h List.not_mem_nil)⟩)⟩)⟩)⟩)⟩)⟩)
set_option maxRecDepth 100000 in
theorem ffa_8 : ∀ e ∈ FLL.getD 8 [], Fp 8 e := (List.forall_mem_cons.mpr ⟨ff_8_14, (List.forall_mem_cons.mpr ⟨ff_8_23, (fun _ h => absurd h List.not_mem_nil)⟩)⟩)
set_option maxRecDepth 100000 in
theorem ffa_9 : ∀ e ∈ FLL.getD 9 [], Fp 9 e := (List.forall_mem_cons.mpr ⟨ff_9_9, (List.forall_mem_cons.mpr ⟨ff_9_15, (List.forall_mem_cons.mpr ⟨ff_9_18, (List.forall_mem_cons.mpr ⟨ff_9_21, (List.forall_mem_cons.mpr ⟨ff_9_24, (List.forall_mem_cons.mpr ⟨ff_9_27, (List.forall_mem_cons.mpr ⟨ff_9_32, (List.forall_mem_cons.mpr ⟨ff_9_35, (List.forall_mem_cons.mpr ⟨ff_9_48, (List.forall_mem_cons.mpr ⟨ff_9_51, (List.forall_mem_cons.mpr ⟨ff_9_54, (List.forall_mem_cons.mpr ⟨ff_9_75, (List.forall_mem_cons.mpr ⟨ff_9_95, (List.forall_mem_cons.mpr ⟨ff_9_99, (List.forall_mem_cons.mpr ⟨ff_9_104, (List.forall_mem_cons.mpr ⟨ff_9_115, (List.forall_mem_cons.mpr ⟨ff_9_118, (List.forall_mem_cons.mpr ⟨ff_9_132, (List.forall_mem_cons.mpr ⟨ff_9_136, (List.forall_mem_cons.mpr ⟨ff_9_143, (List.forall_mem_cons.mpr ⟨ff_9_149, (List.forall_mem_cons.mpr ⟨ff_9_167, (List.forall_mem_cons.mpr ⟨ff_9_170, (List.forall_mem_cons.mpr ⟨ff_9_174, (List.forall_mem_cons.mpr ⟨ff_9_195, (List.forall_mem_cons.mpr ⟨ff_9_198, (List.forall_mem_cons.mpr ⟨ff_9_202, (List.forall_mem_cons.mpr ⟨ff_9_205, (List.forall_mem_cons.mpr ⟨ff_9_208, (fun _ h => absurd h List.not_mem_nil)⟩)⟩)⟩)⟩)⟩)⟩)⟩)⟩)⟩)⟩)⟩)⟩)⟩)⟩)⟩)⟩)⟩)⟩)⟩)⟩)⟩)⟩)⟩)⟩)⟩)⟩)⟩)⟩)⟩)
set_option maxRecDepth 100000 in
theorem ffa_10 : ∀ e ∈ FLL.getD 10 [], Fp 10 e := (List.forall_mem_cons.mpr ⟨ff_10_9, (List.forall_mem_cons.mpr ⟨ff_10_13, (List.forall_mem_cons.mpr ⟨ff_10_19, (List.forall_mem_cons.mpr ⟨ff_10_28, (List.forall_mem_cons.mpr ⟨ff_10_35, (List.forall_mem_cons.mpr ⟨ff_10_39, (List.forall_mem_cons.mpr ⟨ff_10_47, (List.forall_mem_cons.mpr ⟨ff_10_51, (List.forall_mem_cons.mpr ⟨ff_10_75, (List.forall_mem_cons.mpr ⟨ff_10_78, (List.forall_mem_cons.mpr ⟨ff_10_81, (List.forall_mem_cons.mpr ⟨ff_10_84, (List.forall_mem_cons.mpr ⟨ff_10_87, (List.forall_mem_cons.mpr ⟨ff_10_91, (List.forall_mem_cons.mpr ⟨ff_10_96, (List.forall_mem_cons.mpr ⟨ff_10_100, (List.forall_mem_cons.mpr ⟨ff_10_103, (List.forall_mem_cons.mpr ⟨ff_10_107, (List.forall_mem_cons.mpr ⟨ff_10_110, (List.forall_mem_cons.mpr ⟨ff_10_113, (List.forall_mem_cons.mpr ⟨ff_10_117, (List.forall_mem_cons.mpr ⟨ff_10_120, (List.forall_mem_cons.mpr ⟨ff_10_123, (List.forall_mem_cons.mpr ⟨ff_10_126, (List.forall_mem_cons.mpr ⟨ff_10_137, (List.forall_mem_cons.mpr ⟨ff_10_148, (List.forall_mem_cons.mpr ⟨ff_10_149, (List.forall_mem_cons.mpr ⟨ff_10_154, (List.forall_mem_cons.mpr ⟨ff_10_157, (List.forall_mem_cons.mpr ⟨ff_10_160, (List.forall_mem_cons.mpr ⟨ff_10_163, (List.forall_mem_cons.mpr ⟨ff_10_172, (List.forall_mem_cons.mpr ⟨ff_10_175, (List.forall_mem_cons.mpr ⟨ff_10_181, (List.forall_mem_cons.mpr ⟨ff_10_184, (List.forall_mem_cons.mpr ⟨ff_10_187, (List.forall_mem_cons.mpr ⟨ff_10_190, (List.forall_mem_cons.mpr ⟨ff_10_270, (List.forall_mem_cons.mpr ⟨ff_10_273, (List.forall_mem_cons.mpr ⟨ff_10_285, (List.forall_mem_cons.mpr ⟨ff_10_292, (List.forall_mem_cons.mpr ⟨ff_10_295, (List.forall_mem_cons.mpr ⟨ff_10_298, (fun _ h => absurd h List.not_mem_nil)⟩)⟩)⟩)⟩)⟩)⟩)⟩)⟩)⟩)⟩)⟩)⟩)⟩)⟩)⟩)⟩)⟩)⟩)⟩)⟩)⟩)⟩)⟩)⟩)⟩)⟩)⟩)⟩)⟩)⟩)⟩)⟩)⟩)⟩)⟩)⟩)⟩)⟩)⟩)⟩)⟩)⟩)⟩)
set_option maxRecDepth 100000 in
theorem ffa_11 : ∀ e ∈ FLL.getD 11 [], Fp 11 e := (List.forall_mem_cons.mpr ⟨ff_11_7, (List.forall_mem_cons.mpr ⟨ff_11_13, (List.forall_mem_cons.mpr ⟨ff_11_17, (List.forall_mem_cons.mpr ⟨ff_11_21, (List.forall_mem_cons.mpr ⟨ff_11_24, (List.forall_mem_cons.mpr ⟨ff_11_27, (List.forall_mem_cons.mpr ⟨ff_11_30, (List.forall_mem_cons.mpr ⟨ff_11_33, (List.forall_mem_cons.mpr ⟨ff_11_36, (List.forall_mem_cons.mpr ⟨ff_11_39, (List.forall_mem_cons.mpr ⟨ff_11_42, (List.forall_mem_cons.mpr ⟨ff_11_45, (List.forall_mem_cons.mpr ⟨ff_11_48, (List.forall_mem_cons.mpr ⟨ff_11_51, (List.forall_mem_cons.mpr ⟨ff_11_54, (List.forall_mem_cons.mpr ⟨ff_11_57, (List.forall_mem_cons.mpr ⟨ff_11_60, (List.forall_mem_cons.mpr ⟨ff_11_63, (List.forall_mem_cons.mpr ⟨ff_11_66, (List.forall_mem_cons.mpr ⟨ff_11_69, (List.forall_mem_cons.mpr ⟨ff_11_72, (List.forall_mem_cons.mpr ⟨ff_11_75, (List.forall_mem_cons.mpr ⟨ff_11_78, (List.forall_mem_cons.mpr ⟨ff_11_81, (List.forall_mem_cons.mpr ⟨ff_11_84, (List.forall_mem_cons.mpr ⟨ff_11_87, (List.forall_mem_cons.mpr ⟨ff_11_90, (List.forall_mem_cons.mpr ⟨ff_11_93, (List.forall_mem_cons.mpr ⟨ff_11_96, (List.forall_mem_cons.mpr ⟨ff_11_99, (List.forall_mem_cons.mpr ⟨ff_11_102, (List.forall_mem_cons.mpr ⟨ff_11_105, (List.forall_mem_cons.mpr ⟨ff_11_108, (List.forall_mem_cons.mpr ⟨ff_11_111, (List.forall_mem_cons.mpr ⟨ff_11_114, (List.forall_mem_cons.mpr ⟨ff_11_117, (List.forall_mem_cons.mpr ⟨ff_11_121, (List.forall_mem_cons.mpr ⟨ff_11_124, (List.forall_mem_cons.mpr ⟨ff_11_127, (List.forall_mem_cons.mpr ⟨ff_11_130, (List.forall_mem_cons.mpr ⟨ff_11_133, (List.forall_mem_cons.mpr ⟨ff_11_136, (List.forall_mem_cons.mpr ⟨ff_11_139, (List.forall_mem_cons.mpr ⟨ff_11_142, (List.forall_mem_cons.mpr ⟨ff_11_145, (List.forall_mem_cons.mpr ⟨ff_11_148, (List.forall_mem_cons.mpr ⟨ff_11_151, (List.forall_mem_cons.mpr ⟨ff_11_154, (List.forall_mem_cons.mpr ⟨ff_11_157, (List.forall_mem_cons.mpr ⟨ff_11_160, (List.forall_mem_cons.mpr ⟨ff_11_163, (List.forall_mem_cons.mpr ⟨ff_11_166, (List.forall_mem_cons.mpr ⟨ff_11_169, (List.forall_mem_cons.mpr ⟨ff_11_172, (List.forall_mem_cons.mpr ⟨ff_11_175, (List.forall_mem_cons.mpr ⟨ff_11_178, (List.forall_mem_cons.mpr ⟨ff_11_181, (List.forall_mem_cons.mpr ⟨ff_11_184, (List.forall_mem_cons.mpr ⟨ff_11_187, (List.forall_mem_cons.mpr ⟨ff_11_190, (List.forall_mem_cons.mpr ⟨ff_11_193, (List.forall_mem_cons.mpr ⟨ff_11_196, (List.forall_mem_cons.mpr ⟨ff_11_199, (List.forall_mem_cons.mpr ⟨ff_11_202, (List.forall_mem_cons.mpr ⟨ff_11_205, (List.forall_mem_cons.mpr ⟨ff_11_208, (List.forall_mem_cons.mpr ⟨ff_11_212, (List.forall_mem_cons.mpr ⟨ff_11_215, (List.forall_mem_cons.mpr ⟨ff_11_218, (List.forall_mem_cons.mpr ⟨ff_11_221, (List.forall_mem_cons.mpr ⟨ff_11_224, (List.forall_mem_cons.mpr ⟨ff_11_227, (List.forall_mem_cons.mpr ⟨ff_11_230, (List.forall_mem_cons.mpr ⟨ff_11_233, (List.forall_mem_cons.mpr ⟨ff_11_244, (List.forall_mem_cons.mpr ⟨ff_11_272, (List.forall_mem_cons.mpr ⟨ff_11_279, (List.forall_mem_cons.mpr ⟨ff_11_282, (List.forall_mem_cons.mpr ⟨ff_11_315, (List.forall_mem_cons.mpr ⟨ff_11_318, (List.forall_mem_cons.mpr ⟨ff_11_349, (List.forall_mem_cons.mpr ⟨ff_11_355, (List.forall_mem_cons.mpr ⟨ff_11_358, (List.forall_mem_cons.mpr ⟨ff_11_361, (List.forall_mem_cons.mpr ⟨ff_11_364, (List.forall_mem_cons.mpr ⟨ff_11_367, (List.forall_mem_cons.mpr ⟨ff_11_370, (List.forall_mem_cons.mpr ⟨ff_11_373, (List.forall_mem_cons.mpr ⟨ff_11_379, (List.forall_mem_cons.mpr ⟨ff_11_508, (List.forall_mem_cons.mpr ⟨ff_11_511, (List.forall_mem_cons.mpr ⟨ff_11_540, (List.forall_mem_cons.mpr ⟨ff_11_569, (List.forall_mem_cons.mpr ⟨ff_11_609, (fun _ h => absurd h List.not_mem_nil)⟩)⟩)⟩)⟩)⟩)⟩)⟩)⟩)⟩)⟩)⟩)⟩)⟩)⟩)⟩)⟩)⟩)⟩)⟩)⟩)⟩)⟩)⟩)⟩)⟩)⟩)⟩)⟩)⟩)⟩)⟩)⟩)⟩)⟩)⟩)⟩)⟩)⟩)⟩)⟩)⟩)⟩)⟩)⟩)⟩)⟩)⟩)⟩)⟩)⟩)⟩)⟩)⟩)⟩)⟩)⟩)⟩)⟩)⟩)⟩)⟩)⟩)⟩)⟩)⟩)⟩)⟩)⟩)⟩)⟩)⟩)⟩)⟩)⟩)⟩)⟩)⟩)⟩)⟩)⟩)⟩)⟩)⟩)⟩)⟩)⟩)⟩)⟩)⟩)⟩)⟩)⟩)⟩)⟩)
set_option maxRecDepth 100000 in
theorem ffa_12 : ∀ e ∈ FLL.getD 12 [], Fp 12 e := (fun _ h => absurd h List.not_mem_nil)
set_option maxRecDepth 100000 in
theorem ffa_13 : ∀ e ∈ FLL.getD 13 [], Fp 13 e := (fun _ h => absurd h List.not_mem_nil)
set_option maxRecDepth 100000 in
theorem ffa_14 : ∀ e ∈ FLL.getD 14 [], Fp 14 e := (fun _ h => absurd h List.not_mem_nil)
theorem ffa (own : Nat) : ∀ e ∈ FLL.getD own [], Fp own e := by
  by_cases h : own < 15
  · rcases (show own = 0 ∨ own = 1 ∨ own = 2 ∨ own = 3 ∨ own = 4 ∨ own = 5 ∨ own = 6 ∨ own = 7 ∨ own = 8 ∨ own = 9 ∨ own = 10 ∨ own = 11 ∨ own = 12 ∨ own = 13 ∨ own = 14 by omega) with rfl | rfl | rfl | rfl | rfl | rfl | rfl | rfl | rfl | rfl | rfl | rfl | rfl | rfl | rfl
    · exact ffa_0
    · exact ffa_1
    · exact ffa_2
    · exact ffa_3
    · exact ffa_4
    · exact ffa_5
    · exact ffa_6
    · exact ffa_7
    · exact ffa_8
    · exact ffa_9
    · exact ffa_10
    · exact ffa_11
    · exact ffa_12
    · exact ffa_13
    · exact ffa_14
  · have e : FLL.getD own [] = [] := by rw [List.getD_eq_getElem?_getD, List.getElem?_eq_none (by show 15 ≤ own; omega)]; rfl
    rw [e]; exact fun _ h => absurd h List.not_mem_nil
set_option maxRecDepth 100000 in
theorem lla_0 : ∀ e ∈ CALL.getD 0 [], Lp 0 e := (List.forall_mem_cons.mpr ⟨ll_0_3, (List.forall_mem_cons.mpr ⟨ll_0_30, (List.forall_mem_cons.mpr ⟨ll_0_34, (List.forall_mem_cons.mpr ⟨ll_0_65, (List.forall_mem_cons.mpr ⟨ll_0_75, (List.forall_mem_cons.mpr ⟨ll_0_82, (List.forall_mem_cons.mpr ⟨ll_0_86, (List.forall_mem_cons.mpr ⟨ll_0_90, (List.forall_mem_cons.mpr ⟨ll_0_96, (List.forall_mem_cons.mpr ⟨ll_0_147, (List.forall_mem_cons.mpr ⟨ll_0_151, (fun _ h => absurd h List.not_mem_nil)⟩)⟩)⟩)⟩)⟩)⟩)⟩)⟩)⟩)⟩)⟩)
set_option maxRecDepth 100000 in
theorem lla_1 : ∀ e ∈ CALL.getD 1 [], Lp 1 e := (List.forall_mem_cons.mpr ⟨ll_1_3, (List.forall_mem_cons.mpr ⟨ll_1_31, (List.forall_mem_cons.mpr ⟨ll_1_35, (fun _ h => absurd h List.not_mem_nil)⟩)⟩)⟩)
set_option maxRecDepth 100000 in
theorem lla_2 : ∀ e ∈ CALL.getD 2 [], Lp 2 e := (List.forall_mem_cons.mpr ⟨ll_2_3, (List.forall_mem_cons.mpr ⟨ll_2_18, (List.forall_mem_cons.mpr ⟨ll_2_46, (List.forall_mem_cons.mpr ⟨ll_2_50, (fun _ h => absurd h List.not_mem_nil)⟩)⟩)⟩)⟩)
set_option maxRecDepth 100000 in
theorem lla_3 : ∀ e ∈ CALL.getD 3 [], Lp 3 e := (List.forall_mem_cons.mpr ⟨ll_3_3, (List.forall_mem_cons.mpr ⟨ll_3_11, (List.forall_mem_cons.mpr ⟨ll_3_22, (List.forall_mem_cons.mpr ⟨ll_3_55, (List.forall_mem_cons.mpr ⟨ll_3_58, (List.forall_mem_cons.mpr ⟨ll_3_61, (List.forall_mem_cons.mpr ⟨ll_3_74, (List.forall_mem_cons.mpr ⟨ll_3_82, (List.forall_mem_cons.mpr ⟨ll_3_89, (List.forall_mem_cons.mpr ⟨ll_3_99, (List.forall_mem_cons.mpr ⟨ll_3_103, (List.forall_mem_cons.mpr ⟨ll_3_107, (List.forall_mem_cons.mpr ⟨ll_3_111, (List.forall_mem_cons.mpr ⟨ll_3_114, (List.forall_mem_cons.mpr ⟨ll_3_126, (List.forall_mem_cons.mpr ⟨ll_3_141, (List.forall_mem_cons.mpr ⟨ll_3_144, (List.forall_mem_cons.mpr ⟨ll_3_150, (List.forall_mem_cons.mpr ⟨ll_3_153, (List.forall_mem_cons.mpr ⟨ll_3_156, (List.forall_mem_cons.mpr ⟨ll_3_159, (List.forall_mem_cons.mpr ⟨ll_3_162, (List.forall_mem_cons.mpr ⟨ll_3_165, (List.forall_mem_cons.mpr ⟨ll_3_169, (List.forall_mem_cons.mpr ⟨ll_3_172, (List.forall_mem_cons.mpr ⟨ll_3_179, (List.forall_mem_cons.mpr ⟨ll_3_209, (List.forall_mem_cons.mpr ⟨ll_3_218, (List.forall_mem_cons.mpr ⟨ll_3_238, (List.forall_mem_cons.mpr ⟨ll_3_244, (List.forall_mem_cons.mpr ⟨ll_3_250, (List.forall_mem_cons.mpr ⟨ll_3_253, (List.forall_mem_cons.mpr ⟨ll_3_256, (List.forall_mem_cons.mpr ⟨ll_3_259, (List.forall_mem_cons.mpr ⟨ll_3_262, (List.forall_mem_cons.mpr ⟨ll_3_265, (List.forall_mem_cons.mpr ⟨ll_3_268, (List.forall_mem_cons.mpr ⟨ll_3_271, (List.forall_mem_cons.mpr ⟨ll_3_274, (List.forall_mem_cons.mpr ⟨ll_3_277, (fun _ h => absurd h List.not_mem_nil)⟩)⟩)⟩)⟩)⟩)⟩)⟩)⟩)⟩)⟩)⟩)⟩)⟩)⟩)⟩)⟩)⟩)⟩)⟩)⟩)⟩)⟩)⟩)⟩)⟩)⟩)⟩)⟩)⟩)⟩)⟩)⟩)⟩)⟩)⟩)⟩)⟩)⟩)⟩)⟩)
set_option maxRecDepth 100000 in
theorem lla_4 : ∀ e ∈ CALL.getD 4 [], Lp 4 e := (List.forall_mem_cons.mpr ⟨ll_4_3, (List.forall_mem_cons.mpr ⟨ll_4_37, (List.forall_mem_cons.mpr ⟨ll_4_41, (List.forall_mem_cons.mpr ⟨ll_4_45, (List.forall_mem_cons.mpr ⟨ll_4_51, (List.forall_mem_cons.mpr ⟨ll_4_55, (List.forall_mem_cons.mpr ⟨ll_4_59, (List.forall_mem_cons.mpr ⟨ll_4_63, (List.forall_mem_cons.mpr ⟨ll_4_66, (List.forall_mem_cons.mpr ⟨ll_4_73, (List.forall_mem_cons.mpr ⟨ll_4_76, (fun _ h => absurd h List.not_mem_nil)⟩)⟩)⟩)⟩)⟩)⟩)⟩)⟩)⟩)⟩)⟩)
set_option maxRecDepth 100000 in
theorem lla_5 : ∀ e ∈ CALL.getD 5 [], Lp 5 e := (List.forall_mem_cons.mpr ⟨ll_5_3, (List.forall_mem_cons.mpr ⟨ll_5_11, (List.forall_mem_cons.mpr ⟨ll_5_20, (List.forall_mem_cons.mpr ⟨ll_5_27, (List.forall_mem_cons.mpr ⟨ll_5_36, (List.forall_mem_cons.mpr ⟨ll_5_47, (List.forall_mem_cons.mpr ⟨ll_5_66, (List.forall_mem_cons.mpr ⟨ll_5_70, (List.forall_mem_cons.mpr ⟨ll_5_73, (List.forall_mem_cons.mpr ⟨ll_5_80, (List.forall_mem_cons.mpr ⟨ll_5_96, (List.forall_mem_cons.mpr ⟨ll_5_103, (List.forall_mem_cons.mpr ⟨ll_5_106, (List.forall_mem_cons.mpr ⟨ll_5_109, (List.forall_mem_cons.mpr ⟨ll_5_112, (List.forall_mem_cons.mpr ⟨ll_5_115, (List.forall_mem_cons.mpr ⟨ll_5_121, (List.forall_mem_cons.mpr ⟨ll_5_125, (List.forall_mem_cons.mpr ⟨ll_5_129, (List.forall_mem_cons.mpr ⟨ll_5_133, (List.forall_mem_cons.mpr ⟨ll_5_136, (List.forall_mem_cons.mpr ⟨ll_5_140, (List.forall_mem_cons.mpr ⟨ll_5_146, (List.forall_mem_cons.mpr ⟨ll_5_149, (List.forall_mem_cons.mpr ⟨ll_5_152, (List.forall_mem_cons.mpr ⟨ll_5_156, (List.forall_mem_cons.mpr ⟨ll_5_159, (List.forall_mem_cons.mpr ⟨ll_5_163, (fun _ h => absurd h List.not_mem_nil)⟩)⟩)⟩)⟩)⟩)⟩)⟩)⟩)⟩)⟩)⟩)⟩)⟩)⟩)⟩)⟩)⟩)⟩)⟩)⟩)⟩)⟩)⟩)⟩)⟩)⟩)⟩)⟩)
set_option maxRecDepth 100000 in
theorem lla_6 : ∀ e ∈ CALL.getD 6 [], Lp 6 e := (List.forall_mem_cons.mpr ⟨ll_6_3, (fun _ h => absurd h List.not_mem_nil)⟩)
set_option maxRecDepth 100000 in
theorem lla_7 : ∀ e ∈ CALL.getD 7 [], Lp 7 e := (List.forall_mem_cons.mpr ⟨ll_7_3, (List.forall_mem_cons.mpr ⟨ll_7_29, (List.forall_mem_cons.mpr ⟨ll_7_35, (List.forall_mem_cons.mpr ⟨ll_7_39, (List.forall_mem_cons.mpr ⟨ll_7_43, (List.forall_mem_cons.mpr ⟨ll_7_51, (List.forall_mem_cons.mpr ⟨ll_7_55, (List.forall_mem_cons.mpr ⟨ll_7_59, (List.forall_mem_cons.mpr ⟨ll_7_62, (List.forall_mem_cons.mpr ⟨ll_7_67, (List.forall_mem_cons.mpr ⟨ll_7_71, (List.forall_mem_cons.mpr ⟨ll_7_74, (List.forall_mem_cons.mpr ⟨ll_7_77, (List.forall_mem_cons.mpr ⟨ll_7_80, (List.forall_mem_cons.mpr ⟨ll_7_83, (fun _ h => absurd h List.not_mem_nil)⟩)⟩)⟩)⟩)⟩)⟩)⟩)⟩)⟩)⟩)⟩)⟩)⟩)⟩)⟩)
set_option maxRecDepth 100000 in
theorem lla_8 : ∀ e ∈ CALL.getD 8 [], Lp 8 e := (List.forall_mem_cons.mpr ⟨ll_8_3, (List.forall_mem_cons.mpr ⟨ll_8_11, (List.forall_mem_cons.mpr ⟨ll_8_22, (fun _ h => absurd h List.not_mem_nil)⟩)⟩)⟩)
set_option maxRecDepth 100000 in
theorem lla_9 : ∀ e ∈ CALL.getD 9 [], Lp 9 e := (List.forall_mem_cons.mpr ⟨ll_9_3, (List.forall_mem_cons.mpr ⟨ll_9_39, (List.forall_mem_cons.mpr ⟨ll_9_45, (List.forall_mem_cons.mpr ⟨ll_9_60, (List.forall_mem_cons.mpr ⟨ll_9_64, (List.forall_mem_cons.mpr ⟨ll_9_68, (List.forall_mem_cons.mpr ⟨ll_9_72, (List.forall_mem_cons.mpr ⟨ll_9_81, (List.forall_mem_cons.mpr ⟨ll_9_85, (List.forall_mem_cons.mpr ⟨ll_9_107, (List.forall_mem_cons.mpr ⟨ll_9_111, (List.forall_mem_cons.mpr ⟨ll_9_121, (List.forall_mem_cons.mpr ⟨ll_9_125, (List.forall_mem_cons.mpr ⟨ll_9_129, (List.forall_mem_cons.mpr ⟨ll_9_139, (List.forall_mem_cons.mpr ⟨ll_9_146, (List.forall_mem_cons.mpr ⟨ll_9_152, (List.forall_mem_cons.mpr ⟨ll_9_158, (List.forall_mem_cons.mpr ⟨ll_9_161, (List.forall_mem_cons.mpr ⟨ll_9_164, (List.forall_mem_cons.mpr ⟨ll_9_179, (List.forall_mem_cons.mpr ⟨ll_9_183, (List.forall_mem_cons.mpr ⟨ll_9_186, (List.forall_mem_cons.mpr ⟨ll_9_189, (List.forall_mem_cons.mpr ⟨ll_9_192, (List.forall_mem_cons.mpr ⟨ll_9_211, (fun _ h => absurd h List.not_mem_nil)⟩)⟩)⟩)⟩)⟩)⟩)⟩)⟩)⟩)⟩)⟩)⟩)⟩)⟩)⟩)⟩)⟩)⟩)⟩)⟩)⟩)⟩)⟩)⟩)⟩)⟩)
set_option maxRecDepth 100000 in
theorem lla_10 : ∀ e ∈ CALL.getD 10 [], Lp 10 e := (List.forall_mem_cons.mpr ⟨ll_10_1, (List.forall_mem_cons.mpr ⟨ll_10_18, (List.forall_mem_cons.mpr ⟨ll_10_25, (List.forall_mem_cons.mpr ⟨ll_10_34, (List.forall_mem_cons.mpr ⟨ll_10_44, (List.forall_mem_cons.mpr ⟨ll_10_55, (List.forall_mem_cons.mpr ⟨ll_10_58, (List.forall_mem_cons.mpr ⟨ll_10_62, (List.forall_mem_cons.mpr ⟨ll_10_66, (List.forall_mem_cons.mpr ⟨ll_10_69, (List.forall_mem_cons.mpr ⟨ll_10_72, (List.forall_mem_cons.mpr ⟨ll_10_129, (List.forall_mem_cons.mpr ⟨ll_10_133, (List.forall_mem_cons.mpr ⟨ll_10_140, (List.forall_mem_cons.mpr ⟨ll_10_144, (List.forall_mem_cons.mpr ⟨ll_10_150, (List.forall_mem_cons.mpr ⟨ll_10_166, (List.forall_mem_cons.mpr ⟨ll_10_169, (List.forall_mem_cons.mpr ⟨ll_10_178, (List.forall_mem_cons.mpr ⟨ll_10_193, (List.forall_mem_cons.mpr ⟨ll_10_196, (List.forall_mem_cons.mpr ⟨ll_10_199, (List.forall_mem_cons.mpr ⟨ll_10_202, (List.forall_mem_cons.mpr ⟨ll_10_205, (List.forall_mem_cons.mpr ⟨ll_10_209, (List.forall_mem_cons.mpr ⟨ll_10_213, (List.forall_mem_cons.mpr ⟨ll_10_216, (List.forall_mem_cons.mpr ⟨ll_10_220, (List.forall_mem_cons.mpr ⟨ll_10_224, (List.forall_mem_cons.mpr ⟨ll_10_227, (List.forall_mem_cons.mpr ⟨ll_10_232, (List.forall_mem_cons.mpr ⟨ll_10_236, (List.forall_mem_cons.mpr ⟨ll_10_239, (List.forall_mem_cons.mpr ⟨ll_10_242, (List.forall_mem_cons.mpr ⟨ll_10_245, (List.forall_mem_cons.mpr ⟨ll_10_249, (List.forall_mem_cons.mpr ⟨ll_10_252, (List.forall_mem_cons.mpr ⟨ll_10_255, (List.forall_mem_cons.mpr ⟨ll_10_258, (List.forall_mem_cons.mpr ⟨ll_10_261, (List.forall_mem_cons.mpr ⟨ll_10_264, (List.forall_mem_cons.mpr ⟨ll_10_267, (List.forall_mem_cons.mpr ⟨ll_10_276, (List.forall_mem_cons.mpr ⟨ll_10_279, (List.forall_mem_cons.mpr ⟨ll_10_282, (List.forall_mem_cons.mpr ⟨ll_10_288, (List.forall_mem_cons.mpr ⟨ll_10_301, (List.forall_mem_cons.mpr ⟨ll_10_304, (List.forall_mem_cons.mpr ⟨ll_10_307, (List.forall_mem_cons.mpr ⟨ll_10_310, (List.forall_mem_cons.mpr ⟨ll_10_313, (List.forall_mem_cons.mpr ⟨ll_10_316, (List.forall_mem_cons.mpr ⟨ll_10_319, (fun _ h => absurd h List.not_mem_nil)⟩)⟩)⟩)⟩)⟩)⟩)⟩)⟩)⟩)⟩)⟩)⟩)⟩)⟩)⟩)⟩)⟩)⟩)⟩)⟩)⟩)⟩)⟩)⟩)⟩)⟩)⟩)⟩)⟩)⟩)⟩)⟩)⟩)⟩)⟩)⟩)⟩)⟩)⟩)⟩)⟩)⟩)⟩)⟩)⟩)⟩)⟩)⟩)⟩)⟩)⟩)⟩)⟩)
set_option maxRecDepth 100000 in
theorem lla_11 : ∀ e ∈ CALL.getD 11 [], Lp 11 e := (List.forall_mem_cons.mpr ⟨ll_11_1, (List.forall_mem_cons.mpr ⟨ll_11_236, (List.forall_mem_cons.mpr ⟨ll_11_240, (List.forall_mem_cons.mpr ⟨ll_11_247, (List.forall_mem_cons.mpr ⟨ll_11_251, (List.forall_mem_cons.mpr ⟨ll_11_254, (List.forall_mem_cons.mpr ⟨ll_11_258, (List.forall_mem_cons.mpr ⟨ll_11_261, (List.forall_mem_cons.mpr ⟨ll_11_264, (List.forall_mem_cons.mpr ⟨ll_11_268, (List.forall_mem_cons.mpr ⟨ll_11_285, (List.forall_mem_cons.mpr ⟨ll_11_289, (List.forall_mem_cons.mpr ⟨ll_11_293, (List.forall_mem_cons.mpr ⟨ll_11_297, (List.forall_mem_cons.mpr ⟨ll_11_301, (List.forall_mem_cons.mpr ⟨ll_11_305, (List.forall_mem_cons.mpr ⟨ll_11_309, (List.forall_mem_cons.mpr ⟨ll_11_312, (List.forall_mem_cons.mpr ⟨ll_11_321, (List.forall_mem_cons.mpr ⟨ll_11_325, (List.forall_mem_cons.mpr ⟨ll_11_328, (List.forall_mem_cons.mpr ⟨ll_11_331, (List.forall_mem_cons.mpr ⟨ll_11_334, (List.forall_mem_cons.mpr ⟨ll_11_337, (List.forall_mem_cons.mpr ⟨ll_11_340, (List.forall_mem_cons.mpr ⟨ll_11_343, (List.forall_mem_cons.mpr ⟨ll_11_346, (List.forall_mem_cons.mpr ⟨ll_11_352, (List.forall_mem_cons.mpr ⟨ll_11_376, (List.forall_mem_cons.mpr ⟨ll_11_382, (List.forall_mem_cons.mpr ⟨ll_11_385, (List.forall_mem_cons.mpr ⟨ll_11_388, (List.forall_mem_cons.mpr ⟨ll_11_391, (List.forall_mem_cons.mpr ⟨ll_11_394, (List.forall_mem_cons.mpr ⟨ll_11_397, (List.forall_mem_cons.mpr ⟨ll_11_400, (List.forall_mem_cons.mpr ⟨ll_11_403, (List.forall_mem_cons.mpr ⟨ll_11_406, (List.forall_mem_cons.mpr ⟨ll_11_409, (List.forall_mem_cons.mpr ⟨ll_11_412, (List.forall_mem_cons.mpr ⟨ll_11_415, (List.forall_mem_cons.mpr ⟨ll_11_418, (List.forall_mem_cons.mpr ⟨ll_11_421, (List.forall_mem_cons.mpr ⟨ll_11_424, (List.forall_mem_cons.mpr ⟨ll_11_427, (List.forall_mem_cons.mpr ⟨ll_11_434, (List.forall_mem_cons.mpr ⟨ll_11_437, (List.forall_mem_cons.mpr ⟨ll_11_440, (List.forall_mem_cons.mpr ⟨ll_11_443, (List.forall_mem_cons.mpr ⟨ll_11_446, (List.forall_mem_cons.mpr ⟨ll_11_449, (List.forall_mem_cons.mpr ⟨ll_11_454, (List.forall_mem_cons.mpr ⟨ll_11_457, (List.forall_mem_cons.mpr ⟨ll_11_460, (List.forall_mem_cons.mpr ⟨ll_11_463, (List.forall_mem_cons.mpr ⟨ll_11_466, (List.forall_mem_cons.mpr ⟨ll_11_469, (List.forall_mem_cons.mpr ⟨ll_11_472, (List.forall_mem_cons.mpr ⟨ll_11_475, (List.forall_mem_cons.mpr ⟨ll_11_478, (List.forall_mem_cons.mpr ⟨ll_11_481, (List.forall_mem_cons.mpr ⟨ll_11_484, (List.forall_mem_cons.mpr ⟨ll_11_487, (List.forall_mem_cons.mpr ⟨ll_11_491, (List.forall_mem_cons.mpr ⟨ll_11_494, (List.forall_mem_cons.mpr ⟨ll_11_499, (List.forall_mem_cons.mpr ⟨ll_11_502, (List.forall_mem_cons.mpr ⟨ll_11_505, (List.forall_mem_cons.mpr ⟨ll_11_514, (List.forall_mem_cons.mpr ⟨ll_11_519, (List.forall_mem_cons.mpr ⟨ll_11_527, (List.forall_mem_cons.mpr ⟨ll_11_530, (List.forall_mem_cons.mpr ⟨ll_11_533, (List.forall_mem_cons.mpr ⟨ll_11_543, (List.forall_mem_cons.mpr ⟨ll_11_547, (List.forall_mem_cons.mpr ⟨ll_11_551, (List.forall_mem_cons.mpr ⟨ll_11_563, (List.forall_mem_cons.mpr ⟨ll_11_566, (List.forall_mem_cons.mpr ⟨ll_11_580, (List.forall_mem_cons.mpr ⟨ll_11_583, (List.forall_mem_cons.mpr ⟨ll_11_586, (List.forall_mem_cons.mpr ⟨ll_11_593, (List.forall_mem_cons.mpr ⟨ll_11_596, (List.forall_mem_cons.mpr ⟨ll_11_599, (List.forall_mem_cons.mpr ⟨ll_11_602, (List.forall_mem_cons.mpr ⟨ll_11_606, (List.forall_mem_cons.mpr ⟨ll_11_612, (List.forall_mem_cons.mpr ⟨ll_11_615, (List.forall_mem_cons.mpr ⟨ll_11_618, (List.forall_mem_cons.mpr ⟨ll_11_622, (List.forall_mem_cons.mpr ⟨ll_11_625, (fun _ h => absurd h List.not_mem_nil)⟩)⟩)⟩)⟩)⟩)⟩)⟩)⟩)⟩)⟩)⟩)⟩)⟩)⟩)⟩)⟩)⟩)⟩)⟩)⟩)⟩)⟩)⟩)⟩)⟩)⟩)⟩)⟩)⟩)⟩)⟩)⟩)⟩)⟩)⟩)⟩)⟩)⟩)⟩)⟩)⟩)⟩)⟩)⟩)⟩)⟩)⟩)⟩)⟩)⟩)⟩)⟩)⟩)⟩)⟩)⟩)⟩)⟩)⟩)⟩)⟩)⟩)⟩)⟩)⟩)⟩)⟩)⟩)⟩)⟩)⟩)⟩)⟩)⟩)⟩)⟩)⟩)⟩)⟩)⟩)⟩)⟩)⟩)⟩)⟩)⟩)⟩)⟩)⟩)⟩)⟩)
set_option maxRecDepth 100000 in
theorem lla_12 : ∀ e ∈ CALL.getD 12 [], Lp 12 e := (List.forall_mem_cons.mpr ⟨ll_12_9, (List.forall_mem_cons.mpr ⟨ll_12_12, (List.forall_mem_cons.mpr ⟨ll_12_13, (List.forall_mem_cons.mpr ⟨ll_12_17, (List.forall_mem_cons.mpr ⟨ll_12_18, (List.forall_mem_cons.mpr ⟨ll_12_22, (List.forall_mem_cons.mpr ⟨ll_12_23, (List.forall_mem_cons.mpr ⟨ll_12_27, (List.forall_mem_cons.mpr ⟨ll_12_28, (List.forall_mem_cons.mpr ⟨ll_12_32, (List.forall_mem_cons.mpr ⟨ll_12_33, (List.forall_mem_cons.mpr ⟨ll_12_36, (List.forall_mem_cons.mpr ⟨ll_12_37, (List.forall_mem_cons.mpr ⟨ll_12_41, (List.forall_mem_cons.mpr ⟨ll_12_42, (List.forall_mem_cons.mpr ⟨ll_12_46, (List.forall_mem_cons.mpr ⟨ll_12_47, (List.forall_mem_cons.mpr ⟨ll_12_50, (List.forall_mem_cons.mpr ⟨ll_12_51, (List.forall_mem_cons.mpr ⟨ll_12_54, (List.forall_mem_cons.mpr ⟨ll_12_55, (List.forall_mem_cons.mpr ⟨ll_12_59, (List.forall_mem_cons.mpr ⟨ll_12_60, (List.forall_mem_cons.mpr ⟨ll_12_63, (List.forall_mem_cons.mpr ⟨ll_12_64, (List.forall_mem_cons.mpr ⟨ll_12_67, (List.forall_mem_cons.mpr ⟨ll_12_68, (List.forall_mem_cons.mpr ⟨ll_12_71, (List.forall_mem_cons.mpr ⟨ll_12_72, (List.forall_mem_cons.mpr ⟨ll_12_75, (List.forall_mem_cons.mpr ⟨ll_12_76, (List.forall_mem_cons.mpr ⟨ll_12_79, (List.forall_mem_cons.mpr ⟨ll_12_80, (List.forall_mem_cons.mpr ⟨ll_12_83, (List.forall_mem_cons.mpr ⟨ll_12_84, (List.forall_mem_cons.mpr ⟨ll_12_87, (List.forall_mem_cons.mpr ⟨ll_12_88, (List.forall_mem_cons.mpr ⟨ll_12_92, (List.forall_mem_cons.mpr ⟨ll_12_93, (List.forall_mem_cons.mpr ⟨ll_12_96, (List.forall_mem_cons.mpr ⟨ll_12_97, (List.forall_mem_cons.mpr ⟨ll_12_100, (List.forall_mem_cons.mpr ⟨ll_12_101, (List.forall_mem_cons.mpr ⟨ll_12_104, (List.forall_mem_cons.mpr ⟨ll_12_105, (List.forall_mem_cons.mpr ⟨ll_12_108, (List.forall_mem_cons.mpr ⟨ll_12_109, (List.forall_mem_cons.mpr ⟨ll_12_112, (List.forall_mem_cons.mpr ⟨ll_12_113, (List.forall_mem_cons.mpr ⟨ll_12_116, (List.forall_mem_cons.mpr ⟨ll_12_117, (List.forall_mem_cons.mpr ⟨ll_12_120, (List.forall_mem_cons.mpr ⟨ll_12_121, (List.forall_mem_cons.mpr ⟨ll_12_124, (List.forall_mem_cons.mpr ⟨ll_12_125, (List.forall_mem_cons.mpr ⟨ll_12_128, (List.forall_mem_cons.mpr ⟨ll_12_129, (List.forall_mem_cons.mpr ⟨ll_12_132, (List.forall_mem_cons.mpr ⟨ll_12_133, (List.forall_mem_cons.mpr ⟨ll_12_136, (List.forall_mem_cons.mpr ⟨ll_12_137, (List.forall_mem_cons.mpr ⟨ll_12_140, (List.forall_mem_cons.mpr ⟨ll_12_141, (List.forall_mem_cons.mpr ⟨ll_12_144, (List.forall_mem_cons.mpr ⟨ll_12_145, (List.forall_mem_cons.mpr ⟨ll_12_148, (List.forall_mem_cons.mpr ⟨ll_12_149, (List.forall_mem_cons.mpr ⟨ll_12_152, (List.forall_mem_cons.mpr ⟨ll_12_153, (List.forall_mem_cons.mpr ⟨ll_12_156, (List.forall_mem_cons.mpr ⟨ll_12_157, (List.forall_mem_cons.mpr ⟨ll_12_160, (List.forall_mem_cons.mpr ⟨ll_12_161, (List.forall_mem_cons.mpr ⟨ll_12_164, (List.forall_mem_cons.mpr ⟨ll_12_165, (List.forall_mem_cons.mpr ⟨ll_12_169, (fun _ h => absurd h List.not_mem_nil)⟩)⟩)⟩)⟩)⟩)⟩)⟩)⟩)⟩)⟩)⟩)⟩)⟩)⟩)⟩)⟩)⟩)⟩)⟩)⟩)⟩)⟩)⟩)⟩)⟩)⟩)⟩)⟩)⟩)⟩)⟩)⟩)⟩)⟩)⟩)⟩)⟩)⟩)⟩)⟩)⟩)⟩)⟩)⟩)⟩)⟩)⟩)⟩)⟩)⟩)⟩)⟩)⟩)⟩)⟩)⟩)⟩)⟩)⟩)⟩)⟩)⟩)⟩)⟩)⟩)⟩)⟩)⟩)⟩)⟩)⟩)⟩)⟩)⟩)⟩)⟩)
set_option maxRecDepth 100000 in
theorem lla_13 : ∀ e ∈ CALL.getD 13 [], Lp 13 e := (fun _ h => absurd h List.not_mem_nil)
set_option maxRecDepth 100000 in
theorem lla_14 : ∀ e ∈ CALL.getD 14 [], Lp 14 e := (fun _ h => absurd h List.not_mem_nil)
theorem lla (own : Nat) : ∀ e ∈ CALL.getD own [], Lp own e := by
  by_cases h : own < 15
  · rcases (show own = 0 ∨ own = 1 ∨ own = 2 ∨ own = 3 ∨ own = 4 ∨ own = 5 ∨ own = 6 ∨ own = 7 ∨ own = 8 ∨ own = 9 ∨ own = 10 ∨ own = 11 ∨ own = 12 ∨ own = 13 ∨ own = 14 by omega) with rfl | rfl | rfl | rfl | rfl | rfl | rfl | rfl | rfl | rfl | rfl | rfl | rfl | rfl | rfl
    · exact lla_0
    · exact lla_1
    · exact lla_2
    · exact lla_3
    · exact lla_4
    · exact lla_5
    · exact lla_6
    · exact lla_7
    · exact lla_8
    · exact lla_9
    · exact lla_10
    · exact lla_11
    · exact lla_12
    · exact lla_13
    · exact lla_14
  · have e : CALL.getD own [] = [] := by rw [List.getD_eq_getElem?_getD, List.getElem?_eq_none (by show 15 ≤ own; omega)]; rfl
    rw [e]; exact fun _ h => absurd h List.not_mem_nil
set_option maxRecDepth 100000 in
theorem nna_0 : ∀ e ∈ NCL.getD 0 [], Np 0 e := (fun _ h => absurd h List.not_mem_nil)
set_option maxRecDepth 100000 in
theorem nna_1 : ∀ e ∈ NCL.getD 1 [], Np 1 e := (fun _ h => absurd h List.not_mem_nil)
set_option maxRecDepth 100000 in
theorem nna_2 : ∀ e ∈ NCL.getD 2 [], Np 2 e := (fun _ h => absurd h List.not_mem_nil)
set_option maxRecDepth 100000 in
theorem nna_3 : ∀ e ∈ NCL.getD 3 [], Np 3 e := (List.forall_mem_cons.mpr ⟨nn_3_9, (fun _ h => absurd h List.not_mem_nil)⟩)
set_option maxRecDepth 100000 in
theorem nna_4 : ∀ e ∈ NCL.getD 4 [], Np 4 e := (fun _ h => absurd h List.not_mem_nil)
set_option maxRecDepth 100000 in
theorem nna_5 : ∀ e ∈ NCL.getD 5 [], Np 5 e := (List.forall_mem_cons.mpr ⟨nn_5_9, (List.forall_mem_cons.mpr ⟨nn_5_18, (List.forall_mem_cons.mpr ⟨nn_5_25, (List.forall_mem_cons.mpr ⟨nn_5_45, (fun _ h => absurd h List.not_mem_nil)⟩)⟩)⟩)⟩)
set_option maxRecDepth 100000 in
theorem nna_6 : ∀ e ∈ NCL.getD 6 [], Np 6 e := (fun _ h => absurd h List.not_mem_nil)
set_option maxRecDepth 100000 in
theorem nna_7 : ∀ e ∈ NCL.getD 7 [], Np 7 e := (fun _ h => absurd h List.not_mem_nil)
set_option maxRecDepth 100000 in
theorem nna_8 : ∀ e ∈ NCL.getD 8 [], Np 8 e := (List.forall_mem_cons.mpr ⟨nn_8_9, (List.forall_mem_cons.mpr ⟨nn_8_20, (fun _ h => absurd h List.not_mem_nil)⟩)⟩)
set_option maxRecDepth 100000 in
theorem nna_9 : ∀ e ∈ NCL.getD 9 [], Np 9 e := (fun _ h => absurd h List.not_mem_nil)
set_option maxRecDepth 100000 in
theorem nna_10 : ∀ e ∈ NCL.getD 10 [], Np 10 e := (List.forall_mem_cons.mpr ⟨nn_10_16, (List.forall_mem_cons.mpr ⟨nn_10_23, (List.forall_mem_cons.mpr ⟨nn_10_32, (List.forall_mem_cons.mpr ⟨nn_10_42, (fun _ h => absurd h List.not_mem_nil)⟩)⟩)⟩)⟩)
set_option maxRecDepth 100000 in
theorem nna_11 : ∀ e ∈ NCL.getD 11 [], Np 11 e := (fun _ h => absurd h List.not_mem_nil)
set_option maxRecDepth 100000 in
theorem nna_12 : ∀ e ∈ NCL.getD 12 [], Np 12 e := (List.forall_mem_cons.mpr ⟨nn_12_7, (List.forall_mem_cons.mpr ⟨nn_12_10, (fun _ h => absurd h List.not_mem_nil)⟩)⟩)
set_option maxRecDepth 100000 in
theorem nna_13 : ∀ e ∈ NCL.getD 13 [], Np 13 e := (fun _ h => absurd h List.not_mem_nil)
set_option maxRecDepth 100000 in
theorem nna_14 : ∀ e ∈ NCL.getD 14 [], Np 14 e := (fun _ h => absurd h List.not_mem_nil)
theorem nna (own : Nat) : ∀ e ∈ NCL.getD own [], Np own e := by
  by_cases h : own < 15
  · rcases (show own = 0 ∨ own = 1 ∨ own = 2 ∨ own = 3 ∨ own = 4 ∨ own = 5 ∨ own = 6 ∨ own = 7 ∨ own = 8 ∨ own = 9 ∨ own = 10 ∨ own = 11 ∨ own = 12 ∨ own = 13 ∨ own = 14 by omega) with rfl | rfl | rfl | rfl | rfl | rfl | rfl | rfl | rfl | rfl | rfl | rfl | rfl | rfl | rfl
    · exact nna_0
    · exact nna_1
    · exact nna_2
    · exact nna_3
    · exact nna_4
    · exact nna_5
    · exact nna_6
    · exact nna_7
    · exact nna_8
    · exact nna_9
    · exact nna_10
    · exact nna_11
    · exact nna_12
    · exact nna_13
    · exact nna_14
  · have e : NCL.getD own [] = [] := by rw [List.getD_eq_getElem?_getD, List.getElem?_eq_none (by show 15 ≤ own; omega)]; rfl
    rw [e]; exact fun _ h => absurd h List.not_mem_nil
set_option maxRecDepth 100000 in
theorem vva_0 : ∀ e ∈ CSTL.getD 0 [], Vp 0 e := (fun _ h => absurd h List.not_mem_nil)
set_option maxRecDepth 100000 in
theorem vva_1 : ∀ e ∈ CSTL.getD 1 [], Vp 1 e := (fun _ h => absurd h List.not_mem_nil)
set_option maxRecDepth 100000 in
theorem vva_2 : ∀ e ∈ CSTL.getD 2 [], Vp 2 e := (fun _ h => absurd h List.not_mem_nil)
set_option maxRecDepth 100000 in
theorem vva_3 : ∀ e ∈ CSTL.getD 3 [], Vp 3 e := (fun _ h => absurd h List.not_mem_nil)
set_option maxRecDepth 100000 in
theorem vva_4 : ∀ e ∈ CSTL.getD 4 [], Vp 4 e := (List.forall_mem_cons.mpr ⟨vv_4_69, (List.forall_mem_cons.mpr ⟨vv_4_71, (fun _ h => absurd h List.not_mem_nil)⟩)⟩)
set_option maxRecDepth 100000 in
theorem vva_5 : ∀ e ∈ CSTL.getD 5 [], Vp 5 e := (fun _ h => absurd h List.not_mem_nil)
set_option maxRecDepth 100000 in
theorem vva_6 : ∀ e ∈ CSTL.getD 6 [], Vp 6 e := (fun _ h => absurd h List.not_mem_nil)
set_option maxRecDepth 100000 in
theorem vva_7 : ∀ e ∈ CSTL.getD 7 [], Vp 7 e := (List.forall_mem_cons.mpr ⟨vv_7_27, (fun _ h => absurd h List.not_mem_nil)⟩)
set_option maxRecDepth 100000 in
theorem vva_8 : ∀ e ∈ CSTL.getD 8 [], Vp 8 e := (fun _ h => absurd h List.not_mem_nil)
set_option maxRecDepth 100000 in
theorem vva_9 : ∀ e ∈ CSTL.getD 9 [], Vp 9 e := (List.forall_mem_cons.mpr ⟨vv_9_89, (List.forall_mem_cons.mpr ⟨vv_9_91, (List.forall_mem_cons.mpr ⟨vv_9_93, (List.forall_mem_cons.mpr ⟨vv_9_201, (fun _ h => absurd h List.not_mem_nil)⟩)⟩)⟩)⟩)
set_option maxRecDepth 100000 in
theorem vva_10 : ∀ e ∈ CSTL.getD 10 [], Vp 10 e := (List.forall_mem_cons.mpr ⟨vv_10_212, (fun _ h => absurd h List.not_mem_nil)⟩)
set_option maxRecDepth 100000 in
theorem vva_11 : ∀ e ∈ CSTL.getD 11 [], Vp 11 e := (List.forall_mem_cons.mpr ⟨vv_11_275, (List.forall_mem_cons.mpr ⟨vv_11_277, (List.forall_mem_cons.mpr ⟨vv_11_430, (List.forall_mem_cons.mpr ⟨vv_11_432, (List.forall_mem_cons.mpr ⟨vv_11_452, (List.forall_mem_cons.mpr ⟨vv_11_490, (List.forall_mem_cons.mpr ⟨vv_11_497, (List.forall_mem_cons.mpr ⟨vv_11_517, (List.forall_mem_cons.mpr ⟨vv_11_523, (List.forall_mem_cons.mpr ⟨vv_11_525, (List.forall_mem_cons.mpr ⟨vv_11_536, (List.forall_mem_cons.mpr ⟨vv_11_538, (List.forall_mem_cons.mpr ⟨vv_11_555, (List.forall_mem_cons.mpr ⟨vv_11_557, (List.forall_mem_cons.mpr ⟨vv_11_559, (List.forall_mem_cons.mpr ⟨vv_11_561, (List.forall_mem_cons.mpr ⟨vv_11_572, (List.forall_mem_cons.mpr ⟨vv_11_574, (List.forall_mem_cons.mpr ⟨vv_11_576, (List.forall_mem_cons.mpr ⟨vv_11_578, (List.forall_mem_cons.mpr ⟨vv_11_590, (List.forall_mem_cons.mpr ⟨vv_11_592, (fun _ h => absurd h List.not_mem_nil)⟩)⟩)⟩)⟩)⟩)⟩)⟩)⟩)⟩)⟩)⟩)⟩)⟩)⟩)⟩)⟩)⟩)⟩)⟩)⟩)⟩)⟩)
set_option maxRecDepth 100000 in
theorem vva_12 : ∀ e ∈ CSTL.getD 12 [], Vp 12 e := (fun _ h => absurd h List.not_mem_nil)
set_option maxRecDepth 100000 in
theorem vva_13 : ∀ e ∈ CSTL.getD 13 [], Vp 13 e := (fun _ h => absurd h List.not_mem_nil)
set_option maxRecDepth 100000 in
theorem vva_14 : ∀ e ∈ CSTL.getD 14 [], Vp 14 e := (fun _ h => absurd h List.not_mem_nil)
theorem vva (own : Nat) : ∀ e ∈ CSTL.getD own [], Vp own e := by
  by_cases h : own < 15
  · rcases (show own = 0 ∨ own = 1 ∨ own = 2 ∨ own = 3 ∨ own = 4 ∨ own = 5 ∨ own = 6 ∨ own = 7 ∨ own = 8 ∨ own = 9 ∨ own = 10 ∨ own = 11 ∨ own = 12 ∨ own = 13 ∨ own = 14 by omega) with rfl | rfl | rfl | rfl | rfl | rfl | rfl | rfl | rfl | rfl | rfl | rfl | rfl | rfl | rfl
    · exact vva_0
    · exact vva_1
    · exact vva_2
    · exact vva_3
    · exact vva_4
    · exact vva_5
    · exact vva_6
    · exact vva_7
    · exact vva_8
    · exact vva_9
    · exact vva_10
    · exact vva_11
    · exact vva_12
    · exact vva_13
    · exact vva_14
  · have e : CSTL.getD own [] = [] := by rw [List.getD_eq_getElem?_getD, List.getElem?_eq_none (by show 15 ≤ own; omega)]; rfl
    rw [e]; exact fun _ h => absurd h List.not_mem_nil
set_option maxRecDepth 100000 in
theorem kk_0_0 : Kp 0 0 (RX0, TX0, 16) := ⟨(show isrt (parseFieldDescriptor (TX0 0).2.2.1) = true by decide +kernel), rfl, rfl, (ws_1 150 rfl rfl)⟩
set_option maxRecDepth 100000 in
theorem kk_0_1 : Kp 0 1 (RX0, TX0, 16) := ⟨(show parseFieldDescriptor (TX0 1).2.2.1 = some .boolean by decide +kernel), rfl, rfl, (ws_1 152 rfl rfl)⟩
set_option maxRecDepth 100000 in
theorem kk_0_2 : Kp 0 2 (RX0, TX0, 16) := ⟨(show parseFieldDescriptor (TX0 2).2.2.1 = some .boolean by decide +kernel), rfl, rfl, (ws_1 154 rfl rfl)⟩
set_option maxRecDepth 100000 in
theorem kk_0_3 : Kp 0 3 (RX0, TX0, 16) := ⟨(show parseFieldDescriptor (TX0 3).2.2.1 = some .int by decide +kernel), rfl, rfl, (ws_1 156 rfl rfl)⟩
set_option maxRecDepth 100000 in
theorem kk_0_4 : Kp 0 4 (RX0, TX0, 16) := ⟨(show parseFieldDescriptor (TX0 4).2.2.1 = some .int by decide +kernel), rfl, rfl, (ws_1 158 rfl rfl)⟩
set_option maxRecDepth 100000 in
theorem kk_0_5 : Kp 0 5 (RX0, TX0, 16) := ⟨(show parseFieldDescriptor (TX0 5).2.2.1 = some .int by decide +kernel), rfl, rfl, (ws_1 160 rfl rfl)⟩
set_option maxRecDepth 100000 in
theorem kk_0_6 : Kp 0 6 (RX0, TX0, 16) := ⟨(show parseFieldDescriptor (TX0 6).2.2.1 = some .int by decide +kernel), rfl, rfl, (ws_1 162 rfl rfl)⟩
set_option maxRecDepth 100000 in
theorem kk_0_7 : Kp 0 7 (RX0, TX0, 16) := ⟨(show parseFieldDescriptor (TX0 7).2.2.1 = some .int by decide +kernel), rfl, rfl, (ws_1 164 rfl rfl)⟩
set_option maxRecDepth 100000 in
theorem kk_0_8 : Kp 0 8 (RX0, TX0, 16) := ⟨(show parseFieldDescriptor (TX0 8).2.2.1 = some .int by decide +kernel), rfl, rfl, (ws_1 166 rfl rfl)⟩
set_option maxRecDepth 100000 in
theorem kk_0_9 : Kp 0 9 (RX0, TX0, 16) := ⟨(show parseFieldDescriptor (TX0 9).2.2.1 = some .int by decide +kernel), rfl, rfl, (ws_1 168 rfl rfl)⟩
set_option maxRecDepth 100000 in
theorem kk_0_10 : Kp 0 10 (RX0, TX0, 16) := ⟨(show parseFieldDescriptor (TX0 10).2.2.1 = some .int by decide +kernel), rfl, rfl, (ws_1 170 rfl rfl)⟩
set_option maxRecDepth 100000 in
theorem kk_0_11 : Kp 0 11 (RX0, TX0, 16) := ⟨(show parseFieldDescriptor (TX0 11).2.2.1 = some .int by decide +kernel), rfl, rfl, (ws_1 172 rfl rfl)⟩
set_option maxRecDepth 100000 in
theorem kk_0_12 : Kp 0 12 (RX0, TX0, 16) := ⟨(show parseFieldDescriptor (TX0 12).2.2.1 = some .int by decide +kernel), rfl, rfl, (ws_1 174 rfl rfl)⟩
set_option maxRecDepth 100000 in
theorem kk_0_13 : Kp 0 13 (RX0, TX0, 16) := ⟨(show parseFieldDescriptor (TX0 13).2.2.1 = some .int by decide +kernel), rfl, rfl, (ws_1 176 rfl rfl)⟩
set_option maxRecDepth 100000 in
theorem kk_0_14 : Kp 0 14 (RX0, TX0, 16) := ⟨(show parseFieldDescriptor (TX0 14).2.2.1 = some .int by decide +kernel), rfl, rfl, (ws_1 178 rfl rfl)⟩
set_option maxRecDepth 100000 in
theorem kk_0_15 : Kp 0 15 (RX0, TX0, 16) := ⟨(show parseFieldDescriptor (TX0 15).2.2.1 = some .int by decide +kernel), rfl, rfl, (ws_1 180 rfl rfl)⟩
theorem kks_0 : ∀ k, k < 16 → Kp 0 k (RX0, TX0, 16) := by
  intro k hk
  rcases (show k = 0 ∨ k = 1 ∨ k = 2 ∨ k = 3 ∨ k = 4 ∨ k = 5 ∨ k = 6 ∨ k = 7 ∨ k = 8 ∨ k = 9 ∨ k = 10 ∨ k = 11 ∨ k = 12 ∨ k = 13 ∨ k = 14 ∨ k = 15 by omega) with rfl | rfl | rfl | rfl | rfl | rfl | rfl | rfl | rfl | rfl | rfl | rfl | rfl | rfl | rfl | rfl
  · exact kk_0_0
  · exact kk_0_1
  · exact kk_0_2
  · exact kk_0_3
  · exact kk_0_4
  · exact kk_0_5
  · exact kk_0_6
  · exact kk_0_7
  · exact kk_0_8
  · exact kk_0_9
  · exact kk_0_10
  · exact kk_0_11
  · exact kk_0_12
  · exact kk_0_13
  · exact kk_0_14
  · exact kk_0_15
set_option maxRecDepth 100000 in
theorem cc_0 : Cp 0 := ⟨(RX0, TX0, 16), rfl, rfl, rfl, kks_0, (ws_1 128 rfl rfl), (ws_1 5 rfl rfl), nmX0⟩
set_option maxRecDepth 100000 in
theorem kk_1_0 : Kp 1 0 (RX1, TX1, 6) := ⟨(show isrt (parseFieldDescriptor (TX1 0).2.2.1) = true by decide +kernel), rfl, rfl, (ws_1 114 rfl rfl)⟩
set_option maxRecDepth 100000 in
theorem kk_1_1 : Kp 1 1 (RX1, TX1, 6) := ⟨(show isrt (parseFieldDescriptor (TX1 1).2.2.1) = true by decide +kernel), rfl, rfl, (ws_1 116 rfl rfl)⟩
set_option maxRecDepth 100000 in
theorem kk_1_2 : Kp 1 2 (RX1, TX1, 6) := ⟨(show isrt (parseFieldDescriptor (TX1 2).2.2.1) = true by decide +kernel), rfl, rfl, (ws_1 118 rfl rfl)⟩
set_option maxRecDepth 100000 in
theorem kk_1_3 : Kp 1 3 (RX1, TX1, 6) := ⟨(show isrt (parseFieldDescriptor (TX1 3).2.2.1) = true by decide +kernel), rfl, rfl, (ws_1 120 rfl rfl)⟩
set_option maxRecDepth 100000 in
theorem kk_1_4 : Kp 1 4 (RX1, TX1, 6) := ⟨(show isrt (parseFieldDescriptor (TX1 4).2.2.1) = true by decide +kernel), rfl, rfl, (ws_1 122 rfl rfl)⟩
set_option maxRecDepth 100000 in
theorem kk_1_5 : Kp 1 5 (RX1, TX1, 6) := ⟨(show parseFieldDescriptor (TX1 5).2.2.1 = some .int by decide +kernel), rfl, rfl, (ws_1 124 rfl rfl)⟩
theorem kks_1 : ∀ k, k < 6 → Kp 1 k (RX1, TX1, 6) := by
  intro k hk
  rcases (show k = 0 ∨ k = 1 ∨ k = 2 ∨ k = 3 ∨ k = 4 ∨ k = 5 by omega) with rfl | rfl | rfl | rfl | rfl | rfl
  · exact kk_1_0
  · exact kk_1_1
  · exact kk_1_2
  · exact kk_1_3
  · exact kk_1_4
  · exact kk_1_5
set_option maxRecDepth 100000 in
theorem cc_1 : Cp 1 := ⟨(RX1, TX1, 6), rfl, rfl, rfl, kks_1, (ws_1 79 rfl rfl), (ws_1 4 rfl rfl), nmX1⟩
set_option maxRecDepth 100000 in
theorem kk_2_0 : Kp 2 0 (RX2, TX2, 10) := ⟨(show isrt (parseFieldDescriptor (TX2 0).2.2.1) = true by decide +kernel), rfl, rfl, (ws_2 42 rfl rfl)⟩
set_option maxRecDepth 100000 in
theorem kk_2_1 : Kp 2 1 (RX2, TX2, 10) := ⟨(show isrt (parseFieldDescriptor (TX2 1).2.2.1) = true by decide +kernel), rfl, rfl, (ws_2 44 rfl rfl)⟩
set_option maxRecDepth 100000 in
theorem kk_2_2 : Kp 2 2 (RX2, TX2, 10) := ⟨(show isrt (parseFieldDescriptor (TX2 2).2.2.1) = true by decide +kernel), rfl, rfl, (ws_2 46 rfl rfl)⟩
set_option maxRecDepth 100000 in
theorem kk_2_3 : Kp 2 3 (RX2, TX2, 10) := ⟨(show isrt (parseFieldDescriptor (TX2 3).2.2.1) = true by decide +kernel), rfl, rfl, (ws_2 48 rfl rfl)⟩
set_option maxRecDepth 100000 in
theorem kk_2_4 : Kp 2 4 (RX2, TX2, 10) := ⟨(show isrt (parseFieldDescriptor (TX2 4).2.2.1) = true by decide +kernel), rfl, rfl, (ws_2 50 rfl rfl)⟩
set_option maxRecDepth 100000 in
theorem kk_2_5 : Kp 2 5 (RX2, TX2, 10) := ⟨(show isrt (parseFieldDescriptor (TX2 5).2.2.1) = true by decide +kernel), rfl, rfl, (ws_2 52 rfl rfl)⟩
set_option maxRecDepth 100000 in
theorem kk_2_6 : Kp 2 6 (RX2, TX2, 10) := ⟨(show isrt (parseFieldDescriptor (TX2 6).2.2.1) = true by decide +kernel), rfl, rfl, (ws_2 54 rfl rfl)⟩
set_option maxRecDepth 100000 in
theorem kk_2_7 : Kp 2 7 (RX2, TX2, 10) := ⟨(show isrt (parseFieldDescriptor (TX2 7).2.2.1) = true by decide +kernel), rfl, rfl, (ws_2 56 rfl rfl)⟩
set_option maxRecDepth 100000 in
theorem kk_2_8 : Kp 2 8 (RX2, TX2, 10) := ⟨(show parseFieldDescriptor (TX2 8).2.2.1 = some .int by decide +kernel), rfl, rfl, (ws_2 58 rfl rfl)⟩
set_option maxRecDepth 100000 in
theorem kk_2_9 : Kp 2 9 (RX2, TX2, 10) := ⟨(show parseFieldDescriptor (TX2 9).2.2.1 = some .int by decide +kernel), rfl, rfl, (ws_2 60 rfl rfl)⟩
theorem kks_2 : ∀ k, k < 10 → Kp 2 k (RX2, TX2, 10) := by
  intro k hk
  rcases (show k = 0 ∨ k = 1 ∨ k = 2 ∨ k = 3 ∨ k = 4 ∨ k = 5 ∨ k = 6 ∨ k = 7 ∨ k = 8 ∨ k = 9 by omega) with rfl | rfl | rfl | rfl | rfl | rfl | rfl | rfl | rfl | rfl
  · exact kk_2_0
  · exact kk_2_1
  · exact kk_2_2
  · exact kk_2_3
  · exact kk_2_4
  · exact kk_2_5
  · exact kk_2_6
  · exact kk_2_7
  · exact kk_2_8
  · exact kk_2_9
set_option maxRecDepth 100000 in
theorem cc_2 : Cp 2 := ⟨(RX2, TX2, 10), rfl, rfl, rfl, kks_2, (ws_1 232 rfl rfl), (ws_1 8 rfl rfl), nmX2⟩
set_option maxRecDepth 100000 in
theorem kk_3_0 : Kp 3 0 (RX3, TX3, 10) := ⟨(show isrt (parseFieldDescriptor (TX3 0).2.2.1) = true by decide +kernel), rfl, rfl, (ws_3 27 rfl rfl)⟩
set_option maxRecDepth 100000 in
theorem kk_3_1 : Kp 3 1 (RX3, TX3, 10) := ⟨(show isrt (parseFieldDescriptor (TX3 1).2.2.1) = true by decide +kernel), rfl, rfl, (ws_3 29 rfl rfl)⟩
set_option maxRecDepth 100000 in
theorem kk_3_2 : Kp 3 2 (RX3, TX3, 10) := ⟨(show isrt (parseFieldDescriptor (TX3 2).2.2.1) = true by decide +kernel), rfl, rfl, (ws_3 31 rfl rfl)⟩
set_option maxRecDepth 100000 in
theorem kk_3_3 : Kp 3 3 (RX3, TX3, 10) := ⟨(show isrt (parseFieldDescriptor (TX3 3).2.2.1) = true by decide +kernel), rfl, rfl, (ws_3 33 rfl rfl)⟩
set_option maxRecDepth 100000 in
theorem kk_3_4 : Kp 3 4 (RX3, TX3, 10) := ⟨(show isrt (parseFieldDescriptor (TX3 4).2.2.1) = true by decide +kernel), rfl, rfl, (ws_3 35 rfl rfl)⟩
set_option maxRecDepth 100000 in
theorem kk_3_5 : Kp 3 5 (RX3, TX3, 10) := ⟨(show isrt (parseFieldDescriptor (TX3 5).2.2.1) = true by decide +kernel), rfl, rfl, (ws_3 37 rfl rfl)⟩
set_option maxRecDepth 100000 in
theorem kk_3_6 : Kp 3 6 (RX3, TX3, 10) := ⟨(show parseFieldDescriptor (TX3 6).2.2.1 = some .int by decide +kernel), rfl, rfl, (ws_3 39 rfl rfl)⟩
set_option maxRecDepth 100000 in
theorem kk_3_7 : Kp 3 7 (RX3, TX3, 10) := ⟨(show parseFieldDescriptor (TX3 7).2.2.1 = some .int by decide +kernel), rfl, rfl, (ws_3 41 rfl rfl)⟩
set_option maxRecDepth 100000 in
theorem kk_3_8 : Kp 3 8 (RX3, TX3, 10) := ⟨(show parseFieldDescriptor (TX3 8).2.2.1 = some .int by decide +kernel), rfl, rfl, (ws_3 43 rfl rfl)⟩
set_option maxRecDepth 100000 in
theorem kk_3_9 : Kp 3 9 (RX3, TX3, 10) := ⟨(show parseFieldDescriptor (TX3 9).2.2.1 = some .int by decide +kernel), rfl, rfl, (ws_3 45 rfl rfl)⟩
theorem kks_3 : ∀ k, k < 10 → Kp 3 k (RX3, TX3, 10) := by
  intro k hk
  rcases (show k = 0 ∨ k = 1 ∨ k = 2 ∨ k = 3 ∨ k = 4 ∨ k = 5 ∨ k = 6 ∨ k = 7 ∨ k = 8 ∨ k = 9 by omega) with rfl | rfl | rfl | rfl | rfl | rfl | rfl | rfl | rfl | rfl
  · exact kk_3_0
  · exact kk_3_1
  · exact kk_3_2
  · exact kk_3_3
  · exact kk_3_4
  · exact kk_3_5
  · exact kk_3_6
  · exact kk_3_7
  · exact kk_3_8
  · exact kk_3_9
set_option maxRecDepth 100000 in
theorem cc_3 : Cp 3 := ⟨(RX3, TX3, 10), rfl, rfl, rfl, kks_3, (ws_2 160 rfl rfl), (ws_1 11 rfl rfl), nmX3⟩
set_option maxRecDepth 100000 in
theorem kk_4_0 : Kp 4 0 (RX4, TX4, 8) := ⟨(show isrt (parseFieldDescriptor (TX4 0).2.2.1) = true by decide +kernel), rfl, rfl, (ws_2 129 rfl rfl)⟩
set_option maxRecDepth 100000 in
theorem kk_4_1 : Kp 4 1 (RX4, TX4, 8) := ⟨(show isrt (parseFieldDescriptor (TX4 1).2.2.1) = true by decide +kernel), rfl, rfl, (ws_2 131 rfl rfl)⟩
set_option maxRecDepth 100000 in
theorem kk_4_2 : Kp 4 2 (RX4, TX4, 8) := ⟨(show isrt (parseFieldDescriptor (TX4 2).2.2.1) = true by decide +kernel), rfl, rfl, (ws_2 133 rfl rfl)⟩
set_option maxRecDepth 100000 in
theorem kk_4_3 : Kp 4 3 (RX4, TX4, 8) := ⟨(show isrt (parseFieldDescriptor (TX4 3).2.2.1) = true by decide +kernel), rfl, rfl, (ws_2 135 rfl rfl)⟩
set_option maxRecDepth 100000 in
theorem kk_4_4 : Kp 4 4 (RX4, TX4, 8) := ⟨(show isrt (parseFieldDescriptor (TX4 4).2.2.1) = true by decide +kernel), rfl, rfl, (ws_2 137 rfl rfl)⟩
set_option maxRecDepth 100000 in
theorem kk_4_5 : Kp 4 5 (RX4, TX4, 8) := ⟨(show isrt (parseFieldDescriptor (TX4 5).2.2.1) = true by decide +kernel), rfl, rfl, (ws_2 139 rfl rfl)⟩
set_option maxRecDepth 100000 in
theorem kk_4_6 : Kp 4 6 (RX4, TX4, 8) := ⟨(show parseFieldDescriptor (TX4 6).2.2.1 = some .int by decide +kernel), rfl, rfl, (ws_2 141 rfl rfl)⟩
set_option maxRecDepth 100000 in
theorem kk_4_7 : Kp 4 7 (RX4, TX4, 8) := ⟨(show parseFieldDescriptor (TX4 7).2.2.1 = some .int by decide +kernel), rfl, rfl, (ws_2 143 rfl rfl)⟩
theorem kks_4 : ∀ k, k < 8 → Kp 4 k (RX4, TX4, 8) := by
  intro k hk
  rcases (show k = 0 ∨ k = 1 ∨ k = 2 ∨ k = 3 ∨ k = 4 ∨ k = 5 ∨ k = 6 ∨ k = 7 by omega) with rfl | rfl | rfl | rfl | rfl | rfl | rfl | rfl
  · exact kk_4_0
  · exact kk_4_1
  · exact kk_4_2
  · exact kk_4_3
  · exact kk_4_4
  · exact kk_4_5
  · exact kk_4_6
  · exact kk_4_7
set_option maxRecDepth 100000 in
theorem cc_4 : Cp 4 := ⟨(RX4, TX4, 8), rfl, rfl, rfl, kks_4, (ws_2 109 rfl rfl), (ws_1 10 rfl rfl), nmX4⟩
set_option maxRecDepth 100000 in
theorem kk_5_0 : Kp 5 0 (RX5, TX5, 7) := ⟨(show isrt (parseFieldDescriptor (TX5 0).2.2.1) = true by decide +kernel), rfl, rfl, (ws_2 85 rfl rfl)⟩
set_option maxRecDepth 100000 in
theorem kk_5_1 : Kp 5 1 (RX5, TX5, 7) := ⟨(show isrt (parseFieldDescriptor (TX5 1).2.2.1) = true by decide +kernel), rfl, rfl, (ws_2 87 rfl rfl)⟩
set_option maxRecDepth 100000 in
theorem kk_5_2 : Kp 5 2 (RX5, TX5, 7) := ⟨(show isrt (parseFieldDescriptor (TX5 2).2.2.1) = true by decide +kernel), rfl, rfl, (ws_2 89 rfl rfl)⟩
set_option maxRecDepth 100000 in
theorem kk_5_3 : Kp 5 3 (RX5, TX5, 7) := ⟨(show isrt (parseFieldDescriptor (TX5 3).2.2.1) = true by decide +kernel), rfl, rfl, (ws_2 91 rfl rfl)⟩
set_option maxRecDepth 100000 in
theorem kk_5_4 : Kp 5 4 (RX5, TX5, 7) := ⟨(show parseFieldDescriptor (TX5 4).2.2.1 = some .int by decide +kernel), rfl, rfl, (ws_2 93 rfl rfl)⟩
set_option maxRecDepth 100000 in
theorem kk_5_5 : Kp 5 5 (RX5, TX5, 7) := ⟨(show isrt (parseFieldDescriptor (TX5 5).2.2.1) = true by decide +kernel), rfl, rfl, (ws_2 95 rfl rfl)⟩
set_option maxRecDepth 100000 in
theorem kk_5_6 : Kp 5 6 (RX5, TX5, 7) := ⟨(show parseFieldDescriptor (TX5 6).2.2.1 = some .int by decide +kernel), rfl, rfl, (ws_2 97 rfl rfl)⟩
theorem kks_5 : ∀ k, k < 7 → Kp 5 k (RX5, TX5, 7) := by
  intro k hk
  rcases (show k = 0 ∨ k = 1 ∨ k = 2 ∨ k = 3 ∨ k = 4 ∨ k = 5 ∨ k = 6 by omega) with rfl | rfl | rfl | rfl | rfl | rfl | rfl
  · exact kk_5_0
  · exact kk_5_1
  · exact kk_5_2
  · exact kk_5_3
  · exact kk_5_4
  · exact kk_5_5
  · exact kk_5_6
set_option maxRecDepth 100000 in
theorem cc_5 : Cp 5 := ⟨(RX5, TX5, 7), rfl, rfl, rfl, kks_5, (ws_1 73 rfl rfl), (ws_1 3 rfl rfl), nmX5⟩
set_option maxRecDepth 100000 in
theorem kk_6_0 : Kp 6 0 (RX6, TX6, 7) := ⟨(show isrt (parseFieldDescriptor (TX6 0).2.2.1) = true by decide +kernel), rfl, rfl, (ws_1 213 rfl rfl)⟩
set_option maxRecDepth 100000 in
theorem kk_6_1 : Kp 6 1 (RX6, TX6, 7) := ⟨(show isrt (parseFieldDescriptor (TX6 1).2.2.1) = true by decide +kernel), rfl, rfl, (ws_1 215 rfl rfl)⟩
set_option maxRecDepth 100000 in
theorem kk_6_2 : Kp 6 2 (RX6, TX6, 7) := ⟨(show isrt (parseFieldDescriptor (TX6 2).2.2.1) = true by decide +kernel), rfl, rfl, (ws_1 217 rfl rfl)⟩
set_option maxRecDepth 100000 in
theorem kk_6_3 : Kp 6 3 (RX6, TX6, 7) := ⟨(show isrt (parseFieldDescriptor (TX6 3).2.2.1) = true by decide +kernel), rfl, rfl, (ws_1 219 rfl rfl)⟩
set_option maxRecDepth 100000 in
theorem kk_6_4 : Kp 6 4 (RX6, TX6, 7) := ⟨(show isrt (parseFieldDescriptor (TX6 4).2.2.1) = true by decide +kernel), rfl, rfl, (ws_1 221 rfl rfl)⟩
set_option maxRecDepth 100000 in
theorem kk_6_5 : Kp 6 5 (RX6, TX6, 7) := ⟨(show isrt (parseFieldDescriptor (TX6 5).2.2.1) = true by decide +kernel), rfl, rfl, (ws_1 223 rfl rfl)⟩
set_option maxRecDepth 100000 in
theorem kk_6_6 : Kp 6 6 (RX6, TX6, 7) := ⟨(show parseFieldDescriptor (TX6 6).2.2.1 = some .int by decide +kernel), rfl, rfl, (ws_1 225 rfl rfl)⟩
theorem kks_6 : ∀ k, k < 7 → Kp 6 k (RX6, TX6, 7) := by
  intro k hk
  rcases (show k = 0 ∨ k = 1 ∨ k = 2 ∨ k = 3 ∨ k = 4 ∨ k = 5 ∨ k = 6 by omega) with rfl | rfl | rfl | rfl | rfl | rfl | rfl
  · exact kk_6_0
  · exact kk_6_1
  · exact kk_6_2
  · exact kk_6_3
  · exact kk_6_4
  · exact kk_6_5
  · exact kk_6_6
set_option maxRecDepth 100000 in
theorem cc_6 : Cp 6 := ⟨(RX6, TX6, 7), rfl, rfl, rfl, kks_6, (ws_1 184 rfl rfl), (ws_1 6 rfl rfl), nmX6⟩
set_option maxRecDepth 100000 in
theorem kk_7_0 : Kp 7 0 (RX7, TX7, 6) := ⟨(show isrt (parseFieldDescriptor (TX7 0).2.2.1) = true by decide +kernel), rfl, rfl, (ws_2 236 rfl rfl)⟩
set_option maxRecDepth 100000 in
theorem kk_7_1 : Kp 7 1 (RX7, TX7, 6) := ⟨(show isrt (parseFieldDescriptor (TX7 1).2.2.1) = true by decide +kernel), rfl, rfl, (ws_2 238 rfl rfl)⟩
set_option maxRecDepth 100000 in
theorem kk_7_2 : Kp 7 2 (RX7, TX7, 6) := ⟨(show isrt (parseFieldDescriptor (TX7 2).2.2.1) = true by decide +kernel), rfl, rfl, (ws_3 0 rfl rfl)⟩
set_option maxRecDepth 100000 in
theorem kk_7_3 : Kp 7 3 (RX7, TX7, 6) := ⟨(show isrt (parseFieldDescriptor (TX7 3).2.2.1) = true by decide +kernel), rfl, rfl, (ws_3 2 rfl rfl)⟩
set_option maxRecDepth 100000 in
theorem kk_7_4 : Kp 7 4 (RX7, TX7, 6) := ⟨(show isrt (parseFieldDescriptor (TX7 4).2.2.1) = true by decide +kernel), rfl, rfl, (ws_3 4 rfl rfl)⟩
set_option maxRecDepth 100000 in
theorem kk_7_5 : Kp 7 5 (RX7, TX7, 6) := ⟨(show parseFieldDescriptor (TX7 5).2.2.1 = some .int by decide +kernel), rfl, rfl, (ws_3 6 rfl rfl)⟩
theorem kks_7 : ∀ k, k < 6 → Kp 7 k (RX7, TX7, 6) := by
  intro k hk
  rcases (show k = 0 ∨ k = 1 ∨ k = 2 ∨ k = 3 ∨ k = 4 ∨ k = 5 by omega) with rfl | rfl | rfl | rfl | rfl | rfl
  · exact kk_7_0
  · exact kk_7_1
  · exact kk_7_2
  · exact kk_7_3
  · exact kk_7_4
  · exact kk_7_5
set_option maxRecDepth 100000 in
theorem cc_7 : Cp 7 := ⟨(RX7, TX7, 6), rfl, rfl, rfl, kks_7, (ws_2 166 rfl rfl), (ws_1 12 rfl rfl), nmX7⟩
set_option maxRecDepth 100000 in
theorem kk_8_0 : Kp 8 0 (RX8, TX8, 2) := ⟨(show isrt (parseFieldDescriptor (TX8 0).2.2.1) = true by decide +kernel), rfl, rfl, (ws_2 154 rfl rfl)⟩
set_option maxRecDepth 100000 in
theorem kk_8_1 : Kp 8 1 (RX8, TX8, 2) := ⟨(show isrt (parseFieldDescriptor (TX8 1).2.2.1) = true by decide +kernel), rfl, rfl, (ws_2 156 rfl rfl)⟩
theorem kks_8 : ∀ k, k < 2 → Kp 8 k (RX8, TX8, 2) := by
  intro k hk
  rcases (show k = 0 ∨ k = 1 by omega) with rfl | rfl
  · exact kk_8_0
  · exact kk_8_1
set_option maxRecDepth 100000 in
theorem cc_8 : Cp 8 := ⟨(RX8, TX8, 2), rfl, rfl, rfl, kks_8, (ws_2 101 rfl rfl), (ws_1 9 rfl rfl), nmX8⟩
set_option maxRecDepth 100000 in
theorem kk_9_0 : Kp 9 0 (RX9, TX9, 10) := ⟨(show isrt (parseFieldDescriptor (TX9 0).2.2.1) = true by decide +kernel), rfl, rfl, (ws_1 50 rfl rfl)⟩
set_option maxRecDepth 100000 in
theorem kk_9_1 : Kp 9 1 (RX9, TX9, 10) := ⟨(show isrt (parseFieldDescriptor (TX9 1).2.2.1) = true by decide +kernel), rfl, rfl, (ws_1 52 rfl rfl)⟩
set_option maxRecDepth 100000 in
theorem kk_9_2 : Kp 9 2 (RX9, TX9, 10) := ⟨(show isrt (parseFieldDescriptor (TX9 2).2.2.1) = true by decide +kernel), rfl, rfl, (ws_1 54 rfl rfl)⟩
set_option maxRecDepth 100000 in
theorem kk_9_3 : Kp 9 3 (RX9, TX9, 10) := ⟨(show isrt (parseFieldDescriptor (TX9 3).2.2.1) = true by decide +kernel), rfl, rfl, (ws_1 56 rfl rfl)⟩
set_option maxRecDepth 100000 in
theorem kk_9_4 : Kp 9 4 (RX9, TX9, 10) := ⟨(show isrt (parseFieldDescriptor (TX9 4).2.2.1) = true by decide +kernel), rfl, rfl, (ws_1 58 rfl rfl)⟩
set_option maxRecDepth 100000 in
theorem kk_9_5 : Kp 9 5 (RX9, TX9, 10) := ⟨(show isrt (parseFieldDescriptor (TX9 5).2.2.1) = true by decide +kernel), rfl, rfl, (ws_1 60 rfl rfl)⟩
set_option maxRecDepth 100000 in
theorem kk_9_6 : Kp 9 6 (RX9, TX9, 10) := ⟨(show isrt (parseFieldDescriptor (TX9 6).2.2.1) = true by decide +kernel), rfl, rfl, (ws_1 62 rfl rfl)⟩
set_option maxRecDepth 100000 in
theorem kk_9_7 : Kp 9 7 (RX9, TX9, 10) := ⟨(show parseFieldDescriptor (TX9 7).2.2.1 = some .int by decide +kernel), rfl, rfl, (ws_1 64 rfl rfl)⟩
set_option maxRecDepth 100000 in
theorem kk_9_8 : Kp 9 8 (RX9, TX9, 10) := ⟨(show parseFieldDescriptor (TX9 8).2.2.1 = some .int by decide +kernel), rfl, rfl, (ws_1 66 rfl rfl)⟩
set_option maxRecDepth 100000 in
theorem kk_9_9 : Kp 9 9 (RX9, TX9, 10) := ⟨(show parseFieldDescriptor (TX9 9).2.2.1 = some .int by decide +kernel), rfl, rfl, (ws_1 68 rfl rfl)⟩
theorem kks_9 : ∀ k, k < 10 → Kp 9 k (RX9, TX9, 10) := by
  intro k hk
  rcases (show k = 0 ∨ k = 1 ∨ k = 2 ∨ k = 3 ∨ k = 4 ∨ k = 5 ∨ k = 6 ∨ k = 7 ∨ k = 8 ∨ k = 9 by omega) with rfl | rfl | rfl | rfl | rfl | rfl | rfl | rfl | rfl | rfl
  · exact kk_9_0
  · exact kk_9_1
  · exact kk_9_2
  · exact kk_9_3
  · exact kk_9_4
  · exact kk_9_5
  · exact kk_9_6
  · exact kk_9_7
  · exact kk_9_8
  · exact kk_9_9
set_option maxRecDepth 100000 in
theorem cc_9 : Cp 9 := ⟨(RX9, TX9, 10), rfl, rfl, rfl, kks_9, (ws_1 28 rfl rfl), (ws_1 2 rfl rfl), nmX9⟩
set_option maxRecDepth 100000 in
theorem kk_10_0 : Kp 10 0 (RX10, TX10, 9) := ⟨(show isrt (parseFieldDescriptor (TX10 0).2.2.1) = true by decide +kernel), rfl, rfl, (ws_3 57 rfl rfl)⟩
set_option maxRecDepth 100000 in
theorem kk_10_1 : Kp 10 1 (RX10, TX10, 9) := ⟨(show isrt (parseFieldDescriptor (TX10 1).2.2.1) = true by decide +kernel), rfl, rfl, (ws_3 59 rfl rfl)⟩
set_option maxRecDepth 100000 in
theorem kk_10_2 : Kp 10 2 (RX10, TX10, 9) := ⟨(show isrt (parseFieldDescriptor (TX10 2).2.2.1) = true by decide +kernel), rfl, rfl, (ws_3 61 rfl rfl)⟩
set_option maxRecDepth 100000 in
theorem kk_10_3 : Kp 10 3 (RX10, TX10, 9) := ⟨(show isrt (parseFieldDescriptor (TX10 3).2.2.1) = true by decide +kernel), rfl, rfl, (ws_3 63 rfl rfl)⟩
set_option maxRecDepth 100000 in
theorem kk_10_4 : Kp 10 4 (RX10, TX10, 9) := ⟨(show isrt (parseFieldDescriptor (TX10 4).2.2.1) = true by decide +kernel), rfl, rfl, (ws_3 65 rfl rfl)⟩
set_option maxRecDepth 100000 in
theorem kk_10_5 : Kp 10 5 (RX10, TX10, 9) := ⟨(show isrt (parseFieldDescriptor (TX10 5).2.2.1) = true by decide +kernel), rfl, rfl, (ws_3 67 rfl rfl)⟩
set_option maxRecDepth 100000 in
theorem kk_10_6 : Kp 10 6 (RX10, TX10, 9) := ⟨(show isrt (parseFieldDescriptor (TX10 6).2.2.1) = true by decide +kernel), rfl, rfl, (ws_3 69 rfl rfl)⟩
set_option maxRecDepth 100000 in
theorem kk_10_7 : Kp 10 7 (RX10, TX10, 9) := ⟨(show parseFieldDescriptor (TX10 7).2.2.1 = some .int by decide +kernel), rfl, rfl, (ws_3 71 rfl rfl)⟩
set_option maxRecDepth 100000 in
theorem kk_10_8 : Kp 10 8 (RX10, TX10, 9) := ⟨(show parseFieldDescriptor (TX10 8).2.2.1 = some .int by decide +kernel), rfl, rfl, (ws_3 73 rfl rfl)⟩
theorem kks_10 : ∀ k, k < 9 → Kp 10 k (RX10, TX10, 9) := by
  intro k hk
  rcases (show k = 0 ∨ k = 1 ∨ k = 2 ∨ k = 3 ∨ k = 4 ∨ k = 5 ∨ k = 6 ∨ k = 7 ∨ k = 8 by omega) with rfl | rfl | rfl | rfl | rfl | rfl | rfl | rfl | rfl
  · exact kk_10_0
  · exact kk_10_1
  · exact kk_10_2
  · exact kk_10_3
  · exact kk_10_4
  · exact kk_10_5
  · exact kk_10_6
  · exact kk_10_7
  · exact kk_10_8
set_option maxRecDepth 100000 in
theorem cc_10 : Cp 10 := ⟨(RX10, TX10, 9), rfl, rfl, rfl, kks_10, (ws_1 20 rfl rfl), (ws_1 1 rfl rfl), nmX10⟩
set_option maxRecDepth 100000 in
theorem kk_11_0 : Kp 11 0 (RX11, TX11, 94) := ⟨(show isrt (parseFieldDescriptor (TX11 0).2.2.1) = true by decide +kernel), rfl, rfl, (ws_6 118 rfl rfl)⟩
set_option maxRecDepth 100000 in
theorem kk_11_1 : Kp 11 1 (RX11, TX11, 94) := ⟨(show parseFieldDescriptor (TX11 1).2.2.1 = some .int by decide +kernel), rfl, rfl, (ws_6 120 rfl rfl)⟩
set_option maxRecDepth 100000 in
theorem kk_11_2 : Kp 11 2 (RX11, TX11, 94) := ⟨(show parseFieldDescriptor (TX11 2).2.2.1 = some .int by decide +kernel), rfl, rfl, (ws_6 122 rfl rfl)⟩
set_option maxRecDepth 100000 in
theorem kk_11_3 : Kp 11 3 (RX11, TX11, 94) := ⟨(show parseFieldDescriptor (TX11 3).2.2.1 = some .int by decide +kernel), rfl, rfl, (ws_6 124 rfl rfl)⟩
set_option maxRecDepth 100000 in
theorem kk_11_4 : Kp 11 4 (RX11, TX11, 94) := ⟨(show parseFieldDescriptor (TX11 4).2.2.1 = some .int by decide +kernel), rfl, rfl, (ws_6 126 rfl rfl)⟩
set_option maxRecDepth 100000 in
theorem kk_11_5 : Kp 11 5 (RX11, TX11, 94) := ⟨(show parseFieldDescriptor (TX11 5).2.2.1 = some .int by decide +kernel), rfl, rfl, (ws_6 128 rfl rfl)⟩
set_option maxRecDepth 100000 in
theorem kk_11_6 : Kp 11 6 (RX11, TX11, 94) := ⟨(show parseFieldDescriptor (TX11 6).2.2.1 = some .int by decide +kernel), rfl, rfl, (ws_6 130 rfl rfl)⟩
set_option maxRecDepth 100000 in
theorem kk_11_7 : Kp 11 7 (RX11, TX11, 94) := ⟨(show parseFieldDescriptor (TX11 7).2.2.1 = some .int by decide +kernel), rfl, rfl, (ws_6 132 rfl rfl)⟩
set_option maxRecDepth 100000 in
theorem kk_11_8 : Kp 11 8 (RX11, TX11, 94) := ⟨(show parseFieldDescriptor (TX11 8).2.2.1 = some .int by decide +kernel), rfl, rfl, (ws_6 134 rfl rfl)⟩
set_option maxRecDepth 100000 in
theorem kk_11_9 : Kp 11 9 (RX11, TX11, 94) := ⟨(show isrt (parseFieldDescriptor (TX11 9).2.2.1) = true by decide +kernel), rfl, rfl, (ws_6 136 rfl rfl)⟩
set_option maxRecDepth 100000 in
theorem kk_11_10 : Kp 11 10 (RX11, TX11, 94) := ⟨(show isrt (parseFieldDescriptor (TX11 10).2.2.1) = true by decide +kernel), rfl, rfl, (ws_6 138 rfl rfl)⟩
set_option maxRecDepth 100000 in
theorem kk_11_11 : Kp 11 11 (RX11, TX11, 94) := ⟨(show isrt (parseFieldDescriptor (TX11 11).2.2.1) = true by decide +kernel), rfl, rfl, (ws_6 140 rfl rfl)⟩
set_option maxRecDepth 100000 in
theorem kk_11_12 : Kp 11 12 (RX11, TX11, 94) := ⟨(show isrt (parseFieldDescriptor (TX11 12).2.2.1) = true by decide +kernel), rfl, rfl, (ws_6 142 rfl rfl)⟩
set_option maxRecDepth 100000 in
theorem kk_11_13 : Kp 11 13 (RX11, TX11, 94) := ⟨(show isrt (parseFieldDescriptor (TX11 13).2.2.1) = true by decide +kernel), rfl, rfl, (ws_6 144 rfl rfl)⟩
set_option maxRecDepth 100000 in
theorem kk_11_14 : Kp 11 14 (RX11, TX11, 94) := ⟨(show isrt (parseFieldDescriptor (TX11 14).2.2.1) = true by decide +kernel), rfl, rfl, (ws_6 146 rfl rfl)⟩
set_option maxRecDepth 100000 in
theorem kk_11_15 : Kp 11 15 (RX11, TX11, 94) := ⟨(show isrt (parseFieldDescriptor (TX11 15).2.2.1) = true by decide +kernel), rfl, rfl, (ws_6 148 rfl rfl)⟩
set_option maxRecDepth 100000 in
theorem kk_11_16 : Kp 11 16 (RX11, TX11, 94) := ⟨(show isrt (parseFieldDescriptor (TX11 16).2.2.1) = true by decide +kernel), rfl, rfl, (ws_6 150 rfl rfl)⟩
set_option maxRecDepth 100000 in
theorem kk_11_17 : Kp 11 17 (RX11, TX11, 94) := ⟨(show isrt (parseFieldDescriptor (TX11 17).2.2.1) = true by decide +kernel), rfl, rfl, (ws_6 152 rfl rfl)⟩
set_option maxRecDepth 100000 in
theorem kk_11_18 : Kp 11 18 (RX11, TX11, 94) := ⟨(show isrt (parseFieldDescriptor (TX11 18).2.2.1) = true by decide +kernel), rfl, rfl, (ws_6 154 rfl rfl)⟩
set_option maxRecDepth 100000 in
theorem kk_11_19 : Kp 11 19 (RX11, TX11, 94) := ⟨(show isrt (parseFieldDescriptor (TX11 19).2.2.1) = true by decide +kernel), rfl, rfl, (ws_6 156 rfl rfl)⟩
set_option maxRecDepth 100000 in
theorem kk_11_20 : Kp 11 20 (RX11, TX11, 94) := ⟨(show isrt (parseFieldDescriptor (TX11 20).2.2.1) = true by decide +kernel), rfl, rfl, (ws_6 158 rfl rfl)⟩
set_option maxRecDepth 100000 in
theorem kk_11_21 : Kp 11 21 (RX11, TX11, 94) := ⟨(show isrt (parseFieldDescriptor (TX11 21).2.2.1) = true by decide +kernel), rfl, rfl, (ws_6 160 rfl rfl)⟩
set_option maxRecDepth 100000 in
theorem kk_11_22 : Kp 11 22 (RX11, TX11, 94) := ⟨(show isrt (parseFieldDescriptor (TX11 22).2.2.1) = true by decide +kernel), rfl, rfl, (ws_6 162 rfl rfl)⟩
set_option maxRecDepth 100000 in
theorem kk_11_23 : Kp 11 23 (RX11, TX11, 94) := ⟨(show isrt (parseFieldDescriptor (TX11 23).2.2.1) = true by decide +kernel), rfl, rfl, (ws_6 164 rfl rfl)⟩
set_option maxRecDepth 100000 in
theorem kk_11_24 : Kp 11 24 (RX11, TX11, 94) := ⟨(show isrt (parseFieldDescriptor (TX11 24).2.2.1) = true by decide +kernel), rfl, rfl, (ws_6 166 rfl rfl)⟩
set_option maxRecDepth 100000 in
theorem kk_11_25 : Kp 11 25 (RX11, TX11, 94) := ⟨(show isrt (parseFieldDescriptor (TX11 25).2.2.1) = true by decide +kernel), rfl, rfl, (ws_6 168 rfl rfl)⟩
set_option maxRecDepth 100000 in
theorem kk_11_26 : Kp 11 26 (RX11, TX11, 94) := ⟨(show isrt (parseFieldDescriptor (TX11 26).2.2.1) = true by decide +kernel), rfl, rfl, (ws_6 170 rfl rfl)⟩
set_option maxRecDepth 100000 in
theorem kk_11_27 : Kp 11 27 (RX11, TX11, 94) := ⟨(show isrt (parseFieldDescriptor (TX11 27).2.2.1) = true by decide +kernel), rfl, rfl, (ws_6 172 rfl rfl)⟩
set_option maxRecDepth 100000 in
theorem kk_11_28 : Kp 11 28 (RX11, TX11, 94) := ⟨(show isrt (parseFieldDescriptor (TX11 28).2.2.1) = true by decide +kernel), rfl, rfl, (ws_6 174 rfl rfl)⟩
set_option maxRecDepth 100000 in
theorem kk_11_29 : Kp 11 29 (RX11, TX11, 94) := ⟨(show isrt (parseFieldDescriptor (TX11 29).2.2.1) = true by decide +kernel), rfl, rfl, (ws_6 176 rfl rfl)⟩
set_option maxRecDepth 100000 in
theorem kk_11_30 : Kp 11 30 (RX11, TX11, 94) := ⟨(show isrt (parseFieldDescriptor (TX11 30).2.2.1) = true by decide +kernel), rfl, rfl, (ws_6 178 rfl rfl)⟩
set_option maxRecDepth 100000 in
theorem kk_11_31 : Kp 11 31 (RX11, TX11, 94) := ⟨(show isrt (parseFieldDescriptor (TX11 31).2.2.1) = true by decide +kernel), rfl, rfl, (ws_6 180 rfl rfl)⟩
set_option maxRecDepth 100000 in
theorem kk_11_32 : Kp 11 32 (RX11, TX11, 94) := ⟨(show isrt (parseFieldDescriptor (TX11 32).2.2.1) = true by decide +kernel), rfl, rfl, (ws_6 182 rfl rfl)⟩
set_option maxRecDepth 100000 in
theorem kk_11_33 : Kp 11 33 (RX11, TX11, 94) := ⟨(show isrt (parseFieldDescriptor (TX11 33).2.2.1) = true by decide +kernel), rfl, rfl, (ws_6 184 rfl rfl)⟩
set_option maxRecDepth 100000 in
theorem kk_11_34 : Kp 11 34 (RX11, TX11, 94) := ⟨(show isrt (parseFieldDescriptor (TX11 34).2.2.1) = true by decide +kernel), rfl, rfl, (ws_6 186 rfl rfl)⟩
set_option maxRecDepth 100000 in
theorem kk_11_35 : Kp 11 35 (RX11, TX11, 94) := ⟨(show isrt (parseFieldDescriptor (TX11 35).2.2.1) = true by decide +kernel), rfl, rfl, (ws_6 188 rfl rfl)⟩
set_option maxRecDepth 100000 in
theorem kk_11_36 : Kp 11 36 (RX11, TX11, 94) := ⟨(show isrt (parseFieldDescriptor (TX11 36).2.2.1) = true by decide +kernel), rfl, rfl, (ws_6 190 rfl rfl)⟩
set_option maxRecDepth 100000 in
theorem kk_11_37 : Kp 11 37 (RX11, TX11, 94) := ⟨(show isrt (parseFieldDescriptor (TX11 37).2.2.1) = true by decide +kernel), rfl, rfl, (ws_6 192 rfl rfl)⟩
set_option maxRecDepth 100000 in
theorem kk_11_38 : Kp 11 38 (RX11, TX11, 94) := ⟨(show isrt (parseFieldDescriptor (TX11 38).2.2.1) = true by decide +kernel), rfl, rfl, (ws_6 194 rfl rfl)⟩
set_option maxRecDepth 100000 in
theorem kk_11_39 : Kp 11 39 (RX11, TX11, 94) := ⟨(show isrt (parseFieldDescriptor (TX11 39).2.2.1) = true by decide +kernel), rfl, rfl, (ws_6 196 rfl rfl)⟩
set_option maxRecDepth 100000 in
theorem kk_11_40 : Kp 11 40 (RX11, TX11, 94) := ⟨(show isrt (parseFieldDescriptor (TX11 40).2.2.1) = true by decide +kernel), rfl, rfl, (ws_6 198 rfl rfl)⟩
set_option maxRecDepth 100000 in
theorem kk_11_41 : Kp 11 41 (RX11, TX11, 94) := ⟨(show isrt (parseFieldDescriptor (TX11 41).2.2.1) = true by decide +kernel), rfl, rfl, (ws_6 200 rfl rfl)⟩
set_option maxRecDepth 100000 in
theorem kk_11_42 : Kp 11 42 (RX11, TX11, 94) := ⟨(show parseFieldDescriptor (TX11 42).2.2.1 = some .int by decide +kernel), rfl, rfl, (ws_6 202 rfl rfl)⟩
set_option maxRecDepth 100000 in
theorem kk_11_43 : Kp 11 43 (RX11, TX11, 94) := ⟨(show isrt (parseFieldDescriptor (TX11 43).2.2.1) = true by decide +kernel), rfl, rfl, (ws_6 204 rfl rfl)⟩
set_option maxRecDepth 100000 in
theorem kk_11_44 : Kp 11 44 (RX11, TX11, 94) := ⟨(show isrt (parseFieldDescriptor (TX11 44).2.2.1) = true by decide +kernel), rfl, rfl, (ws_6 206 rfl rfl)⟩
set_option maxRecDepth 100000 in
theorem kk_11_45 : Kp 11 45 (RX11, TX11, 94) := ⟨(show isrt (parseFieldDescriptor (TX11 45).2.2.1) = true by decide +kernel), rfl, rfl, (ws_6 208 rfl rfl)⟩
set_option maxRecDepth 100000 in
theorem kk_11_46 : Kp 11 46 (RX11, TX11, 94) := ⟨(show isrt (parseFieldDescriptor (TX11 46).2.2.1) = true by decide +kernel), rfl, rfl, (ws_6 210 rfl rfl)⟩
set_option maxRecDepth 100000 in
theorem kk_11_47 : Kp 11 47 (RX11, TX11, 94) := ⟨(show isrt (parseFieldDescriptor (TX11 47).2.2.1) = true by decide +kernel), rfl, rfl, (ws_6 212 rfl rfl)⟩
set_option maxRecDepth 100000 in
theorem kk_11_48 : Kp 11 48 (RX11, TX11, 94) := ⟨(show isrt (parseFieldDescriptor (TX11 48).2.2.1) = true by decide +kernel), rfl, rfl, (ws_6 214 rfl rfl)⟩
set_option maxRecDepth 100000 in
theorem kk_11_49 : Kp 11 49 (RX11, TX11, 94) := ⟨(show isrt (parseFieldDescriptor (TX11 49).2.2.1) = true by decide +kernel), rfl, rfl, (ws_6 216 rfl rfl)⟩
set_option maxRecDepth 100000 in
theorem kk_11_50 : Kp 11 50 (RX11, TX11, 94) := ⟨(show parseFieldDescriptor (TX11 50).2.2.1 = some .int by decide +kernel), rfl, rfl, (ws_6 218 rfl rfl)⟩
set_option maxRecDepth 100000 in
theorem kk_11_51 : Kp 11 51 (RX11, TX11, 94) := ⟨(show isrt (parseFieldDescriptor (TX11 51).2.2.1) = true by decide +kernel), rfl, rfl, (ws_6 220 rfl rfl)⟩
set_option maxRecDepth 100000 in
theorem kk_11_52 : Kp 11 52 (RX11, TX11, 94) := ⟨(show parseFieldDescriptor (TX11 52).2.2.1 = some .int by decide +kernel), rfl, rfl, (ws_6 222 rfl rfl)⟩
set_option maxRecDepth 100000 in
theorem kk_11_53 : Kp 11 53 (RX11, TX11, 94) := ⟨(show parseFieldDescriptor (TX11 53).2.2.1 = some .int by decide +kernel), rfl, rfl, (ws_6 224 rfl rfl)⟩
set_option maxRecDepth 100000 in
theorem kk_11_54 : Kp 11 54 (RX11, TX11, 94) := ⟨(show parseFieldDescriptor (TX11 54).2.2.1 = some .int by decide +kernel), rfl, rfl, (ws_6 226 rfl rfl)⟩
set_option maxRecDepth 100000 in
theorem kk_11_55 : Kp 11 55 (RX11, TX11, 94) := ⟨(show isrt (parseFieldDescriptor (TX11 55).2.2.1) = true by decide +kernel), rfl, rfl, (ws_6 228 rfl rfl)⟩
set_option maxRecDepth 100000 in
theorem kk_11_56 : Kp 11 56 (RX11, TX11, 94) := ⟨(show parseFieldDescriptor (TX11 56).2.2.1 = some .int by decide +kernel), rfl, rfl, (ws_6 230 rfl rfl)⟩
set_option maxRecDepth 100000 in
theorem kk_11_57 : Kp 11 57 (RX11, TX11, 94) := ⟨(show isrt (parseFieldDescriptor (TX11 57).2.2.1) = true by decide +kernel), rfl, rfl, (ws_6 232 rfl rfl)⟩
set_option maxRecDepth 100000 in
theorem kk_11_58 : Kp 11 58 (RX11, TX11, 94) := ⟨(show parseFieldDescriptor (TX11 58).2.2.1 = some .int by decide +kernel), rfl, rfl, (ws_6 234 rfl rfl)⟩
set_option maxRecDepth 100000 in
theorem kk_11_59 : Kp 11 59 (RX11, TX11, 94) := ⟨(show parseFieldDescriptor (TX11 59).2.2.1 = some .int by decide +kernel), rfl, rfl, (ws_6 236 rfl rfl)⟩
set_option maxRecDepth 100000 in
theorem kk_11_60 : Kp 11 60 (RX11, TX11, 94) := ⟨(show isrt (parseFieldDescriptor (TX11 60).2.2.1) = true by decide +kernel), rfl, rfl, (ws_6 238 rfl rfl)⟩
set_option maxRecDepth 100000 in
theorem kk_11_61 : Kp 11 61 (RX11, TX11, 94) := ⟨(show isrt (parseFieldDescriptor (TX11 61).2.2.1) = true by decide +kernel), rfl, rfl, (ws_7 0 rfl rfl)⟩
set_option maxRecDepth 100000 in
theorem kk_11_62 : Kp 11 62 (RX11, TX11, 94) := ⟨(show isrt (parseFieldDescriptor (TX11 62).2.2.1) = true by decide +kernel), rfl, rfl, (ws_7 2 rfl rfl)⟩
set_option maxRecDepth 100000 in
theorem kk_11_63 : Kp 11 63 (RX11, TX11, 94) := ⟨(show isrt (parseFieldDescriptor (TX11 63).2.2.1) = true by decide +kernel), rfl, rfl, (ws_7 4 rfl rfl)⟩
set_option maxRecDepth 100000 in
theorem kk_11_64 : Kp 11 64 (RX11, TX11, 94) := ⟨(show isrt (parseFieldDescriptor (TX11 64).2.2.1) = true by decide +kernel), rfl, rfl, (ws_7 6 rfl rfl)⟩
set_option maxRecDepth 100000 in
theorem kk_11_65 : Kp 11 65 (RX11, TX11, 94) := ⟨(show parseFieldDescriptor (TX11 65).2.2.1 = some .int by decide +kernel), rfl, rfl, (ws_7 8 rfl rfl)⟩
set_option maxRecDepth 100000 in
theorem kk_11_66 : Kp 11 66 (RX11, TX11, 94) := ⟨(show isrt (parseFieldDescriptor (TX11 66).2.2.1) = true by decide +kernel), rfl, rfl, (ws_7 10 rfl rfl)⟩
set_option maxRecDepth 100000 in
theorem kk_11_67 : Kp 11 67 (RX11, TX11, 94) := ⟨(show isrt (parseFieldDescriptor (TX11 67).2.2.1) = true by decide +kernel), rfl, rfl, (ws_7 12 rfl rfl)⟩
set_option maxRecDepth 100000 in
theorem kk_11_68 : Kp 11 68 (RX11, TX11, 94) := ⟨(show isrt (parseFieldDescriptor (TX11 68).2.2.1) = true by decide +kernel), rfl, rfl, (ws_7 14 rfl rfl)⟩
set_option maxRecDepth 100000 in
theorem kk_11_69 : Kp 11 69 (RX11, TX11, 94) := ⟨(show isrt (parseFieldDescriptor (TX11 69).2.2.1) = true by decide +kernel), rfl, rfl, (ws_7 16 rfl rfl)⟩
set_option maxRecDepth 100000 in
theorem kk_11_70 : Kp 11 70 (RX11, TX11, 94) := ⟨(show isrt (parseFieldDescriptor (TX11 70).2.2.1) = true by decide +kernel), rfl, rfl, (ws_7 18 rfl rfl)⟩
set_option maxRecDepth 100000 in
theorem kk_11_71 : Kp 11 71 (RX11, TX11, 94) := ⟨(show isrt (parseFieldDescriptor (TX11 71).2.2.1) = true by decide +kernel), rfl, rfl, (ws_7 20 rfl rfl)⟩
set_option maxRecDepth 100000 in
theorem kk_11_72 : Kp 11 72 (RX11, TX11, 94) := ⟨(show isrt (parseFieldDescriptor (TX11 72).2.2.1) = true by decide +kernel), rfl, rfl, (ws_7 22 rfl rfl)⟩
set_option maxRecDepth 100000 in
theorem kk_11_73 : Kp 11 73 (RX11, TX11, 94) := ⟨(show isrt (parseFieldDescriptor (TX11 73).2.2.1) = true by decide +kernel), rfl, rfl, (ws_7 24 rfl rfl)⟩
set_option maxRecDepth 100000 in
theorem kk_11_74 : Kp 11 74 (RX11, TX11, 94) := ⟨(show isrt (parseFieldDescriptor (TX11 74).2.2.1) = true by decide +kernel), rfl, rfl, (ws_7 26 rfl rfl)⟩
set_option maxRecDepth 100000 in
theorem kk_11_75 : Kp 11 75 (RX11, TX11, 94) := ⟨(show parseFieldDescriptor (TX11 75).2.2.1 = some .int by decide +kernel), rfl, rfl, (ws_7 28 rfl rfl)⟩
set_option maxRecDepth 100000 in
theorem kk_11_76 : Kp 11 76 (RX11, TX11, 94) := ⟨(show parseFieldDescriptor (TX11 76).2.2.1 = some .int by decide +kernel), rfl, rfl, (ws_7 30 rfl rfl)⟩
set_option maxRecDepth 100000 in
theorem kk_11_77 : Kp 11 77 (RX11, TX11, 94) := ⟨(show parseFieldDescriptor (TX11 77).2.2.1 = some .int by decide +kernel), rfl, rfl, (ws_7 32 rfl rfl)⟩
set_option maxRecDepth 100000 in
theorem kk_11_78 : Kp 11 78 (RX11, TX11, 94) := ⟨(show parseFieldDescriptor (TX11 78).2.2.1 = some .int by decide +kernel), rfl, rfl, (ws_7 34 rfl rfl)⟩
set_option maxRecDepth 100000 in
theorem kk_11_79 : Kp 11 79 (RX11, TX11, 94) := ⟨(show parseFieldDescriptor (TX11 79).2.2.1 = some .int by decide +kernel), rfl, rfl, (ws_7 36 rfl rfl)⟩
set_option maxRecDepth 100000 in
theorem kk_11_80 : Kp 11 80 (RX11, TX11, 94) := ⟨(show isrt (parseFieldDescriptor (TX11 80).2.2.1) = true by decide +kernel), rfl, rfl, (ws_7 38 rfl rfl)⟩
set_option maxRecDepth 100000 in
theorem kk_11_81 : Kp 11 81 (RX11, TX11, 94) := ⟨(show parseFieldDescriptor (TX11 81).2.2.1 = some .int by decide +kernel), rfl, rfl, (ws_7 40 rfl rfl)⟩
set_option maxRecDepth 100000 in
theorem kk_11_82 : Kp 11 82 (RX11, TX11, 94) := ⟨(show parseFieldDescriptor (TX11 82).2.2.1 = some .int by decide +kernel), rfl, rfl, (ws_7 42 rfl rfl)⟩
set_option maxRecDepth 100000 in
theorem kk_11_83 : Kp 11 83 (RX11, TX11, 94) := ⟨(show isrt (parseFieldDescriptor (TX11 83).2.2.1) = true by decide +kernel), rfl, rfl, (ws_7 44 rfl rfl)⟩
set_option maxRecDepth 100000 in
theorem kk_11_84 : Kp 11 84 (RX11, TX11, 94) := ⟨(show isrt (parseFieldDescriptor (TX11 84).2.2.1) = true by decide +kernel), rfl, rfl, (ws_7 46 rfl rfl)⟩
set_option maxRecDepth 100000 in
theorem kk_11_85 : Kp 11 85 (RX11, TX11, 94) := ⟨(show isrt (parseFieldDescriptor (TX11 85).2.2.1) = true by decide +kernel), rfl, rfl, (ws_7 48 rfl rfl)⟩
set_option maxRecDepth 100000 in
theorem kk_11_86 : Kp 11 86 (RX11, TX11, 94) := ⟨(show isrt (parseFieldDescriptor (TX11 86).2.2.1) = true by decide +kernel), rfl, rfl, (ws_7 50 rfl rfl)⟩
set_option maxRecDepth 100000 in
theorem kk_11_87 : Kp 11 87 (RX11, TX11, 94) := ⟨(show parseFieldDescriptor (TX11 87).2.2.1 = some .int by decide +kernel), rfl, rfl, (ws_7 52 rfl rfl)⟩
set_option maxRecDepth 100000 in
theorem kk_11_88 : Kp 11 88 (RX11, TX11, 94) := ⟨(show parseFieldDescriptor (TX11 88).2.2.1 = some .int by decide +kernel), rfl, rfl, (ws_7 54 rfl rfl)⟩
set_option maxRecDepth 100000 in
theorem kk_11_89 : Kp 11 89 (RX11, TX11, 94) := ⟨(show parseFieldDescriptor (TX11 89).2.2.1 = some .long by decide +kernel), rfl, rfl, (ws_7 56 rfl rfl)⟩
set_option maxRecDepth 100000 in
theorem kk_11_90 : Kp 11 90 (RX11, TX11, 94) := ⟨(show isrt (parseFieldDescriptor (TX11 90).2.2.1) = true by decide +kernel), rfl, rfl, (ws_7 58 rfl rfl)⟩
set_option maxRecDepth 100000 in
theorem kk_11_91 : Kp 11 91 (RX11, TX11, 94) := ⟨(show isrt (parseFieldDescriptor (TX11 91).2.2.1) = true by decide +kernel), rfl, rfl, (ws_7 60 rfl rfl)⟩
set_option maxRecDepth 100000 in
theorem kk_11_92 : Kp 11 92 (RX11, TX11, 94) := ⟨(show isrt (parseFieldDescriptor (TX11 92).2.2.1) = true by decide +kernel), rfl, rfl, (ws_7 62 rfl rfl)⟩
set_option maxRecDepth 100000 in
theorem kk_11_93 : Kp 11 93 (RX11, TX11, 94) := ⟨(show parseFieldDescriptor (TX11 93).2.2.1 = some .int by decide +kernel), rfl, rfl, (ws_7 64 rfl rfl)⟩
theorem kks_11 : ∀ k, k < 94 → Kp 11 k (RX11, TX11, 94) := by
  intro k hk
  rcases (show (0 ≤ k ∧ k < 16) ∨ (16 ≤ k ∧ k < 32) ∨ (32 ≤ k ∧ k < 48) ∨ (48 ≤ k ∧ k < 64) ∨ (64 ≤ k ∧ k < 80) ∨ (80 ≤ k ∧ k < 94) by omega) with h1 | h1 | h1 | h1 | h1 | h1
  · rcases (show k = 0 ∨ k = 1 ∨ k = 2 ∨ k = 3 ∨ k = 4 ∨ k = 5 ∨ k = 6 ∨ k = 7 ∨ k = 8 ∨ k = 9 ∨ k = 10 ∨ k = 11 ∨ k = 12 ∨ k = 13 ∨ k = 14 ∨ k = 15 by omega) with rfl | rfl | rfl | rfl | rfl | rfl | rfl | rfl | rfl | rfl | rfl | rfl | rfl | rfl | rfl | rfl
    · exact kk_11_0
    · exact kk_11_1
    · exact kk_11_2
    · exact kk_11_3
    · exact kk_11_4
    · exact kk_11_5
    · exact kk_11_6
    · exact kk_11_7
    · exact kk_11_8
    · exact kk_11_9
    · exact kk_11_10
    · exact kk_11_11
    · exact kk_11_12
    · exact kk_11_13
    · exact kk_11_14
    · exact kk_11_15
  · rcases (show k = 16 ∨ k = 17 ∨ k = 18 ∨ k = 19 ∨ k = 20 ∨ k = 21 ∨ k = 22 ∨ k = 23 ∨ k = 24 ∨ k = 25 ∨ k = 26 ∨ k = 27 ∨ k = 28 ∨ k = 29 ∨ k = 30 ∨ k = 31 by omega) with rfl | rfl | rfl | rfl | rfl | rfl | rfl | rfl | rfl | rfl | rfl | rfl | rfl | rfl | rfl | rfl
    · exact kk_11_16
    · exact kk_11_17
    · exact kk_11_18
    · exact kk_11_19
    · exact kk_11_20
    · exact kk_11_21
    · exact kk_11_22
    · exact kk_11_23
    · exact kk_11_24
    · exact kk_11_25
    · exact kk_11_26
    · exact kk_11_27
    · exact kk_11_28
    · exact kk_11_29
    · exact kk_11_30
    · exact kk_11_31
  · rcases (show k = 32 ∨ k = 33 ∨ k = 34 ∨ k = 35 ∨ k = 36 ∨ k = 37 ∨ k = 38 ∨ k = 39 ∨ k = 40 ∨ k = 41 ∨ k = 42 ∨ k = 43 ∨ k = 44 ∨ k = 45 ∨ k = 46 ∨ k = 47 by omega) with rfl | rfl | rfl | rfl | rfl | rfl | rfl | rfl | rfl | rfl | rfl | rfl | rfl | rfl | rfl | rfl
    · exact kk_11_32
    · exact kk_11_33
    · exact kk_11_34
    · exact kk_11_35
    · exact kk_11_36
    · exact kk_11_37
    · exact kk_11_38
    · exact kk_11_39
    · exact kk_11_40
    · exact kk_11_41
    · exact kk_11_42
    · exact kk_11_43
    · exact kk_11_44
    · exact kk_11_45
    · exact kk_11_46
    · exact kk_11_47
  · rcases (show k = 48 ∨ k = 49 ∨ k = 50 ∨ k = 51 ∨ k = 52 ∨ k = 53 ∨ k = 54 ∨ k = 55 ∨ k = 56 ∨ k = 57 ∨ k = 58 ∨ k = 59 ∨ k = 60 ∨ k = 61 ∨ k = 62 ∨ k = 63 by omega) with rfl | rfl | rfl | rfl | rfl | rfl | rfl | rfl | rfl | rfl | rfl | rfl | rfl | rfl | rfl | rfl
    · exact kk_11_48
    · exact kk_11_49
    · exact kk_11_50
    · exact kk_11_51
    · exact kk_11_52
    · exact kk_11_53
    · exact kk_11_54
    · exact kk_11_55
    · exact kk_11_56
    · exact kk_11_57
    · exact kk_11_58
    · exact kk_11_59
    · exact kk_11_60
    · exact kk_11_61
    · exact kk_11_62
    · exact kk_11_63
  · rcases (show k = 64 ∨ k = 65 ∨ k = 66 ∨ k = 67 ∨ k = 68 ∨ k = 69 ∨ k = 70 ∨ k = 71 ∨ k = 72 ∨ k = 73 ∨ k = 74 ∨ k = 75 ∨ k = 76 ∨ k = 77 ∨ k = 78 ∨ k = 79 by omega) with rfl | rfl | rfl | rfl | rfl | rfl | rfl | rfl | rfl | rfl | rfl | rfl | rfl | rfl | rfl | rfl
    · exact kk_11_64
    · exact kk_11_65
    · exact kk_11_66
    · exact kk_11_67
    · exact kk_11_68
    · exact kk_11_69
    · exact kk_11_70
    · exact kk_11_71
    · exact kk_11_72
    · exact kk_11_73
    · exact kk_11_74
    · exact kk_11_75
    · exact kk_11_76
    · exact kk_11_77
    · exact kk_11_78
    · exact kk_11_79
  · rcases (show k = 80 ∨ k = 81 ∨ k = 82 ∨ k = 83 ∨ k = 84 ∨ k = 85 ∨ k = 86 ∨ k = 87 ∨ k = 88 ∨ k = 89 ∨ k = 90 ∨ k = 91 ∨ k = 92 ∨ k = 93 by omega) with rfl | rfl | rfl | rfl | rfl | rfl | rfl | rfl | rfl | rfl | rfl | rfl | rfl | rfl
    · exact kk_11_80
    · exact kk_11_81
    · exact kk_11_82
    · exact kk_11_83
    · exact kk_11_84
    · exact kk_11_85
    · exact kk_11_86
    · exact kk_11_87
    · exact kk_11_88
    · exact kk_11_89
    · exact kk_11_90
    · exact kk_11_91
    · exact kk_11_92
    · exact kk_11_93
set_option maxRecDepth 100000 in
theorem cc_11 : Cp 11 := ⟨(RX11, TX11, 94), rfl, rfl, rfl, kks_11, (ws_6 19 rfl rfl), (ws_1 17 rfl rfl), nmX11⟩
theorem cca {ci : Nat} (h : ci < 12) : Cp ci := by
  rcases (show ci = 0 ∨ ci = 1 ∨ ci = 2 ∨ ci = 3 ∨ ci = 4 ∨ ci = 5 ∨ ci = 6 ∨ ci = 7 ∨ ci = 8 ∨ ci = 9 ∨ ci = 10 ∨ ci = 11 by omega) with rfl | rfl | rfl | rfl | rfl | rfl | rfl | rfl | rfl | rfl | rfl | rfl
  · exact cc_0
  · exact cc_1
  · exact cc_2
  · exact cc_3
  · exact cc_4
  · exact cc_5
  · exact cc_6
  · exact cc_7
  · exact cc_8
  · exact cc_9
  · exact cc_10
  · exact cc_11
theorem pn_0 : (0 = 13 ∨ plainName (cnm 0) = true) ∧ (cnm 0 ≠ "java/lang/invoke/MethodHandle" ∧ cnm 0 ≠ "java/lang/invoke/VarHandle") ∧ Jvm.Cond.initialized (cnm 0) ∈ WS := ⟨Or.inr (by decide +kernel), ⟨by decide +kernel, by decide +kernel⟩, (ws_1 5 rfl rfl)⟩
theorem pn_1 : (1 = 13 ∨ plainName (cnm 1) = true) ∧ (cnm 1 ≠ "java/lang/invoke/MethodHandle" ∧ cnm 1 ≠ "java/lang/invoke/VarHandle") ∧ Jvm.Cond.initialized (cnm 1) ∈ WS := ⟨Or.inr (by decide +kernel), ⟨by decide +kernel, by decide +kernel⟩, (ws_1 4 rfl rfl)⟩
theorem pn_2 : (2 = 13 ∨ plainName (cnm 2) = true) ∧ (cnm 2 ≠ "java/lang/invoke/MethodHandle" ∧ cnm 2 ≠ "java/lang/invoke/VarHandle") ∧ Jvm.Cond.initialized (cnm 2) ∈ WS := ⟨Or.inr (by decide +kernel), ⟨by decide +kernel, by decide +kernel⟩, (ws_1 8 rfl rfl)⟩
theorem pn_3 : (3 = 13 ∨ plainName (cnm 3) = true) ∧ (cnm 3 ≠ "java/lang/invoke/MethodHandle" ∧ cnm 3 ≠ "java/lang/invoke/VarHandle") ∧ Jvm.Cond.initialized (cnm 3) ∈ WS := ⟨Or.inr (by decide +kernel), ⟨by decide +kernel, by decide +kernel⟩, (ws_1 11 rfl rfl)⟩
theorem pn_4 : (4 = 13 ∨ plainName (cnm 4) = true) ∧ (cnm 4 ≠ "java/lang/invoke/MethodHandle" ∧ cnm 4 ≠ "java/lang/invoke/VarHandle") ∧ Jvm.Cond.initialized (cnm 4) ∈ WS := ⟨Or.inr (by decide +kernel), ⟨by decide +kernel, by decide +kernel⟩, (ws_1 10 rfl rfl)⟩
theorem pn_5 : (5 = 13 ∨ plainName (cnm 5) = true) ∧ (cnm 5 ≠ "java/lang/invoke/MethodHandle" ∧ cnm 5 ≠ "java/lang/invoke/VarHandle") ∧ Jvm.Cond.initialized (cnm 5) ∈ WS := ⟨Or.inr (by decide +kernel), ⟨by decide +kernel, by decide +kernel⟩, (ws_1 3 rfl rfl)⟩
theorem pn_6 : (6 = 13 ∨ plainName (cnm 6) = true) ∧ (cnm 6 ≠ "java/lang/invoke/MethodHandle" ∧ cnm 6 ≠ "java/lang/invoke/VarHandle") ∧ Jvm.Cond.initialized (cnm 6) ∈ WS := ⟨Or.inr (by decide +kernel), ⟨by decide +kernel, by decide +kernel⟩, (ws_1 6 rfl rfl)⟩
theorem pn_7 : (7 = 13 ∨ plainName (cnm 7) = true) ∧ (cnm 7 ≠ "java/lang/invoke/MethodHandle" ∧ cnm 7 ≠ "java/lang/invoke/VarHandle") ∧ Jvm.Cond.initialized (cnm 7) ∈ WS := ⟨Or.inr (by decide +kernel), ⟨by decide +kernel, by decide +kernel⟩, (ws_1 12 rfl rfl)⟩
theorem pn_8 : (8 = 13 ∨ plainName (cnm 8) = true) ∧ (cnm 8 ≠ "java/lang/invoke/MethodHandle" ∧ cnm 8 ≠ "java/lang/invoke/VarHandle") ∧ Jvm.Cond.initialized (cnm 8) ∈ WS := ⟨Or.inr (by decide +kernel), ⟨by decide +kernel, by decide +kernel⟩, (ws_1 9 rfl rfl)⟩
theorem pn_9 : (9 = 13 ∨ plainName (cnm 9) = true) ∧ (cnm 9 ≠ "java/lang/invoke/MethodHandle" ∧ cnm 9 ≠ "java/lang/invoke/VarHandle") ∧ Jvm.Cond.initialized (cnm 9) ∈ WS := ⟨Or.inr (by decide +kernel), ⟨by decide +kernel, by decide +kernel⟩, (ws_1 2 rfl rfl)⟩
theorem pn_10 : (10 = 13 ∨ plainName (cnm 10) = true) ∧ (cnm 10 ≠ "java/lang/invoke/MethodHandle" ∧ cnm 10 ≠ "java/lang/invoke/VarHandle") ∧ Jvm.Cond.initialized (cnm 10) ∈ WS := ⟨Or.inr (by decide +kernel), ⟨by decide +kernel, by decide +kernel⟩, (ws_1 1 rfl rfl)⟩
theorem pn_11 : (11 = 13 ∨ plainName (cnm 11) = true) ∧ (cnm 11 ≠ "java/lang/invoke/MethodHandle" ∧ cnm 11 ≠ "java/lang/invoke/VarHandle") ∧ Jvm.Cond.initialized (cnm 11) ∈ WS := ⟨Or.inr (by decide +kernel), ⟨by decide +kernel, by decide +kernel⟩, (ws_1 17 rfl rfl)⟩
theorem pn_13 : (13 = 13 ∨ plainName (cnm 13) = true) ∧ (cnm 13 ≠ "java/lang/invoke/MethodHandle" ∧ cnm 13 ≠ "java/lang/invoke/VarHandle") ∧ Jvm.Cond.initialized (cnm 13) ∈ WS := ⟨Or.inl rfl, ⟨by decide +kernel, by decide +kernel⟩, (ws_1 7 rfl rfl)⟩
theorem pn_14 : (14 = 13 ∨ plainName (cnm 14) = true) ∧ (cnm 14 ≠ "java/lang/invoke/MethodHandle" ∧ cnm 14 ≠ "java/lang/invoke/VarHandle") ∧ Jvm.Cond.initialized (cnm 14) ∈ WS := ⟨Or.inr (by decide +kernel), ⟨by decide +kernel, by decide +kernel⟩, (ws_1 18 rfl rfl)⟩
set_option maxRecDepth 100000 in
theorem mm_0 : Mp 0 := ⟨rfl, (ws_1 131 rfl rfl), pn_0.2.2, (plainFor_of_name (pn_0.1.resolve_left (by decide))), pn_0.2.1, by decide +kernel, (fun _ => ⟨rfl, rfl⟩), by decide, by decide, (fun h => absurd h (by decide)), (fun _ => ⟨(ws_1 130 rfl rfl), by decide, (fun h => absurd h (by decide))⟩)⟩
set_option maxRecDepth 100000 in
theorem mm_1 : Mp 1 := ⟨rfl, (ws_4 96 rfl rfl), pn_0.2.2, (plainFor_of_name (pn_0.1.resolve_left (by decide))), pn_0.2.1, by decide +kernel, (fun h => absurd h (by decide)), by decide, by decide, (fun h => absurd h (by decide)), (fun _ => ⟨(ws_4 94 rfl rfl), by decide, (fun _ => (ws_4 95 rfl rfl))⟩)⟩
set_option maxRecDepth 100000 in
theorem mm_2 : Mp 2 := ⟨rfl, (ws_4 101 rfl rfl), pn_0.2.2, (plainFor_of_name (pn_0.1.resolve_left (by decide))), pn_0.2.1, by decide +kernel, (fun h => absurd h (by decide)), by decide, by decide, (fun h => absurd h (by decide)), (fun _ => ⟨(ws_4 100 rfl rfl), by decide, (fun _ => (ws_0 31 rfl rfl))⟩)⟩
set_option maxRecDepth 100000 in
theorem mm_3 : Mp 3 := ⟨rfl, (ws_4 105 rfl rfl), pn_0.2.2, (plainFor_of_name (pn_0.1.resolve_left (by decide))), pn_0.2.1, by decide +kernel, (fun h => absurd h (by decide)), by decide, by decide, (fun h => absurd h (by decide)), (fun _ => ⟨(ws_4 104 rfl rfl), by decide, (fun _ => (ws_0 32 rfl rfl))⟩)⟩
set_option maxRecDepth 100000 in
theorem mm_4 : Mp 4 := ⟨rfl, (ws_4 117 rfl rfl), pn_0.2.2, (plainFor_of_name (pn_0.1.resolve_left (by decide))), pn_0.2.1, by decide +kernel, (fun h => absurd h (by decide)), by decide, by decide, (fun h => absurd h (by decide)), (fun _ => ⟨(ws_4 115 rfl rfl), by decide, (fun _ => (ws_4 116 rfl rfl))⟩)⟩
set_option maxRecDepth 100000 in
theorem mm_5 : Mp 5 := ⟨rfl, (ws_1 82 rfl rfl), pn_1.2.2, (plainFor_of_name (pn_1.1.resolve_left (by decide))), pn_1.2.1, by decide +kernel, (fun _ => ⟨rfl, rfl⟩), by decide, by decide, (fun h => absurd h (by decide)), (fun _ => ⟨(ws_1 81 rfl rfl), by decide, (fun h => absurd h (by decide))⟩)⟩
set_option maxRecDepth 100000 in
theorem mm_6 : Mp 6 := ⟨rfl, (ws_4 217 rfl rfl), pn_1.2.2, (plainFor_of_name (pn_1.1.resolve_left (by decide))), pn_1.2.1, by decide +kernel, (fun h => absurd h (by decide)), by decide, by decide, (fun h => absurd h (by decide)), (fun _ => ⟨(ws_4 215 rfl rfl), by decide, (fun _ => (ws_4 216 rfl rfl))⟩)⟩
set_option maxRecDepth 100000 in
theorem mm_7 : Mp 7 := ⟨rfl, (ws_1 235 rfl rfl), pn_2.2.2, (plainFor_of_name (pn_2.1.resolve_left (by decide))), pn_2.2.1, by decide +kernel, (fun _ => ⟨rfl, rfl⟩), by decide, by decide, (fun h => absurd h (by decide)), (fun _ => ⟨(ws_1 234 rfl rfl), by decide, (fun h => absurd h (by decide))⟩)⟩
set_option maxRecDepth 100000 in
theorem mm_8 : Mp 8 := ⟨rfl, (ws_4 223 rfl rfl), pn_2.2.2, (plainFor_of_name (pn_2.1.resolve_left (by decide))), pn_2.2.1, by decide +kernel, (fun h => absurd h (by decide)), by decide, by decide, (fun h => absurd h (by decide)), (fun _ => ⟨(ws_4 221 rfl rfl), by decide, (fun _ => (ws_4 222 rfl rfl))⟩)⟩
set_option maxRecDepth 100000 in
theorem mm_9 : Mp 9 := ⟨rfl, (ws_5 25 rfl rfl), pn_2.2.2, (plainFor_of_name (pn_2.1.resolve_left (by decide))), pn_2.2.1, by decide +kernel, (fun h => absurd h (by decide)), by decide, by decide, (fun h => absurd h (by decide)), (fun _ => ⟨(ws_5 23 rfl rfl), by decide, (fun _ => (ws_5 24 rfl rfl))⟩)⟩
set_option maxRecDepth 100000 in
theorem mm_10 : Mp 10 := ⟨rfl, (ws_4 54 rfl rfl), pn_2.2.2, (plainFor_of_name (pn_2.1.resolve_left (by decide))), pn_2.2.1, by decide +kernel, (fun h => absurd h (by decide)), by decide, by decide, (fun h => absurd h (by decide)), (fun _ => ⟨(ws_4 52 rfl rfl), by decide, (fun _ => (ws_4 53 rfl rfl))⟩)⟩
set_option maxRecDepth 100000 in
theorem mm_11 : Mp 11 := ⟨rfl, (ws_5 148 rfl rfl), pn_2.2.2, (plainFor_of_name (pn_2.1.resolve_left (by decide))), pn_2.2.1, by decide +kernel, (fun h => absurd h (by decide)), by decide, by decide, (fun h => absurd h (by decide)), (fun _ => ⟨(ws_5 146 rfl rfl), by decide, (fun _ => (ws_5 147 rfl rfl))⟩)⟩
set_option maxRecDepth 100000 in
theorem mm_12 : Mp 12 := ⟨rfl, (ws_5 49 rfl rfl), pn_2.2.2, (plainFor_of_name (pn_2.1.resolve_left (by decide))), pn_2.2.1, by decide +kernel, (fun h => absurd h (by decide)), by decide, by decide, (fun h => absurd h (by decide)), (fun _ => ⟨(ws_5 47 rfl rfl), by decide, (fun _ => (ws_5 48 rfl rfl))⟩)⟩
set_option maxRecDepth 100000 in
theorem mm_13 : Mp 13 := ⟨rfl, (ws_5 57 rfl rfl), pn_2.2.2, (plainFor_of_name (pn_2.1.resolve_left (by decide))), pn_2.2.1, by decide +kernel, (fun h => absurd h (by decide)), by decide, by decide, (fun h => absurd h (by decide)), (fun _ => ⟨(ws_5 55 rfl rfl), by decide, (fun _ => (ws_5 56 rfl rfl))⟩)⟩
set_option maxRecDepth 100000 in
theorem mm_14 : Mp 14 := ⟨rfl, (ws_5 61 rfl rfl), pn_2.2.2, (plainFor_of_name (pn_2.1.resolve_left (by decide))), pn_2.2.1, by decide +kernel, (fun h => absurd h (by decide)), by decide, by decide, (fun h => absurd h (by decide)), (fun _ => ⟨(ws_5 59 rfl rfl), by decide, (fun _ => (ws_5 60 rfl rfl))⟩)⟩
set_option maxRecDepth 100000 in
theorem mm_15 : Mp 15 := ⟨rfl, (ws_2 163 rfl rfl), pn_3.2.2, (plainFor_of_name (pn_3.1.resolve_left (by decide))), pn_3.2.1, by decide +kernel, (fun _ => ⟨rfl, rfl⟩), by decide, by decide, (fun h => absurd h (by decide)), (fun _ => ⟨(ws_2 162 rfl rfl), by decide, (fun h => absurd h (by decide))⟩)⟩
set_option maxRecDepth 100000 in
theorem mm_16 : Mp 16 := ⟨rfl, (ws_3 13 rfl rfl), pn_3.2.2, (plainFor_of_name (pn_3.1.resolve_left (by decide))), pn_3.2.1, by decide +kernel, (fun h => absurd h (by decide)), by decide, by decide, (fun h => absurd h (by decide)), (fun _ => ⟨(ws_3 12 rfl rfl), by decide, (fun _ => (ws_0 0 rfl rfl))⟩)⟩
set_option maxRecDepth 100000 in
theorem mm_17 : Mp 17 := ⟨rfl, (ws_3 95 rfl rfl), pn_3.2.2, (plainFor_of_name (pn_3.1.resolve_left (by decide))), pn_3.2.1, by decide +kernel, (fun h => absurd h (by decide)), by decide, by decide, (fun h => absurd h (by decide)), (fun _ => ⟨(ws_3 93 rfl rfl), by decide, (fun _ => (ws_3 94 rfl rfl))⟩)⟩
set_option maxRecDepth 100000 in
theorem mm_18 : Mp 18 := ⟨rfl, (ws_3 165 rfl rfl), pn_3.2.2, (plainFor_of_name (pn_3.1.resolve_left (by decide))), pn_3.2.1, by decide +kernel, (fun h => absurd h (by decide)), by decide, by decide, (fun h => absurd h (by decide)), (fun _ => ⟨(ws_3 163 rfl rfl), by decide, (fun _ => (ws_3 164 rfl rfl))⟩)⟩
set_option maxRecDepth 100000 in
theorem mm_19 : Mp 19 := ⟨rfl, (ws_3 141 rfl rfl), pn_3.2.2, (plainFor_of_name (pn_3.1.resolve_left (by decide))), pn_3.2.1, by decide +kernel, (fun h => absurd h (by decide)), by decide, by decide, (fun h => absurd h (by decide)), (fun _ => ⟨(ws_3 139 rfl rfl), by decide, (fun _ => (ws_3 140 rfl rfl))⟩)⟩
set_option maxRecDepth 100000 in
theorem mm_20 : Mp 20 := ⟨rfl, (ws_3 145 rfl rfl), pn_3.2.2, (plainFor_of_name (pn_3.1.resolve_left (by decide))), pn_3.2.1, by decide +kernel, (fun h => absurd h (by decide)), by decide, by decide, (fun h => absurd h (by decide)), (fun _ => ⟨(ws_3 144 rfl rfl), by decide, (fun _ => (ws_0 4 rfl rfl))⟩)⟩
set_option maxRecDepth 100000 in
theorem mm_21 : Mp 21 := ⟨rfl, (ws_3 158 rfl rfl), pn_3.2.2, (plainFor_of_name (pn_3.1.resolve_left (by decide))), pn_3.2.1, by decide +kernel, (fun h => absurd h (by decide)), by decide, by decide, (fun h => absurd h (by decide)), (fun _ => ⟨(ws_3 157 rfl rfl), by decide, (fun _ => (ws_0 6 rfl rfl))⟩)⟩
set_option maxRecDepth 100000 in
theorem mm_22 : Mp 22 := ⟨rfl, (ws_4 2 rfl rfl), pn_3.2.2, (plainFor_of_name (pn_3.1.resolve_left (by decide))), pn_3.2.1, by decide +kernel, (fun h => absurd h (by decide)), by decide, by decide, (fun h => absurd h (by decide)), (fun _ => ⟨(ws_4 1 rfl rfl), by decide, (fun _ => (ws_0 24 rfl rfl))⟩)⟩
set_option maxRecDepth 100000 in
theorem mm_23 : Mp 23 := ⟨rfl, (ws_3 195 rfl rfl), pn_3.2.2, (plainFor_of_name (pn_3.1.resolve_left (by decide))), pn_3.2.1, by decide +kernel, (fun h => absurd h (by decide)), by decide, by decide, (fun h => absurd h (by decide)), (fun _ => ⟨(ws_3 194 rfl rfl), by decide, (fun _ => (ws_0 13 rfl rfl))⟩)⟩
set_option maxRecDepth 100000 in
theorem mm_24 : Mp 24 := ⟨rfl, (ws_3 169 rfl rfl), pn_3.2.2, (plainFor_of_name (pn_3.1.resolve_left (by decide))), pn_3.2.1, by decide +kernel, (fun h => absurd h (by decide)), by decide, by decide, (fun h => absurd h (by decide)), (fun _ => ⟨(ws_3 168 rfl rfl), by decide, (fun _ => (ws_0 7 rfl rfl))⟩)⟩
set_option maxRecDepth 100000 in
theorem mm_25 : Mp 25 := ⟨rfl, (ws_3 191 rfl rfl), pn_3.2.2, (plainFor_of_name (pn_3.1.resolve_left (by decide))), pn_3.2.1, by decide +kernel, (fun h => absurd h (by decide)), by decide, by decide, (fun h => absurd h (by decide)), (fun _ => ⟨(ws_3 190 rfl rfl), by decide, (fun _ => (ws_0 12 rfl rfl))⟩)⟩
set_option maxRecDepth 100000 in
theorem mm_26 : Mp 26 := ⟨rfl, (ws_3 181 rfl rfl), pn_3.2.2, (plainFor_of_name (pn_3.1.resolve_left (by decide))), pn_3.2.1, by decide +kernel, (fun h => absurd h (by decide)), by decide, by decide, (fun h => absurd h (by decide)), (fun _ => ⟨(ws_3 180 rfl rfl), by decide, (fun _ => (ws_0 10 rfl rfl))⟩)⟩
set_option maxRecDepth 100000 in
theorem mm_27 : Mp 27 := ⟨rfl, (ws_3 177 rfl rfl), pn_3.2.2, (plainFor_of_name (pn_3.1.resolve_left (by decide))), pn_3.2.1, by decide +kernel, (fun h => absurd h (by decide)), by decide, by decide, (fun h => absurd h (by decide)), (fun _ => ⟨(ws_3 176 rfl rfl), by decide, (fun _ => (ws_0 9 rfl rfl))⟩)⟩
set_option maxRecDepth 100000 in
theorem mm_28 : Mp 28 := ⟨rfl, (ws_3 185 rfl rfl), pn_3.2.2, (plainFor_of_name (pn_3.1.resolve_left (by decide))), pn_3.2.1, by decide +kernel, (fun h => absurd h (by decide)), by decide, by decide, (fun h => absurd h (by decide)), (fun _ => ⟨(ws_3 184 rfl rfl), by decide, (fun _ => (ws_0 11 rfl rfl))⟩)⟩
set_option maxRecDepth 100000 in
theorem mm_29 : Mp 29 := ⟨rfl, (ws_3 207 rfl rfl), pn_3.2.2, (plainFor_of_name (pn_3.1.resolve_left (by decide))), pn_3.2.1, by decide +kernel, (fun h => absurd h (by decide)), by decide, by decide, (fun h => absurd h (by decide)), (fun _ => ⟨(ws_3 206 rfl rfl), by decide, (fun _ => (ws_0 16 rfl rfl))⟩)⟩
set_option maxRecDepth 100000 in
theorem mm_30 : Mp 30 := ⟨rfl, (ws_3 219 rfl rfl), pn_3.2.2, (plainFor_of_name (pn_3.1.resolve_left (by decide))), pn_3.2.1, by decide +kernel, (fun h => absurd h (by decide)), by decide, by decide, (fun h => absurd h (by decide)), (fun _ => ⟨(ws_3 218 rfl rfl), by decide, (fun _ => (ws_0 19 rfl rfl))⟩)⟩
set_option maxRecDepth 100000 in
theorem mm_31 : Mp 31 := ⟨rfl, (ws_3 150 rfl rfl), pn_3.2.2, (plainFor_of_name (pn_3.1.resolve_left (by decide))), pn_3.2.1, by decide +kernel, (fun h => absurd h (by decide)), by decide, by decide, (fun h => absurd h (by decide)), (fun _ => ⟨(ws_3 148 rfl rfl), by decide, (fun _ => (ws_3 149 rfl rfl))⟩)⟩
set_option maxRecDepth 100000 in
theorem mm_32 : Mp 32 := ⟨rfl, (ws_3 154 rfl rfl), pn_3.2.2, (plainFor_of_name (pn_3.1.resolve_left (by decide))), pn_3.2.1, by decide +kernel, (fun h => absurd h (by decide)), by decide, by decide, (fun h => absurd h (by decide)), (fun _ => ⟨(ws_3 153 rfl rfl), by decide, (fun _ => (ws_0 5 rfl rfl))⟩)⟩
set_option maxRecDepth 100000 in
theorem mm_33 : Mp 33 := ⟨rfl, (ws_3 161 rfl rfl), pn_3.2.2, (plainFor_of_name (pn_3.1.resolve_left (by decide))), pn_3.2.1, by decide +kernel, (fun h => absurd h (by decide)), by decide, by decide, (fun _ => (ws_3 160 rfl rfl)), (fun h => absurd h (by decide))⟩
set_option maxRecDepth 100000 in
theorem mm_34 : Mp 34 := ⟨rfl, (ws_3 173 rfl rfl), pn_3.2.2, (plainFor_of_name (pn_3.1.resolve_left (by decide))), pn_3.2.1, by decide +kernel, (fun h => absurd h (by decide)), by decide, by decide, (fun h => absurd h (by decide)), (fun _ => ⟨(ws_3 172 rfl rfl), by decide, (fun _ => (ws_0 8 rfl rfl))⟩)⟩
set_option maxRecDepth 100000 in
theorem mm_35 : Mp 35 := ⟨rfl, (ws_3 199 rfl rfl), pn_3.2.2, (plainFor_of_name (pn_3.1.resolve_left (by decide))), pn_3.2.1, by decide +kernel, (fun h => absurd h (by decide)), by decide, by decide, (fun h => absurd h (by decide)), (fun _ => ⟨(ws_3 198 rfl rfl), by decide, (fun _ => (ws_0 14 rfl rfl))⟩)⟩
set_option maxRecDepth 100000 in
theorem mm_36 : Mp 36 := ⟨rfl, (ws_3 203 rfl rfl), pn_3.2.2, (plainFor_of_name (pn_3.1.resolve_left (by decide))), pn_3.2.1, by decide +kernel, (fun h => absurd h (by decide)), by decide, by decide, (fun h => absurd h (by decide)), (fun _ => ⟨(ws_3 202 rfl rfl), by decide, (fun _ => (ws_0 15 rfl rfl))⟩)⟩
set_option maxRecDepth 100000 in
theorem mm_37 : Mp 37 := ⟨rfl, (ws_3 211 rfl rfl), pn_3.2.2, (plainFor_of_name (pn_3.1.resolve_left (by decide))), pn_3.2.1, by decide +kernel, (fun h => absurd h (by decide)), by decide, by decide, (fun h => absurd h (by decide)), (fun _ => ⟨(ws_3 210 rfl rfl), by decide, (fun _ => (ws_0 17 rfl rfl))⟩)⟩
set_option maxRecDepth 100000 in
theorem mm_38 : Mp 38 := ⟨rfl, (ws_3 215 rfl rfl), pn_3.2.2, (plainFor_of_name (pn_3.1.resolve_left (by decide))), pn_3.2.1, by decide +kernel, (fun h => absurd h (by decide)), by decide, by decide, (fun h => absurd h (by decide)), (fun _ => ⟨(ws_3 214 rfl rfl), by decide, (fun _ => (ws_0 18 rfl rfl))⟩)⟩
set_option maxRecDepth 100000 in
theorem mm_39 : Mp 39 := ⟨rfl, (ws_3 223 rfl rfl), pn_3.2.2, (plainFor_of_name (pn_3.1.resolve_left (by decide))), pn_3.2.1, by decide +kernel, (fun h => absurd h (by decide)), by decide, by decide, (fun h => absurd h (by decide)), (fun _ => ⟨(ws_3 222 rfl rfl), by decide, (fun _ => (ws_0 20 rfl rfl))⟩)⟩
set_option maxRecDepth 100000 in
theorem mm_40 : Mp 40 := ⟨rfl, (ws_4 18 rfl rfl), pn_3.2.2, (plainFor_of_name (pn_3.1.resolve_left (by decide))), pn_3.2.1, by decide +kernel, (fun h => absurd h (by decide)), by decide, by decide, (fun h => absurd h (by decide)), (fun _ => ⟨(ws_4 17 rfl rfl), by decide, (fun _ => (ws_0 27 rfl rfl))⟩)⟩
set_option maxRecDepth 100000 in
theorem mm_41 : Mp 41 := ⟨rfl, (ws_4 22 rfl rfl), pn_3.2.2, (plainFor_of_name (pn_3.1.resolve_left (by decide))), pn_3.2.1, by decide +kernel, (fun h => absurd h (by decide)), by decide, by decide, (fun h => absurd h (by decide)), (fun _ => ⟨(ws_4 21 rfl rfl), by decide, (fun _ => (ws_0 28 rfl rfl))⟩)⟩
set_option maxRecDepth 100000 in
theorem mm_42 : Mp 42 := ⟨rfl, (ws_4 26 rfl rfl), pn_3.2.2, (plainFor_of_name (pn_3.1.resolve_left (by decide))), pn_3.2.1, by decide +kernel, (fun h => absurd h (by decide)), by decide, by decide, (fun h => absurd h (by decide)), (fun _ => ⟨(ws_4 25 rfl rfl), by decide, (fun _ => (ws_0 29 rfl rfl))⟩)⟩
set_option maxRecDepth 100000 in
theorem mm_43 : Mp 43 := ⟨rfl, (ws_4 30 rfl rfl), pn_3.2.2, (plainFor_of_name (pn_3.1.resolve_left (by decide))), pn_3.2.1, by decide +kernel, (fun h => absurd h (by decide)), by decide, by decide, (fun h => absurd h (by decide)), (fun _ => ⟨(ws_4 29 rfl rfl), by decide, (fun _ => (ws_0 30 rfl rfl))⟩)⟩
set_option maxRecDepth 100000 in
theorem mm_44 : Mp 44 := ⟨rfl, (ws_4 10 rfl rfl), pn_3.2.2, (plainFor_of_name (pn_3.1.resolve_left (by decide))), pn_3.2.1, by decide +kernel, (fun h => absurd h (by decide)), by decide, by decide, (fun h => absurd h (by decide)), (fun _ => ⟨(ws_4 9 rfl rfl), by decide, (fun _ => (ws_0 26 rfl rfl))⟩)⟩
set_option maxRecDepth 100000 in
theorem mm_45 : Mp 45 := ⟨rfl, (ws_3 227 rfl rfl), pn_3.2.2, (plainFor_of_name (pn_3.1.resolve_left (by decide))), pn_3.2.1, by decide +kernel, (fun h => absurd h (by decide)), by decide, by decide, (fun h => absurd h (by decide)), (fun _ => ⟨(ws_3 226 rfl rfl), by decide, (fun _ => (ws_0 21 rfl rfl))⟩)⟩
set_option maxRecDepth 100000 in
theorem mm_46 : Mp 46 := ⟨rfl, (ws_3 231 rfl rfl), pn_3.2.2, (plainFor_of_name (pn_3.1.resolve_left (by decide))), pn_3.2.1, by decide +kernel, (fun h => absurd h (by decide)), by decide, by decide, (fun h => absurd h (by decide)), (fun _ => ⟨(ws_3 230 rfl rfl), by decide, (fun _ => (ws_0 22 rfl rfl))⟩)⟩
set_option maxRecDepth 100000 in
theorem mm_47 : Mp 47 := ⟨rfl, (ws_3 235 rfl rfl), pn_3.2.2, (plainFor_of_name (pn_3.1.resolve_left (by decide))), pn_3.2.1, by decide +kernel, (fun h => absurd h (by decide)), by decide, by decide, (fun h => absurd h (by decide)), (fun _ => ⟨(ws_3 234 rfl rfl), by decide, (fun _ => (ws_0 23 rfl rfl))⟩)⟩
set_option maxRecDepth 100000 in
theorem mm_48 : Mp 48 := ⟨rfl, (ws_4 6 rfl rfl), pn_3.2.2, (plainFor_of_name (pn_3.1.resolve_left (by decide))), pn_3.2.1, by decide +kernel, (fun h => absurd h (by decide)), by decide, by decide, (fun h => absurd h (by decide)), (fun _ => ⟨(ws_4 5 rfl rfl), by decide, (fun _ => (ws_0 25 rfl rfl))⟩)⟩
set_option maxRecDepth 100000 in
theorem mm_49 : Mp 49 := ⟨rfl, (ws_3 238 rfl rfl), pn_3.2.2, (plainFor_of_name (pn_3.1.resolve_left (by decide))), pn_3.2.1, by decide +kernel, (fun h => absurd h (by decide)), by decide, by decide, (fun _ => (ws_3 237 rfl rfl)), (fun h => absurd h (by decide))⟩
set_option maxRecDepth 100000 in
theorem mm_50 : Mp 50 := ⟨rfl, (ws_2 112 rfl rfl), pn_4.2.2, (plainFor_of_name (pn_4.1.resolve_left (by decide))), pn_4.2.1, by decide +kernel, (fun _ => ⟨rfl, rfl⟩), by decide, by decide, (fun h => absurd h (by decide)), (fun _ => ⟨(ws_2 111 rfl rfl), by decide, (fun h => absurd h (by decide))⟩)⟩
set_option maxRecDepth 100000 in
theorem mm_51 : Mp 51 := ⟨rfl, (ws_3 103 rfl rfl), pn_4.2.2, (plainFor_of_name (pn_4.1.resolve_left (by decide))), pn_4.2.1, by decide +kernel, (fun h => absurd h (by decide)), by decide, by decide, (fun h => absurd h (by decide)), (fun _ => ⟨(ws_3 101 rfl rfl), by decide, (fun _ => (ws_3 102 rfl rfl))⟩)⟩
set_option maxRecDepth 100000 in
theorem mm_52 : Mp 52 := ⟨rfl, (ws_4 14 rfl rfl), pn_4.2.2, (plainFor_of_name (pn_4.1.resolve_left (by decide))), pn_4.2.1, by decide +kernel, (fun h => absurd h (by decide)), by decide, by decide, (fun h => absurd h (by decide)), (fun _ => ⟨(ws_4 12 rfl rfl), by decide, (fun _ => (ws_4 13 rfl rfl))⟩)⟩
set_option maxRecDepth 100000 in
theorem mm_53 : Mp 53 := ⟨rfl, (ws_5 152 rfl rfl), pn_4.2.2, (plainFor_of_name (pn_4.1.resolve_left (by decide))), pn_4.2.1, by decide +kernel, (fun h => absurd h (by decide)), by decide, by decide, (fun h => absurd h (by decide)), (fun _ => ⟨(ws_5 150 rfl rfl), by decide, (fun _ => (ws_5 151 rfl rfl))⟩)⟩
set_option maxRecDepth 100000 in
theorem mm_54 : Mp 54 := ⟨rfl, (ws_5 181 rfl rfl), pn_4.2.2, (plainFor_of_name (pn_4.1.resolve_left (by decide))), pn_4.2.1, by decide +kernel, (fun h => absurd h (by decide)), by decide, by decide, (fun h => absurd h (by decide)), (fun _ => ⟨(ws_5 179 rfl rfl), by decide, (fun _ => (ws_5 180 rfl rfl))⟩)⟩
set_option maxRecDepth 100000 in
theorem mm_55 : Mp 55 := ⟨rfl, (ws_5 157 rfl rfl), pn_4.2.2, (plainFor_of_name (pn_4.1.resolve_left (by decide))), pn_4.2.1, by decide +kernel, (fun h => absurd h (by decide)), by decide, by decide, (fun h => absurd h (by decide)), (fun _ => ⟨(ws_5 156 rfl rfl), by decide, (fun _ => (ws_0 44 rfl rfl))⟩)⟩
set_option maxRecDepth 100000 in
theorem mm_56 : Mp 56 := ⟨rfl, (ws_5 162 rfl rfl), pn_4.2.2, (plainFor_of_name (pn_4.1.resolve_left (by decide))), pn_4.2.1, by decide +kernel, (fun h => absurd h (by decide)), by decide, by decide, (fun _ => (ws_5 161 rfl rfl)), (fun h => absurd h (by decide))⟩
set_option maxRecDepth 100000 in
theorem mm_57 : Mp 57 := ⟨rfl, (ws_5 165 rfl rfl), pn_4.2.2, (plainFor_of_name (pn_4.1.resolve_left (by decide))), pn_4.2.1, by decide +kernel, (fun h => absurd h (by decide)), by decide, by decide, (fun _ => (ws_5 164 rfl rfl)), (fun h => absurd h (by decide))⟩
set_option maxRecDepth 100000 in
theorem mm_58 : Mp 58 := ⟨rfl, (ws_1 76 rfl rfl), pn_5.2.2, (plainFor_of_name (pn_5.1.resolve_left (by decide))), pn_5.2.1, by decide +kernel, (fun _ => ⟨rfl, rfl⟩), by decide, by decide, (fun h => absurd h (by decide)), (fun _ => ⟨(ws_1 75 rfl rfl), by decide, (fun h => absurd h (by decide))⟩)⟩
set_option maxRecDepth 100000 in
theorem mm_59 : Mp 59 := ⟨rfl, (ws_3 99 rfl rfl), pn_5.2.2, (plainFor_of_name (pn_5.1.resolve_left (by decide))), pn_5.2.1, by decide +kernel, (fun h => absurd h (by decide)), by decide, by decide, (fun h => absurd h (by decide)), (fun _ => ⟨(ws_3 97 rfl rfl), by decide, (fun _ => (ws_3 98 rfl rfl))⟩)⟩
set_option maxRecDepth 100000 in
theorem mm_60 : Mp 60 := ⟨rfl, (ws_4 213 rfl rfl), pn_5.2.2, (plainFor_of_name (pn_5.1.resolve_left (by decide))), pn_5.2.1, by decide +kernel, (fun h => absurd h (by decide)), by decide, by decide, (fun h => absurd h (by decide)), (fun _ => ⟨(ws_4 211 rfl rfl), by decide, (fun _ => (ws_4 212 rfl rfl))⟩)⟩
set_option maxRecDepth 100000 in
theorem mm_61 : Mp 61 := ⟨rfl, (ws_4 74 rfl rfl), pn_5.2.2, (plainFor_of_name (pn_5.1.resolve_left (by decide))), pn_5.2.1, by decide +kernel, (fun h => absurd h (by decide)), by decide, by decide, (fun h => absurd h (by decide)), (fun _ => ⟨(ws_4 72 rfl rfl), by decide, (fun _ => (ws_4 73 rfl rfl))⟩)⟩
set_option maxRecDepth 100000 in
theorem mm_62 : Mp 62 := ⟨rfl, (ws_4 155 rfl rfl), pn_5.2.2, (plainFor_of_name (pn_5.1.resolve_left (by decide))), pn_5.2.1, by decide +kernel, (fun h => absurd h (by decide)), by decide, by decide, (fun h => absurd h (by decide)), (fun _ => ⟨(ws_4 153 rfl rfl), by decide, (fun _ => (ws_4 154 rfl rfl))⟩)⟩
set_option maxRecDepth 100000 in
theorem mm_63 : Mp 63 := ⟨rfl, (ws_4 164 rfl rfl), pn_5.2.2, (plainFor_of_name (pn_5.1.resolve_left (by decide))), pn_5.2.1, by decide +kernel, (fun h => absurd h (by decide)), by decide, by decide, (fun h => absurd h (by decide)), (fun _ => ⟨(ws_4 162 rfl rfl), by decide, (fun _ => (ws_4 163 rfl rfl))⟩)⟩
set_option maxRecDepth 100000 in
theorem mm_64 : Mp 64 := ⟨rfl, (ws_4 79 rfl rfl), pn_5.2.2, (plainFor_of_name (pn_5.1.resolve_left (by decide))), pn_5.2.1, by decide +kernel, (fun h => absurd h (by decide)), by decide, by decide, (fun h => absurd h (by decide)), (fun _ => ⟨(ws_4 77 rfl rfl), by decide, (fun _ => (ws_4 78 rfl rfl))⟩)⟩
set_option maxRecDepth 100000 in
theorem mm_65 : Mp 65 := ⟨rfl, (ws_4 112 rfl rfl), pn_5.2.2, (plainFor_of_name (pn_5.1.resolve_left (by decide))), pn_5.2.1, by decide +kernel, (fun h => absurd h (by decide)), by decide, by decide, (fun h => absurd h (by decide)), (fun _ => ⟨(ws_4 110 rfl rfl), by decide, (fun _ => (ws_4 111 rfl rfl))⟩)⟩
set_option maxRecDepth 100000 in
theorem mm_66 : Mp 66 := ⟨rfl, (ws_4 84 rfl rfl), pn_5.2.2, (plainFor_of_name (pn_5.1.resolve_left (by decide))), pn_5.2.1, by decide +kernel, (fun h => absurd h (by decide)), by decide, by decide, (fun h => absurd h (by decide)), (fun _ => ⟨(ws_4 82 rfl rfl), by decide, (fun _ => (ws_4 83 rfl rfl))⟩)⟩
set_option maxRecDepth 100000 in
theorem mm_67 : Mp 67 := ⟨rfl, (ws_4 134 rfl rfl), pn_5.2.2, (plainFor_of_name (pn_5.1.resolve_left (by decide))), pn_5.2.1, by decide +kernel, (fun h => absurd h (by decide)), by decide, by decide, (fun h => absurd h (by decide)), (fun _ => ⟨(ws_4 132 rfl rfl), by decide, (fun _ => (ws_4 133 rfl rfl))⟩)⟩
set_option maxRecDepth 100000 in
theorem mm_68 : Mp 68 := ⟨rfl, (ws_5 197 rfl rfl), pn_5.2.2, (plainFor_of_name (pn_5.1.resolve_left (by decide))), pn_5.2.1, by decide +kernel, (fun h => absurd h (by decide)), by decide, by decide, (fun h => absurd h (by decide)), (fun _ => ⟨(ws_5 195 rfl rfl), by decide, (fun _ => (ws_5 196 rfl rfl))⟩)⟩
set_option maxRecDepth 100000 in
theorem mm_69 : Mp 69 := ⟨rfl, (ws_4 139 rfl rfl), pn_5.2.2, (plainFor_of_name (pn_5.1.resolve_left (by decide))), pn_5.2.1, by decide +kernel, (fun h => absurd h (by decide)), by decide, by decide, (fun h => absurd h (by decide)), (fun _ => ⟨(ws_4 137 rfl rfl), by decide, (fun _ => (ws_4 138 rfl rfl))⟩)⟩
set_option maxRecDepth 100000 in
theorem mm_70 : Mp 70 := ⟨rfl, (ws_4 145 rfl rfl), pn_5.2.2, (plainFor_of_name (pn_5.1.resolve_left (by decide))), pn_5.2.1, by decide +kernel, (fun h => absurd h (by decide)), by decide, by decide, (fun h => absurd h (by decide)), (fun _ => ⟨(ws_4 143 rfl rfl), by decide, (fun _ => (ws_4 144 rfl rfl))⟩)⟩
set_option maxRecDepth 100000 in
theorem mm_71 : Mp 71 := ⟨rfl, (ws_4 181 rfl rfl), pn_5.2.2, (plainFor_of_name (pn_5.1.resolve_left (by decide))), pn_5.2.1, by decide +kernel, (fun h => absurd h (by decide)), by decide, by decide, (fun h => absurd h (by decide)), (fun _ => ⟨(ws_4 179 rfl rfl), by decide, (fun _ => (ws_4 180 rfl rfl))⟩)⟩
set_option maxRecDepth 100000 in
theorem mm_72 : Mp 72 := ⟨rfl, (ws_4 177 rfl rfl), pn_5.2.2, (plainFor_of_name (pn_5.1.resolve_left (by decide))), pn_5.2.1, by decide +kernel, (fun h => absurd h (by decide)), by decide, by decide, (fun h => absurd h (by decide)), (fun _ => ⟨(ws_4 175 rfl rfl), by decide, (fun _ => (ws_4 176 rfl rfl))⟩)⟩
set_option maxRecDepth 100000 in
theorem mm_73 : Mp 73 := ⟨rfl, (ws_4 190 rfl rfl), pn_5.2.2, (plainFor_of_name (pn_5.1.resolve_left (by decide))), pn_5.2.1, by decide +kernel, (fun h => absurd h (by decide)), by decide, by decide, (fun h => absurd h (by decide)), (fun _ => ⟨(ws_4 188 rfl rfl), by decide, (fun _ => (ws_4 189 rfl rfl))⟩)⟩
set_option maxRecDepth 100000 in
theorem mm_74 : Mp 74 := ⟨rfl, (ws_5 53 rfl rfl), pn_5.2.2, (plainFor_of_name (pn_5.1.resolve_left (by decide))), pn_5.2.1, by decide +kernel, (fun h => absurd h (by decide)), by decide, by decide, (fun h => absurd h (by decide)), (fun _ => ⟨(ws_5 51 rfl rfl), by decide, (fun _ => (ws_5 52 rfl rfl))⟩)⟩
set_option maxRecDepth 100000 in
theorem mm_75 : Mp 75 := ⟨rfl, (ws_5 37 rfl rfl), pn_5.2.2, (plainFor_of_name (pn_5.1.resolve_left (by decide))), pn_5.2.1, by decide +kernel, (fun h => absurd h (by decide)), by decide, by decide, (fun h => absurd h (by decide)), (fun _ => ⟨(ws_5 35 rfl rfl), by decide, (fun _ => (ws_5 36 rfl rfl))⟩)⟩
set_option maxRecDepth 100000 in
theorem mm_76 : Mp 76 := ⟨rfl, (ws_5 9 rfl rfl), pn_5.2.2, (plainFor_of_name (pn_5.1.resolve_left (by decide))), pn_5.2.1, by decide +kernel, (fun h => absurd h (by decide)), by decide, by decide, (fun h => absurd h (by decide)), (fun _ => ⟨(ws_5 7 rfl rfl), by decide, (fun _ => (ws_5 8 rfl rfl))⟩)⟩
set_option maxRecDepth 100000 in
theorem mm_77 : Mp 77 := ⟨rfl, (ws_4 92 rfl rfl), pn_5.2.2, (plainFor_of_name (pn_5.1.resolve_left (by decide))), pn_5.2.1, by decide +kernel, (fun h => absurd h (by decide)), by decide, by decide, (fun h => absurd h (by decide)), (fun _ => ⟨(ws_4 90 rfl rfl), by decide, (fun _ => (ws_4 91 rfl rfl))⟩)⟩
set_option maxRecDepth 100000 in
theorem mm_78 : Mp 78 := ⟨rfl, (ws_4 199 rfl rfl), pn_5.2.2, (plainFor_of_name (pn_5.1.resolve_left (by decide))), pn_5.2.1, by decide +kernel, (fun h => absurd h (by decide)), by decide, by decide, (fun h => absurd h (by decide)), (fun _ => ⟨(ws_4 197 rfl rfl), by decide, (fun _ => (ws_4 198 rfl rfl))⟩)⟩
set_option maxRecDepth 100000 in
theorem mm_79 : Mp 79 := ⟨rfl, (ws_4 228 rfl rfl), pn_5.2.2, (plainFor_of_name (pn_5.1.resolve_left (by decide))), pn_5.2.1, by decide +kernel, (fun h => absurd h (by decide)), by decide, by decide, (fun h => absurd h (by decide)), (fun _ => ⟨(ws_4 226 rfl rfl), by decide, (fun _ => (ws_4 227 rfl rfl))⟩)⟩
set_option maxRecDepth 100000 in
theorem mm_80 : Mp 80 := ⟨rfl, (ws_4 232 rfl rfl), pn_5.2.2, (plainFor_of_name (pn_5.1.resolve_left (by decide))), pn_5.2.1, by decide +kernel, (fun h => absurd h (by decide)), by decide, by decide, (fun h => absurd h (by decide)), (fun _ => ⟨(ws_4 231 rfl rfl), by decide, (fun _ => (ws_0 33 rfl rfl))⟩)⟩
set_option maxRecDepth 100000 in
theorem mm_81 : Mp 81 := ⟨rfl, (ws_4 237 rfl rfl), pn_5.2.2, (plainFor_of_name (pn_5.1.resolve_left (by decide))), pn_5.2.1, by decide +kernel, (fun h => absurd h (by decide)), by decide, by decide, (fun h => absurd h (by decide)), (fun _ => ⟨(ws_4 236 rfl rfl), by decide, (fun _ => (ws_0 34 rfl rfl))⟩)⟩
set_option maxRecDepth 100000 in
theorem mm_82 : Mp 82 := ⟨rfl, (ws_5 1 rfl rfl), pn_5.2.2, (plainFor_of_name (pn_5.1.resolve_left (by decide))), pn_5.2.1, by decide +kernel, (fun h => absurd h (by decide)), by decide, by decide, (fun h => absurd h (by decide)), (fun _ => ⟨(ws_5 0 rfl rfl), by decide, (fun _ => (ws_0 35 rfl rfl))⟩)⟩
set_option maxRecDepth 100000 in
theorem mm_83 : Mp 83 := ⟨rfl, (ws_5 81 rfl rfl), pn_5.2.2, (plainFor_of_name (pn_5.1.resolve_left (by decide))), pn_5.2.1, by decide +kernel, (fun h => absurd h (by decide)), by decide, by decide, (fun h => absurd h (by decide)), (fun _ => ⟨(ws_5 79 rfl rfl), by decide, (fun _ => (ws_5 80 rfl rfl))⟩)⟩
set_option maxRecDepth 100000 in
theorem mm_84 : Mp 84 := ⟨rfl, (ws_5 89 rfl rfl), pn_5.2.2, (plainFor_of_name (pn_5.1.resolve_left (by decide))), pn_5.2.1, by decide +kernel, (fun h => absurd h (by decide)), by decide, by decide, (fun h => absurd h (by decide)), (fun _ => ⟨(ws_5 87 rfl rfl), by decide, (fun _ => (ws_5 88 rfl rfl))⟩)⟩
set_option maxRecDepth 100000 in
theorem mm_85 : Mp 85 := ⟨rfl, (ws_5 106 rfl rfl), pn_5.2.2, (plainFor_of_name (pn_5.1.resolve_left (by decide))), pn_5.2.1, by decide +kernel, (fun h => absurd h (by decide)), by decide, by decide, (fun h => absurd h (by decide)), (fun _ => ⟨(ws_5 104 rfl rfl), by decide, (fun _ => (ws_5 105 rfl rfl))⟩)⟩
set_option maxRecDepth 100000 in
theorem mm_86 : Mp 86 := ⟨rfl, (ws_1 187 rfl rfl), pn_6.2.2, (plainFor_of_name (pn_6.1.resolve_left (by decide))), pn_6.2.1, by decide +kernel, (fun _ => ⟨rfl, rfl⟩), by decide, by decide, (fun h => absurd h (by decide)), (fun _ => ⟨(ws_1 186 rfl rfl), by decide, (fun h => absurd h (by decide))⟩)⟩
set_option maxRecDepth 100000 in
theorem mm_87 : Mp 87 := ⟨rfl, (ws_2 169 rfl rfl), pn_7.2.2, (plainFor_of_name (pn_7.1.resolve_left (by decide))), pn_7.2.1, by decide +kernel, (fun _ => ⟨rfl, rfl⟩), by decide, by decide, (fun h => absurd h (by decide)), (fun _ => ⟨(ws_2 168 rfl rfl), by decide, (fun h => absurd h (by decide))⟩)⟩
set_option maxRecDepth 100000 in
theorem mm_88 : Mp 88 := ⟨rfl, (ws_2 222 rfl rfl), pn_7.2.2, (plainFor_of_name (pn_7.1.resolve_left (by decide))), pn_7.2.1, by decide +kernel, (fun h => absurd h (by decide)), by decide, by decide, (fun _ => (ws_2 221 rfl rfl)), (fun h => absurd h (by decide))⟩
set_option maxRecDepth 100000 in
theorem mm_89 : Mp 89 := ⟨rfl, (ws_3 107 rfl rfl), pn_7.2.2, (plainFor_of_name (pn_7.1.resolve_left (by decide))), pn_7.2.1, by decide +kernel, (fun h => absurd h (by decide)), by decide, by decide, (fun h => absurd h (by decide)), (fun _ => ⟨(ws_3 105 rfl rfl), by decide, (fun _ => (ws_3 106 rfl rfl))⟩)⟩
set_option maxRecDepth 100000 in
theorem mm_90 : Mp 90 := ⟨rfl, (ws_3 116 rfl rfl), pn_7.2.2, (plainFor_of_name (pn_7.1.resolve_left (by decide))), pn_7.2.1, by decide +kernel, (fun h => absurd h (by decide)), by decide, by decide, (fun _ => (ws_3 115 rfl rfl)), (fun h => absurd h (by decide))⟩
set_option maxRecDepth 100000 in
theorem mm_91 : Mp 91 := ⟨rfl, (ws_3 119 rfl rfl), pn_7.2.2, (plainFor_of_name (pn_7.1.resolve_left (by decide))), pn_7.2.1, by decide +kernel, (fun h => absurd h (by decide)), by decide, by decide, (fun _ => (ws_3 118 rfl rfl)), (fun h => absurd h (by decide))⟩
set_option maxRecDepth 100000 in
theorem mm_92 : Mp 92 := ⟨rfl, (ws_3 113 rfl rfl), pn_7.2.2, (plainFor_of_name (pn_7.1.resolve_left (by decide))), pn_7.2.1, by decide +kernel, (fun h => absurd h (by decide)), by decide, by decide, (fun _ => (ws_3 112 rfl rfl)), (fun h => absurd h (by decide))⟩
set_option maxRecDepth 100000 in
theorem mm_93 : Mp 93 := ⟨rfl, (ws_3 123 rfl rfl), pn_7.2.2, (plainFor_of_name (pn_7.1.resolve_left (by decide))), pn_7.2.1, by decide +kernel, (fun h => absurd h (by decide)), by decide, by decide, (fun h => absurd h (by decide)), (fun _ => ⟨(ws_3 122 rfl rfl), by decide, (fun _ => (ws_0 2 rfl rfl))⟩)⟩
set_option maxRecDepth 100000 in
theorem mm_94 : Mp 94 := ⟨rfl, (ws_3 127 rfl rfl), pn_7.2.2, (plainFor_of_name (pn_7.1.resolve_left (by decide))), pn_7.2.1, by decide +kernel, (fun h => absurd h (by decide)), by decide, by decide, (fun h => absurd h (by decide)), (fun _ => ⟨(ws_3 126 rfl rfl), by decide, (fun _ => (ws_0 3 rfl rfl))⟩)⟩
set_option maxRecDepth 100000 in
theorem mm_95 : Mp 95 := ⟨rfl, (ws_3 130 rfl rfl), pn_7.2.2, (plainFor_of_name (pn_7.1.resolve_left (by decide))), pn_7.2.1, by decide +kernel, (fun h => absurd h (by decide)), by decide, by decide, (fun _ => (ws_3 129 rfl rfl)), (fun h => absurd h (by decide))⟩
set_option maxRecDepth 100000 in
theorem mm_96 : Mp 96 := ⟨rfl, (ws_3 136 rfl rfl), pn_7.2.2, (plainFor_of_name (pn_7.1.resolve_left (by decide))), pn_7.2.1, by decide +kernel, (fun h => absurd h (by decide)), by decide, by decide, (fun _ => (ws_3 135 rfl rfl)), (fun h => absurd h (by decide))⟩
set_option maxRecDepth 100000 in
theorem mm_97 : Mp 97 := ⟨rfl, (ws_2 104 rfl rfl), pn_8.2.2, (plainFor_of_name (pn_8.1.resolve_left (by decide))), pn_8.2.1, by decide +kernel, (fun _ => ⟨rfl, rfl⟩), by decide, by decide, (fun h => absurd h (by decide)), (fun _ => ⟨(ws_2 103 rfl rfl), by decide, (fun h => absurd h (by decide))⟩)⟩
set_option maxRecDepth 100000 in
theorem mm_98 : Mp 98 := ⟨rfl, (ws_1 31 rfl rfl), pn_9.2.2, (plainFor_of_name (pn_9.1.resolve_left (by decide))), pn_9.2.1, by decide +kernel, (fun _ => ⟨rfl, rfl⟩), by decide, by decide, (fun h => absurd h (by decide)), (fun _ => ⟨(ws_1 30 rfl rfl), by decide, (fun h => absurd h (by decide))⟩)⟩
set_option maxRecDepth 100000 in
theorem mm_99 : Mp 99 := ⟨rfl, (ws_4 35 rfl rfl), pn_9.2.2, (plainFor_of_name (pn_9.1.resolve_left (by decide))), pn_9.2.1, by decide +kernel, (fun h => absurd h (by decide)), by decide, by decide, (fun h => absurd h (by decide)), (fun _ => ⟨(ws_4 33 rfl rfl), by decide, (fun _ => (ws_4 34 rfl rfl))⟩)⟩
set_option maxRecDepth 100000 in
theorem mm_100 : Mp 100 := ⟨rfl, (ws_4 42 rfl rfl), pn_9.2.2, (plainFor_of_name (pn_9.1.resolve_left (by decide))), pn_9.2.1, by decide +kernel, (fun h => absurd h (by decide)), by decide, by decide, (fun h => absurd h (by decide)), (fun _ => ⟨(ws_4 40 rfl rfl), by decide, (fun _ => (ws_4 41 rfl rfl))⟩)⟩
set_option maxRecDepth 100000 in
theorem mm_101 : Mp 101 := ⟨rfl, (ws_5 118 rfl rfl), pn_9.2.2, (plainFor_of_name (pn_9.1.resolve_left (by decide))), pn_9.2.1, by decide +kernel, (fun h => absurd h (by decide)), by decide, by decide, (fun h => absurd h (by decide)), (fun _ => ⟨(ws_5 116 rfl rfl), by decide, (fun _ => (ws_5 117 rfl rfl))⟩)⟩
set_option maxRecDepth 100000 in
theorem mm_102 : Mp 102 := ⟨rfl, (ws_5 132 rfl rfl), pn_9.2.2, (plainFor_of_name (pn_9.1.resolve_left (by decide))), pn_9.2.1, by decide +kernel, (fun h => absurd h (by decide)), by decide, by decide, (fun h => absurd h (by decide)), (fun _ => ⟨(ws_5 131 rfl rfl), by decide, (fun _ => (ws_0 41 rfl rfl))⟩)⟩
set_option maxRecDepth 100000 in
theorem mm_103 : Mp 103 := ⟨rfl, (ws_5 122 rfl rfl), pn_9.2.2, (plainFor_of_name (pn_9.1.resolve_left (by decide))), pn_9.2.1, by decide +kernel, (fun h => absurd h (by decide)), by decide, by decide, (fun h => absurd h (by decide)), (fun _ => ⟨(ws_5 121 rfl rfl), by decide, (fun _ => (ws_0 39 rfl rfl))⟩)⟩
set_option maxRecDepth 100000 in
theorem mm_104 : Mp 104 := ⟨rfl, (ws_5 127 rfl rfl), pn_9.2.2, (plainFor_of_name (pn_9.1.resolve_left (by decide))), pn_9.2.1, by decide +kernel, (fun h => absurd h (by decide)), by decide, by decide, (fun h => absurd h (by decide)), (fun _ => ⟨(ws_5 126 rfl rfl), by decide, (fun _ => (ws_0 40 rfl rfl))⟩)⟩
set_option maxRecDepth 100000 in
theorem mm_105 : Mp 105 := ⟨rfl, (ws_5 139 rfl rfl), pn_9.2.2, (plainFor_of_name (pn_9.1.resolve_left (by decide))), pn_9.2.1, by decide +kernel, (fun h => absurd h (by decide)), by decide, by decide, (fun h => absurd h (by decide)), (fun _ => ⟨(ws_5 138 rfl rfl), by decide, (fun _ => (ws_0 42 rfl rfl))⟩)⟩
set_option maxRecDepth 100000 in
theorem mm_106 : Mp 106 := ⟨rfl, (ws_5 143 rfl rfl), pn_9.2.2, (plainFor_of_name (pn_9.1.resolve_left (by decide))), pn_9.2.1, by decide +kernel, (fun h => absurd h (by decide)), by decide, by decide, (fun h => absurd h (by decide)), (fun _ => ⟨(ws_5 142 rfl rfl), by decide, (fun _ => (ws_0 43 rfl rfl))⟩)⟩
set_option maxRecDepth 100000 in
theorem mm_107 : Mp 107 := ⟨rfl, (ws_5 187 rfl rfl), pn_9.2.2, (plainFor_of_name (pn_9.1.resolve_left (by decide))), pn_9.2.1, by decide +kernel, (fun h => absurd h (by decide)), by decide, by decide, (fun h => absurd h (by decide)), (fun _ => ⟨(ws_5 186 rfl rfl), by decide, (fun _ => (ws_0 45 rfl rfl))⟩)⟩
set_option maxRecDepth 100000 in
theorem mm_108 : Mp 108 := ⟨rfl, (ws_5 191 rfl rfl), pn_9.2.2, (plainFor_of_name (pn_9.1.resolve_left (by decide))), pn_9.2.1, by decide +kernel, (fun h => absurd h (by decide)), by decide, by decide, (fun h => absurd h (by decide)), (fun _ => ⟨(ws_5 190 rfl rfl), by decide, (fun _ => (ws_0 46 rfl rfl))⟩)⟩
set_option maxRecDepth 100000 in
theorem mm_109 : Mp 109 := ⟨rfl, (ws_5 203 rfl rfl), pn_9.2.2, (plainFor_of_name (pn_9.1.resolve_left (by decide))), pn_9.2.1, by decide +kernel, (fun h => absurd h (by decide)), by decide, by decide, (fun h => absurd h (by decide)), (fun _ => ⟨(ws_5 202 rfl rfl), by decide, (fun _ => (ws_0 47 rfl rfl))⟩)⟩
set_option maxRecDepth 100000 in
theorem mm_110 : Mp 110 := ⟨rfl, (ws_5 208 rfl rfl), pn_9.2.2, (plainFor_of_name (pn_9.1.resolve_left (by decide))), pn_9.2.1, by decide +kernel, (fun h => absurd h (by decide)), by decide, by decide, (fun h => absurd h (by decide)), (fun _ => ⟨(ws_5 207 rfl rfl), by decide, (fun _ => (ws_0 48 rfl rfl))⟩)⟩
set_option maxRecDepth 100000 in
theorem mm_111 : Mp 111 := ⟨rfl, (ws_5 212 rfl rfl), pn_9.2.2, (plainFor_of_name (pn_9.1.resolve_left (by decide))), pn_9.2.1, by decide +kernel, (fun h => absurd h (by decide)), by decide, by decide, (fun h => absurd h (by decide)), (fun _ => ⟨(ws_5 211 rfl rfl), by decide, (fun _ => (ws_0 49 rfl rfl))⟩)⟩
set_option maxRecDepth 100000 in
theorem mm_112 : Mp 112 := ⟨rfl, (ws_1 23 rfl rfl), pn_10.2.2, (plainFor_of_name (pn_10.1.resolve_left (by decide))), pn_10.2.1, by decide +kernel, (fun _ => ⟨rfl, rfl⟩), by decide, by decide, (fun h => absurd h (by decide)), (fun _ => ⟨(ws_1 22 rfl rfl), by decide, (fun h => absurd h (by decide))⟩)⟩
set_option maxRecDepth 100000 in
theorem mm_113 : Mp 113 := ⟨rfl, (ws_3 79 rfl rfl), pn_10.2.2, (plainFor_of_name (pn_10.1.resolve_left (by decide))), pn_10.2.1, by decide +kernel, (fun h => absurd h (by decide)), by decide, by decide, (fun h => absurd h (by decide)), (fun _ => ⟨(ws_3 77 rfl rfl), by decide, (fun _ => (ws_3 78 rfl rfl))⟩)⟩
set_option maxRecDepth 100000 in
theorem mm_114 : Mp 114 := ⟨rfl, (ws_3 83 rfl rfl), pn_10.2.2, (plainFor_of_name (pn_10.1.resolve_left (by decide))), pn_10.2.1, by decide +kernel, (fun h => absurd h (by decide)), by decide, by decide, (fun h => absurd h (by decide)), (fun _ => ⟨(ws_3 82 rfl rfl), by decide, (fun _ => (ws_0 1 rfl rfl))⟩)⟩
set_option maxRecDepth 100000 in
theorem mm_115 : Mp 115 := ⟨rfl, (ws_3 87 rfl rfl), pn_10.2.2, (plainFor_of_name (pn_10.1.resolve_left (by decide))), pn_10.2.1, by decide +kernel, (fun h => absurd h (by decide)), by decide, by decide, (fun h => absurd h (by decide)), (fun _ => ⟨(ws_3 85 rfl rfl), by decide, (fun _ => (ws_3 86 rfl rfl))⟩)⟩
set_option maxRecDepth 100000 in
theorem mm_116 : Mp 116 := ⟨rfl, (ws_3 91 rfl rfl), pn_10.2.2, (plainFor_of_name (pn_10.1.resolve_left (by decide))), pn_10.2.1, by decide +kernel, (fun h => absurd h (by decide)), by decide, by decide, (fun h => absurd h (by decide)), (fun _ => ⟨(ws_3 89 rfl rfl), by decide, (fun _ => (ws_3 90 rfl rfl))⟩)⟩
set_option maxRecDepth 100000 in
theorem mm_117 : Mp 117 := ⟨rfl, (ws_4 46 rfl rfl), pn_10.2.2, (plainFor_of_name (pn_10.1.resolve_left (by decide))), pn_10.2.1, by decide +kernel, (fun h => absurd h (by decide)), by decide, by decide, (fun h => absurd h (by decide)), (fun _ => ⟨(ws_4 44 rfl rfl), by decide, (fun _ => (ws_4 45 rfl rfl))⟩)⟩
set_option maxRecDepth 100000 in
theorem mm_118 : Mp 118 := ⟨rfl, (ws_4 50 rfl rfl), pn_10.2.2, (plainFor_of_name (pn_10.1.resolve_left (by decide))), pn_10.2.1, by decide +kernel, (fun h => absurd h (by decide)), by decide, by decide, (fun h => absurd h (by decide)), (fun _ => ⟨(ws_4 48 rfl rfl), by decide, (fun _ => (ws_4 49 rfl rfl))⟩)⟩
set_option maxRecDepth 100000 in
theorem mm_119 : Mp 119 := ⟨rfl, (ws_4 59 rfl rfl), pn_10.2.2, (plainFor_of_name (pn_10.1.resolve_left (by decide))), pn_10.2.1, by decide +kernel, (fun h => absurd h (by decide)), by decide, by decide, (fun h => absurd h (by decide)), (fun _ => ⟨(ws_4 57 rfl rfl), by decide, (fun _ => (ws_4 58 rfl rfl))⟩)⟩
set_option maxRecDepth 100000 in
theorem mm_120 : Mp 120 := ⟨rfl, (ws_4 70 rfl rfl), pn_10.2.2, (plainFor_of_name (pn_10.1.resolve_left (by decide))), pn_10.2.1, by decide +kernel, (fun h => absurd h (by decide)), by decide, by decide, (fun h => absurd h (by decide)), (fun _ => ⟨(ws_4 68 rfl rfl), by decide, (fun _ => (ws_4 69 rfl rfl))⟩)⟩
set_option maxRecDepth 100000 in
theorem mm_121 : Mp 121 := ⟨rfl, (ws_4 130 rfl rfl), pn_10.2.2, (plainFor_of_name (pn_10.1.resolve_left (by decide))), pn_10.2.1, by decide +kernel, (fun h => absurd h (by decide)), by decide, by decide, (fun h => absurd h (by decide)), (fun _ => ⟨(ws_4 128 rfl rfl), by decide, (fun _ => (ws_4 129 rfl rfl))⟩)⟩
set_option maxRecDepth 100000 in
theorem mm_122 : Mp 122 := ⟨rfl, (ws_4 151 rfl rfl), pn_10.2.2, (plainFor_of_name (pn_10.1.resolve_left (by decide))), pn_10.2.1, by decide +kernel, (fun h => absurd h (by decide)), by decide, by decide, (fun h => absurd h (by decide)), (fun _ => ⟨(ws_4 149 rfl rfl), by decide, (fun _ => (ws_4 150 rfl rfl))⟩)⟩
set_option maxRecDepth 100000 in
theorem mm_123 : Mp 123 := ⟨rfl, (ws_4 160 rfl rfl), pn_10.2.2, (plainFor_of_name (pn_10.1.resolve_left (by decide))), pn_10.2.1, by decide +kernel, (fun h => absurd h (by decide)), by decide, by decide, (fun h => absurd h (by decide)), (fun _ => ⟨(ws_4 158 rfl rfl), by decide, (fun _ => (ws_4 159 rfl rfl))⟩)⟩
set_option maxRecDepth 100000 in
theorem mm_124 : Mp 124 := ⟨rfl, (ws_4 168 rfl rfl), pn_10.2.2, (plainFor_of_name (pn_10.1.resolve_left (by decide))), pn_10.2.1, by decide +kernel, (fun h => absurd h (by decide)), by decide, by decide, (fun h => absurd h (by decide)), (fun _ => ⟨(ws_4 166 rfl rfl), by decide, (fun _ => (ws_4 167 rfl rfl))⟩)⟩
set_option maxRecDepth 100000 in
theorem mm_125 : Mp 125 := ⟨rfl, (ws_4 172 rfl rfl), pn_10.2.2, (plainFor_of_name (pn_10.1.resolve_left (by decide))), pn_10.2.1, by decide +kernel, (fun h => absurd h (by decide)), by decide, by decide, (fun h => absurd h (by decide)), (fun _ => ⟨(ws_4 170 rfl rfl), by decide, (fun _ => (ws_4 171 rfl rfl))⟩)⟩
set_option maxRecDepth 100000 in
theorem mm_126 : Mp 126 := ⟨rfl, (ws_4 186 rfl rfl), pn_10.2.2, (plainFor_of_name (pn_10.1.resolve_left (by decide))), pn_10.2.1, by decide +kernel, (fun h => absurd h (by decide)), by decide, by decide, (fun h => absurd h (by decide)), (fun _ => ⟨(ws_4 184 rfl rfl), by decide, (fun _ => (ws_4 185 rfl rfl))⟩)⟩
set_option maxRecDepth 100000 in
theorem mm_127 : Mp 127 := ⟨rfl, (ws_4 195 rfl rfl), pn_10.2.2, (plainFor_of_name (pn_10.1.resolve_left (by decide))), pn_10.2.1, by decide +kernel, (fun h => absurd h (by decide)), by decide, by decide, (fun h => absurd h (by decide)), (fun _ => ⟨(ws_4 193 rfl rfl), by decide, (fun _ => (ws_4 194 rfl rfl))⟩)⟩
set_option maxRecDepth 100000 in
theorem mm_128 : Mp 128 := ⟨rfl, (ws_4 204 rfl rfl), pn_10.2.2, (plainFor_of_name (pn_10.1.resolve_left (by decide))), pn_10.2.1, by decide +kernel, (fun h => absurd h (by decide)), by decide, by decide, (fun h => absurd h (by decide)), (fun _ => ⟨(ws_4 202 rfl rfl), by decide, (fun _ => (ws_4 203 rfl rfl))⟩)⟩
set_option maxRecDepth 100000 in
theorem mm_129 : Mp 129 := ⟨rfl, (ws_4 209 rfl rfl), pn_10.2.2, (plainFor_of_name (pn_10.1.resolve_left (by decide))), pn_10.2.1, by decide +kernel, (fun h => absurd h (by decide)), by decide, by decide, (fun h => absurd h (by decide)), (fun _ => ⟨(ws_4 207 rfl rfl), by decide, (fun _ => (ws_4 208 rfl rfl))⟩)⟩
set_option maxRecDepth 100000 in
theorem mm_130 : Mp 130 := ⟨rfl, (ws_5 5 rfl rfl), pn_10.2.2, (plainFor_of_name (pn_10.1.resolve_left (by decide))), pn_10.2.1, by decide +kernel, (fun h => absurd h (by decide)), by decide, by decide, (fun h => absurd h (by decide)), (fun _ => ⟨(ws_5 3 rfl rfl), by decide, (fun _ => (ws_5 4 rfl rfl))⟩)⟩
set_option maxRecDepth 100000 in
theorem mm_131 : Mp 131 := ⟨rfl, (ws_5 13 rfl rfl), pn_10.2.2, (plainFor_of_name (pn_10.1.resolve_left (by decide))), pn_10.2.1, by decide +kernel, (fun h => absurd h (by decide)), by decide, by decide, (fun h => absurd h (by decide)), (fun _ => ⟨(ws_5 11 rfl rfl), by decide, (fun _ => (ws_5 12 rfl rfl))⟩)⟩
set_option maxRecDepth 100000 in
theorem mm_132 : Mp 132 := ⟨rfl, (ws_5 29 rfl rfl), pn_10.2.2, (plainFor_of_name (pn_10.1.resolve_left (by decide))), pn_10.2.1, by decide +kernel, (fun h => absurd h (by decide)), by decide, by decide, (fun h => absurd h (by decide)), (fun _ => ⟨(ws_5 27 rfl rfl), by decide, (fun _ => (ws_5 28 rfl rfl))⟩)⟩
set_option maxRecDepth 100000 in
theorem mm_133 : Mp 133 := ⟨rfl, (ws_5 17 rfl rfl), pn_10.2.2, (plainFor_of_name (pn_10.1.resolve_left (by decide))), pn_10.2.1, by decide +kernel, (fun h => absurd h (by decide)), by decide, by decide, (fun h => absurd h (by decide)), (fun _ => ⟨(ws_5 16 rfl rfl), by decide, (fun _ => (ws_0 36 rfl rfl))⟩)⟩
set_option maxRecDepth 100000 in
theorem mm_134 : Mp 134 := ⟨rfl, (ws_5 21 rfl rfl), pn_10.2.2, (plainFor_of_name (pn_10.1.resolve_left (by decide))), pn_10.2.1, by decide +kernel, (fun h => absurd h (by decide)), by decide, by decide, (fun h => absurd h (by decide)), (fun _ => ⟨(ws_5 20 rfl rfl), by decide, (fun _ => (ws_0 37 rfl rfl))⟩)⟩
set_option maxRecDepth 100000 in
theorem mm_135 : Mp 135 := ⟨rfl, (ws_5 33 rfl rfl), pn_10.2.2, (plainFor_of_name (pn_10.1.resolve_left (by decide))), pn_10.2.1, by decide +kernel, (fun h => absurd h (by decide)), by decide, by decide, (fun h => absurd h (by decide)), (fun _ => ⟨(ws_5 31 rfl rfl), by decide, (fun _ => (ws_5 32 rfl rfl))⟩)⟩
set_option maxRecDepth 100000 in
theorem mm_136 : Mp 136 := ⟨rfl, (ws_5 41 rfl rfl), pn_10.2.2, (plainFor_of_name (pn_10.1.resolve_left (by decide))), pn_10.2.1, by decide +kernel, (fun h => absurd h (by decide)), by decide, by decide, (fun h => absurd h (by decide)), (fun _ => ⟨(ws_5 39 rfl rfl), by decide, (fun _ => (ws_5 40 rfl rfl))⟩)⟩
set_option maxRecDepth 100000 in
theorem mm_137 : Mp 137 := ⟨rfl, (ws_5 45 rfl rfl), pn_10.2.2, (plainFor_of_name (pn_10.1.resolve_left (by decide))), pn_10.2.1, by decide +kernel, (fun h => absurd h (by decide)), by decide, by decide, (fun h => absurd h (by decide)), (fun _ => ⟨(ws_5 44 rfl rfl), by decide, (fun _ => (ws_0 38 rfl rfl))⟩)⟩
set_option maxRecDepth 100000 in
theorem mm_138 : Mp 138 := ⟨rfl, (ws_5 65 rfl rfl), pn_10.2.2, (plainFor_of_name (pn_10.1.resolve_left (by decide))), pn_10.2.1, by decide +kernel, (fun h => absurd h (by decide)), by decide, by decide, (fun h => absurd h (by decide)), (fun _ => ⟨(ws_5 63 rfl rfl), by decide, (fun _ => (ws_5 64 rfl rfl))⟩)⟩
set_option maxRecDepth 100000 in
theorem mm_139 : Mp 139 := ⟨rfl, (ws_5 69 rfl rfl), pn_10.2.2, (plainFor_of_name (pn_10.1.resolve_left (by decide))), pn_10.2.1, by decide +kernel, (fun h => absurd h (by decide)), by decide, by decide, (fun h => absurd h (by decide)), (fun _ => ⟨(ws_5 67 rfl rfl), by decide, (fun _ => (ws_5 68 rfl rfl))⟩)⟩
set_option maxRecDepth 100000 in
theorem mm_140 : Mp 140 := ⟨rfl, (ws_5 73 rfl rfl), pn_10.2.2, (plainFor_of_name (pn_10.1.resolve_left (by decide))), pn_10.2.1, by decide +kernel, (fun h => absurd h (by decide)), by decide, by decide, (fun h => absurd h (by decide)), (fun _ => ⟨(ws_5 71 rfl rfl), by decide, (fun _ => (ws_5 72 rfl rfl))⟩)⟩
set_option maxRecDepth 100000 in
theorem mm_141 : Mp 141 := ⟨rfl, (ws_5 77 rfl rfl), pn_10.2.2, (plainFor_of_name (pn_10.1.resolve_left (by decide))), pn_10.2.1, by decide +kernel, (fun h => absurd h (by decide)), by decide, by decide, (fun h => absurd h (by decide)), (fun _ => ⟨(ws_5 75 rfl rfl), by decide, (fun _ => (ws_5 76 rfl rfl))⟩)⟩
set_option maxRecDepth 100000 in
theorem mm_142 : Mp 142 := ⟨rfl, (ws_5 85 rfl rfl), pn_10.2.2, (plainFor_of_name (pn_10.1.resolve_left (by decide))), pn_10.2.1, by decide +kernel, (fun h => absurd h (by decide)), by decide, by decide, (fun h => absurd h (by decide)), (fun _ => ⟨(ws_5 83 rfl rfl), by decide, (fun _ => (ws_5 84 rfl rfl))⟩)⟩
set_option maxRecDepth 100000 in
theorem mm_143 : Mp 143 := ⟨rfl, (ws_5 94 rfl rfl), pn_10.2.2, (plainFor_of_name (pn_10.1.resolve_left (by decide))), pn_10.2.1, by decide +kernel, (fun h => absurd h (by decide)), by decide, by decide, (fun h => absurd h (by decide)), (fun _ => ⟨(ws_5 92 rfl rfl), by decide, (fun _ => (ws_5 93 rfl rfl))⟩)⟩
set_option maxRecDepth 100000 in
theorem mm_144 : Mp 144 := ⟨rfl, (ws_5 98 rfl rfl), pn_10.2.2, (plainFor_of_name (pn_10.1.resolve_left (by decide))), pn_10.2.1, by decide +kernel, (fun h => absurd h (by decide)), by decide, by decide, (fun h => absurd h (by decide)), (fun _ => ⟨(ws_5 96 rfl rfl), by decide, (fun _ => (ws_5 97 rfl rfl))⟩)⟩
set_option maxRecDepth 100000 in
theorem mm_145 : Mp 145 := ⟨rfl, (ws_5 102 rfl rfl), pn_10.2.2, (plainFor_of_name (pn_10.1.resolve_left (by decide))), pn_10.2.1, by decide +kernel, (fun h => absurd h (by decide)), by decide, by decide, (fun h => absurd h (by decide)), (fun _ => ⟨(ws_5 100 rfl rfl), by decide, (fun _ => (ws_5 101 rfl rfl))⟩)⟩
set_option maxRecDepth 100000 in
theorem mm_146 : Mp 146 := ⟨rfl, (ws_5 110 rfl rfl), pn_10.2.2, (plainFor_of_name (pn_10.1.resolve_left (by decide))), pn_10.2.1, by decide +kernel, (fun h => absurd h (by decide)), by decide, by decide, (fun h => absurd h (by decide)), (fun _ => ⟨(ws_5 108 rfl rfl), by decide, (fun _ => (ws_5 109 rfl rfl))⟩)⟩
set_option maxRecDepth 100000 in
theorem mm_147 : Mp 147 := ⟨rfl, (ws_5 114 rfl rfl), pn_10.2.2, (plainFor_of_name (pn_10.1.resolve_left (by decide))), pn_10.2.1, by decide +kernel, (fun h => absurd h (by decide)), by decide, by decide, (fun h => absurd h (by decide)), (fun _ => ⟨(ws_5 112 rfl rfl), by decide, (fun _ => (ws_5 113 rfl rfl))⟩)⟩
set_option maxRecDepth 100000 in
theorem mm_148 : Mp 148 := ⟨rfl, (ws_5 217 rfl rfl), pn_10.2.2, (plainFor_of_name (pn_10.1.resolve_left (by decide))), pn_10.2.1, by decide +kernel, (fun h => absurd h (by decide)), by decide, by decide, (fun h => absurd h (by decide)), (fun _ => ⟨(ws_5 215 rfl rfl), by decide, (fun _ => (ws_5 216 rfl rfl))⟩)⟩
set_option maxRecDepth 100000 in
theorem mm_149 : Mp 149 := ⟨rfl, (ws_5 221 rfl rfl), pn_10.2.2, (plainFor_of_name (pn_10.1.resolve_left (by decide))), pn_10.2.1, by decide +kernel, (fun h => absurd h (by decide)), by decide, by decide, (fun h => absurd h (by decide)), (fun _ => ⟨(ws_5 219 rfl rfl), by decide, (fun _ => (ws_5 220 rfl rfl))⟩)⟩
set_option maxRecDepth 100000 in
theorem mm_150 : Mp 150 := ⟨rfl, (ws_5 225 rfl rfl), pn_10.2.2, (plainFor_of_name (pn_10.1.resolve_left (by decide))), pn_10.2.1, by decide +kernel, (fun h => absurd h (by decide)), by decide, by decide, (fun h => absurd h (by decide)), (fun _ => ⟨(ws_5 223 rfl rfl), by decide, (fun _ => (ws_5 224 rfl rfl))⟩)⟩
set_option maxRecDepth 100000 in
theorem mm_151 : Mp 151 := ⟨rfl, (ws_5 229 rfl rfl), pn_10.2.2, (plainFor_of_name (pn_10.1.resolve_left (by decide))), pn_10.2.1, by decide +kernel, (fun h => absurd h (by decide)), by decide, by decide, (fun h => absurd h (by decide)), (fun _ => ⟨(ws_5 227 rfl rfl), by decide, (fun _ => (ws_5 228 rfl rfl))⟩)⟩
set_option maxRecDepth 100000 in
theorem mm_152 : Mp 152 := ⟨rfl, (ws_5 233 rfl rfl), pn_10.2.2, (plainFor_of_name (pn_10.1.resolve_left (by decide))), pn_10.2.1, by decide +kernel, (fun h => absurd h (by decide)), by decide, by decide, (fun h => absurd h (by decide)), (fun _ => ⟨(ws_5 232 rfl rfl), by decide, (fun _ => (ws_0 50 rfl rfl))⟩)⟩
set_option maxRecDepth 100000 in
theorem mm_153 : Mp 153 := ⟨rfl, (ws_5 237 rfl rfl), pn_10.2.2, (plainFor_of_name (pn_10.1.resolve_left (by decide))), pn_10.2.1, by decide +kernel, (fun h => absurd h (by decide)), by decide, by decide, (fun h => absurd h (by decide)), (fun _ => ⟨(ws_5 236 rfl rfl), by decide, (fun _ => (ws_0 51 rfl rfl))⟩)⟩
set_option maxRecDepth 100000 in
theorem mm_154 : Mp 154 := ⟨rfl, (ws_6 4 rfl rfl), pn_10.2.2, (plainFor_of_name (pn_10.1.resolve_left (by decide))), pn_10.2.1, by decide +kernel, (fun h => absurd h (by decide)), by decide, by decide, (fun h => absurd h (by decide)), (fun _ => ⟨(ws_6 2 rfl rfl), by decide, (fun _ => (ws_6 3 rfl rfl))⟩)⟩
set_option maxRecDepth 100000 in
theorem mm_155 : Mp 155 := ⟨rfl, (ws_6 8 rfl rfl), pn_10.2.2, (plainFor_of_name (pn_10.1.resolve_left (by decide))), pn_10.2.1, by decide +kernel, (fun h => absurd h (by decide)), by decide, by decide, (fun h => absurd h (by decide)), (fun _ => ⟨(ws_6 6 rfl rfl), by decide, (fun _ => (ws_6 7 rfl rfl))⟩)⟩
set_option maxRecDepth 100000 in
theorem mm_156 : Mp 156 := ⟨rfl, (ws_6 12 rfl rfl), pn_10.2.2, (plainFor_of_name (pn_10.1.resolve_left (by decide))), pn_10.2.1, by decide +kernel, (fun h => absurd h (by decide)), by decide, by decide, (fun h => absurd h (by decide)), (fun _ => ⟨(ws_6 11 rfl rfl), by decide, (fun _ => (ws_0 52 rfl rfl))⟩)⟩
set_option maxRecDepth 100000 in
theorem mm_157 : Mp 157 := ⟨rfl, (ws_6 16 rfl rfl), pn_10.2.2, (plainFor_of_name (pn_10.1.resolve_left (by decide))), pn_10.2.1, by decide +kernel, (fun h => absurd h (by decide)), by decide, by decide, (fun h => absurd h (by decide)), (fun _ => ⟨(ws_6 15 rfl rfl), by decide, (fun _ => (ws_0 53 rfl rfl))⟩)⟩
set_option maxRecDepth 100000 in
theorem mm_158 : Mp 158 := ⟨rfl, (ws_6 0 rfl rfl), pn_10.2.2, (plainFor_of_name (pn_10.1.resolve_left (by decide))), pn_10.2.1, by decide +kernel, (fun h => absurd h (by decide)), by decide, by decide, (fun _ => (ws_5 239 rfl rfl)), (fun h => absurd h (by decide))⟩
set_option maxRecDepth 100000 in
theorem mm_159 : Mp 159 := ⟨rfl, (ws_4 62 rfl rfl), pn_10.2.2, (plainFor_of_name (pn_10.1.resolve_left (by decide))), pn_10.2.1, by decide +kernel, (fun h => absurd h (by decide)), by decide, by decide, (fun _ => (ws_4 61 rfl rfl)), (fun h => absurd h (by decide))⟩
set_option maxRecDepth 100000 in
theorem mm_160 : Mp 160 := ⟨rfl, (ws_3 110 rfl rfl), pn_10.2.2, (plainFor_of_name (pn_10.1.resolve_left (by decide))), pn_10.2.1, by decide +kernel, (fun h => absurd h (by decide)), by decide, by decide, (fun _ => (ws_3 109 rfl rfl)), (fun h => absurd h (by decide))⟩
set_option maxRecDepth 100000 in
theorem mm_161 : Mp 161 := ⟨rfl, (ws_2 225 rfl rfl), pn_10.2.2, (plainFor_of_name (pn_10.1.resolve_left (by decide))), pn_10.2.1, by decide +kernel, (fun h => absurd h (by decide)), by decide, by decide, (fun _ => (ws_2 224 rfl rfl)), (fun h => absurd h (by decide))⟩
set_option maxRecDepth 100000 in
theorem mm_162 : Mp 162 := ⟨rfl, (ws_4 66 rfl rfl), pn_10.2.2, (plainFor_of_name (pn_10.1.resolve_left (by decide))), pn_10.2.1, by decide +kernel, (fun h => absurd h (by decide)), by decide, by decide, (fun _ => (ws_4 65 rfl rfl)), (fun h => absurd h (by decide))⟩
set_option maxRecDepth 100000 in
theorem mm_163 : Mp 163 := ⟨rfl, (ws_4 88 rfl rfl), pn_10.2.2, (plainFor_of_name (pn_10.1.resolve_left (by decide))), pn_10.2.1, by decide +kernel, (fun h => absurd h (by decide)), by decide, by decide, (fun _ => (ws_4 87 rfl rfl)), (fun h => absurd h (by decide))⟩
set_option maxRecDepth 100000 in
theorem mm_164 : Mp 164 := ⟨rfl, (ws_4 120 rfl rfl), pn_10.2.2, (plainFor_of_name (pn_10.1.resolve_left (by decide))), pn_10.2.1, by decide +kernel, (fun h => absurd h (by decide)), by decide, by decide, (fun _ => (ws_4 119 rfl rfl)), (fun h => absurd h (by decide))⟩
set_option maxRecDepth 100000 in
theorem mm_165 : Mp 165 := ⟨rfl, (ws_3 133 rfl rfl), pn_10.2.2, (plainFor_of_name (pn_10.1.resolve_left (by decide))), pn_10.2.1, by decide +kernel, (fun h => absurd h (by decide)), by decide, by decide, (fun _ => (ws_3 132 rfl rfl)), (fun h => absurd h (by decide))⟩
set_option maxRecDepth 100000 in
theorem mm_166 : Mp 166 := ⟨rfl, (ws_6 22 rfl rfl), pn_11.2.2, (plainFor_of_name (pn_11.1.resolve_left (by decide))), pn_11.2.1, by decide +kernel, (fun _ => ⟨rfl, rfl⟩), by decide, by decide, (fun h => absurd h (by decide)), (fun _ => ⟨(ws_6 21 rfl rfl), by decide, (fun h => absurd h (by decide))⟩)⟩
set_option maxRecDepth 100000 in
theorem mm_167 : Mp 167 := ⟨rfl, (ws_7 117 rfl rfl), pn_11.2.2, (plainFor_of_name (pn_11.1.resolve_left (by decide))), pn_11.2.1, by decide +kernel, (fun h => absurd h (by decide)), by decide, by decide, (fun _ => (ws_7 116 rfl rfl)), (fun h => absurd h (by decide))⟩
set_option maxRecDepth 100000 in
theorem mm_168 : Mp 168 := ⟨rfl, (ws_7 72 rfl rfl), pn_11.2.2, (plainFor_of_name (pn_11.1.resolve_left (by decide))), pn_11.2.1, by decide +kernel, (fun h => absurd h (by decide)), by decide, by decide, (fun h => absurd h (by decide)), (fun _ => ⟨(ws_7 70 rfl rfl), by decide, (fun _ => (ws_7 71 rfl rfl))⟩)⟩
set_option maxRecDepth 100000 in
theorem mm_169 : Mp 169 := ⟨rfl, (ws_7 76 rfl rfl), pn_11.2.2, (plainFor_of_name (pn_11.1.resolve_left (by decide))), pn_11.2.1, by decide +kernel, (fun h => absurd h (by decide)), by decide, by decide, (fun h => absurd h (by decide)), (fun _ => ⟨(ws_7 74 rfl rfl), by decide, (fun _ => (ws_7 75 rfl rfl))⟩)⟩
set_option maxRecDepth 100000 in
theorem mm_170 : Mp 170 := ⟨rfl, (ws_7 96 rfl rfl), pn_11.2.2, (plainFor_of_name (pn_11.1.resolve_left (by decide))), pn_11.2.1, by decide +kernel, (fun h => absurd h (by decide)), by decide, by decide, (fun h => absurd h (by decide)), (fun _ => ⟨(ws_7 95 rfl rfl), by decide, (fun _ => (ws_0 57 rfl rfl))⟩)⟩
set_option maxRecDepth 100000 in
theorem mm_171 : Mp 171 := ⟨rfl, (ws_7 107 rfl rfl), pn_11.2.2, (plainFor_of_name (pn_11.1.resolve_left (by decide))), pn_11.2.1, by decide +kernel, (fun h => absurd h (by decide)), by decide, by decide, (fun _ => (ws_7 106 rfl rfl)), (fun h => absurd h (by decide))⟩
set_option maxRecDepth 100000 in
theorem mm_172 : Mp 172 := ⟨rfl, (ws_7 114 rfl rfl), pn_11.2.2, (plainFor_of_name (pn_11.1.resolve_left (by decide))), pn_11.2.1, by decide +kernel, (fun h => absurd h (by decide)), by decide, by decide, (fun _ => (ws_7 113 rfl rfl)), (fun h => absurd h (by decide))⟩
set_option maxRecDepth 100000 in
theorem mm_173 : Mp 173 := ⟨rfl, (ws_7 88 rfl rfl), pn_11.2.2, (plainFor_of_name (pn_11.1.resolve_left (by decide))), pn_11.2.1, by decide +kernel, (fun h => absurd h (by decide)), by decide, by decide, (fun h => absurd h (by decide)), (fun _ => ⟨(ws_7 87 rfl rfl), by decide, (fun _ => (ws_0 55 rfl rfl))⟩)⟩
set_option maxRecDepth 100000 in
theorem mm_174 : Mp 174 := ⟨rfl, (ws_7 104 rfl rfl), pn_11.2.2, (plainFor_of_name (pn_11.1.resolve_left (by decide))), pn_11.2.1, by decide +kernel, (fun h => absurd h (by decide)), by decide, by decide, (fun h => absurd h (by decide)), (fun _ => ⟨(ws_7 103 rfl rfl), by decide, (fun _ => (ws_0 59 rfl rfl))⟩)⟩
set_option maxRecDepth 100000 in
theorem mm_175 : Mp 175 := ⟨rfl, (ws_7 100 rfl rfl), pn_11.2.2, (plainFor_of_name (pn_11.1.resolve_left (by decide))), pn_11.2.1, by decide +kernel, (fun h => absurd h (by decide)), by decide, by decide, (fun h => absurd h (by decide)), (fun _ => ⟨(ws_7 99 rfl rfl), by decide, (fun _ => (ws_0 58 rfl rfl))⟩)⟩
set_option maxRecDepth 100000 in
theorem mm_176 : Mp 176 := ⟨rfl, (ws_7 147 rfl rfl), pn_11.2.2, (plainFor_of_name (pn_11.1.resolve_left (by decide))), pn_11.2.1, by decide +kernel, (fun h => absurd h (by decide)), by decide, by decide, (fun h => absurd h (by decide)), (fun _ => ⟨(ws_7 146 rfl rfl), by decide, (fun _ => (ws_0 67 rfl rfl))⟩)⟩
set_option maxRecDepth 100000 in
theorem mm_177 : Mp 177 := ⟨rfl, (ws_7 195 rfl rfl), pn_11.2.2, (plainFor_of_name (pn_11.1.resolve_left (by decide))), pn_11.2.1, by decide +kernel, (fun h => absurd h (by decide)), by decide, by decide, (fun h => absurd h (by decide)), (fun _ => ⟨(ws_7 194 rfl rfl), by decide, (fun _ => (ws_0 79 rfl rfl))⟩)⟩
set_option maxRecDepth 100000 in
theorem mm_178 : Mp 178 := ⟨rfl, (ws_7 191 rfl rfl), pn_11.2.2, (plainFor_of_name (pn_11.1.resolve_left (by decide))), pn_11.2.1, by decide +kernel, (fun h => absurd h (by decide)), by decide, by decide, (fun h => absurd h (by decide)), (fun _ => ⟨(ws_7 190 rfl rfl), by decide, (fun _ => (ws_0 78 rfl rfl))⟩)⟩
set_option maxRecDepth 100000 in
theorem mm_179 : Mp 179 := ⟨rfl, (ws_7 111 rfl rfl), pn_11.2.2, (plainFor_of_name (pn_11.1.resolve_left (by decide))), pn_11.2.1, by decide +kernel, (fun h => absurd h (by decide)), by decide, by decide, (fun h => absurd h (by decide)), (fun _ => ⟨(ws_7 110 rfl rfl), by decide, (fun _ => (ws_0 60 rfl rfl))⟩)⟩
set_option maxRecDepth 100000 in
theorem mm_180 : Mp 180 := ⟨rfl, (ws_7 137 rfl rfl), pn_11.2.2, (plainFor_of_name (pn_11.1.resolve_left (by decide))), pn_11.2.1, by decide +kernel, (fun h => absurd h (by decide)), by decide, by decide, (fun h => absurd h (by decide)), (fun _ => ⟨(ws_7 136 rfl rfl), by decide, (fun _ => (ws_0 65 rfl rfl))⟩)⟩
set_option maxRecDepth 100000 in
theorem mm_181 : Mp 181 := ⟨rfl, (ws_7 133 rfl rfl), pn_11.2.2, (plainFor_of_name (pn_11.1.resolve_left (by decide))), pn_11.2.1, by decide +kernel, (fun h => absurd h (by decide)), by decide, by decide, (fun h => absurd h (by decide)), (fun _ => ⟨(ws_7 132 rfl rfl), by decide, (fun _ => (ws_0 64 rfl rfl))⟩)⟩
set_option maxRecDepth 100000 in
theorem mm_182 : Mp 182 := ⟨rfl, (ws_7 84 rfl rfl), pn_11.2.2, (plainFor_of_name (pn_11.1.resolve_left (by decide))), pn_11.2.1, by decide +kernel, (fun h => absurd h (by decide)), by decide, by decide, (fun h => absurd h (by decide)), (fun _ => ⟨(ws_7 83 rfl rfl), by decide, (fun _ => (ws_0 54 rfl rfl))⟩)⟩
set_option maxRecDepth 100000 in
theorem mm_183 : Mp 183 := ⟨rfl, (ws_7 143 rfl rfl), pn_11.2.2, (plainFor_of_name (pn_11.1.resolve_left (by decide))), pn_11.2.1, by decide +kernel, (fun h => absurd h (by decide)), by decide, by decide, (fun h => absurd h (by decide)), (fun _ => ⟨(ws_7 142 rfl rfl), by decide, (fun _ => (ws_0 66 rfl rfl))⟩)⟩
set_option maxRecDepth 100000 in
theorem mm_184 : Mp 184 := ⟨rfl, (ws_7 129 rfl rfl), pn_11.2.2, (plainFor_of_name (pn_11.1.resolve_left (by decide))), pn_11.2.1, by decide +kernel, (fun h => absurd h (by decide)), by decide, by decide, (fun h => absurd h (by decide)), (fun _ => ⟨(ws_7 128 rfl rfl), by decide, (fun _ => (ws_0 63 rfl rfl))⟩)⟩
set_option maxRecDepth 100000 in
theorem mm_185 : Mp 185 := ⟨rfl, (ws_7 159 rfl rfl), pn_11.2.2, (plainFor_of_name (pn_11.1.resolve_left (by decide))), pn_11.2.1, by decide +kernel, (fun h => absurd h (by decide)), by decide, by decide, (fun h => absurd h (by decide)), (fun _ => ⟨(ws_7 158 rfl rfl), by decide, (fun _ => (ws_0 70 rfl rfl))⟩)⟩
set_option maxRecDepth 100000 in
theorem mm_186 : Mp 186 := ⟨rfl, (ws_7 125 rfl rfl), pn_11.2.2, (plainFor_of_name (pn_11.1.resolve_left (by decide))), pn_11.2.1, by decide +kernel, (fun h => absurd h (by decide)), by decide, by decide, (fun h => absurd h (by decide)), (fun _ => ⟨(ws_7 124 rfl rfl), by decide, (fun _ => (ws_0 62 rfl rfl))⟩)⟩
set_option maxRecDepth 100000 in
theorem mm_187 : Mp 187 := ⟨rfl, (ws_7 121 rfl rfl), pn_11.2.2, (plainFor_of_name (pn_11.1.resolve_left (by decide))), pn_11.2.1, by decide +kernel, (fun h => absurd h (by decide)), by decide, by decide, (fun h => absurd h (by decide)), (fun _ => ⟨(ws_7 120 rfl rfl), by decide, (fun _ => (ws_0 61 rfl rfl))⟩)⟩
set_option maxRecDepth 100000 in
theorem mm_188 : Mp 188 := ⟨rfl, (ws_7 151 rfl rfl), pn_11.2.2, (plainFor_of_name (pn_11.1.resolve_left (by decide))), pn_11.2.1, by decide +kernel, (fun h => absurd h (by decide)), by decide, by decide, (fun h => absurd h (by decide)), (fun _ => ⟨(ws_7 150 rfl rfl), by decide, (fun _ => (ws_0 68 rfl rfl))⟩)⟩
set_option maxRecDepth 100000 in
theorem mm_189 : Mp 189 := ⟨rfl, (ws_7 155 rfl rfl), pn_11.2.2, (plainFor_of_name (pn_11.1.resolve_left (by decide))), pn_11.2.1, by decide +kernel, (fun h => absurd h (by decide)), by decide, by decide, (fun h => absurd h (by decide)), (fun _ => ⟨(ws_7 154 rfl rfl), by decide, (fun _ => (ws_0 69 rfl rfl))⟩)⟩
set_option maxRecDepth 100000 in
theorem mm_190 : Mp 190 := ⟨rfl, (ws_7 163 rfl rfl), pn_11.2.2, (plainFor_of_name (pn_11.1.resolve_left (by decide))), pn_11.2.1, by decide +kernel, (fun h => absurd h (by decide)), by decide, by decide, (fun h => absurd h (by decide)), (fun _ => ⟨(ws_7 162 rfl rfl), by decide, (fun _ => (ws_0 71 rfl rfl))⟩)⟩
set_option maxRecDepth 100000 in
theorem mm_191 : Mp 191 := ⟨rfl, (ws_7 171 rfl rfl), pn_11.2.2, (plainFor_of_name (pn_11.1.resolve_left (by decide))), pn_11.2.1, by decide +kernel, (fun h => absurd h (by decide)), by decide, by decide, (fun h => absurd h (by decide)), (fun _ => ⟨(ws_7 170 rfl rfl), by decide, (fun _ => (ws_0 73 rfl rfl))⟩)⟩
set_option maxRecDepth 100000 in
theorem mm_192 : Mp 192 := ⟨rfl, (ws_7 167 rfl rfl), pn_11.2.2, (plainFor_of_name (pn_11.1.resolve_left (by decide))), pn_11.2.1, by decide +kernel, (fun h => absurd h (by decide)), by decide, by decide, (fun h => absurd h (by decide)), (fun _ => ⟨(ws_7 166 rfl rfl), by decide, (fun _ => (ws_0 72 rfl rfl))⟩)⟩
set_option maxRecDepth 100000 in
theorem mm_193 : Mp 193 := ⟨rfl, (ws_7 92 rfl rfl), pn_11.2.2, (plainFor_of_name (pn_11.1.resolve_left (by decide))), pn_11.2.1, by decide +kernel, (fun h => absurd h (by decide)), by decide, by decide, (fun h => absurd h (by decide)), (fun _ => ⟨(ws_7 91 rfl rfl), by decide, (fun _ => (ws_0 56 rfl rfl))⟩)⟩
set_option maxRecDepth 100000 in
theorem mm_194 : Mp 194 := ⟨rfl, (ws_7 80 rfl rfl), pn_11.2.2, (plainFor_of_name (pn_11.1.resolve_left (by decide))), pn_11.2.1, by decide +kernel, (fun h => absurd h (by decide)), by decide, by decide, (fun h => absurd h (by decide)), (fun _ => ⟨(ws_7 78 rfl rfl), by decide, (fun _ => (ws_7 79 rfl rfl))⟩)⟩
set_option maxRecDepth 100000 in
theorem mm_195 : Mp 195 := ⟨rfl, (ws_8 7 rfl rfl), pn_11.2.2, (plainFor_of_name (pn_11.1.resolve_left (by decide))), pn_11.2.1, by decide +kernel, (fun h => absurd h (by decide)), by decide, by decide, (fun h => absurd h (by decide)), (fun _ => ⟨(ws_8 6 rfl rfl), by decide, (fun _ => (ws_0 92 rfl rfl))⟩)⟩
set_option maxRecDepth 100000 in
theorem mm_196 : Mp 196 := ⟨rfl, (ws_7 199 rfl rfl), pn_11.2.2, (plainFor_of_name (pn_11.1.resolve_left (by decide))), pn_11.2.1, by decide +kernel, (fun h => absurd h (by decide)), by decide, by decide, (fun h => absurd h (by decide)), (fun _ => ⟨(ws_7 198 rfl rfl), by decide, (fun _ => (ws_0 80 rfl rfl))⟩)⟩
set_option maxRecDepth 100000 in
theorem mm_197 : Mp 197 := ⟨rfl, (ws_7 187 rfl rfl), pn_11.2.2, (plainFor_of_name (pn_11.1.resolve_left (by decide))), pn_11.2.1, by decide +kernel, (fun h => absurd h (by decide)), by decide, by decide, (fun h => absurd h (by decide)), (fun _ => ⟨(ws_7 186 rfl rfl), by decide, (fun _ => (ws_0 77 rfl rfl))⟩)⟩
set_option maxRecDepth 100000 in
theorem mm_198 : Mp 198 := ⟨rfl, (ws_7 223 rfl rfl), pn_11.2.2, (plainFor_of_name (pn_11.1.resolve_left (by decide))), pn_11.2.1, by decide +kernel, (fun h => absurd h (by decide)), by decide, by decide, (fun h => absurd h (by decide)), (fun _ => ⟨(ws_7 222 rfl rfl), by decide, (fun _ => (ws_0 86 rfl rfl))⟩)⟩
set_option maxRecDepth 100000 in
theorem mm_199 : Mp 199 := ⟨rfl, (ws_7 219 rfl rfl), pn_11.2.2, (plainFor_of_name (pn_11.1.resolve_left (by decide))), pn_11.2.1, by decide +kernel, (fun h => absurd h (by decide)), by decide, by decide, (fun h => absurd h (by decide)), (fun _ => ⟨(ws_7 218 rfl rfl), by decide, (fun _ => (ws_0 85 rfl rfl))⟩)⟩
set_option maxRecDepth 100000 in
theorem mm_200 : Mp 200 := ⟨rfl, (ws_7 211 rfl rfl), pn_11.2.2, (plainFor_of_name (pn_11.1.resolve_left (by decide))), pn_11.2.1, by decide +kernel, (fun h => absurd h (by decide)), by decide, by decide, (fun h => absurd h (by decide)), (fun _ => ⟨(ws_7 210 rfl rfl), by decide, (fun _ => (ws_0 83 rfl rfl))⟩)⟩
set_option maxRecDepth 100000 in
theorem mm_201 : Mp 201 := ⟨rfl, (ws_7 207 rfl rfl), pn_11.2.2, (plainFor_of_name (pn_11.1.resolve_left (by decide))), pn_11.2.1, by decide +kernel, (fun h => absurd h (by decide)), by decide, by decide, (fun h => absurd h (by decide)), (fun _ => ⟨(ws_7 206 rfl rfl), by decide, (fun _ => (ws_0 82 rfl rfl))⟩)⟩
set_option maxRecDepth 100000 in
theorem mm_202 : Mp 202 := ⟨rfl, (ws_7 215 rfl rfl), pn_11.2.2, (plainFor_of_name (pn_11.1.resolve_left (by decide))), pn_11.2.1, by decide +kernel, (fun h => absurd h (by decide)), by decide, by decide, (fun h => absurd h (by decide)), (fun _ => ⟨(ws_7 214 rfl rfl), by decide, (fun _ => (ws_0 84 rfl rfl))⟩)⟩
set_option maxRecDepth 100000 in
theorem mm_203 : Mp 203 := ⟨rfl, (ws_7 183 rfl rfl), pn_11.2.2, (plainFor_of_name (pn_11.1.resolve_left (by decide))), pn_11.2.1, by decide +kernel, (fun h => absurd h (by decide)), by decide, by decide, (fun h => absurd h (by decide)), (fun _ => ⟨(ws_7 182 rfl rfl), by decide, (fun _ => (ws_0 76 rfl rfl))⟩)⟩
set_option maxRecDepth 100000 in
theorem mm_204 : Mp 204 := ⟨rfl, (ws_7 203 rfl rfl), pn_11.2.2, (plainFor_of_name (pn_11.1.resolve_left (by decide))), pn_11.2.1, by decide +kernel, (fun h => absurd h (by decide)), by decide, by decide, (fun h => absurd h (by decide)), (fun _ => ⟨(ws_7 202 rfl rfl), by decide, (fun _ => (ws_0 81 rfl rfl))⟩)⟩
set_option maxRecDepth 100000 in
theorem mm_205 : Mp 205 := ⟨rfl, (ws_7 179 rfl rfl), pn_11.2.2, (plainFor_of_name (pn_11.1.resolve_left (by decide))), pn_11.2.1, by decide +kernel, (fun h => absurd h (by decide)), by decide, by decide, (fun h => absurd h (by decide)), (fun _ => ⟨(ws_7 178 rfl rfl), by decide, (fun _ => (ws_0 75 rfl rfl))⟩)⟩
set_option maxRecDepth 100000 in
theorem mm_206 : Mp 206 := ⟨rfl, (ws_7 231 rfl rfl), pn_11.2.2, (plainFor_of_name (pn_11.1.resolve_left (by decide))), pn_11.2.1, by decide +kernel, (fun h => absurd h (by decide)), by decide, by decide, (fun h => absurd h (by decide)), (fun _ => ⟨(ws_7 230 rfl rfl), by decide, (fun _ => (ws_0 88 rfl rfl))⟩)⟩
set_option maxRecDepth 100000 in
theorem mm_207 : Mp 207 := ⟨rfl, (ws_8 3 rfl rfl), pn_11.2.2, (plainFor_of_name (pn_11.1.resolve_left (by decide))), pn_11.2.1, by decide +kernel, (fun h => absurd h (by decide)), by decide, by decide, (fun h => absurd h (by decide)), (fun _ => ⟨(ws_8 2 rfl rfl), by decide, (fun _ => (ws_0 91 rfl rfl))⟩)⟩
set_option maxRecDepth 100000 in
theorem mm_208 : Mp 208 := ⟨rfl, (ws_7 235 rfl rfl), pn_11.2.2, (plainFor_of_name (pn_11.1.resolve_left (by decide))), pn_11.2.1, by decide +kernel, (fun h => absurd h (by decide)), by decide, by decide, (fun h => absurd h (by decide)), (fun _ => ⟨(ws_7 234 rfl rfl), by decide, (fun _ => (ws_0 89 rfl rfl))⟩)⟩
set_option maxRecDepth 100000 in
theorem mm_209 : Mp 209 := ⟨rfl, (ws_7 227 rfl rfl), pn_11.2.2, (plainFor_of_name (pn_11.1.resolve_left (by decide))), pn_11.2.1, by decide +kernel, (fun h => absurd h (by decide)), by decide, by decide, (fun h => absurd h (by decide)), (fun _ => ⟨(ws_7 226 rfl rfl), by decide, (fun _ => (ws_0 87 rfl rfl))⟩)⟩
set_option maxRecDepth 100000 in
theorem mm_210 : Mp 210 := ⟨rfl, (ws_7 239 rfl rfl), pn_11.2.2, (plainFor_of_name (pn_11.1.resolve_left (by decide))), pn_11.2.1, by decide +kernel, (fun h => absurd h (by decide)), by decide, by decide, (fun h => absurd h (by decide)), (fun _ => ⟨(ws_7 238 rfl rfl), by decide, (fun _ => (ws_0 90 rfl rfl))⟩)⟩
set_option maxRecDepth 100000 in
theorem mm_211 : Mp 211 := ⟨rfl, (ws_7 175 rfl rfl), pn_11.2.2, (plainFor_of_name (pn_11.1.resolve_left (by decide))), pn_11.2.1, by decide +kernel, (fun h => absurd h (by decide)), by decide, by decide, (fun h => absurd h (by decide)), (fun _ => ⟨(ws_7 174 rfl rfl), by decide, (fun _ => (ws_0 74 rfl rfl))⟩)⟩
set_option maxRecDepth 100000 in
theorem mm_212 : Mp 212 := ⟨rfl, (ws_8 11 rfl rfl), pn_11.2.2, (plainFor_of_name (pn_11.1.resolve_left (by decide))), pn_11.2.1, by decide +kernel, (fun h => absurd h (by decide)), by decide, by decide, (fun h => absurd h (by decide)), (fun _ => ⟨(ws_8 9 rfl rfl), by decide, (fun _ => (ws_8 10 rfl rfl))⟩)⟩
set_option maxRecDepth 100000 in
theorem mm_213 : Mp 213 := ⟨rfl, (ws_8 19 rfl rfl), pn_11.2.2, (plainFor_of_name (pn_11.1.resolve_left (by decide))), pn_11.2.1, by decide +kernel, (fun h => absurd h (by decide)), by decide, by decide, (fun h => absurd h (by decide)), (fun _ => ⟨(ws_8 18 rfl rfl), by decide, (fun _ => (ws_0 93 rfl rfl))⟩)⟩
set_option maxRecDepth 100000 in
theorem mm_214 : Mp 214 := ⟨rfl, (ws_8 109 rfl rfl), pn_11.2.2, (plainFor_of_name (pn_11.1.resolve_left (by decide))), pn_11.2.1, by decide +kernel, (fun h => absurd h (by decide)), by decide, by decide, (fun h => absurd h (by decide)), (fun _ => ⟨(ws_8 108 rfl rfl), by decide, (fun _ => (ws_0 111 rfl rfl))⟩)⟩
set_option maxRecDepth 100000 in
theorem mm_215 : Mp 215 := ⟨rfl, (ws_8 33 rfl rfl), pn_11.2.2, (plainFor_of_name (pn_11.1.resolve_left (by decide))), pn_11.2.1, by decide +kernel, (fun h => absurd h (by decide)), by decide, by decide, (fun h => absurd h (by decide)), (fun _ => ⟨(ws_8 32 rfl rfl), by decide, (fun _ => (ws_0 94 rfl rfl))⟩)⟩
set_option maxRecDepth 100000 in
theorem mm_216 : Mp 216 := ⟨rfl, (ws_8 105 rfl rfl), pn_11.2.2, (plainFor_of_name (pn_11.1.resolve_left (by decide))), pn_11.2.1, by decide +kernel, (fun h => absurd h (by decide)), by decide, by decide, (fun h => absurd h (by decide)), (fun _ => ⟨(ws_8 104 rfl rfl), by decide, (fun _ => (ws_0 110 rfl rfl))⟩)⟩
set_option maxRecDepth 100000 in
theorem mm_217 : Mp 217 := ⟨rfl, (ws_8 15 rfl rfl), pn_11.2.2, (plainFor_of_name (pn_11.1.resolve_left (by decide))), pn_11.2.1, by decide +kernel, (fun h => absurd h (by decide)), by decide, by decide, (fun h => absurd h (by decide)), (fun _ => ⟨(ws_8 13 rfl rfl), by decide, (fun _ => (ws_8 14 rfl rfl))⟩)⟩
set_option maxRecDepth 100000 in
theorem mm_218 : Mp 218 := ⟨rfl, (ws_8 23 rfl rfl), pn_11.2.2, (plainFor_of_name (pn_11.1.resolve_left (by decide))), pn_11.2.1, by decide +kernel, (fun h => absurd h (by decide)), by decide, by decide, (fun h => absurd h (by decide)), (fun _ => ⟨(ws_8 21 rfl rfl), by decide, (fun _ => (ws_8 22 rfl rfl))⟩)⟩
set_option maxRecDepth 100000 in
theorem mm_219 : Mp 219 := ⟨rfl, (ws_8 41 rfl rfl), pn_11.2.2, (plainFor_of_name (pn_11.1.resolve_left (by decide))), pn_11.2.1, by decide +kernel, (fun h => absurd h (by decide)), by decide, by decide, (fun h => absurd h (by decide)), (fun _ => ⟨(ws_8 40 rfl rfl), by decide, (fun _ => (ws_0 96 rfl rfl))⟩)⟩
set_option maxRecDepth 100000 in
theorem mm_220 : Mp 220 := ⟨rfl, (ws_8 49 rfl rfl), pn_11.2.2, (plainFor_of_name (pn_11.1.resolve_left (by decide))), pn_11.2.1, by decide +kernel, (fun h => absurd h (by decide)), by decide, by decide, (fun h => absurd h (by decide)), (fun _ => ⟨(ws_8 48 rfl rfl), by decide, (fun _ => (ws_0 98 rfl rfl))⟩)⟩
set_option maxRecDepth 100000 in
theorem mm_221 : Mp 221 := ⟨rfl, (ws_8 37 rfl rfl), pn_11.2.2, (plainFor_of_name (pn_11.1.resolve_left (by decide))), pn_11.2.1, by decide +kernel, (fun h => absurd h (by decide)), by decide, by decide, (fun h => absurd h (by decide)), (fun _ => ⟨(ws_8 36 rfl rfl), by decide, (fun _ => (ws_0 95 rfl rfl))⟩)⟩
set_option maxRecDepth 100000 in
theorem mm_222 : Mp 222 := ⟨rfl, (ws_8 45 rfl rfl), pn_11.2.2, (plainFor_of_name (pn_11.1.resolve_left (by decide))), pn_11.2.1, by decide +kernel, (fun h => absurd h (by decide)), by decide, by decide, (fun h => absurd h (by decide)), (fun _ => ⟨(ws_8 44 rfl rfl), by decide, (fun _ => (ws_0 97 rfl rfl))⟩)⟩
set_option maxRecDepth 100000 in
theorem mm_223 : Mp 223 := ⟨rfl, (ws_8 53 rfl rfl), pn_11.2.2, (plainFor_of_name (pn_11.1.resolve_left (by decide))), pn_11.2.1, by decide +kernel, (fun h => absurd h (by decide)), by decide, by decide, (fun h => absurd h (by decide)), (fun _ => ⟨(ws_8 52 rfl rfl), by decide, (fun _ => (ws_0 99 rfl rfl))⟩)⟩
set_option maxRecDepth 100000 in
theorem mm_224 : Mp 224 := ⟨rfl, (ws_8 81 rfl rfl), pn_11.2.2, (plainFor_of_name (pn_11.1.resolve_left (by decide))), pn_11.2.1, by decide +kernel, (fun h => absurd h (by decide)), by decide, by decide, (fun h => absurd h (by decide)), (fun _ => ⟨(ws_8 80 rfl rfl), by decide, (fun _ => (ws_0 106 rfl rfl))⟩)⟩
set_option maxRecDepth 100000 in
theorem mm_225 : Mp 225 := ⟨rfl, (ws_8 85 rfl rfl), pn_11.2.2, (plainFor_of_name (pn_11.1.resolve_left (by decide))), pn_11.2.1, by decide +kernel, (fun h => absurd h (by decide)), by decide, by decide, (fun h => absurd h (by decide)), (fun _ => ⟨(ws_8 84 rfl rfl), by decide, (fun _ => (ws_0 107 rfl rfl))⟩)⟩
set_option maxRecDepth 100000 in
theorem mm_226 : Mp 226 := ⟨rfl, (ws_8 94 rfl rfl), pn_11.2.2, (plainFor_of_name (pn_11.1.resolve_left (by decide))), pn_11.2.1, by decide +kernel, (fun h => absurd h (by decide)), by decide, by decide, (fun h => absurd h (by decide)), (fun _ => ⟨(ws_8 93 rfl rfl), by decide, (fun _ => (ws_0 109 rfl rfl))⟩)⟩
set_option maxRecDepth 100000 in
theorem mm_227 : Mp 227 := ⟨rfl, (ws_8 77 rfl rfl), pn_11.2.2, (plainFor_of_name (pn_11.1.resolve_left (by decide))), pn_11.2.1, by decide +kernel, (fun h => absurd h (by decide)), by decide, by decide, (fun h => absurd h (by decide)), (fun _ => ⟨(ws_8 76 rfl rfl), by decide, (fun _ => (ws_0 105 rfl rfl))⟩)⟩
set_option maxRecDepth 100000 in
theorem mm_228 : Mp 228 := ⟨rfl, (ws_8 89 rfl rfl), pn_11.2.2, (plainFor_of_name (pn_11.1.resolve_left (by decide))), pn_11.2.1, by decide +kernel, (fun h => absurd h (by decide)), by decide, by decide, (fun h => absurd h (by decide)), (fun _ => ⟨(ws_8 88 rfl rfl), by decide, (fun _ => (ws_0 108 rfl rfl))⟩)⟩
set_option maxRecDepth 100000 in
theorem mm_229 : Mp 229 := ⟨rfl, (ws_8 69 rfl rfl), pn_11.2.2, (plainFor_of_name (pn_11.1.resolve_left (by decide))), pn_11.2.1, by decide +kernel, (fun h => absurd h (by decide)), by decide, by decide, (fun h => absurd h (by decide)), (fun _ => ⟨(ws_8 68 rfl rfl), by decide, (fun _ => (ws_0 103 rfl rfl))⟩)⟩
set_option maxRecDepth 100000 in
theorem mm_230 : Mp 230 := ⟨rfl, (ws_8 97 rfl rfl), pn_11.2.2, (plainFor_of_name (pn_11.1.resolve_left (by decide))), pn_11.2.1, by decide +kernel, (fun h => absurd h (by decide)), by decide, by decide, (fun _ => (ws_8 96 rfl rfl)), (fun h => absurd h (by decide))⟩
set_option maxRecDepth 100000 in
theorem mm_231 : Mp 231 := ⟨rfl, (ws_8 73 rfl rfl), pn_11.2.2, (plainFor_of_name (pn_11.1.resolve_left (by decide))), pn_11.2.1, by decide +kernel, (fun h => absurd h (by decide)), by decide, by decide, (fun h => absurd h (by decide)), (fun _ => ⟨(ws_8 72 rfl rfl), by decide, (fun _ => (ws_0 104 rfl rfl))⟩)⟩
set_option maxRecDepth 100000 in
theorem mm_232 : Mp 232 := ⟨rfl, (ws_8 65 rfl rfl), pn_11.2.2, (plainFor_of_name (pn_11.1.resolve_left (by decide))), pn_11.2.1, by decide +kernel, (fun h => absurd h (by decide)), by decide, by decide, (fun h => absurd h (by decide)), (fun _ => ⟨(ws_8 64 rfl rfl), by decide, (fun _ => (ws_0 102 rfl rfl))⟩)⟩
set_option maxRecDepth 100000 in
theorem mm_233 : Mp 233 := ⟨rfl, (ws_8 61 rfl rfl), pn_11.2.2, (plainFor_of_name (pn_11.1.resolve_left (by decide))), pn_11.2.1, by decide +kernel, (fun h => absurd h (by decide)), by decide, by decide, (fun h => absurd h (by decide)), (fun _ => ⟨(ws_8 60 rfl rfl), by decide, (fun _ => (ws_0 101 rfl rfl))⟩)⟩
set_option maxRecDepth 100000 in
theorem mm_234 : Mp 234 := ⟨rfl, (ws_8 57 rfl rfl), pn_11.2.2, (plainFor_of_name (pn_11.1.resolve_left (by decide))), pn_11.2.1, by decide +kernel, (fun h => absurd h (by decide)), by decide, by decide, (fun h => absurd h (by decide)), (fun _ => ⟨(ws_8 56 rfl rfl), by decide, (fun _ => (ws_0 100 rfl rfl))⟩)⟩
set_option maxRecDepth 100000 in
theorem mm_235 : Mp 235 := ⟨rfl, (ws_8 29 rfl rfl), pn_11.2.2, (plainFor_of_name (pn_11.1.resolve_left (by decide))), pn_11.2.1, by decide +kernel, (fun h => absurd h (by decide)), by decide, by decide, (fun h => absurd h (by decide)), (fun _ => ⟨(ws_8 27 rfl rfl), by decide, (fun _ => (ws_8 28 rfl rfl))⟩)⟩
set_option maxRecDepth 100000 in
theorem mm_236 : Mp 236 := ⟨rfl, (ws_8 101 rfl rfl), pn_11.2.2, (plainFor_of_name (pn_11.1.resolve_left (by decide))), pn_11.2.1, by decide +kernel, (fun h => absurd h (by decide)), by decide, by decide, (fun h => absurd h (by decide)), (fun _ => ⟨(ws_8 99 rfl rfl), by decide, (fun _ => (ws_8 100 rfl rfl))⟩)⟩
set_option maxRecDepth 100000 in
theorem mm_237 : Mp 237 := ⟨rfl, (ws_8 113 rfl rfl), pn_11.2.2, (plainFor_of_name (pn_11.1.resolve_left (by decide))), pn_11.2.1, by decide +kernel, (fun h => absurd h (by decide)), by decide, by decide, (fun h => absurd h (by decide)), (fun _ => ⟨(ws_8 111 rfl rfl), by decide, (fun _ => (ws_8 112 rfl rfl))⟩)⟩
set_option maxRecDepth 100000 in
theorem mm_238 : Mp 238 := ⟨rfl, (ws_8 117 rfl rfl), pn_11.2.2, (plainFor_of_name (pn_11.1.resolve_left (by decide))), pn_11.2.1, by decide +kernel, (fun h => absurd h (by decide)), by decide, by decide, (fun h => absurd h (by decide)), (fun _ => ⟨(ws_8 115 rfl rfl), by decide, (fun _ => (ws_8 116 rfl rfl))⟩)⟩
set_option maxRecDepth 100000 in
theorem mm_239 : Mp 239 := ⟨rfl, (ws_8 121 rfl rfl), pn_11.2.2, (plainFor_of_name (pn_11.1.resolve_left (by decide))), pn_11.2.1, by decide +kernel, (fun h => absurd h (by decide)), by decide, by decide, (fun h => absurd h (by decide)), (fun _ => ⟨(ws_8 119 rfl rfl), by decide, (fun _ => (ws_8 120 rfl rfl))⟩)⟩
set_option maxRecDepth 100000 in
theorem mm_240 : Mp 240 := ⟨rfl, (ws_8 125 rfl rfl), pn_11.2.2, (plainFor_of_name (pn_11.1.resolve_left (by decide))), pn_11.2.1, by decide +kernel, (fun h => absurd h (by decide)), by decide, by decide, (fun h => absurd h (by decide)), (fun _ => ⟨(ws_8 123 rfl rfl), by decide, (fun _ => (ws_8 124 rfl rfl))⟩)⟩
set_option maxRecDepth 100000 in
theorem mm_241 : Mp 241 := ⟨rfl, (ws_8 134 rfl rfl), pn_11.2.2, (plainFor_of_name (pn_11.1.resolve_left (by decide))), pn_11.2.1, by decide +kernel, (fun h => absurd h (by decide)), by decide, by decide, (fun h => absurd h (by decide)), (fun _ => ⟨(ws_8 133 rfl rfl), by decide, (fun _ => (ws_0 112 rfl rfl))⟩)⟩
set_option maxRecDepth 100000 in
theorem mm_242 : Mp 242 := ⟨rfl, (ws_8 130 rfl rfl), pn_11.2.2, (plainFor_of_name (pn_11.1.resolve_left (by decide))), pn_11.2.1, by decide +kernel, (fun h => absurd h (by decide)), by decide, by decide, (fun h => absurd h (by decide)), (fun _ => ⟨(ws_8 128 rfl rfl), by decide, (fun _ => (ws_8 129 rfl rfl))⟩)⟩
set_option maxRecDepth 100000 in
theorem mm_243 : Mp 243 := ⟨rfl, (ws_8 147 rfl rfl), pn_11.2.2, (plainFor_of_name (pn_11.1.resolve_left (by decide))), pn_11.2.1, by decide +kernel, (fun h => absurd h (by decide)), by decide, by decide, (fun h => absurd h (by decide)), (fun _ => ⟨(ws_8 146 rfl rfl), by decide, (fun _ => (ws_0 114 rfl rfl))⟩)⟩
set_option maxRecDepth 100000 in
theorem mm_244 : Mp 244 := ⟨rfl, (ws_8 143 rfl rfl), pn_11.2.2, (plainFor_of_name (pn_11.1.resolve_left (by decide))), pn_11.2.1, by decide +kernel, (fun h => absurd h (by decide)), by decide, by decide, (fun h => absurd h (by decide)), (fun _ => ⟨(ws_8 142 rfl rfl), by decide, (fun _ => (ws_0 113 rfl rfl))⟩)⟩
set_option maxRecDepth 100000 in
theorem mm_245 : Mp 245 := ⟨rfl, (ws_8 138 rfl rfl), pn_11.2.2, (plainFor_of_name (pn_11.1.resolve_left (by decide))), pn_11.2.1, by decide +kernel, (fun h => absurd h (by decide)), by decide, by decide, (fun h => absurd h (by decide)), (fun _ => ⟨(ws_8 136 rfl rfl), by decide, (fun _ => (ws_8 137 rfl rfl))⟩)⟩
set_option maxRecDepth 100000 in
theorem mm_246 : Mp 246 := ⟨rfl, (ws_8 151 rfl rfl), pn_11.2.2, (plainFor_of_name (pn_11.1.resolve_left (by decide))), pn_11.2.1, by decide +kernel, (fun h => absurd h (by decide)), by decide, by decide, (fun h => absurd h (by decide)), (fun _ => ⟨(ws_8 149 rfl rfl), by decide, (fun _ => (ws_8 150 rfl rfl))⟩)⟩
set_option maxRecDepth 100000 in
theorem mm_247 : Mp 247 := ⟨rfl, (ws_8 159 rfl rfl), pn_11.2.2, (plainFor_of_name (pn_11.1.resolve_left (by decide))), pn_11.2.1, by decide +kernel, (fun h => absurd h (by decide)), by decide, by decide, (fun h => absurd h (by decide)), (fun _ => ⟨(ws_8 158 rfl rfl), by decide, (fun _ => (ws_0 115 rfl rfl))⟩)⟩
set_option maxRecDepth 100000 in
theorem mm_248 : Mp 248 := ⟨rfl, (ws_8 163 rfl rfl), pn_11.2.2, (plainFor_of_name (pn_11.1.resolve_left (by decide))), pn_11.2.1, by decide +kernel, (fun h => absurd h (by decide)), by decide, by decide, (fun h => absurd h (by decide)), (fun _ => ⟨(ws_8 162 rfl rfl), by decide, (fun _ => (ws_0 116 rfl rfl))⟩)⟩
set_option maxRecDepth 100000 in
theorem mm_249 : Mp 249 := ⟨rfl, (ws_8 155 rfl rfl), pn_11.2.2, (plainFor_of_name (pn_11.1.resolve_left (by decide))), pn_11.2.1, by decide +kernel, (fun h => absurd h (by decide)), by decide, by decide, (fun h => absurd h (by decide)), (fun _ => ⟨(ws_8 153 rfl rfl), by decide, (fun _ => (ws_8 154 rfl rfl))⟩)⟩
set_option maxRecDepth 100000 in
theorem mm_250 : Mp 250 := ⟨rfl, (ws_8 167 rfl rfl), pn_11.2.2, (plainFor_of_name (pn_11.1.resolve_left (by decide))), pn_11.2.1, by decide +kernel, (fun h => absurd h (by decide)), by decide, by decide, (fun h => absurd h (by decide)), (fun _ => ⟨(ws_8 165 rfl rfl), by decide, (fun _ => (ws_8 166 rfl rfl))⟩)⟩
set_option maxRecDepth 100000 in
theorem mm_251 : Mp 251 := ⟨rfl, (ws_8 180 rfl rfl), pn_11.2.2, (plainFor_of_name (pn_11.1.resolve_left (by decide))), pn_11.2.1, by decide +kernel, (fun h => absurd h (by decide)), by decide, by decide, (fun h => absurd h (by decide)), (fun _ => ⟨(ws_8 179 rfl rfl), by decide, (fun _ => (ws_0 118 rfl rfl))⟩)⟩
set_option maxRecDepth 100000 in
theorem mm_252 : Mp 252 := ⟨rfl, (ws_8 175 rfl rfl), pn_11.2.2, (plainFor_of_name (pn_11.1.resolve_left (by decide))), pn_11.2.1, by decide +kernel, (fun h => absurd h (by decide)), by decide, by decide, (fun h => absurd h (by decide)), (fun _ => ⟨(ws_8 174 rfl rfl), by decide, (fun _ => (ws_0 117 rfl rfl))⟩)⟩
set_option maxRecDepth 100000 in
theorem mm_253 : Mp 253 := ⟨rfl, (ws_8 171 rfl rfl), pn_11.2.2, (plainFor_of_name (pn_11.1.resolve_left (by decide))), pn_11.2.1, by decide +kernel, (fun h => absurd h (by decide)), by decide, by decide, (fun h => absurd h (by decide)), (fun _ => ⟨(ws_8 169 rfl rfl), by decide, (fun _ => (ws_8 170 rfl rfl))⟩)⟩
set_option maxRecDepth 100000 in
theorem mm_254 : Mp 254 := ⟨rfl, (ws_8 184 rfl rfl), pn_11.2.2, (plainFor_of_name (pn_11.1.resolve_left (by decide))), pn_11.2.1, by decide +kernel, (fun h => absurd h (by decide)), by decide, by decide, (fun h => absurd h (by decide)), (fun _ => ⟨(ws_8 182 rfl rfl), by decide, (fun _ => (ws_8 183 rfl rfl))⟩)⟩
set_option maxRecDepth 100000 in
theorem mm_255 : Mp 255 := ⟨rfl, (ws_8 188 rfl rfl), pn_11.2.2, (plainFor_of_name (pn_11.1.resolve_left (by decide))), pn_11.2.1, by decide +kernel, (fun h => absurd h (by decide)), by decide, by decide, (fun h => absurd h (by decide)), (fun _ => ⟨(ws_8 186 rfl rfl), by decide, (fun _ => (ws_8 187 rfl rfl))⟩)⟩
set_option maxRecDepth 100000 in
theorem mm_256 : Mp 256 := ⟨rfl, (ws_8 193 rfl rfl), pn_11.2.2, (plainFor_of_name (pn_11.1.resolve_left (by decide))), pn_11.2.1, by decide +kernel, (fun h => absurd h (by decide)), by decide, by decide, (fun h => absurd h (by decide)), (fun _ => ⟨(ws_8 191 rfl rfl), by decide, (fun _ => (ws_8 192 rfl rfl))⟩)⟩
set_option maxRecDepth 100000 in
theorem mm_257 : Mp 257 := ⟨rfl, (ws_8 198 rfl rfl), pn_11.2.2, (plainFor_of_name (pn_11.1.resolve_left (by decide))), pn_11.2.1, by decide +kernel, (fun h => absurd h (by decide)), by decide, by decide, (fun h => absurd h (by decide)), (fun _ => ⟨(ws_8 196 rfl rfl), by decide, (fun _ => (ws_8 197 rfl rfl))⟩)⟩
set_option maxRecDepth 100000 in
theorem mm_258 : Mp 258 := ⟨rfl, (ws_8 202 rfl rfl), pn_11.2.2, (plainFor_of_name (pn_11.1.resolve_left (by decide))), pn_11.2.1, by decide +kernel, (fun h => absurd h (by decide)), by decide, by decide, (fun h => absurd h (by decide)), (fun _ => ⟨(ws_8 200 rfl rfl), by decide, (fun _ => (ws_8 201 rfl rfl))⟩)⟩
set_option maxRecDepth 100000 in
theorem mm_259 : Mp 259 := ⟨rfl, (ws_8 210 rfl rfl), pn_11.2.2, (plainFor_of_name (pn_11.1.resolve_left (by decide))), pn_11.2.1, by decide +kernel, (fun h => absurd h (by decide)), by decide, by decide, (fun h => absurd h (by decide)), (fun _ => ⟨(ws_8 209 rfl rfl), by decide, (fun _ => (ws_0 119 rfl rfl))⟩)⟩
set_option maxRecDepth 100000 in
theorem mm_260 : Mp 260 := ⟨rfl, (ws_8 206 rfl rfl), pn_11.2.2, (plainFor_of_name (pn_11.1.resolve_left (by decide))), pn_11.2.1, by decide +kernel, (fun h => absurd h (by decide)), by decide, by decide, (fun h => absurd h (by decide)), (fun _ => ⟨(ws_8 204 rfl rfl), by decide, (fun _ => (ws_8 205 rfl rfl))⟩)⟩
set_option maxRecDepth 100000 in
theorem mm_261 : Mp 261 := ⟨rfl, (ws_8 218 rfl rfl), pn_11.2.2, (plainFor_of_name (pn_11.1.resolve_left (by decide))), pn_11.2.1, by decide +kernel, (fun h => absurd h (by decide)), by decide, by decide, (fun h => absurd h (by decide)), (fun _ => ⟨(ws_8 217 rfl rfl), by decide, (fun _ => (ws_0 120 rfl rfl))⟩)⟩
set_option maxRecDepth 100000 in
theorem mm_262 : Mp 262 := ⟨rfl, (ws_8 214 rfl rfl), pn_11.2.2, (plainFor_of_name (pn_11.1.resolve_left (by decide))), pn_11.2.1, by decide +kernel, (fun h => absurd h (by decide)), by decide, by decide, (fun h => absurd h (by decide)), (fun _ => ⟨(ws_8 212 rfl rfl), by decide, (fun _ => (ws_8 213 rfl rfl))⟩)⟩
set_option maxRecDepth 100000 in
theorem mm_263 : Mp 263 := ⟨rfl, (ws_8 222 rfl rfl), pn_11.2.2, (plainFor_of_name (pn_11.1.resolve_left (by decide))), pn_11.2.1, by decide +kernel, (fun h => absurd h (by decide)), by decide, by decide, (fun h => absurd h (by decide)), (fun _ => ⟨(ws_8 220 rfl rfl), by decide, (fun _ => (ws_8 221 rfl rfl))⟩)⟩
set_option maxRecDepth 100000 in
theorem mm_264 : Mp 264 := ⟨rfl, (ws_8 226 rfl rfl), pn_11.2.2, (plainFor_of_name (pn_11.1.resolve_left (by decide))), pn_11.2.1, by decide +kernel, (fun h => absurd h (by decide)), by decide, by decide, (fun h => absurd h (by decide)), (fun _ => ⟨(ws_8 224 rfl rfl), by decide, (fun _ => (ws_8 225 rfl rfl))⟩)⟩
set_option maxRecDepth 100000 in
theorem mm_265 : Mp 265 := ⟨rfl, (ws_8 230 rfl rfl), pn_11.2.2, (plainFor_of_name (pn_11.1.resolve_left (by decide))), pn_11.2.1, by decide +kernel, (fun h => absurd h (by decide)), by decide, by decide, (fun h => absurd h (by decide)), (fun _ => ⟨(ws_8 228 rfl rfl), by decide, (fun _ => (ws_8 229 rfl rfl))⟩)⟩
set_option maxRecDepth 100000 in
theorem mm_266 : Mp 266 := ⟨rfl, (ws_8 238 rfl rfl), pn_11.2.2, (plainFor_of_name (pn_11.1.resolve_left (by decide))), pn_11.2.1, by decide +kernel, (fun h => absurd h (by decide)), by decide, by decide, (fun h => absurd h (by decide)), (fun _ => ⟨(ws_8 237 rfl rfl), by decide, (fun _ => (ws_0 121 rfl rfl))⟩)⟩
set_option maxRecDepth 100000 in
theorem mm_267 : Mp 267 := ⟨rfl, (ws_8 234 rfl rfl), pn_11.2.2, (plainFor_of_name (pn_11.1.resolve_left (by decide))), pn_11.2.1, by decide +kernel, (fun h => absurd h (by decide)), by decide, by decide, (fun h => absurd h (by decide)), (fun _ => ⟨(ws_8 232 rfl rfl), by decide, (fun _ => (ws_8 233 rfl rfl))⟩)⟩
set_option maxRecDepth 100000 in
theorem mm_268 : Mp 268 := ⟨rfl, (ws_9 53 rfl rfl), pn_11.2.2, (plainFor_of_name (pn_11.1.resolve_left (by decide))), pn_11.2.1, by decide +kernel, (fun h => absurd h (by decide)), by decide, by decide, (fun _ => (ws_9 52 rfl rfl)), (fun h => absurd h (by decide))⟩
set_option maxRecDepth 100000 in
theorem mm_269 : Mp 269 := ⟨rfl, (ws_9 58 rfl rfl), pn_11.2.2, (plainFor_of_name (pn_11.1.resolve_left (by decide))), pn_11.2.1, by decide +kernel, (fun h => absurd h (by decide)), by decide, by decide, (fun _ => (ws_9 57 rfl rfl)), (fun h => absurd h (by decide))⟩
set_option maxRecDepth 100000 in
theorem mm_270 : Mp 270 := ⟨rfl, (ws_9 38 rfl rfl), pn_11.2.2, (plainFor_of_name (pn_11.1.resolve_left (by decide))), pn_11.2.1, by decide +kernel, (fun h => absurd h (by decide)), by decide, by decide, (fun h => absurd h (by decide)), (fun _ => ⟨(ws_9 37 rfl rfl), by decide, (fun _ => (ws_0 128 rfl rfl))⟩)⟩
set_option maxRecDepth 100000 in
theorem mm_271 : Mp 271 := ⟨rfl, (ws_9 50 rfl rfl), pn_11.2.2, (plainFor_of_name (pn_11.1.resolve_left (by decide))), pn_11.2.1, by decide +kernel, (fun h => absurd h (by decide)), by decide, by decide, (fun h => absurd h (by decide)), (fun _ => ⟨(ws_9 49 rfl rfl), by decide, (fun _ => (ws_0 130 rfl rfl))⟩)⟩
set_option maxRecDepth 100000 in
theorem mm_272 : Mp 272 := ⟨rfl, (ws_9 34 rfl rfl), pn_11.2.2, (plainFor_of_name (pn_11.1.resolve_left (by decide))), pn_11.2.1, by decide +kernel, (fun h => absurd h (by decide)), by decide, by decide, (fun h => absurd h (by decide)), (fun _ => ⟨(ws_9 33 rfl rfl), by decide, (fun _ => (ws_0 127 rfl rfl))⟩)⟩
set_option maxRecDepth 100000 in
theorem mm_273 : Mp 273 := ⟨rfl, (ws_9 46 rfl rfl), pn_11.2.2, (plainFor_of_name (pn_11.1.resolve_left (by decide))), pn_11.2.1, by decide +kernel, (fun h => absurd h (by decide)), by decide, by decide, (fun h => absurd h (by decide)), (fun _ => ⟨(ws_9 45 rfl rfl), by decide, (fun _ => (ws_0 129 rfl rfl))⟩)⟩
set_option maxRecDepth 100000 in
theorem mm_274 : Mp 274 := ⟨rfl, (ws_9 2 rfl rfl), pn_11.2.2, (plainFor_of_name (pn_11.1.resolve_left (by decide))), pn_11.2.1, by decide +kernel, (fun h => absurd h (by decide)), by decide, by decide, (fun h => absurd h (by decide)), (fun _ => ⟨(ws_9 0 rfl rfl), by decide, (fun _ => (ws_9 1 rfl rfl))⟩)⟩
set_option maxRecDepth 100000 in
theorem mm_275 : Mp 275 := ⟨rfl, (ws_9 22 rfl rfl), pn_11.2.2, (plainFor_of_name (pn_11.1.resolve_left (by decide))), pn_11.2.1, by decide +kernel, (fun h => absurd h (by decide)), by decide, by decide, (fun h => absurd h (by decide)), (fun _ => ⟨(ws_9 21 rfl rfl), by decide, (fun _ => (ws_0 125 rfl rfl))⟩)⟩
set_option maxRecDepth 100000 in
theorem mm_276 : Mp 276 := ⟨rfl, (ws_9 18 rfl rfl), pn_11.2.2, (plainFor_of_name (pn_11.1.resolve_left (by decide))), pn_11.2.1, by decide +kernel, (fun h => absurd h (by decide)), by decide, by decide, (fun h => absurd h (by decide)), (fun _ => ⟨(ws_9 17 rfl rfl), by decide, (fun _ => (ws_0 124 rfl rfl))⟩)⟩
set_option maxRecDepth 100000 in
theorem mm_277 : Mp 277 := ⟨rfl, (ws_9 14 rfl rfl), pn_11.2.2, (plainFor_of_name (pn_11.1.resolve_left (by decide))), pn_11.2.1, by decide +kernel, (fun h => absurd h (by decide)), by decide, by decide, (fun h => absurd h (by decide)), (fun _ => ⟨(ws_9 13 rfl rfl), by decide, (fun _ => (ws_0 123 rfl rfl))⟩)⟩
set_option maxRecDepth 100000 in
theorem mm_278 : Mp 278 := ⟨rfl, (ws_9 30 rfl rfl), pn_11.2.2, (plainFor_of_name (pn_11.1.resolve_left (by decide))), pn_11.2.1, by decide +kernel, (fun h => absurd h (by decide)), by decide, by decide, (fun h => absurd h (by decide)), (fun _ => ⟨(ws_9 29 rfl rfl), by decide, (fun _ => (ws_0 126 rfl rfl))⟩)⟩
set_option maxRecDepth 100000 in
theorem mm_279 : Mp 279 := ⟨rfl, (ws_9 62 rfl rfl), pn_11.2.2, (plainFor_of_name (pn_11.1.resolve_left (by decide))), pn_11.2.1, by decide +kernel, (fun h => absurd h (by decide)), by decide, by decide, (fun h => absurd h (by decide)), (fun _ => ⟨(ws_9 61 rfl rfl), by decide, (fun _ => (ws_0 131 rfl rfl))⟩)⟩
set_option maxRecDepth 100000 in
theorem mm_280 : Mp 280 := ⟨rfl, (ws_9 65 rfl rfl), pn_11.2.2, (plainFor_of_name (pn_11.1.resolve_left (by decide))), pn_11.2.1, by decide +kernel, (fun h => absurd h (by decide)), by decide, by decide, (fun _ => (ws_9 64 rfl rfl)), (fun h => absurd h (by decide))⟩
set_option maxRecDepth 100000 in
theorem mm_281 : Mp 281 := ⟨rfl, (ws_9 10 rfl rfl), pn_11.2.2, (plainFor_of_name (pn_11.1.resolve_left (by decide))), pn_11.2.1, by decide +kernel, (fun h => absurd h (by decide)), by decide, by decide, (fun h => absurd h (by decide)), (fun _ => ⟨(ws_9 9 rfl rfl), by decide, (fun _ => (ws_0 122 rfl rfl))⟩)⟩
set_option maxRecDepth 100000 in
theorem mm_282 : Mp 282 := ⟨rfl, (ws_9 6 rfl rfl), pn_11.2.2, (plainFor_of_name (pn_11.1.resolve_left (by decide))), pn_11.2.1, by decide +kernel, (fun h => absurd h (by decide)), by decide, by decide, (fun h => absurd h (by decide)), (fun _ => ⟨(ws_9 4 rfl rfl), by decide, (fun _ => (ws_9 5 rfl rfl))⟩)⟩
set_option maxRecDepth 100000 in
theorem mm_283 : Mp 283 := ⟨rfl, (ws_9 71 rfl rfl), pn_11.2.2, (plainFor_of_name (pn_11.1.resolve_left (by decide))), pn_11.2.1, by decide +kernel, (fun h => absurd h (by decide)), by decide, by decide, (fun h => absurd h (by decide)), (fun _ => ⟨(ws_9 69 rfl rfl), by decide, (fun _ => (ws_9 70 rfl rfl))⟩)⟩
set_option maxRecDepth 100000 in
theorem mm_284 : Mp 284 := ⟨rfl, (ws_9 75 rfl rfl), pn_11.2.2, (plainFor_of_name (pn_11.1.resolve_left (by decide))), pn_11.2.1, by decide +kernel, (fun h => absurd h (by decide)), by decide, by decide, (fun h => absurd h (by decide)), (fun _ => ⟨(ws_9 73 rfl rfl), by decide, (fun _ => (ws_9 74 rfl rfl))⟩)⟩
set_option maxRecDepth 100000 in
theorem mm_285 : Mp 285 := ⟨rfl, (ws_9 79 rfl rfl), pn_11.2.2, (plainFor_of_name (pn_11.1.resolve_left (by decide))), pn_11.2.1, by decide +kernel, (fun h => absurd h (by decide)), by decide, by decide, (fun h => absurd h (by decide)), (fun _ => ⟨(ws_9 77 rfl rfl), by decide, (fun _ => (ws_9 78 rfl rfl))⟩)⟩
set_option maxRecDepth 100000 in
theorem mm_286 : Mp 286 := ⟨rfl, (ws_9 87 rfl rfl), pn_11.2.2, (plainFor_of_name (pn_11.1.resolve_left (by decide))), pn_11.2.1, by decide +kernel, (fun h => absurd h (by decide)), by decide, by decide, (fun h => absurd h (by decide)), (fun _ => ⟨(ws_9 86 rfl rfl), by decide, (fun _ => (ws_0 132 rfl rfl))⟩)⟩
set_option maxRecDepth 100000 in
theorem mm_287 : Mp 287 := ⟨rfl, (ws_9 91 rfl rfl), pn_11.2.2, (plainFor_of_name (pn_11.1.resolve_left (by decide))), pn_11.2.1, by decide +kernel, (fun h => absurd h (by decide)), by decide, by decide, (fun h => absurd h (by decide)), (fun _ => ⟨(ws_9 90 rfl rfl), by decide, (fun _ => (ws_0 133 rfl rfl))⟩)⟩
set_option maxRecDepth 100000 in
theorem mm_288 : Mp 288 := ⟨rfl, (ws_9 94 rfl rfl), pn_11.2.2, (plainFor_of_name (pn_11.1.resolve_left (by decide))), pn_11.2.1, by decide +kernel, (fun h => absurd h (by decide)), by decide, by decide, (fun _ => (ws_9 93 rfl rfl)), (fun h => absurd h (by decide))⟩
set_option maxRecDepth 100000 in
theorem mm_289 : Mp 289 := ⟨rfl, (ws_9 83 rfl rfl), pn_11.2.2, (plainFor_of_name (pn_11.1.resolve_left (by decide))), pn_11.2.1, by decide +kernel, (fun h => absurd h (by decide)), by decide, by decide, (fun h => absurd h (by decide)), (fun _ => ⟨(ws_9 81 rfl rfl), by decide, (fun _ => (ws_9 82 rfl rfl))⟩)⟩
set_option maxRecDepth 100000 in
theorem mm_290 : Mp 290 := ⟨rfl, (ws_9 98 rfl rfl), pn_11.2.2, (plainFor_of_name (pn_11.1.resolve_left (by decide))), pn_11.2.1, by decide +kernel, (fun h => absurd h (by decide)), by decide, by decide, (fun h => absurd h (by decide)), (fun _ => ⟨(ws_9 96 rfl rfl), by decide, (fun _ => (ws_9 97 rfl rfl))⟩)⟩
set_option maxRecDepth 100000 in
theorem mm_291 : Mp 291 := ⟨rfl, (ws_9 110 rfl rfl), pn_11.2.2, (plainFor_of_name (pn_11.1.resolve_left (by decide))), pn_11.2.1, by decide +kernel, (fun h => absurd h (by decide)), by decide, by decide, (fun h => absurd h (by decide)), (fun _ => ⟨(ws_9 109 rfl rfl), by decide, (fun _ => (ws_0 135 rfl rfl))⟩)⟩
set_option maxRecDepth 100000 in
theorem mm_292 : Mp 292 := ⟨rfl, (ws_9 106 rfl rfl), pn_11.2.2, (plainFor_of_name (pn_11.1.resolve_left (by decide))), pn_11.2.1, by decide +kernel, (fun h => absurd h (by decide)), by decide, by decide, (fun h => absurd h (by decide)), (fun _ => ⟨(ws_9 105 rfl rfl), by decide, (fun _ => (ws_0 134 rfl rfl))⟩)⟩
set_option maxRecDepth 100000 in
theorem mm_293 : Mp 293 := ⟨rfl, (ws_9 102 rfl rfl), pn_11.2.2, (plainFor_of_name (pn_11.1.resolve_left (by decide))), pn_11.2.1, by decide +kernel, (fun h => absurd h (by decide)), by decide, by decide, (fun h => absurd h (by decide)), (fun _ => ⟨(ws_9 100 rfl rfl), by decide, (fun _ => (ws_9 101 rfl rfl))⟩)⟩
set_option maxRecDepth 100000 in
theorem mm_294 : Mp 294 := ⟨rfl, (ws_4 126 rfl rfl), pn_13.2.2, (by decide +kernel), pn_13.2.1, by decide +kernel, (fun h => absurd h (by decide)), by decide, by decide, (fun _ => (ws_4 125 rfl rfl)), (fun h => absurd h (by decide))⟩
set_option maxRecDepth 100000 in
theorem mm_295 : Mp 295 := ⟨rfl, (ws_4 123 rfl rfl), pn_13.2.2, (by decide +kernel), pn_13.2.1, by decide +kernel, (fun h => absurd h (by decide)), by decide, by decide, (fun _ => (ws_4 122 rfl rfl)), (fun h => absurd h (by decide))⟩
set_option maxRecDepth 100000 in
theorem mm_296 : Mp 296 := ⟨rfl, (ws_1 230 rfl rfl), pn_13.2.2, (by decide +kernel), pn_13.2.1, by decide +kernel, (fun h => absurd h (by decide)), by decide, by decide, (fun _ => (ws_1 229 rfl rfl)), (fun h => absurd h (by decide))⟩
set_option maxRecDepth 100000 in
theorem mm_297 : Mp 297 := ⟨rfl, (ws_5 173 rfl rfl), pn_13.2.2, (by decide +kernel), pn_13.2.1, by decide +kernel, (fun h => absurd h (by decide)), by decide, by decide, (fun _ => (ws_5 172 rfl rfl)), (fun h => absurd h (by decide))⟩
set_option maxRecDepth 100000 in
theorem mm_298 : Mp 298 := ⟨rfl, (ws_5 177 rfl rfl), pn_13.2.2, (by decide +kernel), pn_13.2.1, by decide +kernel, (fun h => absurd h (by decide)), by decide, by decide, (fun _ => (ws_5 176 rfl rfl)), (fun h => absurd h (by decide))⟩
set_option maxRecDepth 100000 in
theorem mm_299 : Mp 299 := ⟨rfl, (ws_5 170 rfl rfl), pn_13.2.2, (by decide +kernel), pn_13.2.1, by decide +kernel, (fun h => absurd h (by decide)), by decide, by decide, (fun _ => (ws_5 169 rfl rfl)), (fun h => absurd h (by decide))⟩
set_option maxRecDepth 100000 in
theorem mm_300 : Mp 300 := ⟨rfl, (ws_4 38 rfl rfl), pn_14.2.2, (plainFor_of_name (pn_14.1.resolve_left (by decide))), pn_14.2.1, by decide +kernel, (fun h => absurd h (by decide)), by decide, by decide, (fun _ => (ws_4 37 rfl rfl)), (fun h => absurd h (by decide))⟩
theorem mma {K : Nat} (h : K < 302 ∧ K ≠ 301) : Mp K := by
  rcases (show (0 ≤ K ∧ K < 16) ∨ (16 ≤ K ∧ K < 32) ∨ (32 ≤ K ∧ K < 48) ∨ (48 ≤ K ∧ K < 64) ∨ (64 ≤ K ∧ K < 80) ∨ (80 ≤ K ∧ K < 96) ∨ (96 ≤ K ∧ K < 112) ∨ (112 ≤ K ∧ K < 128) ∨ (128 ≤ K ∧ K < 144) ∨ (144 ≤ K ∧ K < 160) ∨ (160 ≤ K ∧ K < 176) ∨ (176 ≤ K ∧ K < 192) ∨ (192 ≤ K ∧ K < 208) ∨ (208 ≤ K ∧ K < 224) ∨ (224 ≤ K ∧ K < 240) ∨ (240 ≤ K ∧ K < 256) ∨ (256 ≤ K ∧ K < 272) ∨ (272 ≤ K ∧ K < 288) ∨ (288 ≤ K ∧ K < 301) by omega) with h1 | h1 | h1 | h1 | h1 | h1 | h1 | h1 | h1 | h1 | h1 | h1 | h1 | h1 | h1 | h1 | h1 | h1 | h1
  · rcases (show K = 0 ∨ K = 1 ∨ K = 2 ∨ K = 3 ∨ K = 4 ∨ K = 5 ∨ K = 6 ∨ K = 7 ∨ K = 8 ∨ K = 9 ∨ K = 10 ∨ K = 11 ∨ K = 12 ∨ K = 13 ∨ K = 14 ∨ K = 15 by omega) with rfl | rfl | rfl | rfl | rfl | rfl | rfl | rfl | rfl | rfl | rfl | rfl | rfl | rfl | rfl | rfl
    · exact mm_0
    · exact mm_1
    · exact mm_2
    · exact mm_3
    · exact mm_4
    · exact mm_5
    · exact mm_6
    · exact mm_7
    · exact mm_8
    · exact mm_9
    · exact mm_10
    · exact mm_11
    · exact mm_12
    · exact mm_13
    · exact mm_14
    · exact mm_15
  · rcases (show K = 16 ∨ K = 17 ∨ K = 18 ∨ K = 19 ∨ K = 20 ∨ K = 21 ∨ K = 22 ∨ K = 23 ∨ K = 24 ∨ K = 25 ∨ K = 26 ∨ K = 27 ∨ K = 28 ∨ K = 29 ∨ K = 30 ∨ K = 31 by omega) with rfl | rfl | rfl | rfl | rfl | rfl | rfl | rfl | rfl | rfl | rfl | rfl | rfl | rfl | rfl | rfl
    · exact mm_16
    · exact mm_17
    · exact mm_18
    · exact mm_19
    · exact mm_20
    · exact mm_21
    · exact mm_22
    · exact mm_23
    · exact mm_24
    · exact mm_25
    · exact mm_26
    · exact mm_27
    · exact mm_28
    · exact mm_29
    · exact mm_30
    · exact mm_31
  · rcases (show K = 32 ∨ K = 33 ∨ K = 34 ∨ K = 35 ∨ K = 36 ∨ K = 37 ∨ K = 38 ∨ K = 39 ∨ K = 40 ∨ K = 41 ∨ K = 42 ∨ K = 43 ∨ K = 44 ∨ K = 45 ∨ K = 46 ∨ K = 47 by omega) with rfl | rfl | rfl | rfl | rfl | rfl | rfl | rfl | rfl | rfl | rfl | rfl | rfl | rfl | rfl | rfl
    · exact mm_32
    · exact mm_33
    · exact mm_34
    · exact mm_35
    · exact mm_36
    · exact mm_37
    · exact mm_38
    · exact mm_39
    · exact mm_40
    · exact mm_41
    · exact mm_42
    · exact mm_43
    · exact mm_44
    · exact mm_45
    · exact mm_46
    · exact mm_47
  · rcases (show K = 48 ∨ K = 49 ∨ K = 50 ∨ K = 51 ∨ K = 52 ∨ K = 53 ∨ K = 54 ∨ K = 55 ∨ K = 56 ∨ K = 57 ∨ K = 58 ∨ K = 59 ∨ K = 60 ∨ K = 61 ∨ K = 62 ∨ K = 63 by omega) with rfl | rfl | rfl | rfl | rfl | rfl | rfl | rfl | rfl | rfl | rfl | rfl | rfl | rfl | rfl | rfl
    · exact mm_48
    · exact mm_49
    · exact mm_50
    · exact mm_51
    · exact mm_52
    · exact mm_53
    · exact mm_54
    · exact mm_55
    · exact mm_56
    · exact mm_57
    · exact mm_58
    · exact mm_59
    · exact mm_60
    · exact mm_61
    · exact mm_62
    · exact mm_63
  · rcases (show K = 64 ∨ K = 65 ∨ K = 66 ∨ K = 67 ∨ K = 68 ∨ K = 69 ∨ K = 70 ∨ K = 71 ∨ K = 72 ∨ K = 73 ∨ K = 74 ∨ K = 75 ∨ K = 76 ∨ K = 77 ∨ K = 78 ∨ K = 79 by omega) with rfl | rfl | rfl | rfl | rfl | rfl | rfl | rfl | rfl | rfl | rfl | rfl | rfl | rfl | rfl | rfl
    · exact mm_64
    · exact mm_65
    · exact mm_66
    · exact mm_67
    · exact mm_68
    · exact mm_69
    · exact mm_70
    · exact mm_71
    · exact mm_72
    · exact mm_73
    · exact mm_74
    · exact mm_75
    · exact mm_76
    · exact mm_77
    · exact mm_78
    · exact mm_79
  · rcases (show K = 80 ∨ K = 81 ∨ K = 82 ∨ K = 83 ∨ K = 84 ∨ K = 85 ∨ K = 86 ∨ K = 87 ∨ K = 88 ∨ K = 89 ∨ K = 90 ∨ K = 91 ∨ K = 92 ∨ K = 93 ∨ K = 94 ∨ K = 95 by omega) with rfl | rfl | rfl | rfl | rfl | rfl | rfl | rfl | rfl | rfl | rfl | rfl | rfl | rfl | rfl | rfl
    · exact mm_80
    · exact mm_81
    · exact mm_82
    · exact mm_83
    · exact mm_84
    · exact mm_85
    · exact mm_86
    · exact mm_87
    · exact mm_88
    · exact mm_89
    · exact mm_90
    · exact mm_91
    · exact mm_92
    · exact mm_93
    · exact mm_94
    · exact mm_95
  · rcases (show K = 96 ∨ K = 97 ∨ K = 98 ∨ K = 99 ∨ K = 100 ∨ K = 101 ∨ K = 102 ∨ K = 103 ∨ K = 104 ∨ K = 105 ∨ K = 106 ∨ K = 107 ∨ K = 108 ∨ K = 109 ∨ K = 110 ∨ K = 111 by omega) with rfl | rfl | rfl | rfl | rfl | rfl | rfl | rfl | rfl | rfl | rfl | rfl | rfl | rfl | rfl | rfl
    · exact mm_96
    · exact mm_97
    · exact mm_98
    · exact mm_99
    · exact mm_100
    · exact mm_101
    · exact mm_102
    · exact mm_103
    · exact mm_104
    · exact mm_105
    · exact mm_106
    · exact mm_107
    · exact mm_108
    · exact mm_109
    · exact mm_110
    · exact mm_111
  · rcases (show K = 112 ∨ K = 113 ∨ K = 114 ∨ K = 115 ∨ K = 116 ∨ K = 117 ∨ K = 118 ∨ K = 119 ∨ K = 120 ∨ K = 121 ∨ K = 122 ∨ K = 123 ∨ K = 124 ∨ K = 125 ∨ K = 126 ∨ K = 127 by omega) with rfl | rfl | rfl | rfl | rfl | rfl | rfl | rfl | rfl | rfl | rfl | rfl | rfl | rfl | rfl | rfl
    · exact mm_112
    · exact mm_113
    · exact mm_114
    · exact mm_115
    · exact mm_116
    · exact mm_117
    · exact mm_118
    · exact mm_119
    · exact mm_120
    · exact mm_121
    · exact mm_122
    · exact mm_123
    · exact mm_124
    · exact mm_125
    · exact mm_126
    · exact mm_127
  · rcases (show K = 128 ∨ K = 129 ∨ K = 130 ∨ K = 131 ∨ K = 132 ∨ K = 133 ∨ K = 134 ∨ K = 135 ∨ K = 136 ∨ K = 137 ∨ K = 138 ∨ K = 139 ∨ K = 140 ∨ K = 141 ∨ K = 142 ∨ K = 143 by omega) with rfl | rfl | rfl | rfl | rfl | rfl | rfl | rfl | rfl | rfl | rfl | rfl | rfl | rfl | rfl | rfl
    · exact mm_128
    · exact mm_129
    · exact mm_130
    · exact mm_131
    · exact mm_132
    · exact mm_133
    · exact mm_134
    · exact mm_135
    · exact mm_136
    · exact mm_137
    · exact mm_138
    · exact mm_139
    · exact mm_140
    · exact mm_141
    · exact mm_142
    · exact mm_143
  · rcases (show K = 144 ∨ K = 145 ∨ K = 146 ∨ K = 147 ∨ K = 148 ∨ K = 149 ∨ K = 150 ∨ K = 151 ∨ K = 152 ∨ K = 153 ∨ K = 154 ∨ K = 155 ∨ K = 156 ∨ K = 157 ∨ K = 158 ∨ K = 159 by omega) with rfl | rfl | rfl | rfl | rfl | rfl | rfl | rfl | rfl | rfl | rfl | rfl | rfl | rfl | rfl | rfl
    · exact mm_144
    · exact mm_145
    · exact mm_146
    · exact mm_147
    · exact mm_148
    · exact mm_149
    · exact mm_150
    · exact mm_151
    · exact mm_152
    · exact mm_153
    · exact mm_154
    · exact mm_155
    · exact mm_156
    · exact mm_157
    · exact mm_158
    · exact mm_159
  · rcases (show K = 160 ∨ K = 161 ∨ K = 162 ∨ K = 163 ∨ K = 164 ∨ K = 165 ∨ K = 166 ∨ K = 167 ∨ K = 168 ∨ K = 169 ∨ K = 170 ∨ K = 171 ∨ K = 172 ∨ K = 173 ∨ K = 174 ∨ K = 175 by omega) with rfl | rfl | rfl | rfl | rfl | rfl | rfl | rfl | rfl | rfl | rfl | rfl | rfl | rfl | rfl | rfl
    · exact mm_160
    · exact mm_161
    · exact mm_162
    · exact mm_163
    · exact mm_164
    · exact mm_165
    · exact mm_166
    · exact mm_167
    · exact mm_168
    · exact mm_169
    · exact mm_170
    · exact mm_171
    · exact mm_172
    · exact mm_173
    · exact mm_174
    · exact mm_175
  · rcases (show K = 176 ∨ K = 177 ∨ K = 178 ∨ K = 179 ∨ K = 180 ∨ K = 181 ∨ K = 182 ∨ K = 183 ∨ K = 184 ∨ K = 185 ∨ K = 186 ∨ K = 187 ∨ K = 188 ∨ K = 189 ∨ K = 190 ∨ K = 191 by omega) with rfl | rfl | rfl | rfl | rfl | rfl | rfl | rfl | rfl | rfl | rfl | rfl | rfl | rfl | rfl | rfl
    · exact mm_176
    · exact mm_177
    · exact mm_178
    · exact mm_179
    · exact mm_180
    · exact mm_181
    · exact mm_182
    · exact mm_183
    · exact mm_184
    · exact mm_185
    · exact mm_186
    · exact mm_187
    · exact mm_188
    · exact mm_189
    · exact mm_190
    · exact mm_191
  · rcases (show K = 192 ∨ K = 193 ∨ K = 194 ∨ K = 195 ∨ K = 196 ∨ K = 197 ∨ K = 198 ∨ K = 199 ∨ K = 200 ∨ K = 201 ∨ K = 202 ∨ K = 203 ∨ K = 204 ∨ K = 205 ∨ K = 206 ∨ K = 207 by omega) with rfl | rfl | rfl | rfl | rfl | rfl | rfl | rfl | rfl | rfl | rfl | rfl | rfl | rfl | rfl | rfl
    · exact mm_192
    · exact mm_193
    · exact mm_194
    · exact mm_195
    · exact mm_196
    · exact mm_197
    · exact mm_198
    · exact mm_199
    · exact mm_200
    · exact mm_201
    · exact mm_202
    · exact mm_203
    · exact mm_204
    · exact mm_205
    · exact mm_206
    · exact mm_207
  · rcases (show K = 208 ∨ K = 209 ∨ K = 210 ∨ K = 211 ∨ K = 212 ∨ K = 213 ∨ K = 214 ∨ K = 215 ∨ K = 216 ∨ K = 217 ∨ K = 218 ∨ K = 219 ∨ K = 220 ∨ K = 221 ∨ K = 222 ∨ K = 223 by omega) with rfl | rfl | rfl | rfl | rfl | rfl | rfl | rfl | rfl | rfl | rfl | rfl | rfl | rfl | rfl | rfl
    · exact mm_208
    · exact mm_209
    · exact mm_210
    · exact mm_211
    · exact mm_212
    · exact mm_213
    · exact mm_214
    · exact mm_215
    · exact mm_216
    · exact mm_217
    · exact mm_218
    · exact mm_219
    · exact mm_220
    · exact mm_221
    · exact mm_222
    · exact mm_223
  · rcases (show K = 224 ∨ K = 225 ∨ K = 226 ∨ K = 227 ∨ K = 228 ∨ K = 229 ∨ K = 230 ∨ K = 231 ∨ K = 232 ∨ K = 233 ∨ K = 234 ∨ K = 235 ∨ K = 236 ∨ K = 237 ∨ K = 238 ∨ K = 239 by omega) with rfl | rfl | rfl | rfl | rfl | rfl | rfl | rfl | rfl | rfl | rfl | rfl | rfl | rfl | rfl | rfl
    · exact mm_224
    · exact mm_225
    · exact mm_226
    · exact mm_227
    · exact mm_228
    · exact mm_229
    · exact mm_230
    · exact mm_231
    · exact mm_232
    · exact mm_233
    · exact mm_234
    · exact mm_235
    · exact mm_236
    · exact mm_237
    · exact mm_238
    · exact mm_239
  · rcases (show K = 240 ∨ K = 241 ∨ K = 242 ∨ K = 243 ∨ K = 244 ∨ K = 245 ∨ K = 246 ∨ K = 247 ∨ K = 248 ∨ K = 249 ∨ K = 250 ∨ K = 251 ∨ K = 252 ∨ K = 253 ∨ K = 254 ∨ K = 255 by omega) with rfl | rfl | rfl | rfl | rfl | rfl | rfl | rfl | rfl | rfl | rfl | rfl | rfl | rfl | rfl | rfl
    · exact mm_240
    · exact mm_241
    · exact mm_242
    · exact mm_243
    · exact mm_244
    · exact mm_245
    · exact mm_246
    · exact mm_247
    · exact mm_248
    · exact mm_249
    · exact mm_250
    · exact mm_251
    · exact mm_252
    · exact mm_253
    · exact mm_254
    · exact mm_255
  · rcases (show K = 256 ∨ K = 257 ∨ K = 258 ∨ K = 259 ∨ K = 260 ∨ K = 261 ∨ K = 262 ∨ K = 263 ∨ K = 264 ∨ K = 265 ∨ K = 266 ∨ K = 267 ∨ K = 268 ∨ K = 269 ∨ K = 270 ∨ K = 271 by omega) with rfl | rfl | rfl | rfl | rfl | rfl | rfl | rfl | rfl | rfl | rfl | rfl | rfl | rfl | rfl | rfl
    · exact mm_256
    · exact mm_257
    · exact mm_258
    · exact mm_259
    · exact mm_260
    · exact mm_261
    · exact mm_262
    · exact mm_263
    · exact mm_264
    · exact mm_265
    · exact mm_266
    · exact mm_267
    · exact mm_268
    · exact mm_269
    · exact mm_270
    · exact mm_271
  · rcases (show K = 272 ∨ K = 273 ∨ K = 274 ∨ K = 275 ∨ K = 276 ∨ K = 277 ∨ K = 278 ∨ K = 279 ∨ K = 280 ∨ K = 281 ∨ K = 282 ∨ K = 283 ∨ K = 284 ∨ K = 285 ∨ K = 286 ∨ K = 287 by omega) with rfl | rfl | rfl | rfl | rfl | rfl | rfl | rfl | rfl | rfl | rfl | rfl | rfl | rfl | rfl | rfl
    · exact mm_272
    · exact mm_273
    · exact mm_274
    · exact mm_275
    · exact mm_276
    · exact mm_277
    · exact mm_278
    · exact mm_279
    · exact mm_280
    · exact mm_281
    · exact mm_282
    · exact mm_283
    · exact mm_284
    · exact mm_285
    · exact mm_286
    · exact mm_287
  · rcases (show K = 288 ∨ K = 289 ∨ K = 290 ∨ K = 291 ∨ K = 292 ∨ K = 293 ∨ K = 294 ∨ K = 295 ∨ K = 296 ∨ K = 297 ∨ K = 298 ∨ K = 299 ∨ K = 300 by omega) with rfl | rfl | rfl | rfl | rfl | rfl | rfl | rfl | rfl | rfl | rfl | rfl | rfl
    · exact mm_288
    · exact mm_289
    · exact mm_290
    · exact mm_291
    · exact mm_292
    · exact mm_293
    · exact mm_294
    · exact mm_295
    · exact mm_296
    · exact mm_297
    · exact mm_298
    · exact mm_299
    · exact mm_300
theorem oi_1 : Jvm.Cond.instanceMethod Lib.objectInit ∈ WS := (ws_1 25 rfl rfl)
theorem oi_2 : Jvm.Cond.code Lib.objectInit ⟨#[0xb1]⟩ 1 none ∈ WS := (ws_1 26 rfl rfl)
theorem sl_1 : Jvm.Cond.instanceMethod yJ0_length_8abf5 ∈ WS := (ws_2 173 rfl rfl)
set_option maxRecDepth 100000 in
theorem sl_2 : Jvm.Cond.code yJ0_length_8abf5 cJ0_length_8abf5 1 (some .int) ∈ WS := (ws_2 175 rfl rfl)
theorem sl_3 : Jvm.Cond.selects RJ0 yJ0_length_8abf5 yJ0_length_8abf5 ∈ WS := (ws_2 174 rfl rfl)
theorem sc_1 : Jvm.Cond.instanceMethod yJ0_charAt_5068e ∈ WS := (ws_2 183 rfl rfl)
set_option maxRecDepth 100000 in
theorem sc_2 : Jvm.Cond.code yJ0_charAt_5068e cJ0_charAt_5068e 2 (some .char) ∈ WS := (ws_2 185 rfl rfl)
theorem sc_3 : Jvm.Cond.selects RJ0 yJ0_charAt_5068e yJ0_charAt_5068e ∈ WS := (ws_2 184 rfl rfl)
theorem st_i : Jvm.Cond.initialized RJ0 ∈ WS := (ws_1 13 rfl rfl)
theorem ac_int : Jvm.Cond.arrayClass .int ∈ WS := (ws_1 71 rfl rfl)
theorem ac_char : Jvm.Cond.arrayClass .char ∈ WS := (ws_7 67 rfl rfl)
theorem ac_long : Jvm.Cond.arrayClass .long ∈ WS := (ws_7 68 rfl rfl)
