/-! what the Statement gives of the start, by its places, by program -/
theorem tw_str : Jvm.Cond.stringRef "WageHats$Tokens" 27 "hours sort brings tires mind pride need hat keeps least looks after before even share person in pair works when or and not all many week last most drawn own kept min max " ∈ lw_tbl := tb_2 171 rfl
theorem tw_cs : Jvm.Cond.laysStatic "java/lang/String" "COMPACT_STRINGS" "Z" ∈ lw_tbl := tb_2 181 rfl
theorem tw_csi : Jvm.Cond.initialized "java/lang/String" ∈ lw_tbl := tb_1 13 rfl
theorem tw_si : Jvm.Cond.laysStatic "jdk/internal/util/Preconditions" "SIOOBE_FORMATTER" "Ljava/util/function/BiFunction;" ∈ lw_tbl := tb_2 197 rfl
theorem tw_sii : Jvm.Cond.initialized "jdk/internal/util/Preconditions" ∈ lw_tbl := tb_1 15 rfl
set_option maxRecDepth 100000 in
theorem fl_4 : Jvm.Cond.eq (.static "java/lang/String" "COMPACT_STRINGS" "Z") (.int 1) ∈ (flatC (Jvm.Cond.and given_1 narrow_1)) := List.mem_of_getElem? (i := 4) (by decide +kernel)
set_option maxRecDepth 100000 in
theorem fl_5 : Jvm.Cond.isRef (.static "jdk/internal/util/Preconditions" "SIOOBE_FORMATTER" "Ljava/util/function/BiFunction;") ∈ (flatC (Jvm.Cond.and given_1 narrow_1)) := List.mem_of_getElem? (i := 5) (by decide +kernel)
set_option maxRecDepth 100000 in
theorem fl_9 : Jvm.Cond.exactly (Jvm.Term.string "WageHats$Tokens" 27) "java/lang/String" ∈ (flatC (Jvm.Cond.and given_1 narrow_1)) := List.mem_of_getElem? (i := 9) (by decide +kernel)
set_option maxRecDepth 100000 in
theorem fl_10 : Jvm.Cond.eq (.field (Jvm.Term.string "WageHats$Tokens" 27) "java/lang/String" "coder" "B") (.int 0) ∈ (flatC (Jvm.Cond.and given_1 narrow_1)) := List.mem_of_getElem? (i := 10) (by decide +kernel)
set_option maxRecDepth 100000 in
theorem fl_11 : Jvm.Cond.arrayOf (Jvm.Term.field (Jvm.Term.string "WageHats$Tokens" 27) "java/lang/String" "value" "[B") .byte ∈ (flatC (Jvm.Cond.and given_1 narrow_1)) := List.mem_of_getElem? (i := 11) (by decide +kernel)
set_option maxRecDepth 100000 in
theorem fl_12 : Jvm.Cond.eq (.length (Jvm.Term.field (Jvm.Term.string "WageHats$Tokens" 27) "java/lang/String" "value" "[B")) (.int 170) ∈ (flatC (Jvm.Cond.and given_1 narrow_1)) := List.mem_of_getElem? (i := 12) (by decide +kernel)
set_option maxRecDepth 100000 in
theorem fl_el0 : (List.range 170).all (fun j => decide ((flatC (Jvm.Cond.and given_1 narrow_1))[13 + j]? = some (Jvm.Cond.eq (.elem (Jvm.Term.field (Jvm.Term.string "WageHats$Tokens" 27) "java/lang/String" "value" "[B") (.int (Int32.ofNat j))) (.int (Int32.ofNat (STX.getD j 0)))))) = true := by decide +kernel
theorem fl_el {j : Nat} (h : j < 170) : Jvm.Cond.eq (.elem (Jvm.Term.field (Jvm.Term.string "WageHats$Tokens" 27) "java/lang/String" "value" "[B") (.int (Int32.ofNat j))) (.int (Int32.ofNat (STX.getD j 0))) ∈ (flatC (Jvm.Cond.and given_1 narrow_1)) := List.mem_of_getElem? (i := 13 + j) (of_decide_eq_true (List.all_eq_true.mp fl_el0 j (List.mem_range.mpr h)))
theorem STX_len : STX.length = 170 := by decide +kernel
