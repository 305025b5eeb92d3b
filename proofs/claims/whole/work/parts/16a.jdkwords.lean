/-! String.length and String.charAt at the text of the own words: the JDK's own methods, walked -/
set_option maxRecDepth 100000 in
theorem jc_co : Jvm.Cond.code yJ0_coder_7d493 cJ0_coder_7d493 1 (some .byte) ∈ WS := (ws_2 179 rfl rfl)
theorem ji_co : Jvm.Cond.instanceMethod yJ0_coder_7d493 ∈ WS := (ws_2 177 rfl rfl)
theorem jl_co : Jvm.Cond.selects RJ0 yJ0_coder_7d493 yJ0_coder_7d493 ∈ WS := (ws_2 178 rfl rfl)
set_option maxRecDepth 100000 in
theorem jc_le : Jvm.Cond.code yJ0_length_8abf5 cJ0_length_8abf5 1 (some .int) ∈ WS := (ws_2 175 rfl rfl)
theorem ji_le : Jvm.Cond.instanceMethod yJ0_length_8abf5 ∈ WS := (ws_2 173 rfl rfl)
theorem jl_le : Jvm.Cond.selects RJ0 yJ0_length_8abf5 yJ0_length_8abf5 ∈ WS := (ws_2 174 rfl rfl)
set_option maxRecDepth 100000 in
theorem jc_ch : Jvm.Cond.code yJ0_charAt_5068e cJ0_charAt_5068e 2 (some .char) ∈ WS := (ws_2 185 rfl rfl)
theorem ji_ch : Jvm.Cond.instanceMethod yJ0_charAt_5068e ∈ WS := (ws_2 183 rfl rfl)
theorem jl_ch : Jvm.Cond.selects RJ0 yJ0_charAt_5068e yJ0_charAt_5068e ∈ WS := (ws_2 184 rfl rfl)
set_option maxRecDepth 100000 in
theorem jc_la : Jvm.Cond.code yJ0_isLatin1_aae02 cJ0_isLatin1_aae02 1 (some .boolean) ∈ WS := (ws_2 189 rfl rfl)
theorem ji_la : Jvm.Cond.instanceMethod yJ0_isLatin1_aae02 ∈ WS := (ws_2 187 rfl rfl)
theorem jl_la : Jvm.Cond.selects RJ0 yJ0_isLatin1_aae02 yJ0_isLatin1_aae02 ∈ WS := (ws_2 188 rfl rfl)
set_option maxRecDepth 100000 in
theorem jc_ck : Jvm.Cond.code yJ0_checkIndex_df160 cJ0_checkIndex_df160 2 none ∈ WS := (ws_2 195 rfl rfl)
theorem js_ck : Jvm.Cond.static yJ0_checkIndex_df160 ∈ WS := (ws_2 194 rfl rfl)
set_option maxRecDepth 100000 in
theorem jc_lc : Jvm.Cond.code yJ1_charAt_3b067 cJ1_charAt_3b067 2 (some .char) ∈ WS := (ws_2 192 rfl rfl)
theorem js_lc : Jvm.Cond.static yJ1_charAt_3b067 ∈ WS := (ws_2 191 rfl rfl)
set_option maxRecDepth 100000 in
theorem jc_pk : Jvm.Cond.code yJ3_checkIndex_8e157 cJ3_checkIndex_8e157 3 (some .int) ∈ WS := (ws_2 200 rfl rfl)
theorem js_pk : Jvm.Cond.static yJ3_checkIndex_8e157 ∈ WS := (ws_2 199 rfl rfl)
theorem jf_v : Jvm.Cond.fieldLink "java/lang/String" 9 "java/lang/String" "value" "[B" ∈ WS := (ws_9 111 rfl rfl)
theorem jf_c : Jvm.Cond.fieldLink "java/lang/String" 15 "java/lang/String" "coder" "B" ∈ WS := (ws_9 112 rfl rfl)
theorem jf_s : Jvm.Cond.fieldLink "java/lang/String" 38 "java/lang/String" "COMPACT_STRINGS" "Z" ∈ WS := (ws_2 180 rfl rfl)
theorem jf_p : Jvm.Cond.fieldLink "java/lang/String" 1053 "jdk/internal/util/Preconditions" "SIOOBE_FORMATTER" "Ljava/util/function/BiFunction;" ∈ WS := (ws_2 196 rfl rfl)
theorem jk_co : Jvm.Cond.methodLink "java/lang/String" 335 yJ0_coder_7d493 ∈ WS := (ws_2 176 rfl rfl)
theorem jk_la : Jvm.Cond.methodLink "java/lang/String" 492 yJ0_isLatin1_aae02 ∈ WS := (ws_2 186 rfl rfl)
theorem jk_lc : Jvm.Cond.methodLink "java/lang/String" 495 yJ1_charAt_3b067 ∈ WS := (ws_2 190 rfl rfl)
theorem jk_pk : Jvm.Cond.methodLink "java/lang/String" 1059 yJ3_checkIndex_8e157 ∈ WS := (ws_2 198 rfl rfl)
theorem jk_ck : Jvm.Cond.methodLink "java/lang/StringLatin1" 9 yJ0_checkIndex_df160 ∈ WS := (ws_2 193 rfl rfl)
theorem jn_0 : Jvm.Cond.initialized "java/lang/String" ∈ WS := (ws_1 13 rfl rfl)
theorem jn_1 : Jvm.Cond.initialized "java/lang/StringLatin1" ∈ WS := (ws_1 14 rfl rfl)
theorem jn_3 : Jvm.Cond.initialized "jdk/internal/util/Preconditions" ∈ WS := (ws_1 15 rfl rfl)
