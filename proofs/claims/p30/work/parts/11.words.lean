theorem zq_t {w : Cond} (h : w ∈ tables_1) (hg : goodWord w = true := by rfl) : w ∈ zAW := List.mem_filter.mpr ⟨List.mem_append_right _ h, hg⟩
theorem zq_s {w : Cond} (h : w ∈ k2_sels lw_privs) (hg : goodWord w = true := by rfl) : w ∈ zAW := List.mem_filter.mpr ⟨List.mem_append_left _ h, hg⟩
set_option maxRecDepth 20000 in
theorem q0 : Cond.laysFinal "ClayTraps$Squad" "ClayTraps$Squad" "swings" "[I" ∈ zAW := zq_t (List.mem_append_left _ (List.mem_of_getElem? (l := tables_1_1) (i := 57) rfl))
set_option maxRecDepth 20000 in
theorem q1 : Cond.laysFinal "ClayTraps$Squad" "ClayTraps$Squad" "steadinesses" "[I" ∈ zAW := zq_t (List.mem_append_left _ (List.mem_of_getElem? (l := tables_1_1) (i := 59) rfl))
set_option maxRecDepth 20000 in
theorem q2 : Cond.laysFinal "ClayTraps$Squad" "ClayTraps$Squad" "fatigues" "[I" ∈ zAW := zq_t (List.mem_append_left _ (List.mem_of_getElem? (l := tables_1_1) (i := 61) rfl))
set_option maxRecDepth 20000 in
theorem q3 : Cond.laysFinal "ClayTraps$Squad" "ClayTraps$Squad" "scores" "[I" ∈ zAW := zq_t (List.mem_append_left _ (List.mem_of_getElem? (l := tables_1_1) (i := 63) rfl))
set_option maxRecDepth 20000 in
theorem q4 : Cond.laysFinal "ClayTraps$Squad" "ClayTraps$Squad" "firsts" "[I" ∈ zAW := zq_t (List.mem_append_left _ (List.mem_of_getElem? (l := tables_1_1) (i := 65) rfl))
set_option maxRecDepth 20000 in
theorem q5 : Cond.laysFinal "ClayTraps$Squad" "ClayTraps$Squad" "misses" "[I" ∈ zAW := zq_t (List.mem_append_left _ (List.mem_of_getElem? (l := tables_1_1) (i := 67) rfl))
set_option maxRecDepth 20000 in
theorem q6 : Cond.laysFinal "ClayTraps$Squad" "ClayTraps$Squad" "left" "[Z" ∈ zAW := zq_t (List.mem_append_left _ (List.mem_of_getElem? (l := tables_1_1) (i := 69) rfl))
set_option maxRecDepth 20000 in
theorem q7 : Cond.laysFinal "ClayTraps$Squad" "ClayTraps$Squad" "hits" "[Z" ∈ zAW := zq_t (List.mem_append_left _ (List.mem_of_getElem? (l := tables_1_1) (i := 71) rfl))
set_option maxRecDepth 20000 in
theorem q8 : Cond.lays "ClayTraps$Squad" "ClayTraps$Squad" "size" "I" ∈ zAW := zq_t (List.mem_append_left _ (List.mem_of_getElem? (l := tables_1_1) (i := 73) rfl))
set_option maxRecDepth 20000 in
theorem q9 : Cond.laysFinal "ClayTraps$Traps" "ClayTraps$Traps" "bases" "[I" ∈ zAW := zq_t (List.mem_append_left _ (List.mem_of_getElem? (l := tables_1_1) (i := 30) rfl))
set_option maxRecDepth 20000 in
theorem q10 : Cond.laysFinal "ClayTraps$Traps" "ClayTraps$Traps" "spreads" "[I" ∈ zAW := zq_t (List.mem_append_left _ (List.mem_of_getElem? (l := tables_1_1) (i := 32) rfl))
set_option maxRecDepth 20000 in
theorem q11 : Cond.laysFinal "ClayTraps" "ClayTraps" "traps" "LClayTraps$Traps;" ∈ zAW := zq_t (List.mem_append_left _ (List.mem_of_getElem? (l := tables_1_1) (i := 81) rfl))
set_option maxRecDepth 20000 in
theorem q12 : Cond.laysFinal "ClayTraps" "ClayTraps" "squad" "LClayTraps$Squad;" ∈ zAW := zq_t (List.mem_append_left _ (List.mem_of_getElem? (l := tables_1_1) (i := 83) rfl))
set_option maxRecDepth 20000 in
theorem q13 : Cond.laysFinal "ClayTraps" "ClayTraps" "trial" "LClayTraps$Squad;" ∈ zAW := zq_t (List.mem_append_left _ (List.mem_of_getElem? (l := tables_1_1) (i := 85) rfl))
set_option maxRecDepth 20000 in
theorem q14 : Cond.lays "ClayTraps" "ClayTraps" "turn" "I" ∈ zAW := zq_t (List.mem_append_left _ (List.mem_of_getElem? (l := tables_1_1) (i := 87) rfl))
set_option maxRecDepth 20000 in
theorem q15 : Cond.lays "ClayTrapsLaw$Sim" "ClayTrapsLaw$Sim" "turn" "I" ∈ zAW := zq_t (List.mem_append_right _ (List.mem_append_left _ (List.mem_of_getElem? (l := tables_1_2) (i := 183) rfl)))
set_option maxRecDepth 20000 in
theorem q16 : Cond.lays "ClayTrapsLaw$Sim" "ClayTrapsLaw$Sim" "traps" "[[I" ∈ zAW := zq_t (List.mem_append_right _ (List.mem_append_left _ (List.mem_of_getElem? (l := tables_1_2) (i := 185) rfl)))
set_option maxRecDepth 20000 in
theorem q17 : Cond.lays "ClayTrapsLaw$Sim" "ClayTrapsLaw$Sim" "guns" "[[I" ∈ zAW := zq_t (List.mem_append_right _ (List.mem_append_left _ (List.mem_of_getElem? (l := tables_1_2) (i := 187) rfl)))
set_option maxRecDepth 20000 in
theorem q18 : Cond.fieldLink "ClayTraps$Traps" 9 "ClayTraps$Traps" "bases" "[I" ∈ zAW := zq_t (List.mem_append_left _ (List.mem_of_getElem? (l := tables_1_1) (i := 26) rfl))
set_option maxRecDepth 20000 in
theorem q19 : Cond.fieldLink "ClayTraps" 56 "ClayTraps$Traps" "bases" "[I" ∈ zAW := zq_t (List.mem_append_left _ (List.mem_of_getElem? (l := tables_1_1) (i := 27) rfl))
set_option maxRecDepth 20000 in
theorem q20 : Cond.fieldLink "ClayTraps$Traps" 15 "ClayTraps$Traps" "spreads" "[I" ∈ zAW := zq_t (List.mem_append_left _ (List.mem_of_getElem? (l := tables_1_1) (i := 28) rfl))
set_option maxRecDepth 20000 in
theorem q21 : Cond.fieldLink "ClayTraps" 60 "ClayTraps$Traps" "spreads" "[I" ∈ zAW := zq_t (List.mem_append_left _ (List.mem_of_getElem? (l := tables_1_1) (i := 29) rfl))
set_option maxRecDepth 20000 in
theorem q22 : Cond.fieldLink "ClayTraps$Squad" 9 "ClayTraps$Squad" "swings" "[I" ∈ zAW := zq_t (List.mem_append_left _ (List.mem_of_getElem? (l := tables_1_1) (i := 42) rfl))
set_option maxRecDepth 20000 in
theorem q23 : Cond.fieldLink "ClayTraps" 135 "ClayTraps$Squad" "swings" "[I" ∈ zAW := zq_t (List.mem_append_left _ (List.mem_of_getElem? (l := tables_1_1) (i := 43) rfl))
set_option maxRecDepth 20000 in
theorem q24 : Cond.fieldLink "ClayTraps$Squad" 15 "ClayTraps$Squad" "steadinesses" "[I" ∈ zAW := zq_t (List.mem_append_left _ (List.mem_of_getElem? (l := tables_1_1) (i := 44) rfl))
set_option maxRecDepth 20000 in
theorem q25 : Cond.fieldLink "ClayTraps$Squad" 18 "ClayTraps$Squad" "fatigues" "[I" ∈ zAW := zq_t (List.mem_append_left _ (List.mem_of_getElem? (l := tables_1_1) (i := 45) rfl))
set_option maxRecDepth 20000 in
theorem q26 : Cond.fieldLink "ClayTraps" 66 "ClayTraps$Squad" "fatigues" "[I" ∈ zAW := zq_t (List.mem_append_left _ (List.mem_of_getElem? (l := tables_1_1) (i := 46) rfl))
set_option maxRecDepth 20000 in
theorem q27 : Cond.fieldLink "ClayTraps$Squad" 21 "ClayTraps$Squad" "scores" "[I" ∈ zAW := zq_t (List.mem_append_left _ (List.mem_of_getElem? (l := tables_1_1) (i := 47) rfl))
set_option maxRecDepth 20000 in
theorem q28 : Cond.fieldLink "ClayTraps" 103 "ClayTraps$Squad" "scores" "[I" ∈ zAW := zq_t (List.mem_append_left _ (List.mem_of_getElem? (l := tables_1_1) (i := 48) rfl))
set_option maxRecDepth 20000 in
theorem q29 : Cond.fieldLink "ClayTraps$Squad" 24 "ClayTraps$Squad" "firsts" "[I" ∈ zAW := zq_t (List.mem_append_left _ (List.mem_of_getElem? (l := tables_1_1) (i := 49) rfl))
set_option maxRecDepth 20000 in
theorem q30 : Cond.fieldLink "ClayTraps" 106 "ClayTraps$Squad" "firsts" "[I" ∈ zAW := zq_t (List.mem_append_left _ (List.mem_of_getElem? (l := tables_1_1) (i := 50) rfl))
set_option maxRecDepth 20000 in
theorem q31 : Cond.fieldLink "ClayTraps$Squad" 27 "ClayTraps$Squad" "misses" "[I" ∈ zAW := zq_t (List.mem_append_left _ (List.mem_of_getElem? (l := tables_1_1) (i := 51) rfl))
set_option maxRecDepth 20000 in
theorem q32 : Cond.fieldLink "ClayTraps" 109 "ClayTraps$Squad" "misses" "[I" ∈ zAW := zq_t (List.mem_append_left _ (List.mem_of_getElem? (l := tables_1_1) (i := 52) rfl))
set_option maxRecDepth 20000 in
theorem q33 : Cond.fieldLink "ClayTraps$Squad" 30 "ClayTraps$Squad" "left" "[Z" ∈ zAW := zq_t (List.mem_append_left _ (List.mem_of_getElem? (l := tables_1_1) (i := 53) rfl))
set_option maxRecDepth 20000 in
theorem q34 : Cond.fieldLink "ClayTraps$Squad" 34 "ClayTraps$Squad" "hits" "[Z" ∈ zAW := zq_t (List.mem_append_left _ (List.mem_of_getElem? (l := tables_1_1) (i := 54) rfl))
set_option maxRecDepth 20000 in
theorem q35 : Cond.fieldLink "ClayTraps$Squad" 37 "ClayTraps$Squad" "size" "I" ∈ zAW := zq_t (List.mem_append_left _ (List.mem_of_getElem? (l := tables_1_1) (i := 55) rfl))
set_option maxRecDepth 20000 in
theorem q36 : Cond.fieldLink "ClayTraps" 35 "ClayTraps$Squad" "size" "I" ∈ zAW := zq_t (List.mem_append_left _ (List.mem_of_getElem? (l := tables_1_1) (i := 56) rfl))
set_option maxRecDepth 20000 in
theorem q37 : Cond.fieldLink "ClayTraps" 10 "ClayTraps" "traps" "LClayTraps$Traps;" ∈ zAW := zq_t (List.mem_append_left _ (List.mem_of_getElem? (l := tables_1_1) (i := 77) rfl))
set_option maxRecDepth 20000 in
theorem q38 : Cond.fieldLink "ClayTraps" 19 "ClayTraps" "squad" "LClayTraps$Squad;" ∈ zAW := zq_t (List.mem_append_left _ (List.mem_of_getElem? (l := tables_1_1) (i := 78) rfl))
set_option maxRecDepth 20000 in
theorem q39 : Cond.fieldLink "ClayTraps" 23 "ClayTraps" "trial" "LClayTraps$Squad;" ∈ zAW := zq_t (List.mem_append_left _ (List.mem_of_getElem? (l := tables_1_1) (i := 79) rfl))
set_option maxRecDepth 20000 in
theorem q40 : Cond.fieldLink "ClayTraps" 72 "ClayTraps" "turn" "I" ∈ zAW := zq_t (List.mem_append_left _ (List.mem_of_getElem? (l := tables_1_1) (i := 80) rfl))
set_option maxRecDepth 20000 in
theorem q41 : Cond.fieldLink "ClayTrapsLaw$Sim" 19 "ClayTrapsLaw$Sim" "turn" "I" ∈ zAW := zq_t (List.mem_append_right _ (List.mem_append_left _ (List.mem_of_getElem? (l := tables_1_2) (i := 178) rfl)))
set_option maxRecDepth 20000 in
theorem q42 : Cond.fieldLink "ClayTrapsLaw$Sim" 9 "ClayTrapsLaw$Sim" "traps" "[[I" ∈ zAW := zq_t (List.mem_append_right _ (List.mem_append_left _ (List.mem_of_getElem? (l := tables_1_2) (i := 179) rfl)))
set_option maxRecDepth 20000 in
theorem q43 : Cond.fieldLink "ClayTrapsLaw" 32 "ClayTrapsLaw$Sim" "traps" "[[I" ∈ zAW := zq_t (List.mem_append_right _ (List.mem_append_left _ (List.mem_of_getElem? (l := tables_1_2) (i := 180) rfl)))
set_option maxRecDepth 20000 in
theorem q44 : Cond.fieldLink "ClayTrapsLaw$Sim" 15 "ClayTrapsLaw$Sim" "guns" "[[I" ∈ zAW := zq_t (List.mem_append_right _ (List.mem_append_left _ (List.mem_of_getElem? (l := tables_1_2) (i := 181) rfl)))
set_option maxRecDepth 20000 in
theorem q45 : Cond.fieldLink "ClayTrapsLaw" 9 "ClayTrapsLaw$Sim" "guns" "[[I" ∈ zAW := zq_t (List.mem_append_right _ (List.mem_append_left _ (List.mem_of_getElem? (l := tables_1_2) (i := 182) rfl)))
set_option maxRecDepth 20000 in
theorem q46 : Cond.code yX2_init prog_1_method_1_code 1 none ∈ zAW := zq_t (List.mem_append_left _ (List.mem_of_getElem? (l := tables_1_1) (i := 16) rfl))
set_option maxRecDepth 20000 in
theorem q47 : Cond.methodLink "ClayTrapsLaw" 65 yX2_init ∈ zAW := zq_t (List.mem_append_left _ (List.mem_of_getElem? (l := tables_1_1) (i := 14) rfl))
set_option maxRecDepth 20000 in
theorem q48 : Cond.instanceMethod yX2_init ∈ zAW := zq_t (List.mem_append_left _ (List.mem_of_getElem? (l := tables_1_1) (i := 15) rfl))
set_option maxRecDepth 20000 in
theorem q49 : Cond.initialized "ClayTraps" ∈ zAW := zq_t (List.mem_append_left _ (List.mem_of_getElem? (l := tables_1_1) (i := 1) rfl))
set_option maxRecDepth 20000 in
theorem q50 : Cond.methodLink "ClayTraps" 1 (⟨"java/lang/Object", "<init>", "()V"⟩ : MethodName) ∈ zAW := zq_t (List.mem_append_left _ (List.mem_of_getElem? (l := tables_1_1) (i := 17) rfl))
set_option maxRecDepth 20000 in
theorem q51 : Cond.code yX1_init prog_3_method_1_code 2 none ∈ zAW := zq_t (List.mem_append_left _ (List.mem_of_getElem? (l := tables_1_1) (i := 24) rfl))
set_option maxRecDepth 20000 in
theorem q52 : Cond.methodLink "ClayTraps" 9 yX1_init ∈ zAW := zq_t (List.mem_append_left _ (List.mem_of_getElem? (l := tables_1_1) (i := 22) rfl))
set_option maxRecDepth 20000 in
theorem q53 : Cond.instanceMethod yX1_init ∈ zAW := zq_t (List.mem_append_left _ (List.mem_of_getElem? (l := tables_1_1) (i := 23) rfl))
set_option maxRecDepth 20000 in
theorem q54 : Cond.initialized "ClayTraps$Traps" ∈ zAW := zq_t (List.mem_append_left _ (List.mem_of_getElem? (l := tables_1_1) (i := 2) rfl))
set_option maxRecDepth 20000 in
theorem q55 : Cond.methodLink "ClayTraps$Traps" 3 (⟨"java/lang/Object", "<init>", "()V"⟩ : MethodName) ∈ zAW := zq_t (List.mem_append_left _ (List.mem_of_getElem? (l := tables_1_1) (i := 25) rfl))
set_option maxRecDepth 20000 in
theorem q56 : Cond.code yX0_init prog_2_method_1_code 1 none ∈ zAW := zq_t (List.mem_append_left _ (List.mem_of_getElem? (l := tables_1_1) (i := 40) rfl))
set_option maxRecDepth 20000 in
theorem q57 : Cond.methodLink "ClayTraps$Squad" 3 (⟨"java/lang/Object", "<init>", "()V"⟩ : MethodName) ∈ zAW := zq_t (List.mem_append_left _ (List.mem_of_getElem? (l := tables_1_1) (i := 41) rfl))
set_option maxRecDepth 20000 in
theorem q58 : Cond.code yX2_pass prog_1_method_5_code 3 (some .int) ∈ zAW := zq_t (List.mem_append_left _ (List.mem_of_getElem? (l := tables_1_1) (i := 93) rfl))
set_option maxRecDepth 20000 in
theorem q59 : Cond.methodLink "ClayTrapsLaw" 50 yX2_pass ∈ zAW := zq_t (List.mem_append_left _ (List.mem_of_getElem? (l := tables_1_1) (i := 90) rfl))
set_option maxRecDepth 20000 in
theorem q60 : Cond.instanceMethod yX2_pass ∈ zAW := zq_t (List.mem_append_left _ (List.mem_of_getElem? (l := tables_1_1) (i := 91) rfl))
set_option maxRecDepth 20000 in
theorem q61 : Cond.selects "ClayTraps" yX2_pass yX2_pass ∈ zAW := zq_t (List.mem_append_left _ (List.mem_of_getElem? (l := tables_1_1) (i := 92) rfl))
set_option maxRecDepth 20000 in
theorem q62 : Cond.code yX2_checkTurns prog_1_method_31_code 1 none ∈ zAW := zq_t (List.mem_append_left _ (List.mem_of_getElem? (l := tables_1_1) (i := 96) rfl))
set_option maxRecDepth 20000 in
theorem q63 : Cond.methodLink "ClayTraps" 69 yX2_checkTurns ∈ zAW := zq_t (List.mem_append_left _ (List.mem_of_getElem? (l := tables_1_1) (i := 94) rfl))
set_option maxRecDepth 20000 in
theorem q64 : Cond.static yX2_checkTurns ∈ zAW := zq_t (List.mem_append_left _ (List.mem_of_getElem? (l := tables_1_1) (i := 95) rfl))
set_option maxRecDepth 20000 in
theorem q65 : Cond.methodLink "ClayTraps" 30 (⟨"java/lang/IllegalArgumentException", "<init>", "(Ljava/lang/String;)V"⟩ : MethodName) ∈ zAW := zq_t (List.mem_append_left _ (List.mem_of_getElem? (l := tables_1_1) (i := 139) rfl))
set_option maxRecDepth 20000 in
theorem q66 : Cond.code yX0_play prog_2_method_8_code 7 (some .int) ∈ zAW := zq_t (List.mem_append_left _ (List.mem_of_getElem? (l := tables_1_1) (i := 168) rfl))
set_option maxRecDepth 20000 in
theorem q67 : Cond.methodLink "ClayTraps" 75 yX0_play ∈ zAW := zq_t (List.mem_append_left _ (List.mem_of_getElem? (l := tables_1_1) (i := 165) rfl))
set_option maxRecDepth 20000 in
theorem q68 : Cond.instanceMethod yX0_play ∈ zAW := zq_t (List.mem_append_left _ (List.mem_of_getElem? (l := tables_1_1) (i := 166) rfl))
set_option maxRecDepth 20000 in
theorem q69 : Cond.selects "ClayTraps$Squad" yX0_play yX0_play ∈ zAW := zq_t (List.mem_append_left _ (List.mem_of_getElem? (l := tables_1_1) (i := 167) rfl))
set_option maxRecDepth 20000 in
theorem q70 : Cond.initialized "ClayTraps$Squad" ∈ zAW := zq_t (List.mem_append_left _ (List.mem_of_getElem? (l := tables_1_1) (i := 3) rfl))
set_option maxRecDepth 20000 in
theorem q71 : Cond.code yX0_playAlone prog_2_method_7_code 7 none ∈ zAW := zq_t (List.mem_append_left _ (List.mem_of_getElem? (l := tables_1_1) (i := 172) rfl))
set_option maxRecDepth 20000 in
theorem q72 : Cond.methodLink "ClayTraps$Squad" 66 yX0_playAlone ∈ zAW := zq_t (List.mem_append_left _ (List.mem_of_getElem? (l := tables_1_1) (i := 169) rfl))
set_option maxRecDepth 20000 in
theorem q73 : Cond.instanceMethod yX0_playAlone ∈ zAW := zq_t (List.mem_append_left _ (List.mem_of_getElem? (l := tables_1_1) (i := 170) rfl))
set_option maxRecDepth 20000 in
theorem q74 : Cond.selects "ClayTraps$Squad" yX0_playAlone yX0_playAlone ∈ zAW := zq_t (List.mem_append_left _ (List.mem_of_getElem? (l := tables_1_1) (i := 171) rfl))
set_option maxRecDepth 20000 in
theorem q75 : Cond.code yX1_amountIn prog_3_method_5_code 3 (some .int) ∈ zAW := zq_t (List.mem_append_left _ (List.mem_of_getElem? (l := tables_1_1) (i := 176) rfl))
set_option maxRecDepth 20000 in
theorem q76 : Cond.methodLink "ClayTraps$Squad" 48 yX1_amountIn ∈ zAW := zq_t (List.mem_append_left _ (List.mem_of_getElem? (l := tables_1_1) (i := 173) rfl))
set_option maxRecDepth 20000 in
theorem q77 : Cond.instanceMethod yX1_amountIn ∈ zAW := zq_t (List.mem_append_left _ (List.mem_of_getElem? (l := tables_1_1) (i := 174) rfl))
set_option maxRecDepth 20000 in
theorem q78 : Cond.selects "ClayTraps$Traps" yX1_amountIn yX1_amountIn ∈ zAW := zq_t (List.mem_append_left _ (List.mem_of_getElem? (l := tables_1_1) (i := 175) rfl))
set_option maxRecDepth 20000 in
theorem q79 : Cond.code yX1_angleIn prog_3_method_3_code 3 (some .int) ∈ zAW := zq_t (List.mem_append_left _ (List.mem_of_getElem? (l := tables_1_1) (i := 180) rfl))
set_option maxRecDepth 20000 in
theorem q80 : Cond.methodLink "ClayTraps$Traps" 34 yX1_angleIn ∈ zAW := zq_t (List.mem_append_left _ (List.mem_of_getElem? (l := tables_1_1) (i := 177) rfl))
set_option maxRecDepth 20000 in
theorem q81 : Cond.instanceMethod yX1_angleIn ∈ zAW := zq_t (List.mem_append_left _ (List.mem_of_getElem? (l := tables_1_1) (i := 178) rfl))
set_option maxRecDepth 20000 in
theorem q82 : Cond.selects "ClayTraps$Traps" yX1_angleIn yX1_angleIn ∈ zAW := zq_t (List.mem_append_left _ (List.mem_of_getElem? (l := tables_1_1) (i := 179) rfl))
set_option maxRecDepth 20000 in
theorem q83 : Cond.code yX2_standIn prog_1_method_33_code 2 (some .int) ∈ zAW := zq_t (List.mem_append_left _ (List.mem_of_getElem? (l := tables_1_1) (i := 183) rfl))
set_option maxRecDepth 20000 in
theorem q84 : Cond.static yX2_standIn ∈ zAW := zq_t (List.mem_append_left _ (List.mem_of_getElem? (l := tables_1_1) (i := 182) rfl))
set_option maxRecDepth 20000 in
theorem q85 : Cond.code yJ9_floorMod_7cf53 prog_12_method_50_code 3 (some .int) ∈ zAW := zq_t (List.mem_append_left _ (List.mem_of_getElem? (l := tables_1_1) (i := 186) rfl))
set_option maxRecDepth 20000 in
theorem q86 : Cond.methodLink "ClayTraps" 217 yJ9_floorMod_7cf53 ∈ zAW := zq_t (List.mem_append_left _ (List.mem_of_getElem? (l := tables_1_1) (i := 184) rfl))
set_option maxRecDepth 20000 in
theorem q87 : Cond.static yJ9_floorMod_7cf53 ∈ zAW := zq_t (List.mem_append_left _ (List.mem_of_getElem? (l := tables_1_1) (i := 185) rfl))
set_option maxRecDepth 20000 in
theorem q88 : Cond.initialized "java/lang/Math" ∈ zAW := zq_t (List.mem_append_left _ (List.mem_of_getElem? (l := tables_1_1) (i := 11) rfl))
set_option maxRecDepth 20000 in
theorem q89 : Cond.code yX2_clayIn prog_1_method_32_code 1 (some .int) ∈ zAW := zq_t (List.mem_append_left _ (List.mem_of_getElem? (l := tables_1_1) (i := 189) rfl))
set_option maxRecDepth 20000 in
theorem q90 : Cond.static yX2_clayIn ∈ zAW := zq_t (List.mem_append_left _ (List.mem_of_getElem? (l := tables_1_1) (i := 188) rfl))
set_option maxRecDepth 20000 in
theorem q91 : Cond.code yX1_angleAt prog_3_method_2_code 3 (some .int) ∈ zAW := zq_t (List.mem_append_left _ (List.mem_of_getElem? (l := tables_1_1) (i := 193) rfl))
set_option maxRecDepth 20000 in
theorem q92 : Cond.methodLink "ClayTraps$Traps" 26 yX1_angleAt ∈ zAW := zq_t (List.mem_append_left _ (List.mem_of_getElem? (l := tables_1_1) (i := 190) rfl))
set_option maxRecDepth 20000 in
theorem q93 : Cond.instanceMethod yX1_angleAt ∈ zAW := zq_t (List.mem_append_left _ (List.mem_of_getElem? (l := tables_1_1) (i := 191) rfl))
set_option maxRecDepth 20000 in
theorem q94 : Cond.selects "ClayTraps$Traps" yX1_angleAt yX1_angleAt ∈ zAW := zq_t (List.mem_append_left _ (List.mem_of_getElem? (l := tables_1_1) (i := 192) rfl))
set_option maxRecDepth 20000 in
theorem q95 : Cond.methodLink "ClayTraps$Traps" 29 yJ9_abs_0f7a4 ∈ zAW := zq_t (List.mem_append_left _ (List.mem_of_getElem? (l := tables_1_1) (i := 194) rfl))
set_option maxRecDepth 20000 in
theorem q96 : Cond.code yX0_shoot prog_2_method_6_code 4 none ∈ zAW := zq_t (List.mem_append_left _ (List.mem_of_getElem? (l := tables_1_1) (i := 200) rfl))
set_option maxRecDepth 20000 in
theorem q97 : Cond.methodLink "ClayTraps$Squad" 53 yX0_shoot ∈ zAW := zq_t (List.mem_append_left _ (List.mem_of_getElem? (l := tables_1_1) (i := 197) rfl))
set_option maxRecDepth 20000 in
theorem q98 : Cond.instanceMethod yX0_shoot ∈ zAW := zq_t (List.mem_append_left _ (List.mem_of_getElem? (l := tables_1_1) (i := 198) rfl))
set_option maxRecDepth 20000 in
theorem q99 : Cond.selects "ClayTraps$Squad" yX0_shoot yX0_shoot ∈ zAW := zq_t (List.mem_append_left _ (List.mem_of_getElem? (l := tables_1_1) (i := 199) rfl))
set_option maxRecDepth 20000 in
theorem q100 : Cond.code yX0_outcome prog_2_method_5_code 3 (some .int) ∈ zAW := zq_t (List.mem_append_left _ (List.mem_of_getElem? (l := tables_1_1) (i := 204) rfl))
set_option maxRecDepth 20000 in
theorem q101 : Cond.methodLink "ClayTraps$Squad" 45 yX0_outcome ∈ zAW := zq_t (List.mem_append_left _ (List.mem_of_getElem? (l := tables_1_1) (i := 201) rfl))
set_option maxRecDepth 20000 in
theorem q102 : Cond.instanceMethod yX0_outcome ∈ zAW := zq_t (List.mem_append_left _ (List.mem_of_getElem? (l := tables_1_1) (i := 202) rfl))
set_option maxRecDepth 20000 in
theorem q103 : Cond.selects "ClayTraps$Squad" yX0_outcome yX0_outcome ∈ zAW := zq_t (List.mem_append_left _ (List.mem_of_getElem? (l := tables_1_1) (i := 203) rfl))
set_option maxRecDepth 20000 in
theorem q104 : Cond.code yX0_trouble prog_2_method_4_code 4 (some .int) ∈ zAW := zq_t (List.mem_append_left _ (List.mem_of_getElem? (l := tables_1_1) (i := 208) rfl))
set_option maxRecDepth 20000 in
theorem q105 : Cond.methodLink "ClayTraps$Squad" 41 yX0_trouble ∈ zAW := zq_t (List.mem_append_left _ (List.mem_of_getElem? (l := tables_1_1) (i := 205) rfl))
set_option maxRecDepth 20000 in
theorem q106 : Cond.instanceMethod yX0_trouble ∈ zAW := zq_t (List.mem_append_left _ (List.mem_of_getElem? (l := tables_1_1) (i := 206) rfl))
set_option maxRecDepth 20000 in
theorem q107 : Cond.selects "ClayTraps$Squad" yX0_trouble yX0_trouble ∈ zAW := zq_t (List.mem_append_left _ (List.mem_of_getElem? (l := tables_1_1) (i := 207) rfl))
set_option maxRecDepth 20000 in
theorem q108 : Cond.methodLink "ClayTraps$Squad" 61 yJ9_max_7cf53 ∈ zAW := zq_t (List.mem_append_left _ (List.mem_of_getElem? (l := tables_1_1) (i := 210) rfl))
set_option maxRecDepth 20000 in
theorem q109 : Cond.code yX2_turn prog_1_method_7_code 1 (some .int) ∈ zAW := zq_t (List.mem_append_left _ (List.mem_of_getElem? (l := tables_1_1) (i := 216) rfl))
set_option maxRecDepth 20000 in
theorem q110 : Cond.methodLink "ClayTrapsLaw" 105 yX2_turn ∈ zAW := zq_t (List.mem_append_left _ (List.mem_of_getElem? (l := tables_1_1) (i := 213) rfl))
set_option maxRecDepth 20000 in
theorem q111 : Cond.instanceMethod yX2_turn ∈ zAW := zq_t (List.mem_append_left _ (List.mem_of_getElem? (l := tables_1_1) (i := 214) rfl))
set_option maxRecDepth 20000 in
theorem q112 : Cond.selects "ClayTraps" yX2_turn yX2_turn ∈ zAW := zq_t (List.mem_append_left _ (List.mem_of_getElem? (l := tables_1_1) (i := 215) rfl))
set_option maxRecDepth 20000 in
theorem q113 : Cond.code yX2_angle prog_1_method_8_code 3 (some .int) ∈ zAW := zq_t (List.mem_append_left _ (List.mem_of_getElem? (l := tables_1_1) (i := 220) rfl))
set_option maxRecDepth 20000 in
theorem q114 : Cond.methodLink "ClayTrapsLaw" 76 yX2_angle ∈ zAW := zq_t (List.mem_append_left _ (List.mem_of_getElem? (l := tables_1_1) (i := 217) rfl))
set_option maxRecDepth 20000 in
theorem q115 : Cond.instanceMethod yX2_angle ∈ zAW := zq_t (List.mem_append_left _ (List.mem_of_getElem? (l := tables_1_1) (i := 218) rfl))
set_option maxRecDepth 20000 in
theorem q116 : Cond.selects "ClayTraps" yX2_angle yX2_angle ∈ zAW := zq_t (List.mem_append_left _ (List.mem_of_getElem? (l := tables_1_1) (i := 219) rfl))
set_option maxRecDepth 20000 in
theorem q117 : Cond.code yX2_checkStand prog_1_method_29_code 1 none ∈ zAW := zq_t (List.mem_append_left _ (List.mem_of_getElem? (l := tables_1_1) (i := 223) rfl))
set_option maxRecDepth 20000 in
theorem q118 : Cond.methodLink "ClayTraps" 48 yX2_checkStand ∈ zAW := zq_t (List.mem_append_left _ (List.mem_of_getElem? (l := tables_1_1) (i := 221) rfl))
set_option maxRecDepth 20000 in
theorem q119 : Cond.static yX2_checkStand ∈ zAW := zq_t (List.mem_append_left _ (List.mem_of_getElem? (l := tables_1_1) (i := 222) rfl))
set_option maxRecDepth 20000 in
theorem q120 : Cond.methodLink "ClayTraps" 89 (⟨"java/lang/IndexOutOfBoundsException", "<init>", "(Ljava/lang/String;)V"⟩ : MethodName) ∈ zAW := zq_t (List.mem_append_left _ (List.mem_of_getElem? (l := tables_1_1) (i := 234) rfl))
set_option maxRecDepth 20000 in
theorem q121 : Cond.methodLink "ClayTraps" 90 yX1_angleAt ∈ zAW := zq_t (List.mem_append_right _ (List.mem_append_left _ (List.mem_of_getElem? (l := tables_1_2) (i := 1) rfl)))
set_option maxRecDepth 20000 in
theorem q122 : Cond.code yX2_hardestClay prog_1_method_9_code 2 (some .int) ∈ zAW := zq_t (List.mem_append_right _ (List.mem_append_left _ (List.mem_of_getElem? (l := tables_1_2) (i := 5) rfl)))
set_option maxRecDepth 20000 in
theorem q123 : Cond.methodLink "ClayTrapsLaw" 87 yX2_hardestClay ∈ zAW := zq_t (List.mem_append_right _ (List.mem_append_left _ (List.mem_of_getElem? (l := tables_1_2) (i := 2) rfl)))
set_option maxRecDepth 20000 in
theorem q124 : Cond.instanceMethod yX2_hardestClay ∈ zAW := zq_t (List.mem_append_right _ (List.mem_append_left _ (List.mem_of_getElem? (l := tables_1_2) (i := 3) rfl)))
set_option maxRecDepth 20000 in
theorem q125 : Cond.selects "ClayTraps" yX2_hardestClay yX2_hardestClay ∈ zAW := zq_t (List.mem_append_right _ (List.mem_append_left _ (List.mem_of_getElem? (l := tables_1_2) (i := 4) rfl)))
set_option maxRecDepth 20000 in
theorem q126 : Cond.code yX1_hardestAt prog_3_method_6_code 4 (some .int) ∈ zAW := zq_t (List.mem_append_right _ (List.mem_append_left _ (List.mem_of_getElem? (l := tables_1_2) (i := 9) rfl)))
set_option maxRecDepth 20000 in
theorem q127 : Cond.methodLink "ClayTraps" 93 yX1_hardestAt ∈ zAW := zq_t (List.mem_append_right _ (List.mem_append_left _ (List.mem_of_getElem? (l := tables_1_2) (i := 6) rfl)))
set_option maxRecDepth 20000 in
theorem q128 : Cond.instanceMethod yX1_hardestAt ∈ zAW := zq_t (List.mem_append_right _ (List.mem_append_left _ (List.mem_of_getElem? (l := tables_1_2) (i := 7) rfl)))
set_option maxRecDepth 20000 in
theorem q129 : Cond.selects "ClayTraps$Traps" yX1_hardestAt yX1_hardestAt ∈ zAW := zq_t (List.mem_append_right _ (List.mem_append_left _ (List.mem_of_getElem? (l := tables_1_2) (i := 8) rfl)))
set_option maxRecDepth 20000 in
theorem q130 : Cond.code yX1_amountAt prog_3_method_4_code 3 (some .int) ∈ zAW := zq_t (List.mem_append_right _ (List.mem_append_left _ (List.mem_of_getElem? (l := tables_1_2) (i := 13) rfl)))
set_option maxRecDepth 20000 in
theorem q131 : Cond.methodLink "ClayTraps$Traps" 37 yX1_amountAt ∈ zAW := zq_t (List.mem_append_right _ (List.mem_append_left _ (List.mem_of_getElem? (l := tables_1_2) (i := 10) rfl)))
set_option maxRecDepth 20000 in
theorem q132 : Cond.instanceMethod yX1_amountAt ∈ zAW := zq_t (List.mem_append_right _ (List.mem_append_left _ (List.mem_of_getElem? (l := tables_1_2) (i := 11) rfl)))
set_option maxRecDepth 20000 in
theorem q133 : Cond.selects "ClayTraps$Traps" yX1_amountAt yX1_amountAt ∈ zAW := zq_t (List.mem_append_right _ (List.mem_append_left _ (List.mem_of_getElem? (l := tables_1_2) (i := 12) rfl)))
set_option maxRecDepth 20000 in
theorem q134 : Cond.code yX2_standOf prog_1_method_10_code 2 (some .int) ∈ zAW := zq_t (List.mem_append_right _ (List.mem_append_left _ (List.mem_of_getElem? (l := tables_1_2) (i := 17) rfl)))
set_option maxRecDepth 20000 in
theorem q135 : Cond.methodLink "ClayTrapsLaw" 99 yX2_standOf ∈ zAW := zq_t (List.mem_append_right _ (List.mem_append_left _ (List.mem_of_getElem? (l := tables_1_2) (i := 14) rfl)))
set_option maxRecDepth 20000 in
theorem q136 : Cond.instanceMethod yX2_standOf ∈ zAW := zq_t (List.mem_append_right _ (List.mem_append_left _ (List.mem_of_getElem? (l := tables_1_2) (i := 15) rfl)))
set_option maxRecDepth 20000 in
theorem q137 : Cond.selects "ClayTraps" yX2_standOf yX2_standOf ∈ zAW := zq_t (List.mem_append_right _ (List.mem_append_left _ (List.mem_of_getElem? (l := tables_1_2) (i := 16) rfl)))
set_option maxRecDepth 20000 in
theorem q138 : Cond.code yX2_checkGun prog_1_method_30_code 2 none ∈ zAW := zq_t (List.mem_append_right _ (List.mem_append_left _ (List.mem_of_getElem? (l := tables_1_2) (i := 21) rfl)))
set_option maxRecDepth 20000 in
theorem q139 : Cond.methodLink "ClayTraps" 63 yX2_checkGun ∈ zAW := zq_t (List.mem_append_right _ (List.mem_append_left _ (List.mem_of_getElem? (l := tables_1_2) (i := 18) rfl)))
set_option maxRecDepth 20000 in
theorem q140 : Cond.instanceMethod yX2_checkGun ∈ zAW := zq_t (List.mem_append_right _ (List.mem_append_left _ (List.mem_of_getElem? (l := tables_1_2) (i := 20) rfl)))
set_option maxRecDepth 20000 in
theorem q141 : Cond.selects "ClayTraps" yX2_checkGun yX2_checkGun ∈ zAW := zq_s (List.mem_of_getElem? (l := k2_sels lw_privs) (i := 1) rfl)
set_option maxRecDepth 20000 in
theorem q142 : Cond.methodLink "ClayTraps" 97 yX2_standIn ∈ zAW := zq_t (List.mem_append_right _ (List.mem_append_left _ (List.mem_of_getElem? (l := tables_1_2) (i := 23) rfl)))
set_option maxRecDepth 20000 in
theorem q143 : Cond.code yX2_angleFor prog_1_method_11_code 2 (some .int) ∈ zAW := zq_t (List.mem_append_right _ (List.mem_append_left _ (List.mem_of_getElem? (l := tables_1_2) (i := 27) rfl)))
set_option maxRecDepth 20000 in
theorem q144 : Cond.methodLink "ClayTrapsLaw" 102 yX2_angleFor ∈ zAW := zq_t (List.mem_append_right _ (List.mem_append_left _ (List.mem_of_getElem? (l := tables_1_2) (i := 24) rfl)))
set_option maxRecDepth 20000 in
theorem q145 : Cond.instanceMethod yX2_angleFor ∈ zAW := zq_t (List.mem_append_right _ (List.mem_append_left _ (List.mem_of_getElem? (l := tables_1_2) (i := 25) rfl)))
set_option maxRecDepth 20000 in
theorem q146 : Cond.selects "ClayTraps" yX2_angleFor yX2_angleFor ∈ zAW := zq_t (List.mem_append_right _ (List.mem_append_left _ (List.mem_of_getElem? (l := tables_1_2) (i := 26) rfl)))
set_option maxRecDepth 20000 in
theorem q147 : Cond.methodLink "ClayTraps" 100 yX1_angleIn ∈ zAW := zq_t (List.mem_append_right _ (List.mem_append_left _ (List.mem_of_getElem? (l := tables_1_2) (i := 28) rfl)))
set_option maxRecDepth 20000 in
theorem q148 : Cond.code yX2_guns prog_1_method_12_code 1 (some .int) ∈ zAW := zq_t (List.mem_append_right _ (List.mem_append_left _ (List.mem_of_getElem? (l := tables_1_2) (i := 32) rfl)))
set_option maxRecDepth 20000 in
theorem q149 : Cond.methodLink "ClayTrapsLaw" 74 yX2_guns ∈ zAW := zq_t (List.mem_append_right _ (List.mem_append_left _ (List.mem_of_getElem? (l := tables_1_2) (i := 29) rfl)))
set_option maxRecDepth 20000 in
theorem q150 : Cond.instanceMethod yX2_guns ∈ zAW := zq_t (List.mem_append_right _ (List.mem_append_left _ (List.mem_of_getElem? (l := tables_1_2) (i := 30) rfl)))
set_option maxRecDepth 20000 in
theorem q151 : Cond.selects "ClayTraps" yX2_guns yX2_guns ∈ zAW := zq_t (List.mem_append_right _ (List.mem_append_left _ (List.mem_of_getElem? (l := tables_1_2) (i := 31) rfl)))
set_option maxRecDepth 20000 in
theorem q152 : Cond.code yX2_scoreOf prog_1_method_13_code 2 (some .int) ∈ zAW := zq_t (List.mem_append_right _ (List.mem_append_left _ (List.mem_of_getElem? (l := tables_1_2) (i := 36) rfl)))
set_option maxRecDepth 20000 in
theorem q153 : Cond.methodLink "ClayTrapsLaw" 90 yX2_scoreOf ∈ zAW := zq_t (List.mem_append_right _ (List.mem_append_left _ (List.mem_of_getElem? (l := tables_1_2) (i := 33) rfl)))
set_option maxRecDepth 20000 in
theorem q154 : Cond.instanceMethod yX2_scoreOf ∈ zAW := zq_t (List.mem_append_right _ (List.mem_append_left _ (List.mem_of_getElem? (l := tables_1_2) (i := 34) rfl)))
set_option maxRecDepth 20000 in
theorem q155 : Cond.selects "ClayTraps" yX2_scoreOf yX2_scoreOf ∈ zAW := zq_t (List.mem_append_right _ (List.mem_append_left _ (List.mem_of_getElem? (l := tables_1_2) (i := 35) rfl)))
set_option maxRecDepth 20000 in
theorem q156 : Cond.code yX2_firstsOf prog_1_method_14_code 2 (some .int) ∈ zAW := zq_t (List.mem_append_right _ (List.mem_append_left _ (List.mem_of_getElem? (l := tables_1_2) (i := 40) rfl)))
set_option maxRecDepth 20000 in
theorem q157 : Cond.methodLink "ClayTrapsLaw" 108 yX2_firstsOf ∈ zAW := zq_t (List.mem_append_right _ (List.mem_append_left _ (List.mem_of_getElem? (l := tables_1_2) (i := 37) rfl)))
set_option maxRecDepth 20000 in
theorem q158 : Cond.instanceMethod yX2_firstsOf ∈ zAW := zq_t (List.mem_append_right _ (List.mem_append_left _ (List.mem_of_getElem? (l := tables_1_2) (i := 38) rfl)))
set_option maxRecDepth 20000 in
theorem q159 : Cond.selects "ClayTraps" yX2_firstsOf yX2_firstsOf ∈ zAW := zq_t (List.mem_append_right _ (List.mem_append_left _ (List.mem_of_getElem? (l := tables_1_2) (i := 39) rfl)))
set_option maxRecDepth 20000 in
theorem q160 : Cond.code yX2_fatigueOf prog_1_method_16_code 2 (some .int) ∈ zAW := zq_t (List.mem_append_right _ (List.mem_append_left _ (List.mem_of_getElem? (l := tables_1_2) (i := 44) rfl)))
set_option maxRecDepth 20000 in
theorem q161 : Cond.methodLink "ClayTrapsLaw" 111 yX2_fatigueOf ∈ zAW := zq_t (List.mem_append_right _ (List.mem_append_left _ (List.mem_of_getElem? (l := tables_1_2) (i := 41) rfl)))
set_option maxRecDepth 20000 in
theorem q162 : Cond.instanceMethod yX2_fatigueOf ∈ zAW := zq_t (List.mem_append_right _ (List.mem_append_left _ (List.mem_of_getElem? (l := tables_1_2) (i := 42) rfl)))
set_option maxRecDepth 20000 in
theorem q163 : Cond.selects "ClayTraps" yX2_fatigueOf yX2_fatigueOf ∈ zAW := zq_t (List.mem_append_right _ (List.mem_append_left _ (List.mem_of_getElem? (l := tables_1_2) (i := 43) rfl)))
set_option maxRecDepth 20000 in
theorem q164 : Cond.code yX2_wouldHit prog_1_method_17_code 2 (some .int) ∈ zAW := zq_t (List.mem_append_right _ (List.mem_append_left _ (List.mem_of_getElem? (l := tables_1_2) (i := 48) rfl)))
set_option maxRecDepth 20000 in
theorem q165 : Cond.methodLink "ClayTrapsLaw" 114 yX2_wouldHit ∈ zAW := zq_t (List.mem_append_right _ (List.mem_append_left _ (List.mem_of_getElem? (l := tables_1_2) (i := 45) rfl)))
set_option maxRecDepth 20000 in
theorem q166 : Cond.instanceMethod yX2_wouldHit ∈ zAW := zq_t (List.mem_append_right _ (List.mem_append_left _ (List.mem_of_getElem? (l := tables_1_2) (i := 46) rfl)))
set_option maxRecDepth 20000 in
theorem q167 : Cond.selects "ClayTraps" yX2_wouldHit yX2_wouldHit ∈ zAW := zq_t (List.mem_append_right _ (List.mem_append_left _ (List.mem_of_getElem? (l := tables_1_2) (i := 47) rfl)))
set_option maxRecDepth 20000 in
theorem q168 : Cond.methodLink "ClayTraps" 112 yX1_amountIn ∈ zAW := zq_t (List.mem_append_right _ (List.mem_append_left _ (List.mem_of_getElem? (l := tables_1_2) (i := 49) rfl)))
set_option maxRecDepth 20000 in
theorem q169 : Cond.methodLink "ClayTraps" 115 yX0_outcome ∈ zAW := zq_t (List.mem_append_right _ (List.mem_append_left _ (List.mem_of_getElem? (l := tables_1_2) (i := 50) rfl)))
set_option maxRecDepth 20000 in
theorem q170 : Cond.code yX2_leader prog_1_method_18_code 1 (some .int) ∈ zAW := zq_t (List.mem_append_right _ (List.mem_append_left _ (List.mem_of_getElem? (l := tables_1_2) (i := 54) rfl)))
set_option maxRecDepth 20000 in
theorem q171 : Cond.methodLink "ClayTrapsLaw" 96 yX2_leader ∈ zAW := zq_t (List.mem_append_right _ (List.mem_append_left _ (List.mem_of_getElem? (l := tables_1_2) (i := 51) rfl)))
set_option maxRecDepth 20000 in
theorem q172 : Cond.instanceMethod yX2_leader ∈ zAW := zq_t (List.mem_append_right _ (List.mem_append_left _ (List.mem_of_getElem? (l := tables_1_2) (i := 52) rfl)))
set_option maxRecDepth 20000 in
theorem q173 : Cond.selects "ClayTraps" yX2_leader yX2_leader ∈ zAW := zq_t (List.mem_append_right _ (List.mem_append_left _ (List.mem_of_getElem? (l := tables_1_2) (i := 53) rfl)))
set_option maxRecDepth 20000 in
theorem q174 : Cond.code yX0_leading prog_2_method_9_code 3 (some .int) ∈ zAW := zq_t (List.mem_append_right _ (List.mem_append_left _ (List.mem_of_getElem? (l := tables_1_2) (i := 58) rfl)))
set_option maxRecDepth 20000 in
theorem q175 : Cond.methodLink "ClayTraps" 118 yX0_leading ∈ zAW := zq_t (List.mem_append_right _ (List.mem_append_left _ (List.mem_of_getElem? (l := tables_1_2) (i := 55) rfl)))
set_option maxRecDepth 20000 in
theorem q176 : Cond.instanceMethod yX0_leading ∈ zAW := zq_t (List.mem_append_right _ (List.mem_append_left _ (List.mem_of_getElem? (l := tables_1_2) (i := 56) rfl)))
set_option maxRecDepth 20000 in
theorem q177 : Cond.selects "ClayTraps$Squad" yX0_leading yX0_leading ∈ zAW := zq_t (List.mem_append_right _ (List.mem_append_left _ (List.mem_of_getElem? (l := tables_1_2) (i := 57) rfl)))
set_option maxRecDepth 20000 in
theorem q178 : Cond.code yX2_tied prog_1_method_19_code 1 (some .int) ∈ zAW := zq_t (List.mem_append_right _ (List.mem_append_left _ (List.mem_of_getElem? (l := tables_1_2) (i := 62) rfl)))
set_option maxRecDepth 20000 in
theorem q179 : Cond.methodLink "ClayTrapsLaw" 120 yX2_tied ∈ zAW := zq_t (List.mem_append_right _ (List.mem_append_left _ (List.mem_of_getElem? (l := tables_1_2) (i := 59) rfl)))
set_option maxRecDepth 20000 in
theorem q180 : Cond.instanceMethod yX2_tied ∈ zAW := zq_t (List.mem_append_right _ (List.mem_append_left _ (List.mem_of_getElem? (l := tables_1_2) (i := 60) rfl)))
set_option maxRecDepth 20000 in
theorem q181 : Cond.selects "ClayTraps" yX2_tied yX2_tied ∈ zAW := zq_t (List.mem_append_right _ (List.mem_append_left _ (List.mem_of_getElem? (l := tables_1_2) (i := 61) rfl)))
set_option maxRecDepth 20000 in
theorem q182 : Cond.code yX0_countTied prog_2_method_10_code 4 (some .int) ∈ zAW := zq_t (List.mem_append_right _ (List.mem_append_left _ (List.mem_of_getElem? (l := tables_1_2) (i := 66) rfl)))
set_option maxRecDepth 20000 in
theorem q183 : Cond.methodLink "ClayTraps" 121 yX0_countTied ∈ zAW := zq_t (List.mem_append_right _ (List.mem_append_left _ (List.mem_of_getElem? (l := tables_1_2) (i := 63) rfl)))
set_option maxRecDepth 20000 in
theorem q184 : Cond.instanceMethod yX0_countTied ∈ zAW := zq_t (List.mem_append_right _ (List.mem_append_left _ (List.mem_of_getElem? (l := tables_1_2) (i := 64) rfl)))
set_option maxRecDepth 20000 in
theorem q185 : Cond.selects "ClayTraps$Squad" yX0_countTied yX0_countTied ∈ zAW := zq_t (List.mem_append_right _ (List.mem_append_left _ (List.mem_of_getElem? (l := tables_1_2) (i := 65) rfl)))
set_option maxRecDepth 20000 in
theorem q186 : Cond.methodLink "ClayTraps$Squad" 70 yX0_leading ∈ zAW := zq_t (List.mem_append_right _ (List.mem_append_left _ (List.mem_of_getElem? (l := tables_1_2) (i := 67) rfl)))
set_option maxRecDepth 20000 in
theorem q187 : Cond.code yX2_rankOf prog_1_method_20_code 2 (some .int) ∈ zAW := zq_t (List.mem_append_right _ (List.mem_append_left _ (List.mem_of_getElem? (l := tables_1_2) (i := 71) rfl)))
set_option maxRecDepth 20000 in
theorem q188 : Cond.methodLink "ClayTrapsLaw" 93 yX2_rankOf ∈ zAW := zq_t (List.mem_append_right _ (List.mem_append_left _ (List.mem_of_getElem? (l := tables_1_2) (i := 68) rfl)))
set_option maxRecDepth 20000 in
theorem q189 : Cond.instanceMethod yX2_rankOf ∈ zAW := zq_t (List.mem_append_right _ (List.mem_append_left _ (List.mem_of_getElem? (l := tables_1_2) (i := 69) rfl)))
set_option maxRecDepth 20000 in
theorem q190 : Cond.selects "ClayTraps" yX2_rankOf yX2_rankOf ∈ zAW := zq_t (List.mem_append_right _ (List.mem_append_left _ (List.mem_of_getElem? (l := tables_1_2) (i := 70) rfl)))
set_option maxRecDepth 20000 in
theorem q191 : Cond.code yX0_countAbove prog_2_method_11_code 4 (some .int) ∈ zAW := zq_t (List.mem_append_right _ (List.mem_append_left _ (List.mem_of_getElem? (l := tables_1_2) (i := 75) rfl)))
set_option maxRecDepth 20000 in
theorem q192 : Cond.methodLink "ClayTraps" 124 yX0_countAbove ∈ zAW := zq_t (List.mem_append_right _ (List.mem_append_left _ (List.mem_of_getElem? (l := tables_1_2) (i := 72) rfl)))
set_option maxRecDepth 20000 in
theorem q193 : Cond.instanceMethod yX0_countAbove ∈ zAW := zq_t (List.mem_append_right _ (List.mem_append_left _ (List.mem_of_getElem? (l := tables_1_2) (i := 73) rfl)))
set_option maxRecDepth 20000 in
theorem q194 : Cond.selects "ClayTraps$Squad" yX0_countAbove yX0_countAbove ∈ zAW := zq_t (List.mem_append_right _ (List.mem_append_left _ (List.mem_of_getElem? (l := tables_1_2) (i := 74) rfl)))
set_option maxRecDepth 20000 in
theorem q195 : Cond.code yX2_scoreIn prog_1_method_21_code 3 (some .int) ∈ zAW := zq_t (List.mem_append_right _ (List.mem_append_left _ (List.mem_of_getElem? (l := tables_1_2) (i := 79) rfl)))
set_option maxRecDepth 20000 in
theorem q196 : Cond.methodLink "ClayTrapsLaw" 133 yX2_scoreIn ∈ zAW := zq_t (List.mem_append_right _ (List.mem_append_left _ (List.mem_of_getElem? (l := tables_1_2) (i := 76) rfl)))
set_option maxRecDepth 20000 in
theorem q197 : Cond.instanceMethod yX2_scoreIn ∈ zAW := zq_t (List.mem_append_right _ (List.mem_append_left _ (List.mem_of_getElem? (l := tables_1_2) (i := 77) rfl)))
set_option maxRecDepth 20000 in
theorem q198 : Cond.selects "ClayTraps" yX2_scoreIn yX2_scoreIn ∈ zAW := zq_t (List.mem_append_right _ (List.mem_append_left _ (List.mem_of_getElem? (l := tables_1_2) (i := 78) rfl)))
set_option maxRecDepth 20000 in
theorem q199 : Cond.code yX0_takeOver prog_2_method_3_code 3 none ∈ zAW := zq_t (List.mem_append_right _ (List.mem_append_left _ (List.mem_of_getElem? (l := tables_1_2) (i := 83) rfl)))
set_option maxRecDepth 20000 in
theorem q200 : Cond.methodLink "ClayTraps" 127 yX0_takeOver ∈ zAW := zq_t (List.mem_append_right _ (List.mem_append_left _ (List.mem_of_getElem? (l := tables_1_2) (i := 80) rfl)))
set_option maxRecDepth 20000 in
theorem q201 : Cond.instanceMethod yX0_takeOver ∈ zAW := zq_t (List.mem_append_right _ (List.mem_append_left _ (List.mem_of_getElem? (l := tables_1_2) (i := 81) rfl)))
set_option maxRecDepth 20000 in
theorem q202 : Cond.selects "ClayTraps$Squad" yX0_takeOver yX0_takeOver ∈ zAW := zq_t (List.mem_append_right _ (List.mem_append_left _ (List.mem_of_getElem? (l := tables_1_2) (i := 82) rfl)))
set_option maxRecDepth 20000 in
theorem q203 : Cond.methodLink "ClayTraps" 131 yX0_playAlone ∈ zAW := zq_t (List.mem_append_right _ (List.mem_append_left _ (List.mem_of_getElem? (l := tables_1_2) (i := 84) rfl)))
set_option maxRecDepth 20000 in
theorem q204 : Cond.code yX2_turnsUntilMiss prog_1_method_22_code 3 (some .int) ∈ zAW := zq_t (List.mem_append_right _ (List.mem_append_left _ (List.mem_of_getElem? (l := tables_1_2) (i := 88) rfl)))
set_option maxRecDepth 20000 in
theorem q205 : Cond.methodLink "ClayTrapsLaw" 130 yX2_turnsUntilMiss ∈ zAW := zq_t (List.mem_append_right _ (List.mem_append_left _ (List.mem_of_getElem? (l := tables_1_2) (i := 85) rfl)))
set_option maxRecDepth 20000 in
theorem q206 : Cond.instanceMethod yX2_turnsUntilMiss ∈ zAW := zq_t (List.mem_append_right _ (List.mem_append_left _ (List.mem_of_getElem? (l := tables_1_2) (i := 86) rfl)))
set_option maxRecDepth 20000 in
theorem q207 : Cond.selects "ClayTraps" yX2_turnsUntilMiss yX2_turnsUntilMiss ∈ zAW := zq_t (List.mem_append_right _ (List.mem_append_left _ (List.mem_of_getElem? (l := tables_1_2) (i := 87) rfl)))
set_option maxRecDepth 20000 in
theorem q208 : Cond.code yX2_leaderIn prog_1_method_23_code 2 (some .int) ∈ zAW := zq_t (List.mem_append_right _ (List.mem_append_left _ (List.mem_of_getElem? (l := tables_1_2) (i := 92) rfl)))
set_option maxRecDepth 20000 in
theorem q209 : Cond.methodLink "ClayTrapsLaw" 136 yX2_leaderIn ∈ zAW := zq_t (List.mem_append_right _ (List.mem_append_left _ (List.mem_of_getElem? (l := tables_1_2) (i := 89) rfl)))
set_option maxRecDepth 20000 in
theorem q210 : Cond.instanceMethod yX2_leaderIn ∈ zAW := zq_t (List.mem_append_right _ (List.mem_append_left _ (List.mem_of_getElem? (l := tables_1_2) (i := 90) rfl)))
set_option maxRecDepth 20000 in
theorem q211 : Cond.selects "ClayTraps" yX2_leaderIn yX2_leaderIn ∈ zAW := zq_t (List.mem_append_right _ (List.mem_append_left _ (List.mem_of_getElem? (l := tables_1_2) (i := 91) rfl)))
set_option maxRecDepth 20000 in
theorem q212 : Cond.code yX2_wouldWin prog_1_method_24_code 1 (some .int) ∈ zAW := zq_t (List.mem_append_right _ (List.mem_append_left _ (List.mem_of_getElem? (l := tables_1_2) (i := 96) rfl)))
set_option maxRecDepth 20000 in
theorem q213 : Cond.methodLink "ClayTrapsLaw" 139 yX2_wouldWin ∈ zAW := zq_t (List.mem_append_right _ (List.mem_append_left _ (List.mem_of_getElem? (l := tables_1_2) (i := 93) rfl)))
set_option maxRecDepth 20000 in
theorem q214 : Cond.instanceMethod yX2_wouldWin ∈ zAW := zq_t (List.mem_append_right _ (List.mem_append_left _ (List.mem_of_getElem? (l := tables_1_2) (i := 94) rfl)))
set_option maxRecDepth 20000 in
theorem q215 : Cond.selects "ClayTraps" yX2_wouldWin yX2_wouldWin ∈ zAW := zq_t (List.mem_append_right _ (List.mem_append_left _ (List.mem_of_getElem? (l := tables_1_2) (i := 95) rfl)))
set_option maxRecDepth 20000 in
theorem q216 : Cond.code yX0_settleTie prog_2_method_13_code 3 (some .int) ∈ zAW := zq_t (List.mem_append_right _ (List.mem_append_left _ (List.mem_of_getElem? (l := tables_1_2) (i := 100) rfl)))
set_option maxRecDepth 20000 in
theorem q217 : Cond.methodLink "ClayTraps" 81 yX0_settleTie ∈ zAW := zq_t (List.mem_append_right _ (List.mem_append_left _ (List.mem_of_getElem? (l := tables_1_2) (i := 97) rfl)))
set_option maxRecDepth 20000 in
theorem q218 : Cond.instanceMethod yX0_settleTie ∈ zAW := zq_t (List.mem_append_right _ (List.mem_append_left _ (List.mem_of_getElem? (l := tables_1_2) (i := 98) rfl)))
set_option maxRecDepth 20000 in
theorem q219 : Cond.selects "ClayTraps$Squad" yX0_settleTie yX0_settleTie ∈ zAW := zq_t (List.mem_append_right _ (List.mem_append_left _ (List.mem_of_getElem? (l := tables_1_2) (i := 99) rfl)))
set_option maxRecDepth 20000 in
theorem q220 : Cond.code yX0_countLeft prog_2_method_16_code 3 (some .int) ∈ zAW := zq_t (List.mem_append_right _ (List.mem_append_left _ (List.mem_of_getElem? (l := tables_1_2) (i := 104) rfl)))
set_option maxRecDepth 20000 in
theorem q221 : Cond.methodLink "ClayTraps$Squad" 74 yX0_countLeft ∈ zAW := zq_t (List.mem_append_right _ (List.mem_append_left _ (List.mem_of_getElem? (l := tables_1_2) (i := 101) rfl)))
set_option maxRecDepth 20000 in
theorem q222 : Cond.instanceMethod yX0_countLeft ∈ zAW := zq_t (List.mem_append_right _ (List.mem_append_left _ (List.mem_of_getElem? (l := tables_1_2) (i := 102) rfl)))
set_option maxRecDepth 20000 in
theorem q223 : Cond.selects "ClayTraps$Squad" yX0_countLeft yX0_countLeft ∈ zAW := zq_t (List.mem_append_right _ (List.mem_append_left _ (List.mem_of_getElem? (l := tables_1_2) (i := 103) rfl)))
set_option maxRecDepth 20000 in
theorem q224 : Cond.code yX0_shootRound prog_2_method_14_code 4 none ∈ zAW := zq_t (List.mem_append_right _ (List.mem_append_left _ (List.mem_of_getElem? (l := tables_1_2) (i := 108) rfl)))
set_option maxRecDepth 20000 in
theorem q225 : Cond.methodLink "ClayTraps$Squad" 77 yX0_shootRound ∈ zAW := zq_t (List.mem_append_right _ (List.mem_append_left _ (List.mem_of_getElem? (l := tables_1_2) (i := 105) rfl)))
set_option maxRecDepth 20000 in
theorem q226 : Cond.instanceMethod yX0_shootRound ∈ zAW := zq_t (List.mem_append_right _ (List.mem_append_left _ (List.mem_of_getElem? (l := tables_1_2) (i := 106) rfl)))
set_option maxRecDepth 20000 in
theorem q227 : Cond.selects "ClayTraps$Squad" yX0_shootRound yX0_shootRound ∈ zAW := zq_t (List.mem_append_right _ (List.mem_append_left _ (List.mem_of_getElem? (l := tables_1_2) (i := 107) rfl)))
set_option maxRecDepth 20000 in
theorem q228 : Cond.code yX0_keepThoseWhoHit prog_2_method_15_code 2 none ∈ zAW := zq_t (List.mem_append_right _ (List.mem_append_left _ (List.mem_of_getElem? (l := tables_1_2) (i := 112) rfl)))
set_option maxRecDepth 20000 in
theorem q229 : Cond.methodLink "ClayTraps$Squad" 84 yX0_keepThoseWhoHit ∈ zAW := zq_t (List.mem_append_right _ (List.mem_append_left _ (List.mem_of_getElem? (l := tables_1_2) (i := 109) rfl)))
set_option maxRecDepth 20000 in
theorem q230 : Cond.instanceMethod yX0_keepThoseWhoHit ∈ zAW := zq_t (List.mem_append_right _ (List.mem_append_left _ (List.mem_of_getElem? (l := tables_1_2) (i := 110) rfl)))
set_option maxRecDepth 20000 in
theorem q231 : Cond.selects "ClayTraps$Squad" yX0_keepThoseWhoHit yX0_keepThoseWhoHit ∈ zAW := zq_t (List.mem_append_right _ (List.mem_append_left _ (List.mem_of_getElem? (l := tables_1_2) (i := 111) rfl)))
set_option maxRecDepth 20000 in
theorem q232 : Cond.code yX0_firstLeft prog_2_method_17_code 2 (some .int) ∈ zAW := zq_t (List.mem_append_right _ (List.mem_append_left _ (List.mem_of_getElem? (l := tables_1_2) (i := 116) rfl)))
set_option maxRecDepth 20000 in
theorem q233 : Cond.methodLink "ClayTraps$Squad" 81 yX0_firstLeft ∈ zAW := zq_t (List.mem_append_right _ (List.mem_append_left _ (List.mem_of_getElem? (l := tables_1_2) (i := 113) rfl)))
set_option maxRecDepth 20000 in
theorem q234 : Cond.instanceMethod yX0_firstLeft ∈ zAW := zq_t (List.mem_append_right _ (List.mem_append_left _ (List.mem_of_getElem? (l := tables_1_2) (i := 114) rfl)))
set_option maxRecDepth 20000 in
theorem q235 : Cond.selects "ClayTraps$Squad" yX0_firstLeft yX0_firstLeft ∈ zAW := zq_t (List.mem_append_right _ (List.mem_append_left _ (List.mem_of_getElem? (l := tables_1_2) (i := 115) rfl)))
set_option maxRecDepth 20000 in
theorem q236 : Cond.code yX2_bestRest prog_1_method_25_code 6 (some .int) ∈ zAW := zq_t (List.mem_append_right _ (List.mem_append_left _ (List.mem_of_getElem? (l := tables_1_2) (i := 120) rfl)))
set_option maxRecDepth 20000 in
theorem q237 : Cond.methodLink "ClayTrapsLaw" 123 yX2_bestRest ∈ zAW := zq_t (List.mem_append_right _ (List.mem_append_left _ (List.mem_of_getElem? (l := tables_1_2) (i := 117) rfl)))
set_option maxRecDepth 20000 in
theorem q238 : Cond.instanceMethod yX2_bestRest ∈ zAW := zq_t (List.mem_append_right _ (List.mem_append_left _ (List.mem_of_getElem? (l := tables_1_2) (i := 118) rfl)))
set_option maxRecDepth 20000 in
theorem q239 : Cond.selects "ClayTraps" yX2_bestRest yX2_bestRest ∈ zAW := zq_t (List.mem_append_right _ (List.mem_append_left _ (List.mem_of_getElem? (l := tables_1_2) (i := 119) rfl)))
set_option maxRecDepth 20000 in
theorem q240 : Cond.code yX2_scoreWithRest prog_1_method_34_code 3 (some .int) ∈ zAW := zq_t (List.mem_append_right _ (List.mem_append_left _ (List.mem_of_getElem? (l := tables_1_2) (i := 124) rfl)))
set_option maxRecDepth 20000 in
theorem q241 : Cond.methodLink "ClayTraps" 138 yX2_scoreWithRest ∈ zAW := zq_t (List.mem_append_right _ (List.mem_append_left _ (List.mem_of_getElem? (l := tables_1_2) (i := 121) rfl)))
set_option maxRecDepth 20000 in
theorem q242 : Cond.instanceMethod yX2_scoreWithRest ∈ zAW := zq_t (List.mem_append_right _ (List.mem_append_left _ (List.mem_of_getElem? (l := tables_1_2) (i := 123) rfl)))
set_option maxRecDepth 20000 in
theorem q243 : Cond.selects "ClayTraps" yX2_scoreWithRest yX2_scoreWithRest ∈ zAW := zq_s (List.mem_of_getElem? (l := k2_sels lw_privs) (i := 2) rfl)
set_option maxRecDepth 20000 in
theorem q244 : Cond.code yX2_swingWanted prog_1_method_26_code 3 (some .int) ∈ zAW := zq_t (List.mem_append_right _ (List.mem_append_left _ (List.mem_of_getElem? (l := tables_1_2) (i := 128) rfl)))
set_option maxRecDepth 20000 in
theorem q245 : Cond.methodLink "ClayTrapsLaw" 117 yX2_swingWanted ∈ zAW := zq_t (List.mem_append_right _ (List.mem_append_left _ (List.mem_of_getElem? (l := tables_1_2) (i := 125) rfl)))
set_option maxRecDepth 20000 in
theorem q246 : Cond.instanceMethod yX2_swingWanted ∈ zAW := zq_t (List.mem_append_right _ (List.mem_append_left _ (List.mem_of_getElem? (l := tables_1_2) (i := 126) rfl)))
set_option maxRecDepth 20000 in
theorem q247 : Cond.selects "ClayTraps" yX2_swingWanted yX2_swingWanted ∈ zAW := zq_t (List.mem_append_right _ (List.mem_append_left _ (List.mem_of_getElem? (l := tables_1_2) (i := 127) rfl)))
set_option maxRecDepth 20000 in
theorem q248 : Cond.code yX1_greatestAmount prog_3_method_7_code 3 (some .int) ∈ zAW := zq_t (List.mem_append_right _ (List.mem_append_left _ (List.mem_of_getElem? (l := tables_1_2) (i := 132) rfl)))
set_option maxRecDepth 20000 in
theorem q249 : Cond.methodLink "ClayTraps" 141 yX1_greatestAmount ∈ zAW := zq_t (List.mem_append_right _ (List.mem_append_left _ (List.mem_of_getElem? (l := tables_1_2) (i := 129) rfl)))
set_option maxRecDepth 20000 in
theorem q250 : Cond.instanceMethod yX1_greatestAmount ∈ zAW := zq_t (List.mem_append_right _ (List.mem_append_left _ (List.mem_of_getElem? (l := tables_1_2) (i := 130) rfl)))
set_option maxRecDepth 20000 in
theorem q251 : Cond.selects "ClayTraps$Traps" yX1_greatestAmount yX1_greatestAmount ∈ zAW := zq_t (List.mem_append_right _ (List.mem_append_left _ (List.mem_of_getElem? (l := tables_1_2) (i := 131) rfl)))
set_option maxRecDepth 20000 in
theorem q252 : Cond.methodLink "ClayTraps$Traps" 40 yX1_hardestAt ∈ zAW := zq_t (List.mem_append_right _ (List.mem_append_left _ (List.mem_of_getElem? (l := tables_1_2) (i := 133) rfl)))
set_option maxRecDepth 20000 in
theorem q253 : Cond.methodLink "ClayTraps$Traps" 43 yJ9_max_7cf53 ∈ zAW := zq_t (List.mem_append_right _ (List.mem_append_left _ (List.mem_of_getElem? (l := tables_1_2) (i := 134) rfl)))
set_option maxRecDepth 20000 in
theorem q254 : Cond.methodLink "ClayTraps" 144 yJ9_max_7cf53 ∈ zAW := zq_t (List.mem_append_right _ (List.mem_append_left _ (List.mem_of_getElem? (l := tables_1_2) (i := 135) rfl)))
set_option maxRecDepth 20000 in
theorem q255 : Cond.code yX2_digest prog_1_method_28_code 5 (some .long) ∈ zAW := zq_t (List.mem_append_right _ (List.mem_append_left _ (List.mem_of_getElem? (l := tables_1_2) (i := 139) rfl)))
set_option maxRecDepth 20000 in
theorem q256 : Cond.methodLink "ClayTrapsLaw" 70 yX2_digest ∈ zAW := zq_t (List.mem_append_right _ (List.mem_append_left _ (List.mem_of_getElem? (l := tables_1_2) (i := 136) rfl)))
set_option maxRecDepth 20000 in
theorem q257 : Cond.instanceMethod yX2_digest ∈ zAW := zq_t (List.mem_append_right _ (List.mem_append_left _ (List.mem_of_getElem? (l := tables_1_2) (i := 137) rfl)))
set_option maxRecDepth 20000 in
theorem q258 : Cond.selects "ClayTraps" yX2_digest yX2_digest ∈ zAW := zq_t (List.mem_append_right _ (List.mem_append_left _ (List.mem_of_getElem? (l := tables_1_2) (i := 138) rfl)))
set_option maxRecDepth 20000 in
theorem q259 : Cond.methodLink "ClayTraps" 154 yX2_turn ∈ zAW := zq_t (List.mem_append_right _ (List.mem_append_left _ (List.mem_of_getElem? (l := tables_1_2) (i := 141) rfl)))
set_option maxRecDepth 20000 in
theorem q260 : Cond.code yX2_fold prog_1_method_35_code 4 (some .long) ∈ zAW := zq_t (List.mem_append_right _ (List.mem_append_left _ (List.mem_of_getElem? (l := tables_1_2) (i := 144) rfl)))
set_option maxRecDepth 20000 in
theorem q261 : Cond.methodLink "ClayTraps" 156 yX2_fold ∈ zAW := zq_t (List.mem_append_right _ (List.mem_append_left _ (List.mem_of_getElem? (l := tables_1_2) (i := 142) rfl)))
set_option maxRecDepth 20000 in
theorem q262 : Cond.static yX2_fold ∈ zAW := zq_t (List.mem_append_right _ (List.mem_append_left _ (List.mem_of_getElem? (l := tables_1_2) (i := 143) rfl)))
set_option maxRecDepth 20000 in
theorem q263 : Cond.methodLink "ClayTraps" 160 yX2_guns ∈ zAW := zq_t (List.mem_append_right _ (List.mem_append_left _ (List.mem_of_getElem? (l := tables_1_2) (i := 146) rfl)))
set_option maxRecDepth 20000 in
theorem q264 : Cond.methodLink "ClayTraps" 163 yX2_leader ∈ zAW := zq_t (List.mem_append_right _ (List.mem_append_left _ (List.mem_of_getElem? (l := tables_1_2) (i := 147) rfl)))
set_option maxRecDepth 20000 in
theorem q265 : Cond.methodLink "ClayTraps" 166 yX2_tied ∈ zAW := zq_t (List.mem_append_right _ (List.mem_append_left _ (List.mem_of_getElem? (l := tables_1_2) (i := 148) rfl)))
set_option maxRecDepth 20000 in
theorem q266 : Cond.methodLink "ClayTraps" 169 yX2_wouldWin ∈ zAW := zq_t (List.mem_append_right _ (List.mem_append_left _ (List.mem_of_getElem? (l := tables_1_2) (i := 149) rfl)))
set_option maxRecDepth 20000 in
theorem q267 : Cond.methodLink "ClayTraps" 172 yX2_leaderIn ∈ zAW := zq_t (List.mem_append_right _ (List.mem_append_left _ (List.mem_of_getElem? (l := tables_1_2) (i := 150) rfl)))
set_option maxRecDepth 20000 in
theorem q268 : Cond.methodLink "ClayTraps" 175 yX2_angle ∈ zAW := zq_t (List.mem_append_right _ (List.mem_append_left _ (List.mem_of_getElem? (l := tables_1_2) (i := 151) rfl)))
set_option maxRecDepth 20000 in
theorem q269 : Cond.methodLink "ClayTraps" 178 yX2_hardestClay ∈ zAW := zq_t (List.mem_append_right _ (List.mem_append_left _ (List.mem_of_getElem? (l := tables_1_2) (i := 152) rfl)))
set_option maxRecDepth 20000 in
theorem q270 : Cond.methodLink "ClayTraps" 181 yX2_standOf ∈ zAW := zq_t (List.mem_append_right _ (List.mem_append_left _ (List.mem_of_getElem? (l := tables_1_2) (i := 153) rfl)))
set_option maxRecDepth 20000 in
theorem q271 : Cond.methodLink "ClayTraps" 184 yX2_angleFor ∈ zAW := zq_t (List.mem_append_right _ (List.mem_append_left _ (List.mem_of_getElem? (l := tables_1_2) (i := 154) rfl)))
set_option maxRecDepth 20000 in
theorem q272 : Cond.methodLink "ClayTraps" 187 yX2_scoreOf ∈ zAW := zq_t (List.mem_append_right _ (List.mem_append_left _ (List.mem_of_getElem? (l := tables_1_2) (i := 155) rfl)))
set_option maxRecDepth 20000 in
theorem q273 : Cond.methodLink "ClayTraps" 190 yX2_firstsOf ∈ zAW := zq_t (List.mem_append_right _ (List.mem_append_left _ (List.mem_of_getElem? (l := tables_1_2) (i := 156) rfl)))
set_option maxRecDepth 20000 in
theorem q274 : Cond.code yX2_missesOf prog_1_method_15_code 2 (some .int) ∈ zAW := zq_t (List.mem_append_right _ (List.mem_append_left _ (List.mem_of_getElem? (l := tables_1_2) (i := 160) rfl)))
set_option maxRecDepth 20000 in
theorem q275 : Cond.methodLink "ClayTraps" 193 yX2_missesOf ∈ zAW := zq_t (List.mem_append_right _ (List.mem_append_left _ (List.mem_of_getElem? (l := tables_1_2) (i := 157) rfl)))
set_option maxRecDepth 20000 in
theorem q276 : Cond.instanceMethod yX2_missesOf ∈ zAW := zq_t (List.mem_append_right _ (List.mem_append_left _ (List.mem_of_getElem? (l := tables_1_2) (i := 158) rfl)))
set_option maxRecDepth 20000 in
theorem q277 : Cond.selects "ClayTraps" yX2_missesOf yX2_missesOf ∈ zAW := zq_t (List.mem_append_right _ (List.mem_append_left _ (List.mem_of_getElem? (l := tables_1_2) (i := 159) rfl)))
set_option maxRecDepth 20000 in
theorem q278 : Cond.methodLink "ClayTraps" 196 yX2_fatigueOf ∈ zAW := zq_t (List.mem_append_right _ (List.mem_append_left _ (List.mem_of_getElem? (l := tables_1_2) (i := 161) rfl)))
set_option maxRecDepth 20000 in
theorem q279 : Cond.methodLink "ClayTraps" 199 yX2_wouldHit ∈ zAW := zq_t (List.mem_append_right _ (List.mem_append_left _ (List.mem_of_getElem? (l := tables_1_2) (i := 162) rfl)))
set_option maxRecDepth 20000 in
theorem q280 : Cond.methodLink "ClayTraps" 202 yX2_rankOf ∈ zAW := zq_t (List.mem_append_right _ (List.mem_append_left _ (List.mem_of_getElem? (l := tables_1_2) (i := 163) rfl)))
set_option maxRecDepth 20000 in
theorem q281 : Cond.methodLink "ClayTraps" 205 yX2_turnsUntilMiss ∈ zAW := zq_t (List.mem_append_right _ (List.mem_append_left _ (List.mem_of_getElem? (l := tables_1_2) (i := 164) rfl)))
set_option maxRecDepth 20000 in
theorem q282 : Cond.methodLink "ClayTraps" 208 yX2_bestRest ∈ zAW := zq_t (List.mem_append_right _ (List.mem_append_left _ (List.mem_of_getElem? (l := tables_1_2) (i := 165) rfl)))
set_option maxRecDepth 20000 in
theorem q283 : Cond.code yX3_copy prog_5_method_3_code 3 (Option.some (.object "ClayTrapsLaw$Sim")) ∈ zAW := zq_t (List.mem_append_right _ (List.mem_append_left _ (List.mem_of_getElem? (l := tables_1_2) (i := 169) rfl)))
set_option maxRecDepth 20000 in
theorem q284 : Cond.methodLink "ClayTrapsLaw" 126 yX3_copy ∈ zAW := zq_t (List.mem_append_right _ (List.mem_append_left _ (List.mem_of_getElem? (l := tables_1_2) (i := 166) rfl)))
set_option maxRecDepth 20000 in
theorem q285 : Cond.instanceMethod yX3_copy ∈ zAW := zq_t (List.mem_append_right _ (List.mem_append_left _ (List.mem_of_getElem? (l := tables_1_2) (i := 167) rfl)))
set_option maxRecDepth 20000 in
theorem q286 : Cond.selects "ClayTrapsLaw$Sim" yX3_copy yX3_copy ∈ zAW := zq_t (List.mem_append_right _ (List.mem_append_left _ (List.mem_of_getElem? (l := tables_1_2) (i := 168) rfl)))
set_option maxRecDepth 20000 in
theorem q287 : Cond.initialized "ClayTrapsLaw$Sim" ∈ zAW := zq_t (List.mem_append_left _ (List.mem_of_getElem? (l := tables_1_1) (i := 4) rfl))
set_option maxRecDepth 20000 in
theorem q288 : Cond.code yX3_init prog_5_method_1_code 1 none ∈ zAW := zq_t (List.mem_append_right _ (List.mem_append_left _ (List.mem_of_getElem? (l := tables_1_2) (i := 174) rfl)))
set_option maxRecDepth 20000 in
theorem q289 : Cond.methodLink "ClayTrapsLaw$Sim" 18 yX3_init ∈ zAW := zq_t (List.mem_append_right _ (List.mem_append_left _ (List.mem_of_getElem? (l := tables_1_2) (i := 172) rfl)))
set_option maxRecDepth 20000 in
theorem q290 : Cond.instanceMethod yX3_init ∈ zAW := zq_t (List.mem_append_right _ (List.mem_append_left _ (List.mem_of_getElem? (l := tables_1_2) (i := 173) rfl)))
set_option maxRecDepth 20000 in
theorem q291 : Cond.methodLink "ClayTrapsLaw$Sim" 1 (⟨"java/lang/Object", "<init>", "()V"⟩ : MethodName) ∈ zAW := zq_t (List.mem_append_right _ (List.mem_append_left _ (List.mem_of_getElem? (l := tables_1_2) (i := 175) rfl)))
set_option maxRecDepth 20000 in
theorem q292 : Cond.methodLink "ClayTrapsLaw$Sim" 23 (⟨"[I", "clone", "()Ljava/lang/Object;"⟩ : MethodName) ∈ zAW := zq_t (List.mem_append_right _ (List.mem_append_left _ (List.mem_of_getElem? (l := tables_1_2) (i := 190) rfl)))
set_option maxRecDepth 20000 in
theorem q293 : Cond.code yX3_pass prog_5_method_8_code 6 (some .int) ∈ zAW := zq_t (List.mem_append_right _ (List.mem_append_left _ (List.mem_of_getElem? (l := tables_1_2) (i := 199) rfl)))
set_option maxRecDepth 20000 in
theorem q294 : Cond.methodLink "ClayTrapsLaw" 142 yX3_pass ∈ zAW := zq_t (List.mem_append_right _ (List.mem_append_left _ (List.mem_of_getElem? (l := tables_1_2) (i := 196) rfl)))
set_option maxRecDepth 20000 in
theorem q295 : Cond.instanceMethod yX3_pass ∈ zAW := zq_t (List.mem_append_right _ (List.mem_append_left _ (List.mem_of_getElem? (l := tables_1_2) (i := 197) rfl)))
set_option maxRecDepth 20000 in
theorem q296 : Cond.selects "ClayTrapsLaw$Sim" yX3_pass yX3_pass ∈ zAW := zq_t (List.mem_append_right _ (List.mem_append_left _ (List.mem_of_getElem? (l := tables_1_2) (i := 198) rfl)))
set_option maxRecDepth 20000 in
theorem q297 : Cond.code yX3_hit prog_5_method_7_code 4 (some .int) ∈ zAW := zq_t (List.mem_append_right _ (List.mem_append_left _ (List.mem_of_getElem? (l := tables_1_2) (i := 203) rfl)))
set_option maxRecDepth 20000 in
theorem q298 : Cond.methodLink "ClayTrapsLaw$Sim" 38 yX3_hit ∈ zAW := zq_t (List.mem_append_right _ (List.mem_append_left _ (List.mem_of_getElem? (l := tables_1_2) (i := 200) rfl)))
set_option maxRecDepth 20000 in
theorem q299 : Cond.instanceMethod yX3_hit ∈ zAW := zq_t (List.mem_append_right _ (List.mem_append_left _ (List.mem_of_getElem? (l := tables_1_2) (i := 201) rfl)))
set_option maxRecDepth 20000 in
theorem q300 : Cond.selects "ClayTrapsLaw$Sim" yX3_hit yX3_hit ∈ zAW := zq_t (List.mem_append_right _ (List.mem_append_left _ (List.mem_of_getElem? (l := tables_1_2) (i := 202) rfl)))
set_option maxRecDepth 20000 in
theorem q301 : Cond.code yX3_angleFor prog_5_method_5_code 2 (some .int) ∈ zAW := zq_t (List.mem_append_right _ (List.mem_append_left _ (List.mem_of_getElem? (l := tables_1_2) (i := 207) rfl)))
set_option maxRecDepth 20000 in
theorem q302 : Cond.methodLink "ClayTrapsLaw$Sim" 31 yX3_angleFor ∈ zAW := zq_t (List.mem_append_right _ (List.mem_append_left _ (List.mem_of_getElem? (l := tables_1_2) (i := 204) rfl)))
set_option maxRecDepth 20000 in
theorem q303 : Cond.instanceMethod yX3_angleFor ∈ zAW := zq_t (List.mem_append_right _ (List.mem_append_left _ (List.mem_of_getElem? (l := tables_1_2) (i := 205) rfl)))
set_option maxRecDepth 20000 in
theorem q304 : Cond.selects "ClayTrapsLaw$Sim" yX3_angleFor yX3_angleFor ∈ zAW := zq_t (List.mem_append_right _ (List.mem_append_left _ (List.mem_of_getElem? (l := tables_1_2) (i := 206) rfl)))
set_option maxRecDepth 20000 in
theorem q305 : Cond.code yX3_angle prog_5_method_4_code 4 (some .int) ∈ zAW := zq_t (List.mem_append_right _ (List.mem_append_left _ (List.mem_of_getElem? (l := tables_1_2) (i := 211) rfl)))
set_option maxRecDepth 20000 in
theorem q306 : Cond.methodLink "ClayTrapsLaw$Sim" 27 yX3_angle ∈ zAW := zq_t (List.mem_append_right _ (List.mem_append_left _ (List.mem_of_getElem? (l := tables_1_2) (i := 208) rfl)))
set_option maxRecDepth 20000 in
theorem q307 : Cond.instanceMethod yX3_angle ∈ zAW := zq_t (List.mem_append_right _ (List.mem_append_left _ (List.mem_of_getElem? (l := tables_1_2) (i := 209) rfl)))
set_option maxRecDepth 20000 in
theorem q308 : Cond.selects "ClayTrapsLaw$Sim" yX3_angle yX3_angle ∈ zAW := zq_t (List.mem_append_right _ (List.mem_append_left _ (List.mem_of_getElem? (l := tables_1_2) (i := 210) rfl)))
set_option maxRecDepth 20000 in
theorem q309 : Cond.code yX3_amount prog_5_method_6_code 1 (some .int) ∈ zAW := zq_t (List.mem_append_right _ (List.mem_append_left _ (List.mem_of_getElem? (l := tables_1_2) (i := 214) rfl)))
set_option maxRecDepth 20000 in
theorem q310 : Cond.methodLink "ClayTrapsLaw$Sim" 35 yX3_amount ∈ zAW := zq_t (List.mem_append_right _ (List.mem_append_left _ (List.mem_of_getElem? (l := tables_1_2) (i := 212) rfl)))
set_option maxRecDepth 20000 in
theorem q311 : Cond.static yX3_amount ∈ zAW := zq_t (List.mem_append_right _ (List.mem_append_left _ (List.mem_of_getElem? (l := tables_1_2) (i := 213) rfl)))
set_option maxRecDepth 20000 in
theorem q312 : Cond.code yX3_pass_ prog_5_method_9_code 4 (some .int) ∈ zAW := zq_t (List.mem_append_right _ (List.mem_append_left _ (List.mem_of_getElem? (l := tables_1_2) (i := 218) rfl)))
set_option maxRecDepth 20000 in
theorem q313 : Cond.methodLink "ClayTrapsLaw" 53 yX3_pass_ ∈ zAW := zq_t (List.mem_append_right _ (List.mem_append_left _ (List.mem_of_getElem? (l := tables_1_2) (i := 215) rfl)))
set_option maxRecDepth 20000 in
theorem q314 : Cond.instanceMethod yX3_pass_ ∈ zAW := zq_t (List.mem_append_right _ (List.mem_append_left _ (List.mem_of_getElem? (l := tables_1_2) (i := 216) rfl)))
set_option maxRecDepth 20000 in
theorem q315 : Cond.selects "ClayTrapsLaw$Sim" yX3_pass_ yX3_pass_ ∈ zAW := zq_t (List.mem_append_right _ (List.mem_append_left _ (List.mem_of_getElem? (l := tables_1_2) (i := 217) rfl)))
set_option maxRecDepth 20000 in
theorem q316 : Cond.methodLink "ClayTrapsLaw$Sim" 41 yX3_pass ∈ zAW := zq_t (List.mem_append_right _ (List.mem_append_left _ (List.mem_of_getElem? (l := tables_1_2) (i := 219) rfl)))
set_option maxRecDepth 20000 in
theorem q317 : Cond.code yX3_isSame prog_5_method_12_code 11 (some .boolean) ∈ zAW := zq_t (List.mem_append_right _ (List.mem_append_left _ (List.mem_of_getElem? (l := tables_1_2) (i := 223) rfl)))
set_option maxRecDepth 20000 in
theorem q318 : Cond.methodLink "ClayTrapsLaw" 144 yX3_isSame ∈ zAW := zq_t (List.mem_append_right _ (List.mem_append_left _ (List.mem_of_getElem? (l := tables_1_2) (i := 220) rfl)))
set_option maxRecDepth 20000 in
theorem q319 : Cond.instanceMethod yX3_isSame ∈ zAW := zq_t (List.mem_append_right _ (List.mem_append_left _ (List.mem_of_getElem? (l := tables_1_2) (i := 221) rfl)))
set_option maxRecDepth 20000 in
theorem q320 : Cond.selects "ClayTrapsLaw$Sim" yX3_isSame yX3_isSame ∈ zAW := zq_t (List.mem_append_right _ (List.mem_append_left _ (List.mem_of_getElem? (l := tables_1_2) (i := 222) rfl)))
set_option maxRecDepth 20000 in
theorem q321 : Cond.methodLink "ClayTrapsLaw$Sim" 48 yX2_angle ∈ zAW := zq_t (List.mem_append_right _ (List.mem_append_left _ (List.mem_of_getElem? (l := tables_1_2) (i := 224) rfl)))
set_option maxRecDepth 20000 in
theorem q322 : Cond.methodLink "ClayTrapsLaw$Sim" 51 yX2_hardestClay ∈ zAW := zq_t (List.mem_append_right _ (List.mem_append_left _ (List.mem_of_getElem? (l := tables_1_2) (i := 225) rfl)))
set_option maxRecDepth 20000 in
theorem q323 : Cond.methodLink "ClayTrapsLaw$Sim" 54 yX2_standOf ∈ zAW := zq_t (List.mem_append_right _ (List.mem_append_left _ (List.mem_of_getElem? (l := tables_1_2) (i := 226) rfl)))
set_option maxRecDepth 20000 in
theorem q324 : Cond.methodLink "ClayTrapsLaw$Sim" 57 yX2_angleFor ∈ zAW := zq_t (List.mem_append_right _ (List.mem_append_left _ (List.mem_of_getElem? (l := tables_1_2) (i := 227) rfl)))
set_option maxRecDepth 20000 in
theorem q325 : Cond.methodLink "ClayTrapsLaw$Sim" 58 yX2_scoreOf ∈ zAW := zq_t (List.mem_append_right _ (List.mem_append_left _ (List.mem_of_getElem? (l := tables_1_2) (i := 228) rfl)))
set_option maxRecDepth 20000 in
theorem q326 : Cond.methodLink "ClayTrapsLaw$Sim" 61 yX2_firstsOf ∈ zAW := zq_t (List.mem_append_right _ (List.mem_append_left _ (List.mem_of_getElem? (l := tables_1_2) (i := 229) rfl)))
set_option maxRecDepth 20000 in
theorem q327 : Cond.methodLink "ClayTrapsLaw$Sim" 64 yX2_missesOf ∈ zAW := zq_t (List.mem_append_right _ (List.mem_append_left _ (List.mem_of_getElem? (l := tables_1_2) (i := 230) rfl)))
set_option maxRecDepth 20000 in
theorem q328 : Cond.methodLink "ClayTrapsLaw$Sim" 67 yX2_fatigueOf ∈ zAW := zq_t (List.mem_append_right _ (List.mem_append_left _ (List.mem_of_getElem? (l := tables_1_2) (i := 231) rfl)))
set_option maxRecDepth 20000 in
theorem q329 : Cond.methodLink "ClayTrapsLaw$Sim" 70 yX2_wouldHit ∈ zAW := zq_t (List.mem_append_right _ (List.mem_append_left _ (List.mem_of_getElem? (l := tables_1_2) (i := 232) rfl)))
set_option maxRecDepth 20000 in
theorem q330 : Cond.methodLink "ClayTrapsLaw$Sim" 73 yX2_rankOf ∈ zAW := zq_t (List.mem_append_right _ (List.mem_append_left _ (List.mem_of_getElem? (l := tables_1_2) (i := 233) rfl)))
set_option maxRecDepth 20000 in
theorem q331 : Cond.methodLink "ClayTrapsLaw$Sim" 76 yX2_turn ∈ zAW := zq_t (List.mem_append_right _ (List.mem_append_left _ (List.mem_of_getElem? (l := tables_1_2) (i := 234) rfl)))
set_option maxRecDepth 20000 in
theorem q332 : Cond.methodLink "ClayTrapsLaw$Sim" 78 yX2_guns ∈ zAW := zq_t (List.mem_append_right _ (List.mem_append_left _ (List.mem_of_getElem? (l := tables_1_2) (i := 235) rfl)))
set_option maxRecDepth 20000 in
theorem q333 : Cond.methodLink "ClayTrapsLaw$Sim" 80 yX2_leader ∈ zAW := zq_t (List.mem_append_right _ (List.mem_append_left _ (List.mem_of_getElem? (l := tables_1_2) (i := 236) rfl)))
set_option maxRecDepth 20000 in
theorem q334 : Cond.code yX3_leader prog_5_method_10_code 3 (some .int) ∈ zAW := zq_t (List.mem_append_right _ (List.mem_append_right _ (List.mem_of_getElem? (l := tables_1_3) (i := 0) rfl)))
set_option maxRecDepth 20000 in
theorem q335 : Cond.methodLink "ClayTrapsLaw$Sim" 45 yX3_leader ∈ zAW := zq_t (List.mem_append_right _ (List.mem_append_left _ (List.mem_of_getElem? (l := tables_1_2) (i := 237) rfl)))
set_option maxRecDepth 20000 in
theorem q336 : Cond.instanceMethod yX3_leader ∈ zAW := zq_t (List.mem_append_right _ (List.mem_append_left _ (List.mem_of_getElem? (l := tables_1_2) (i := 238) rfl)))
set_option maxRecDepth 20000 in
theorem q337 : Cond.selects "ClayTrapsLaw$Sim" yX3_leader yX3_leader ∈ zAW := zq_t (List.mem_append_right _ (List.mem_append_left _ (List.mem_of_getElem? (l := tables_1_2) (i := 239) rfl)))
set_option maxRecDepth 20000 in
theorem q338 : Cond.methodLink "ClayTrapsLaw$Sim" 81 yX2_tied ∈ zAW := zq_t (List.mem_append_right _ (List.mem_append_right _ (List.mem_of_getElem? (l := tables_1_3) (i := 1) rfl)))
set_option maxRecDepth 20000 in
theorem q339 : Cond.code yX2_meanScore prog_1_method_27_code 1 (some .double) ∈ zAW := zq_t (List.mem_append_right _ (List.mem_append_right _ (List.mem_of_getElem? (l := tables_1_3) (i := 5) rfl)))
set_option maxRecDepth 20000 in
theorem q340 : Cond.methodLink "ClayTrapsLaw$Sim" 84 yX2_meanScore ∈ zAW := zq_t (List.mem_append_right _ (List.mem_append_right _ (List.mem_of_getElem? (l := tables_1_3) (i := 2) rfl)))
set_option maxRecDepth 20000 in
theorem q341 : Cond.instanceMethod yX2_meanScore ∈ zAW := zq_t (List.mem_append_right _ (List.mem_append_right _ (List.mem_of_getElem? (l := tables_1_3) (i := 3) rfl)))
set_option maxRecDepth 20000 in
theorem q342 : Cond.selects "ClayTraps" yX2_meanScore yX2_meanScore ∈ zAW := zq_t (List.mem_append_right _ (List.mem_append_right _ (List.mem_of_getElem? (l := tables_1_3) (i := 4) rfl)))
set_option maxRecDepth 20000 in
theorem q343 : Cond.code yX0_totalScore prog_2_method_12_code 3 (some .int) ∈ zAW := zq_t (List.mem_append_right _ (List.mem_append_right _ (List.mem_of_getElem? (l := tables_1_3) (i := 9) rfl)))
set_option maxRecDepth 20000 in
theorem q344 : Cond.methodLink "ClayTraps" 149 yX0_totalScore ∈ zAW := zq_t (List.mem_append_right _ (List.mem_append_right _ (List.mem_of_getElem? (l := tables_1_3) (i := 6) rfl)))
set_option maxRecDepth 20000 in
theorem q345 : Cond.instanceMethod yX0_totalScore ∈ zAW := zq_t (List.mem_append_right _ (List.mem_append_right _ (List.mem_of_getElem? (l := tables_1_3) (i := 7) rfl)))
set_option maxRecDepth 20000 in
theorem q346 : Cond.selects "ClayTraps$Squad" yX0_totalScore yX0_totalScore ∈ zAW := zq_t (List.mem_append_right _ (List.mem_append_right _ (List.mem_of_getElem? (l := tables_1_3) (i := 8) rfl)))
set_option maxRecDepth 20000 in
theorem q347 : Cond.code yL_below method_2_code 2 (some .int) ∈ zAW := zq_t (List.mem_append_right _ (List.mem_append_right _ (List.mem_of_getElem? (l := tables_1_3) (i := 12) rfl)))
set_option maxRecDepth 20000 in
theorem q348 : Cond.methodLink "ClayTrapsLaw" 15 yL_below ∈ zAW := zq_t (List.mem_append_right _ (List.mem_append_right _ (List.mem_of_getElem? (l := tables_1_3) (i := 10) rfl)))
set_option maxRecDepth 20000 in
theorem q349 : Cond.static yL_below ∈ zAW := zq_t (List.mem_append_right _ (List.mem_append_right _ (List.mem_of_getElem? (l := tables_1_3) (i := 11) rfl)))
set_option maxRecDepth 20000 in
theorem q350 : Cond.initialized "ClayTrapsLaw" ∈ zAW := zq_t (List.mem_append_left _ (List.mem_of_getElem? (l := tables_1_1) (i := 0) rfl))
set_option maxRecDepth 20000 in
theorem q351 : Cond.code yL_cell method_3_code 2 (some .int) ∈ zAW := zq_t (List.mem_append_right _ (List.mem_append_right _ (List.mem_of_getElem? (l := tables_1_3) (i := 16) rfl)))
set_option maxRecDepth 20000 in
theorem q352 : Cond.methodLink "ClayTrapsLaw" 57 yL_cell ∈ zAW := zq_t (List.mem_append_right _ (List.mem_append_right _ (List.mem_of_getElem? (l := tables_1_3) (i := 14) rfl)))
set_option maxRecDepth 20000 in
theorem q353 : Cond.static yL_cell ∈ zAW := zq_t (List.mem_append_right _ (List.mem_append_right _ (List.mem_of_getElem? (l := tables_1_3) (i := 15) rfl)))
set_option maxRecDepth 20000 in
theorem q354 : Cond.codeWith yL_act method_4_code 9 (some .boolean) [(26, 161, 406, 54), (162, 284, 406, 54), (285, 322, 406, 54), (323, 356, 406, 54), (357, 405, 406, 54)] ∈ zAW := zq_t (List.mem_append_right _ (List.mem_append_right _ (List.mem_of_getElem? (l := tables_1_3) (i := 20) rfl)))
set_option maxRecDepth 20000 in
theorem q355 : Cond.methodLink "ClayTrapsLaw" 61 yL_act ∈ zAW := zq_t (List.mem_append_right _ (List.mem_append_right _ (List.mem_of_getElem? (l := tables_1_3) (i := 18) rfl)))
set_option maxRecDepth 20000 in
theorem q356 : Cond.static yL_act ∈ zAW := zq_t (List.mem_append_right _ (List.mem_append_right _ (List.mem_of_getElem? (l := tables_1_3) (i := 19) rfl)))
set_option maxRecDepth 20000 in
theorem q357 : Cond.code yX3_add prog_5_method_2_code 5 none ∈ zAW := zq_t (List.mem_append_right _ (List.mem_append_right _ (List.mem_of_getElem? (l := tables_1_3) (i := 25) rfl)))
set_option maxRecDepth 20000 in
theorem q358 : Cond.methodLink "ClayTrapsLaw" 21 yX3_add ∈ zAW := zq_t (List.mem_append_right _ (List.mem_append_right _ (List.mem_of_getElem? (l := tables_1_3) (i := 22) rfl)))
set_option maxRecDepth 20000 in
theorem q359 : Cond.instanceMethod yX3_add ∈ zAW := zq_t (List.mem_append_right _ (List.mem_append_right _ (List.mem_of_getElem? (l := tables_1_3) (i := 23) rfl)))
set_option maxRecDepth 20000 in
theorem q360 : Cond.selects "ClayTrapsLaw$Sim" yX3_add yX3_add ∈ zAW := zq_t (List.mem_append_right _ (List.mem_append_right _ (List.mem_of_getElem? (l := tables_1_3) (i := 24) rfl)))
set_option maxRecDepth 20000 in
theorem q361 : Cond.code yX2_addGun prog_1_method_2_code 3 (some .int) ∈ zAW := zq_t (List.mem_append_right _ (List.mem_append_right _ (List.mem_of_getElem? (l := tables_1_3) (i := 29) rfl)))
set_option maxRecDepth 20000 in
theorem q362 : Cond.methodLink "ClayTrapsLaw" 25 yX2_addGun ∈ zAW := zq_t (List.mem_append_right _ (List.mem_append_right _ (List.mem_of_getElem? (l := tables_1_3) (i := 26) rfl)))
set_option maxRecDepth 20000 in
theorem q363 : Cond.instanceMethod yX2_addGun ∈ zAW := zq_t (List.mem_append_right _ (List.mem_append_right _ (List.mem_of_getElem? (l := tables_1_3) (i := 27) rfl)))
set_option maxRecDepth 20000 in
theorem q364 : Cond.selects "ClayTraps" yX2_addGun yX2_addGun ∈ zAW := zq_t (List.mem_append_right _ (List.mem_append_right _ (List.mem_of_getElem? (l := tables_1_3) (i := 28) rfl)))
set_option maxRecDepth 20000 in
theorem q365 : Cond.methodLink "ClayTraps" 43 (⟨"java/lang/IllegalStateException", "<init>", "(Ljava/lang/String;)V"⟩ : MethodName) ∈ zAW := zq_t (List.mem_append_right _ (List.mem_append_right _ (List.mem_of_getElem? (l := tables_1_3) (i := 42) rfl)))
set_option maxRecDepth 20000 in
theorem q366 : Cond.code yX0_enter prog_2_method_2_code 4 (some .int) ∈ zAW := zq_t (List.mem_append_right _ (List.mem_append_right _ (List.mem_of_getElem? (l := tables_1_3) (i := 51) rfl)))
set_option maxRecDepth 20000 in
theorem q367 : Cond.methodLink "ClayTraps" 44 yX0_enter ∈ zAW := zq_t (List.mem_append_right _ (List.mem_append_right _ (List.mem_of_getElem? (l := tables_1_3) (i := 48) rfl)))
set_option maxRecDepth 20000 in
theorem q368 : Cond.instanceMethod yX0_enter ∈ zAW := zq_t (List.mem_append_right _ (List.mem_append_right _ (List.mem_of_getElem? (l := tables_1_3) (i := 49) rfl)))
set_option maxRecDepth 20000 in
theorem q369 : Cond.selects "ClayTraps$Squad" yX0_enter yX0_enter ∈ zAW := zq_t (List.mem_append_right _ (List.mem_append_right _ (List.mem_of_getElem? (l := tables_1_3) (i := 50) rfl)))
set_option maxRecDepth 20000 in
theorem q370 : Cond.code yX2_setTrap prog_1_method_3_code 5 (some .int) ∈ zAW := zq_t (List.mem_append_right _ (List.mem_append_right _ (List.mem_of_getElem? (l := tables_1_3) (i := 56) rfl)))
set_option maxRecDepth 20000 in
theorem q371 : Cond.methodLink "ClayTrapsLaw" 35 yX2_setTrap ∈ zAW := zq_t (List.mem_append_right _ (List.mem_append_right _ (List.mem_of_getElem? (l := tables_1_3) (i := 53) rfl)))
set_option maxRecDepth 20000 in
theorem q372 : Cond.instanceMethod yX2_setTrap ∈ zAW := zq_t (List.mem_append_right _ (List.mem_append_right _ (List.mem_of_getElem? (l := tables_1_3) (i := 54) rfl)))
set_option maxRecDepth 20000 in
theorem q373 : Cond.selects "ClayTraps" yX2_setTrap yX2_setTrap ∈ zAW := zq_t (List.mem_append_right _ (List.mem_append_right _ (List.mem_of_getElem? (l := tables_1_3) (i := 55) rfl)))
set_option maxRecDepth 20000 in
theorem q374 : Cond.code yX2_rest prog_1_method_4_code 3 (some .int) ∈ zAW := zq_t (List.mem_append_right _ (List.mem_append_right _ (List.mem_of_getElem? (l := tables_1_3) (i := 62) rfl)))
set_option maxRecDepth 20000 in
theorem q375 : Cond.methodLink "ClayTrapsLaw" 39 yX2_rest ∈ zAW := zq_t (List.mem_append_right _ (List.mem_append_right _ (List.mem_of_getElem? (l := tables_1_3) (i := 59) rfl)))
set_option maxRecDepth 20000 in
theorem q376 : Cond.instanceMethod yX2_rest ∈ zAW := zq_t (List.mem_append_right _ (List.mem_append_right _ (List.mem_of_getElem? (l := tables_1_3) (i := 60) rfl)))
set_option maxRecDepth 20000 in
theorem q377 : Cond.selects "ClayTraps" yX2_rest yX2_rest ∈ zAW := zq_t (List.mem_append_right _ (List.mem_append_right _ (List.mem_of_getElem? (l := tables_1_3) (i := 61) rfl)))
set_option maxRecDepth 20000 in
theorem q378 : Cond.code yX3_win prog_5_method_11_code 7 (some .int) ∈ zAW := zq_t (List.mem_append_right _ (List.mem_append_right _ (List.mem_of_getElem? (l := tables_1_3) (i := 66) rfl)))
set_option maxRecDepth 20000 in
theorem q379 : Cond.methodLink "ClayTrapsLaw" 43 yX3_win ∈ zAW := zq_t (List.mem_append_right _ (List.mem_append_right _ (List.mem_of_getElem? (l := tables_1_3) (i := 63) rfl)))
set_option maxRecDepth 20000 in
theorem q380 : Cond.instanceMethod yX3_win ∈ zAW := zq_t (List.mem_append_right _ (List.mem_append_right _ (List.mem_of_getElem? (l := tables_1_3) (i := 64) rfl)))
set_option maxRecDepth 20000 in
theorem q381 : Cond.selects "ClayTrapsLaw$Sim" yX3_win yX3_win ∈ zAW := zq_t (List.mem_append_right _ (List.mem_append_right _ (List.mem_of_getElem? (l := tables_1_3) (i := 65) rfl)))
set_option maxRecDepth 20000 in
theorem q382 : Cond.code yX2_shootOff prog_1_method_6_code 1 (some .int) ∈ zAW := zq_t (List.mem_append_right _ (List.mem_append_right _ (List.mem_of_getElem? (l := tables_1_3) (i := 70) rfl)))
set_option maxRecDepth 20000 in
theorem q383 : Cond.methodLink "ClayTrapsLaw" 47 yX2_shootOff ∈ zAW := zq_t (List.mem_append_right _ (List.mem_append_right _ (List.mem_of_getElem? (l := tables_1_3) (i := 67) rfl)))
set_option maxRecDepth 20000 in
theorem q384 : Cond.instanceMethod yX2_shootOff ∈ zAW := zq_t (List.mem_append_right _ (List.mem_append_right _ (List.mem_of_getElem? (l := tables_1_3) (i := 68) rfl)))
set_option maxRecDepth 20000 in
theorem q385 : Cond.selects "ClayTraps" yX2_shootOff yX2_shootOff ∈ zAW := zq_t (List.mem_append_right _ (List.mem_append_right _ (List.mem_of_getElem? (l := tables_1_3) (i := 69) rfl)))
set_option maxRecDepth 20000 in
theorem q386 : Cond.code yL_build method_5_code 6 (Option.some (.object "ClayTrapsLaw$Sim")) ∈ zAW := zq_t (List.mem_append_right _ (List.mem_append_right _ (List.mem_of_getElem? (l := tables_1_3) (i := 74) rfl)))
set_option maxRecDepth 20000 in
theorem q387 : Cond.methodLink "ClayTrapsLaw" 66 yL_build ∈ zAW := zq_t (List.mem_append_right _ (List.mem_append_right _ (List.mem_of_getElem? (l := tables_1_3) (i := 72) rfl)))
set_option maxRecDepth 20000 in
theorem q388 : Cond.static yL_build ∈ zAW := zq_t (List.mem_append_right _ (List.mem_append_right _ (List.mem_of_getElem? (l := tables_1_3) (i := 73) rfl)))
set_option maxRecDepth 20000 in
theorem q389 : Cond.methodLink "ClayTrapsLaw" 79 yJ9_abs_0f7a4 ∈ zAW := zq_t (List.mem_append_right _ (List.mem_append_right _ (List.mem_of_getElem? (l := tables_1_3) (i := 77) rfl)))
set_option maxRecDepth 20000 in
theorem q390 : Cond.methodLink "ClayTrapsLaw" 84 yJ9_max_7cf53 ∈ zAW := zq_t (List.mem_append_right _ (List.mem_append_right _ (List.mem_of_getElem? (l := tables_1_3) (i := 78) rfl)))
set_option maxRecDepth 20000 in
theorem q391 : Cond.initialized "java/lang/Throwable" ∈ zAW := zq_t (List.mem_append_left _ (List.mem_of_getElem? (l := tables_1_1) (i := 5) rfl))
set_option maxRecDepth 20000 in
theorem q392 : Cond.initialized "java/lang/Exception" ∈ zAW := zq_t (List.mem_append_left _ (List.mem_of_getElem? (l := tables_1_1) (i := 6) rfl))
set_option maxRecDepth 20000 in
theorem q393 : Cond.initialized "java/lang/RuntimeException" ∈ zAW := zq_t (List.mem_append_left _ (List.mem_of_getElem? (l := tables_1_1) (i := 7) rfl))
set_option maxRecDepth 20000 in
theorem q394 : Cond.initialized "java/lang/IllegalArgumentException" ∈ zAW := zq_t (List.mem_append_left _ (List.mem_of_getElem? (l := tables_1_1) (i := 8) rfl))
set_option maxRecDepth 20000 in
theorem q395 : Cond.initialized "java/lang/IllegalStateException" ∈ zAW := zq_t (List.mem_append_left _ (List.mem_of_getElem? (l := tables_1_1) (i := 9) rfl))
set_option maxRecDepth 20000 in
theorem q396 : Cond.initialized "java/lang/IndexOutOfBoundsException" ∈ zAW := zq_t (List.mem_append_left _ (List.mem_of_getElem? (l := tables_1_1) (i := 10) rfl))
set_option maxRecDepth 20000 in
theorem q397 : Cond.classLink "ClayTrapsLaw" 26 "ClayTraps" ∈ zAW := zq_t (List.mem_append_left _ (List.mem_of_getElem? (l := tables_1_1) (i := 12) rfl))
set_option maxRecDepth 20000 in
theorem q398 : Cond.instantiable "ClayTraps" 4 ∈ zAW := zq_t (List.mem_append_left _ (List.mem_of_getElem? (l := tables_1_1) (i := 13) rfl))
set_option maxRecDepth 20000 in
theorem q399 : Cond.classLink "ClayTraps" 7 "ClayTraps$Traps" ∈ zAW := zq_t (List.mem_append_left _ (List.mem_of_getElem? (l := tables_1_1) (i := 20) rfl))
set_option maxRecDepth 20000 in
theorem q400 : Cond.instantiable "ClayTraps$Traps" 2 ∈ zAW := zq_t (List.mem_append_left _ (List.mem_of_getElem? (l := tables_1_1) (i := 21) rfl))
set_option maxRecDepth 20000 in
theorem q401 : Cond.arrayClass .int ∈ zAW := zq_t (List.mem_append_left _ (List.mem_of_getElem? (l := tables_1_1) (i := 35) rfl))
set_option maxRecDepth 20000 in
theorem q402 : Cond.classLink "ClayTraps" 16 "ClayTraps$Squad" ∈ zAW := zq_t (List.mem_append_left _ (List.mem_of_getElem? (l := tables_1_1) (i := 36) rfl))
set_option maxRecDepth 20000 in
theorem q403 : Cond.instantiable "ClayTraps$Squad" 9 ∈ zAW := zq_t (List.mem_append_left _ (List.mem_of_getElem? (l := tables_1_1) (i := 37) rfl))
set_option maxRecDepth 20000 in
theorem q404 : Cond.arrayClass .boolean ∈ zAW := zq_t (List.mem_append_left _ (List.mem_of_getElem? (l := tables_1_1) (i := 76) rfl))
set_option maxRecDepth 20000 in
theorem q405 : Cond.classLink "ClayTraps" 26 "java/lang/IllegalArgumentException" ∈ zAW := zq_t (List.mem_append_left _ (List.mem_of_getElem? (l := tables_1_1) (i := 97) rfl))
set_option maxRecDepth 20000 in
theorem q406 : Cond.instantiable "java/lang/IllegalArgumentException" 6 ∈ zAW := zq_t (List.mem_append_left _ (List.mem_of_getElem? (l := tables_1_1) (i := 98) rfl))
set_option maxRecDepth 20000 in
theorem q407 : Cond.instantiable "java/lang/Throwable" 6 ∈ zAW := zq_t (List.mem_append_left _ (List.mem_of_getElem? (l := tables_1_1) (i := 136) rfl))
set_option maxRecDepth 20000 in
theorem q408 : Cond.arrayClass .byte ∈ zAW := zq_t (List.mem_append_left _ (List.mem_of_getElem? (l := tables_1_1) (i := 164) rfl))
set_option maxRecDepth 20000 in
theorem q409 : Cond.classLink "ClayTraps" 85 "java/lang/IndexOutOfBoundsException" ∈ zAW := zq_t (List.mem_append_left _ (List.mem_of_getElem? (l := tables_1_1) (i := 224) rfl))
set_option maxRecDepth 20000 in
theorem q410 : Cond.instantiable "java/lang/IndexOutOfBoundsException" 6 ∈ zAW := zq_t (List.mem_append_left _ (List.mem_of_getElem? (l := tables_1_1) (i := 225) rfl))
set_option maxRecDepth 20000 in
theorem q411 : Cond.classLink "ClayTrapsLaw$Sim" 10 "ClayTrapsLaw$Sim" ∈ zAW := zq_t (List.mem_append_right _ (List.mem_append_left _ (List.mem_of_getElem? (l := tables_1_2) (i := 170) rfl)))
set_option maxRecDepth 20000 in
theorem q412 : Cond.instantiable "ClayTrapsLaw$Sim" 3 ∈ zAW := zq_t (List.mem_append_right _ (List.mem_append_left _ (List.mem_of_getElem? (l := tables_1_2) (i := 171) rfl)))
set_option maxRecDepth 20000 in
theorem q413 : Cond.classLink "ClayTrapsLaw$Sim" 7 "[I" ∈ zAW := zq_t (List.mem_append_right _ (List.mem_append_left _ (List.mem_of_getElem? (l := tables_1_2) (i := 176) rfl)))
set_option maxRecDepth 20000 in
theorem q414 : Cond.classLink "ClayTrapsLaw" 54 "java/lang/IllegalStateException" ∈ zAW := zq_t (List.mem_append_right _ (List.mem_append_right _ (List.mem_of_getElem? (l := tables_1_3) (i := 21) rfl)))
set_option maxRecDepth 20000 in
theorem q415 : Cond.classLink "ClayTraps" 39 "java/lang/IllegalStateException" ∈ zAW := zq_t (List.mem_append_right _ (List.mem_append_right _ (List.mem_of_getElem? (l := tables_1_3) (i := 32) rfl)))
set_option maxRecDepth 20000 in
theorem q416 : Cond.instantiable "java/lang/IllegalStateException" 6 ∈ zAW := zq_t (List.mem_append_right _ (List.mem_append_right _ (List.mem_of_getElem? (l := tables_1_3) (i := 33) rfl)))
set_option maxRecDepth 20000 in
theorem q417 : Cond.classLink "ClayTrapsLaw" 30 "[I" ∈ zAW := zq_t (List.mem_append_right _ (List.mem_append_right _ (List.mem_of_getElem? (l := tables_1_3) (i := 52) rfl)))
set_option maxRecDepth 20000 in
theorem q418 : Cond.classLink "ClayTrapsLaw" 10 "ClayTrapsLaw$Sim" ∈ zAW := zq_t (List.mem_append_right _ (List.mem_append_right _ (List.mem_of_getElem? (l := tables_1_3) (i := 75) rfl)))
set_option maxRecDepth 20000 in
theorem q419 : Cond.static yJ9_abs_0f7a4 ∈ zAW := zq_t (List.mem_append_left _ (List.mem_of_getElem? (l := tables_1_1) (i := 195) rfl))
set_option maxRecDepth 20000 in
theorem q420 : Cond.static yJ9_max_7cf53 ∈ zAW := zq_t (List.mem_append_left _ (List.mem_of_getElem? (l := tables_1_1) (i := 211) rfl))
set_option maxRecDepth 20000 in
theorem q421 : Cond.code yJ9_abs_0f7a4 prog_12_method_59_code 1 (some .int) ∈ zAW := zq_t (List.mem_append_left _ (List.mem_of_getElem? (l := tables_1_1) (i := 196) rfl))
set_option maxRecDepth 20000 in
theorem q422 : Cond.code yJ9_max_7cf53 prog_12_method_65_code 2 (some .int) ∈ zAW := zq_t (List.mem_append_left _ (List.mem_of_getElem? (l := tables_1_1) (i := 212) rfl))
set_option maxRecDepth 20000 in
theorem q423 : Cond.instanceMethod (⟨"java/lang/Object", "<init>", "()V"⟩ : MethodName) ∈ zAW := zq_t (List.mem_append_left _ (List.mem_of_getElem? (l := tables_1_1) (i := 18) rfl))
set_option maxRecDepth 20000 in
theorem q424 : Cond.code (⟨"java/lang/Object", "<init>", "()V"⟩ : MethodName) object_method_1_code 1 none ∈ zAW := zq_t (List.mem_append_left _ (List.mem_of_getElem? (l := tables_1_1) (i := 19) rfl))
set_option maxRecDepth 20000 in
theorem q425 : Cond.constantLong "ClayTraps" 152 (2137 : Int64) ∈ zAW := zq_t (List.mem_append_right _ (List.mem_append_left _ (List.mem_of_getElem? (l := tables_1_2) (i := 140) rfl)))
set_option maxRecDepth 20000 in
theorem q426 : Cond.constantLong "ClayTraps" 220 (31 : Int64) ∈ zAW := zq_t (List.mem_append_right _ (List.mem_append_left _ (List.mem_of_getElem? (l := tables_1_2) (i := 145) rfl)))
set_option maxRecDepth 20000 in
theorem q427 : Cond.constant "ClayTrapsLaw" 7 (2147483647 : Int32) ∈ zAW := zq_t (List.mem_append_right _ (List.mem_append_right _ (List.mem_of_getElem? (l := tables_1_3) (i := 13) rfl)))
set_option maxRecDepth 20000 in
theorem q428 : Cond.constant "ClayTrapsLaw" 8 (790386105 : Int32) ∈ zAW := zq_t (List.mem_append_right _ (List.mem_append_right _ (List.mem_of_getElem? (l := tables_1_3) (i := 17) rfl)))
set_option maxRecDepth 20000 in
theorem q429 : Cond.sameMethod "[I" "java/lang/Object" "clone" "()Ljava/lang/Object;" ∈ zAW := zq_t (List.mem_append_right _ (List.mem_append_left _ (List.mem_of_getElem? (l := tables_1_2) (i := 191) rfl)))
set_option maxRecDepth 20000 in
theorem q430 : Cond.native (⟨"java/lang/Object", "clone", "()Ljava/lang/Object;"⟩ : MethodName) ∈ zAW := zq_t (List.mem_append_right _ (List.mem_append_left _ (List.mem_of_getElem? (l := tables_1_2) (i := 192) rfl)))
set_option maxRecDepth 20000 in
theorem q431 : Cond.instanceMethod (⟨"java/lang/Object", "clone", "()Ljava/lang/Object;"⟩ : MethodName) ∈ zAW := zq_t (List.mem_append_right _ (List.mem_append_left _ (List.mem_of_getElem? (l := tables_1_2) (i := 193) rfl)))
set_option maxRecDepth 20000 in
theorem q432 : Cond.selects "[I" (⟨"[I", "clone", "()Ljava/lang/Object;"⟩ : MethodName) (⟨"java/lang/Object", "clone", "()Ljava/lang/Object;"⟩ : MethodName) ∈ zAW := zq_t (List.mem_append_right _ (List.mem_append_left _ (List.mem_of_getElem? (l := tables_1_2) (i := 194) rfl)))
theorem inX0 : ∀ w ∈ u_ws RX0 TX0 9, w ∈ zAW := by
  intro w hw
  obtain ⟨k, hk, rfl⟩ := List.mem_map.mp hw
  match k, List.mem_range.mp hk with
  | 0, _ => exact q0
  | 1, _ => exact q1
  | 2, _ => exact q2
  | 3, _ => exact q3
  | 4, _ => exact q4
  | 5, _ => exact q5
  | 6, _ => exact q6
  | 7, _ => exact q7
  | 8, _ => exact q8
  | k + 9, h => exact absurd h (by omega)
theorem inX1 : ∀ w ∈ u_ws RX1 TX1 2, w ∈ zAW := by
  intro w hw
  obtain ⟨k, hk, rfl⟩ := List.mem_map.mp hw
  match k, List.mem_range.mp hk with
  | 0, _ => exact q9
  | 1, _ => exact q10
  | k + 2, h => exact absurd h (by omega)
theorem inX2 : ∀ w ∈ u_ws RX2 TX2 4, w ∈ zAW := by
  intro w hw
  obtain ⟨k, hk, rfl⟩ := List.mem_map.mp hw
  match k, List.mem_range.mp hk with
  | 0, _ => exact q11
  | 1, _ => exact q12
  | 2, _ => exact q13
  | 3, _ => exact q14
  | k + 4, h => exact absurd h (by omega)
theorem inX3 : ∀ w ∈ u_ws RX3 TX3 3, w ∈ zAW := by
  intro w hw
  obtain ⟨k, hk, rfl⟩ := List.mem_map.mp hw
  match k, List.mem_range.mp hk with
  | 0, _ => exact q15
  | 1, _ => exact q16
  | 2, _ => exact q17
  | k + 3, h => exact absurd h (by omega)
theorem gf_X1_9 {p : Program} {l : Launch} {e : Env} {R : Room} {s : State} {m : MethodId} {args : Array Value} {below : List Frame} {meth : Method} {c : Code} {cc : ByteArray} {nL : Nat} {G : va_G} {tys : List (ClassId × FieldType)} {A : Nat → Prop} {cells slots : Nat} {Q : State → Prop} {ws : va_W} {lv : List (Nat × Value)} {pc n : Nat} {rest : List Value} (hC : Cx p s m args c cc nL RX1 G tys A) (q0 : Nat) {a : Nat} {fs : List Value} {v : Value} (he : ws[q0]? = some (a, .inr (1, fs))) (hv : fs[0]? = some v) (hdg : decode cc pc = .ok (.getfield 9, 3)) (hn : pc + 3 = n) (k : ZZ p l e R s m args below meth c G A nL cells slots Q ws lv n (v :: rest)) : ZZ p l e R s m args below meth c G A nL cells slots Q ws lv pc (.ref a :: rest) := z_get hC 0 inX1 rfl (by decide) q18 q0 he hv hdg hn k
theorem gf_X2_56 {p : Program} {l : Launch} {e : Env} {R : Room} {s : State} {m : MethodId} {args : Array Value} {below : List Frame} {meth : Method} {c : Code} {cc : ByteArray} {nL : Nat} {G : va_G} {tys : List (ClassId × FieldType)} {A : Nat → Prop} {cells slots : Nat} {Q : State → Prop} {ws : va_W} {lv : List (Nat × Value)} {pc n : Nat} {rest : List Value} (hC : Cx p s m args c cc nL RX2 G tys A) (q0 : Nat) {a : Nat} {fs : List Value} {v : Value} (he : ws[q0]? = some (a, .inr (1, fs))) (hv : fs[0]? = some v) (hdg : decode cc pc = .ok (.getfield 56, 3)) (hn : pc + 3 = n) (k : ZZ p l e R s m args below meth c G A nL cells slots Q ws lv n (v :: rest)) : ZZ p l e R s m args below meth c G A nL cells slots Q ws lv pc (.ref a :: rest) := z_get hC 0 inX1 rfl (by decide) q19 q0 he hv hdg hn k
theorem gf_X1_15 {p : Program} {l : Launch} {e : Env} {R : Room} {s : State} {m : MethodId} {args : Array Value} {below : List Frame} {meth : Method} {c : Code} {cc : ByteArray} {nL : Nat} {G : va_G} {tys : List (ClassId × FieldType)} {A : Nat → Prop} {cells slots : Nat} {Q : State → Prop} {ws : va_W} {lv : List (Nat × Value)} {pc n : Nat} {rest : List Value} (hC : Cx p s m args c cc nL RX1 G tys A) (q0 : Nat) {a : Nat} {fs : List Value} {v : Value} (he : ws[q0]? = some (a, .inr (1, fs))) (hv : fs[1]? = some v) (hdg : decode cc pc = .ok (.getfield 15, 3)) (hn : pc + 3 = n) (k : ZZ p l e R s m args below meth c G A nL cells slots Q ws lv n (v :: rest)) : ZZ p l e R s m args below meth c G A nL cells slots Q ws lv pc (.ref a :: rest) := z_get hC 1 inX1 rfl (by decide) q20 q0 he hv hdg hn k
theorem gf_X2_60 {p : Program} {l : Launch} {e : Env} {R : Room} {s : State} {m : MethodId} {args : Array Value} {below : List Frame} {meth : Method} {c : Code} {cc : ByteArray} {nL : Nat} {G : va_G} {tys : List (ClassId × FieldType)} {A : Nat → Prop} {cells slots : Nat} {Q : State → Prop} {ws : va_W} {lv : List (Nat × Value)} {pc n : Nat} {rest : List Value} (hC : Cx p s m args c cc nL RX2 G tys A) (q0 : Nat) {a : Nat} {fs : List Value} {v : Value} (he : ws[q0]? = some (a, .inr (1, fs))) (hv : fs[1]? = some v) (hdg : decode cc pc = .ok (.getfield 60, 3)) (hn : pc + 3 = n) (k : ZZ p l e R s m args below meth c G A nL cells slots Q ws lv n (v :: rest)) : ZZ p l e R s m args below meth c G A nL cells slots Q ws lv pc (.ref a :: rest) := z_get hC 1 inX1 rfl (by decide) q21 q0 he hv hdg hn k
theorem gf_X0_9 {p : Program} {l : Launch} {e : Env} {R : Room} {s : State} {m : MethodId} {args : Array Value} {below : List Frame} {meth : Method} {c : Code} {cc : ByteArray} {nL : Nat} {G : va_G} {tys : List (ClassId × FieldType)} {A : Nat → Prop} {cells slots : Nat} {Q : State → Prop} {ws : va_W} {lv : List (Nat × Value)} {pc n : Nat} {rest : List Value} (hC : Cx p s m args c cc nL RX0 G tys A) (q0 : Nat) {a : Nat} {fs : List Value} {v : Value} (he : ws[q0]? = some (a, .inr (0, fs))) (hv : fs[0]? = some v) (hdg : decode cc pc = .ok (.getfield 9, 3)) (hn : pc + 3 = n) (k : ZZ p l e R s m args below meth c G A nL cells slots Q ws lv n (v :: rest)) : ZZ p l e R s m args below meth c G A nL cells slots Q ws lv pc (.ref a :: rest) := z_get hC 0 inX0 rfl (by decide) q22 q0 he hv hdg hn k
theorem gf_X2_135 {p : Program} {l : Launch} {e : Env} {R : Room} {s : State} {m : MethodId} {args : Array Value} {below : List Frame} {meth : Method} {c : Code} {cc : ByteArray} {nL : Nat} {G : va_G} {tys : List (ClassId × FieldType)} {A : Nat → Prop} {cells slots : Nat} {Q : State → Prop} {ws : va_W} {lv : List (Nat × Value)} {pc n : Nat} {rest : List Value} (hC : Cx p s m args c cc nL RX2 G tys A) (q0 : Nat) {a : Nat} {fs : List Value} {v : Value} (he : ws[q0]? = some (a, .inr (0, fs))) (hv : fs[0]? = some v) (hdg : decode cc pc = .ok (.getfield 135, 3)) (hn : pc + 3 = n) (k : ZZ p l e R s m args below meth c G A nL cells slots Q ws lv n (v :: rest)) : ZZ p l e R s m args below meth c G A nL cells slots Q ws lv pc (.ref a :: rest) := z_get hC 0 inX0 rfl (by decide) q23 q0 he hv hdg hn k
theorem gf_X0_15 {p : Program} {l : Launch} {e : Env} {R : Room} {s : State} {m : MethodId} {args : Array Value} {below : List Frame} {meth : Method} {c : Code} {cc : ByteArray} {nL : Nat} {G : va_G} {tys : List (ClassId × FieldType)} {A : Nat → Prop} {cells slots : Nat} {Q : State → Prop} {ws : va_W} {lv : List (Nat × Value)} {pc n : Nat} {rest : List Value} (hC : Cx p s m args c cc nL RX0 G tys A) (q0 : Nat) {a : Nat} {fs : List Value} {v : Value} (he : ws[q0]? = some (a, .inr (0, fs))) (hv : fs[1]? = some v) (hdg : decode cc pc = .ok (.getfield 15, 3)) (hn : pc + 3 = n) (k : ZZ p l e R s m args below meth c G A nL cells slots Q ws lv n (v :: rest)) : ZZ p l e R s m args below meth c G A nL cells slots Q ws lv pc (.ref a :: rest) := z_get hC 1 inX0 rfl (by decide) q24 q0 he hv hdg hn k
theorem gf_X0_18 {p : Program} {l : Launch} {e : Env} {R : Room} {s : State} {m : MethodId} {args : Array Value} {below : List Frame} {meth : Method} {c : Code} {cc : ByteArray} {nL : Nat} {G : va_G} {tys : List (ClassId × FieldType)} {A : Nat → Prop} {cells slots : Nat} {Q : State → Prop} {ws : va_W} {lv : List (Nat × Value)} {pc n : Nat} {rest : List Value} (hC : Cx p s m args c cc nL RX0 G tys A) (q0 : Nat) {a : Nat} {fs : List Value} {v : Value} (he : ws[q0]? = some (a, .inr (0, fs))) (hv : fs[2]? = some v) (hdg : decode cc pc = .ok (.getfield 18, 3)) (hn : pc + 3 = n) (k : ZZ p l e R s m args below meth c G A nL cells slots Q ws lv n (v :: rest)) : ZZ p l e R s m args below meth c G A nL cells slots Q ws lv pc (.ref a :: rest) := z_get hC 2 inX0 rfl (by decide) q25 q0 he hv hdg hn k
theorem gf_X2_66 {p : Program} {l : Launch} {e : Env} {R : Room} {s : State} {m : MethodId} {args : Array Value} {below : List Frame} {meth : Method} {c : Code} {cc : ByteArray} {nL : Nat} {G : va_G} {tys : List (ClassId × FieldType)} {A : Nat → Prop} {cells slots : Nat} {Q : State → Prop} {ws : va_W} {lv : List (Nat × Value)} {pc n : Nat} {rest : List Value} (hC : Cx p s m args c cc nL RX2 G tys A) (q0 : Nat) {a : Nat} {fs : List Value} {v : Value} (he : ws[q0]? = some (a, .inr (0, fs))) (hv : fs[2]? = some v) (hdg : decode cc pc = .ok (.getfield 66, 3)) (hn : pc + 3 = n) (k : ZZ p l e R s m args below meth c G A nL cells slots Q ws lv n (v :: rest)) : ZZ p l e R s m args below meth c G A nL cells slots Q ws lv pc (.ref a :: rest) := z_get hC 2 inX0 rfl (by decide) q26 q0 he hv hdg hn k
theorem gf_X0_21 {p : Program} {l : Launch} {e : Env} {R : Room} {s : State} {m : MethodId} {args : Array Value} {below : List Frame} {meth : Method} {c : Code} {cc : ByteArray} {nL : Nat} {G : va_G} {tys : List (ClassId × FieldType)} {A : Nat → Prop} {cells slots : Nat} {Q : State → Prop} {ws : va_W} {lv : List (Nat × Value)} {pc n : Nat} {rest : List Value} (hC : Cx p s m args c cc nL RX0 G tys A) (q0 : Nat) {a : Nat} {fs : List Value} {v : Value} (he : ws[q0]? = some (a, .inr (0, fs))) (hv : fs[3]? = some v) (hdg : decode cc pc = .ok (.getfield 21, 3)) (hn : pc + 3 = n) (k : ZZ p l e R s m args below meth c G A nL cells slots Q ws lv n (v :: rest)) : ZZ p l e R s m args below meth c G A nL cells slots Q ws lv pc (.ref a :: rest) := z_get hC 3 inX0 rfl (by decide) q27 q0 he hv hdg hn k
theorem gf_X2_103 {p : Program} {l : Launch} {e : Env} {R : Room} {s : State} {m : MethodId} {args : Array Value} {below : List Frame} {meth : Method} {c : Code} {cc : ByteArray} {nL : Nat} {G : va_G} {tys : List (ClassId × FieldType)} {A : Nat → Prop} {cells slots : Nat} {Q : State → Prop} {ws : va_W} {lv : List (Nat × Value)} {pc n : Nat} {rest : List Value} (hC : Cx p s m args c cc nL RX2 G tys A) (q0 : Nat) {a : Nat} {fs : List Value} {v : Value} (he : ws[q0]? = some (a, .inr (0, fs))) (hv : fs[3]? = some v) (hdg : decode cc pc = .ok (.getfield 103, 3)) (hn : pc + 3 = n) (k : ZZ p l e R s m args below meth c G A nL cells slots Q ws lv n (v :: rest)) : ZZ p l e R s m args below meth c G A nL cells slots Q ws lv pc (.ref a :: rest) := z_get hC 3 inX0 rfl (by decide) q28 q0 he hv hdg hn k
theorem gf_X0_24 {p : Program} {l : Launch} {e : Env} {R : Room} {s : State} {m : MethodId} {args : Array Value} {below : List Frame} {meth : Method} {c : Code} {cc : ByteArray} {nL : Nat} {G : va_G} {tys : List (ClassId × FieldType)} {A : Nat → Prop} {cells slots : Nat} {Q : State → Prop} {ws : va_W} {lv : List (Nat × Value)} {pc n : Nat} {rest : List Value} (hC : Cx p s m args c cc nL RX0 G tys A) (q0 : Nat) {a : Nat} {fs : List Value} {v : Value} (he : ws[q0]? = some (a, .inr (0, fs))) (hv : fs[4]? = some v) (hdg : decode cc pc = .ok (.getfield 24, 3)) (hn : pc + 3 = n) (k : ZZ p l e R s m args below meth c G A nL cells slots Q ws lv n (v :: rest)) : ZZ p l e R s m args below meth c G A nL cells slots Q ws lv pc (.ref a :: rest) := z_get hC 4 inX0 rfl (by decide) q29 q0 he hv hdg hn k
theorem gf_X2_106 {p : Program} {l : Launch} {e : Env} {R : Room} {s : State} {m : MethodId} {args : Array Value} {below : List Frame} {meth : Method} {c : Code} {cc : ByteArray} {nL : Nat} {G : va_G} {tys : List (ClassId × FieldType)} {A : Nat → Prop} {cells slots : Nat} {Q : State → Prop} {ws : va_W} {lv : List (Nat × Value)} {pc n : Nat} {rest : List Value} (hC : Cx p s m args c cc nL RX2 G tys A) (q0 : Nat) {a : Nat} {fs : List Value} {v : Value} (he : ws[q0]? = some (a, .inr (0, fs))) (hv : fs[4]? = some v) (hdg : decode cc pc = .ok (.getfield 106, 3)) (hn : pc + 3 = n) (k : ZZ p l e R s m args below meth c G A nL cells slots Q ws lv n (v :: rest)) : ZZ p l e R s m args below meth c G A nL cells slots Q ws lv pc (.ref a :: rest) := z_get hC 4 inX0 rfl (by decide) q30 q0 he hv hdg hn k
theorem gf_X0_27 {p : Program} {l : Launch} {e : Env} {R : Room} {s : State} {m : MethodId} {args : Array Value} {below : List Frame} {meth : Method} {c : Code} {cc : ByteArray} {nL : Nat} {G : va_G} {tys : List (ClassId × FieldType)} {A : Nat → Prop} {cells slots : Nat} {Q : State → Prop} {ws : va_W} {lv : List (Nat × Value)} {pc n : Nat} {rest : List Value} (hC : Cx p s m args c cc nL RX0 G tys A) (q0 : Nat) {a : Nat} {fs : List Value} {v : Value} (he : ws[q0]? = some (a, .inr (0, fs))) (hv : fs[5]? = some v) (hdg : decode cc pc = .ok (.getfield 27, 3)) (hn : pc + 3 = n) (k : ZZ p l e R s m args below meth c G A nL cells slots Q ws lv n (v :: rest)) : ZZ p l e R s m args below meth c G A nL cells slots Q ws lv pc (.ref a :: rest) := z_get hC 5 inX0 rfl (by decide) q31 q0 he hv hdg hn k
theorem gf_X2_109 {p : Program} {l : Launch} {e : Env} {R : Room} {s : State} {m : MethodId} {args : Array Value} {below : List Frame} {meth : Method} {c : Code} {cc : ByteArray} {nL : Nat} {G : va_G} {tys : List (ClassId × FieldType)} {A : Nat → Prop} {cells slots : Nat} {Q : State → Prop} {ws : va_W} {lv : List (Nat × Value)} {pc n : Nat} {rest : List Value} (hC : Cx p s m args c cc nL RX2 G tys A) (q0 : Nat) {a : Nat} {fs : List Value} {v : Value} (he : ws[q0]? = some (a, .inr (0, fs))) (hv : fs[5]? = some v) (hdg : decode cc pc = .ok (.getfield 109, 3)) (hn : pc + 3 = n) (k : ZZ p l e R s m args below meth c G A nL cells slots Q ws lv n (v :: rest)) : ZZ p l e R s m args below meth c G A nL cells slots Q ws lv pc (.ref a :: rest) := z_get hC 5 inX0 rfl (by decide) q32 q0 he hv hdg hn k
theorem gf_X0_30 {p : Program} {l : Launch} {e : Env} {R : Room} {s : State} {m : MethodId} {args : Array Value} {below : List Frame} {meth : Method} {c : Code} {cc : ByteArray} {nL : Nat} {G : va_G} {tys : List (ClassId × FieldType)} {A : Nat → Prop} {cells slots : Nat} {Q : State → Prop} {ws : va_W} {lv : List (Nat × Value)} {pc n : Nat} {rest : List Value} (hC : Cx p s m args c cc nL RX0 G tys A) (q0 : Nat) {a : Nat} {fs : List Value} {v : Value} (he : ws[q0]? = some (a, .inr (0, fs))) (hv : fs[6]? = some v) (hdg : decode cc pc = .ok (.getfield 30, 3)) (hn : pc + 3 = n) (k : ZZ p l e R s m args below meth c G A nL cells slots Q ws lv n (v :: rest)) : ZZ p l e R s m args below meth c G A nL cells slots Q ws lv pc (.ref a :: rest) := z_get hC 6 inX0 rfl (by decide) q33 q0 he hv hdg hn k
theorem gf_X0_34 {p : Program} {l : Launch} {e : Env} {R : Room} {s : State} {m : MethodId} {args : Array Value} {below : List Frame} {meth : Method} {c : Code} {cc : ByteArray} {nL : Nat} {G : va_G} {tys : List (ClassId × FieldType)} {A : Nat → Prop} {cells slots : Nat} {Q : State → Prop} {ws : va_W} {lv : List (Nat × Value)} {pc n : Nat} {rest : List Value} (hC : Cx p s m args c cc nL RX0 G tys A) (q0 : Nat) {a : Nat} {fs : List Value} {v : Value} (he : ws[q0]? = some (a, .inr (0, fs))) (hv : fs[7]? = some v) (hdg : decode cc pc = .ok (.getfield 34, 3)) (hn : pc + 3 = n) (k : ZZ p l e R s m args below meth c G A nL cells slots Q ws lv n (v :: rest)) : ZZ p l e R s m args below meth c G A nL cells slots Q ws lv pc (.ref a :: rest) := z_get hC 7 inX0 rfl (by decide) q34 q0 he hv hdg hn k
theorem gf_X0_37 {p : Program} {l : Launch} {e : Env} {R : Room} {s : State} {m : MethodId} {args : Array Value} {below : List Frame} {meth : Method} {c : Code} {cc : ByteArray} {nL : Nat} {G : va_G} {tys : List (ClassId × FieldType)} {A : Nat → Prop} {cells slots : Nat} {Q : State → Prop} {ws : va_W} {lv : List (Nat × Value)} {pc n : Nat} {rest : List Value} (hC : Cx p s m args c cc nL RX0 G tys A) (q0 : Nat) {a : Nat} {fs : List Value} {v : Value} (he : ws[q0]? = some (a, .inr (0, fs))) (hv : fs[8]? = some v) (hdg : decode cc pc = .ok (.getfield 37, 3)) (hn : pc + 3 = n) (k : ZZ p l e R s m args below meth c G A nL cells slots Q ws lv n (v :: rest)) : ZZ p l e R s m args below meth c G A nL cells slots Q ws lv pc (.ref a :: rest) := z_get hC 8 inX0 rfl (by decide) q35 q0 he hv hdg hn k
theorem pf_X0_37 {p : Program} {l : Launch} {e : Env} {R : Room} {s : State} {m : MethodId} {args : Array Value} {below : List Frame} {meth : Method} {c : Code} {cc : ByteArray} {nL : Nat} {G : va_G} {tys : List (ClassId × FieldType)} {A : Nat → Prop} {cells slots : Nat} {Q : State → Prop} {ws : va_W} {lv : List (Nat × Value)} {pc n : Nat} {rest : List Value} (hC : Cx p s m args c cc nL RX0 G tys A) (q0 : Nat) {a : Nat} {fs : List Value} {v : Int32} {ws' : va_W} (he : ws[q0]? = some (a, .inr (0, fs))) (hl9 : 8 < fs.length) (hdg : decode cc pc = .ok (.putfield 37, 3)) (hw : ws.set q0 (a, .inr (0, fs.set 8 (.int v))) = ws') (hn : pc + 3 = n) (k : ZZ p l e R s m args below meth c G A nL cells slots Q ws' lv n rest) : ZZ p l e R s m args below meth c G A nL cells slots Q ws lv pc (.int v :: .ref a :: rest) := z_put hC 8 inX0 tyX0 tyX0_ok nmX0 rfl (by decide) q35 rfl (by decide +kernel) q0 he hl9 hdg hw hn k
theorem gf_X2_35 {p : Program} {l : Launch} {e : Env} {R : Room} {s : State} {m : MethodId} {args : Array Value} {below : List Frame} {meth : Method} {c : Code} {cc : ByteArray} {nL : Nat} {G : va_G} {tys : List (ClassId × FieldType)} {A : Nat → Prop} {cells slots : Nat} {Q : State → Prop} {ws : va_W} {lv : List (Nat × Value)} {pc n : Nat} {rest : List Value} (hC : Cx p s m args c cc nL RX2 G tys A) (q0 : Nat) {a : Nat} {fs : List Value} {v : Value} (he : ws[q0]? = some (a, .inr (0, fs))) (hv : fs[8]? = some v) (hdg : decode cc pc = .ok (.getfield 35, 3)) (hn : pc + 3 = n) (k : ZZ p l e R s m args below meth c G A nL cells slots Q ws lv n (v :: rest)) : ZZ p l e R s m args below meth c G A nL cells slots Q ws lv pc (.ref a :: rest) := z_get hC 8 inX0 rfl (by decide) q36 q0 he hv hdg hn k
theorem pf_X2_35 {p : Program} {l : Launch} {e : Env} {R : Room} {s : State} {m : MethodId} {args : Array Value} {below : List Frame} {meth : Method} {c : Code} {cc : ByteArray} {nL : Nat} {G : va_G} {tys : List (ClassId × FieldType)} {A : Nat → Prop} {cells slots : Nat} {Q : State → Prop} {ws : va_W} {lv : List (Nat × Value)} {pc n : Nat} {rest : List Value} (hC : Cx p s m args c cc nL RX2 G tys A) (q0 : Nat) {a : Nat} {fs : List Value} {v : Int32} {ws' : va_W} (he : ws[q0]? = some (a, .inr (0, fs))) (hl9 : 8 < fs.length) (hdg : decode cc pc = .ok (.putfield 35, 3)) (hw : ws.set q0 (a, .inr (0, fs.set 8 (.int v))) = ws') (hn : pc + 3 = n) (k : ZZ p l e R s m args below meth c G A nL cells slots Q ws' lv n rest) : ZZ p l e R s m args below meth c G A nL cells slots Q ws lv pc (.int v :: .ref a :: rest) := z_put hC 8 inX0 tyX0 tyX0_ok nmX0 rfl (by decide) q36 rfl (by decide +kernel) q0 he hl9 hdg hw hn k
theorem gf_X2_10 {p : Program} {l : Launch} {e : Env} {R : Room} {s : State} {m : MethodId} {args : Array Value} {below : List Frame} {meth : Method} {c : Code} {cc : ByteArray} {nL : Nat} {G : va_G} {tys : List (ClassId × FieldType)} {A : Nat → Prop} {cells slots : Nat} {Q : State → Prop} {ws : va_W} {lv : List (Nat × Value)} {pc n : Nat} {rest : List Value} (hC : Cx p s m args c cc nL RX2 G tys A) (q0 : Nat) {a : Nat} {fs : List Value} {v : Value} (he : ws[q0]? = some (a, .inr (2, fs))) (hv : fs[0]? = some v) (hdg : decode cc pc = .ok (.getfield 10, 3)) (hn : pc + 3 = n) (k : ZZ p l e R s m args below meth c G A nL cells slots Q ws lv n (v :: rest)) : ZZ p l e R s m args below meth c G A nL cells slots Q ws lv pc (.ref a :: rest) := z_get hC 0 inX2 rfl (by decide) q37 q0 he hv hdg hn k
theorem gf_X2_19 {p : Program} {l : Launch} {e : Env} {R : Room} {s : State} {m : MethodId} {args : Array Value} {below : List Frame} {meth : Method} {c : Code} {cc : ByteArray} {nL : Nat} {G : va_G} {tys : List (ClassId × FieldType)} {A : Nat → Prop} {cells slots : Nat} {Q : State → Prop} {ws : va_W} {lv : List (Nat × Value)} {pc n : Nat} {rest : List Value} (hC : Cx p s m args c cc nL RX2 G tys A) (q0 : Nat) {a : Nat} {fs : List Value} {v : Value} (he : ws[q0]? = some (a, .inr (2, fs))) (hv : fs[1]? = some v) (hdg : decode cc pc = .ok (.getfield 19, 3)) (hn : pc + 3 = n) (k : ZZ p l e R s m args below meth c G A nL cells slots Q ws lv n (v :: rest)) : ZZ p l e R s m args below meth c G A nL cells slots Q ws lv pc (.ref a :: rest) := z_get hC 1 inX2 rfl (by decide) q38 q0 he hv hdg hn k
theorem gf_X2_23 {p : Program} {l : Launch} {e : Env} {R : Room} {s : State} {m : MethodId} {args : Array Value} {below : List Frame} {meth : Method} {c : Code} {cc : ByteArray} {nL : Nat} {G : va_G} {tys : List (ClassId × FieldType)} {A : Nat → Prop} {cells slots : Nat} {Q : State → Prop} {ws : va_W} {lv : List (Nat × Value)} {pc n : Nat} {rest : List Value} (hC : Cx p s m args c cc nL RX2 G tys A) (q0 : Nat) {a : Nat} {fs : List Value} {v : Value} (he : ws[q0]? = some (a, .inr (2, fs))) (hv : fs[2]? = some v) (hdg : decode cc pc = .ok (.getfield 23, 3)) (hn : pc + 3 = n) (k : ZZ p l e R s m args below meth c G A nL cells slots Q ws lv n (v :: rest)) : ZZ p l e R s m args below meth c G A nL cells slots Q ws lv pc (.ref a :: rest) := z_get hC 2 inX2 rfl (by decide) q39 q0 he hv hdg hn k
theorem gf_X2_72 {p : Program} {l : Launch} {e : Env} {R : Room} {s : State} {m : MethodId} {args : Array Value} {below : List Frame} {meth : Method} {c : Code} {cc : ByteArray} {nL : Nat} {G : va_G} {tys : List (ClassId × FieldType)} {A : Nat → Prop} {cells slots : Nat} {Q : State → Prop} {ws : va_W} {lv : List (Nat × Value)} {pc n : Nat} {rest : List Value} (hC : Cx p s m args c cc nL RX2 G tys A) (q0 : Nat) {a : Nat} {fs : List Value} {v : Value} (he : ws[q0]? = some (a, .inr (2, fs))) (hv : fs[3]? = some v) (hdg : decode cc pc = .ok (.getfield 72, 3)) (hn : pc + 3 = n) (k : ZZ p l e R s m args below meth c G A nL cells slots Q ws lv n (v :: rest)) : ZZ p l e R s m args below meth c G A nL cells slots Q ws lv pc (.ref a :: rest) := z_get hC 3 inX2 rfl (by decide) q40 q0 he hv hdg hn k
theorem pf_X2_72 {p : Program} {l : Launch} {e : Env} {R : Room} {s : State} {m : MethodId} {args : Array Value} {below : List Frame} {meth : Method} {c : Code} {cc : ByteArray} {nL : Nat} {G : va_G} {tys : List (ClassId × FieldType)} {A : Nat → Prop} {cells slots : Nat} {Q : State → Prop} {ws : va_W} {lv : List (Nat × Value)} {pc n : Nat} {rest : List Value} (hC : Cx p s m args c cc nL RX2 G tys A) (q0 : Nat) {a : Nat} {fs : List Value} {v : Int32} {ws' : va_W} (he : ws[q0]? = some (a, .inr (2, fs))) (hl9 : 3 < fs.length) (hdg : decode cc pc = .ok (.putfield 72, 3)) (hw : ws.set q0 (a, .inr (2, fs.set 3 (.int v))) = ws') (hn : pc + 3 = n) (k : ZZ p l e R s m args below meth c G A nL cells slots Q ws' lv n rest) : ZZ p l e R s m args below meth c G A nL cells slots Q ws lv pc (.int v :: .ref a :: rest) := z_put hC 3 inX2 tyX2 tyX2_ok nmX2 rfl (by decide) q40 rfl (by decide +kernel) q0 he hl9 hdg hw hn k
theorem gf_X3_19 {p : Program} {l : Launch} {e : Env} {R : Room} {s : State} {m : MethodId} {args : Array Value} {below : List Frame} {meth : Method} {c : Code} {cc : ByteArray} {nL : Nat} {G : va_G} {tys : List (ClassId × FieldType)} {A : Nat → Prop} {cells slots : Nat} {Q : State → Prop} {ws : va_W} {lv : List (Nat × Value)} {pc n : Nat} {rest : List Value} (hC : Cx p s m args c cc nL RX3 G tys A) (q0 : Nat) {a : Nat} {fs : List Value} {v : Value} (he : ws[q0]? = some (a, .inr (3, fs))) (hv : fs[0]? = some v) (hdg : decode cc pc = .ok (.getfield 19, 3)) (hn : pc + 3 = n) (k : ZZ p l e R s m args below meth c G A nL cells slots Q ws lv n (v :: rest)) : ZZ p l e R s m args below meth c G A nL cells slots Q ws lv pc (.ref a :: rest) := z_get hC 0 inX3 rfl (by decide) q41 q0 he hv hdg hn k
theorem pf_X3_19 {p : Program} {l : Launch} {e : Env} {R : Room} {s : State} {m : MethodId} {args : Array Value} {below : List Frame} {meth : Method} {c : Code} {cc : ByteArray} {nL : Nat} {G : va_G} {tys : List (ClassId × FieldType)} {A : Nat → Prop} {cells slots : Nat} {Q : State → Prop} {ws : va_W} {lv : List (Nat × Value)} {pc n : Nat} {rest : List Value} (hC : Cx p s m args c cc nL RX3 G tys A) (q0 : Nat) {a : Nat} {fs : List Value} {v : Int32} {ws' : va_W} (he : ws[q0]? = some (a, .inr (3, fs))) (hl9 : 0 < fs.length) (hdg : decode cc pc = .ok (.putfield 19, 3)) (hw : ws.set q0 (a, .inr (3, fs.set 0 (.int v))) = ws') (hn : pc + 3 = n) (k : ZZ p l e R s m args below meth c G A nL cells slots Q ws' lv n rest) : ZZ p l e R s m args below meth c G A nL cells slots Q ws lv pc (.int v :: .ref a :: rest) := z_put hC 0 inX3 tyX3 tyX3_ok nmX3 rfl (by decide) q41 rfl (by decide +kernel) q0 he hl9 hdg hw hn k
theorem gf_X3_9 {p : Program} {l : Launch} {e : Env} {R : Room} {s : State} {m : MethodId} {args : Array Value} {below : List Frame} {meth : Method} {c : Code} {cc : ByteArray} {nL : Nat} {G : va_G} {tys : List (ClassId × FieldType)} {A : Nat → Prop} {cells slots : Nat} {Q : State → Prop} {ws : va_W} {lv : List (Nat × Value)} {pc n : Nat} {rest : List Value} (hC : Cx p s m args c cc nL RX3 G tys A) (q0 : Nat) {a : Nat} {fs : List Value} {v : Value} (he : ws[q0]? = some (a, .inr (3, fs))) (hv : fs[1]? = some v) (hdg : decode cc pc = .ok (.getfield 9, 3)) (hn : pc + 3 = n) (k : ZZ p l e R s m args below meth c G A nL cells slots Q ws lv n (v :: rest)) : ZZ p l e R s m args below meth c G A nL cells slots Q ws lv pc (.ref a :: rest) := z_get hC 1 inX3 rfl (by decide) q42 q0 he hv hdg hn k
theorem pf_X3_9 {p : Program} {l : Launch} {e : Env} {R : Room} {s : State} {m : MethodId} {args : Array Value} {below : List Frame} {meth : Method} {c : Code} {cc : ByteArray} {nL : Nat} {G : va_G} {tys : List (ClassId × FieldType)} {A : Nat → Prop} {cells slots : Nat} {Q : State → Prop} {ws : va_W} {lv : List (Nat × Value)} {pc n : Nat} {rest : List Value} (hC : Cx p s m args c cc nL RX3 G tys A) (q0 : Nat) {a : Nat} {fs : List Value} {v : Nat} {ws' : va_W} (he : ws[q0]? = some (a, .inr (3, fs))) (hl9 : 1 < fs.length) (hdg : decode cc pc = .ok (.putfield 9, 3)) (hw : ws.set q0 (a, .inr (3, fs.set 1 (.ref v))) = ws') (hn : pc + 3 = n) (k : ZZ p l e R s m args below meth c G A nL cells slots Q ws' lv n rest) : ZZ p l e R s m args below meth c G A nL cells slots Q ws lv pc (.ref v :: .ref a :: rest) := z_putq hC 1 inX3 tyX3 tyX3_ok nmX3 rfl (by decide) q42 rfl (ty := .array (.array .int)) (by decide +kernel) q0 rfl rfl he hl9 hdg hw hn k
theorem gf_L_32 {p : Program} {l : Launch} {e : Env} {R : Room} {s : State} {m : MethodId} {args : Array Value} {below : List Frame} {meth : Method} {c : Code} {cc : ByteArray} {nL : Nat} {G : va_G} {tys : List (ClassId × FieldType)} {A : Nat → Prop} {cells slots : Nat} {Q : State → Prop} {ws : va_W} {lv : List (Nat × Value)} {pc n : Nat} {rest : List Value} (hC : Cx p s m args c cc nL RL G tys A) (q0 : Nat) {a : Nat} {fs : List Value} {v : Value} (he : ws[q0]? = some (a, .inr (3, fs))) (hv : fs[1]? = some v) (hdg : decode cc pc = .ok (.getfield 32, 3)) (hn : pc + 3 = n) (k : ZZ p l e R s m args below meth c G A nL cells slots Q ws lv n (v :: rest)) : ZZ p l e R s m args below meth c G A nL cells slots Q ws lv pc (.ref a :: rest) := z_get hC 1 inX3 rfl (by decide) q43 q0 he hv hdg hn k
theorem pf_L_32 {p : Program} {l : Launch} {e : Env} {R : Room} {s : State} {m : MethodId} {args : Array Value} {below : List Frame} {meth : Method} {c : Code} {cc : ByteArray} {nL : Nat} {G : va_G} {tys : List (ClassId × FieldType)} {A : Nat → Prop} {cells slots : Nat} {Q : State → Prop} {ws : va_W} {lv : List (Nat × Value)} {pc n : Nat} {rest : List Value} (hC : Cx p s m args c cc nL RL G tys A) (q0 : Nat) {a : Nat} {fs : List Value} {v : Nat} {ws' : va_W} (he : ws[q0]? = some (a, .inr (3, fs))) (hl9 : 1 < fs.length) (hdg : decode cc pc = .ok (.putfield 32, 3)) (hw : ws.set q0 (a, .inr (3, fs.set 1 (.ref v))) = ws') (hn : pc + 3 = n) (k : ZZ p l e R s m args below meth c G A nL cells slots Q ws' lv n rest) : ZZ p l e R s m args below meth c G A nL cells slots Q ws lv pc (.ref v :: .ref a :: rest) := z_putq hC 1 inX3 tyX3 tyX3_ok nmX3 rfl (by decide) q43 rfl (ty := .array (.array .int)) (by decide +kernel) q0 rfl rfl he hl9 hdg hw hn k
theorem gf_X3_15 {p : Program} {l : Launch} {e : Env} {R : Room} {s : State} {m : MethodId} {args : Array Value} {below : List Frame} {meth : Method} {c : Code} {cc : ByteArray} {nL : Nat} {G : va_G} {tys : List (ClassId × FieldType)} {A : Nat → Prop} {cells slots : Nat} {Q : State → Prop} {ws : va_W} {lv : List (Nat × Value)} {pc n : Nat} {rest : List Value} (hC : Cx p s m args c cc nL RX3 G tys A) (q0 : Nat) {a : Nat} {fs : List Value} {v : Value} (he : ws[q0]? = some (a, .inr (3, fs))) (hv : fs[2]? = some v) (hdg : decode cc pc = .ok (.getfield 15, 3)) (hn : pc + 3 = n) (k : ZZ p l e R s m args below meth c G A nL cells slots Q ws lv n (v :: rest)) : ZZ p l e R s m args below meth c G A nL cells slots Q ws lv pc (.ref a :: rest) := z_get hC 2 inX3 rfl (by decide) q44 q0 he hv hdg hn k
theorem pf_X3_15 {p : Program} {l : Launch} {e : Env} {R : Room} {s : State} {m : MethodId} {args : Array Value} {below : List Frame} {meth : Method} {c : Code} {cc : ByteArray} {nL : Nat} {G : va_G} {tys : List (ClassId × FieldType)} {A : Nat → Prop} {cells slots : Nat} {Q : State → Prop} {ws : va_W} {lv : List (Nat × Value)} {pc n : Nat} {rest : List Value} (hC : Cx p s m args c cc nL RX3 G tys A) (q0 : Nat) {a : Nat} {fs : List Value} {v : Nat} {ws' : va_W} (he : ws[q0]? = some (a, .inr (3, fs))) (hl9 : 2 < fs.length) (hdg : decode cc pc = .ok (.putfield 15, 3)) (hw : ws.set q0 (a, .inr (3, fs.set 2 (.ref v))) = ws') (hn : pc + 3 = n) (k : ZZ p l e R s m args below meth c G A nL cells slots Q ws' lv n rest) : ZZ p l e R s m args below meth c G A nL cells slots Q ws lv pc (.ref v :: .ref a :: rest) := z_putq hC 2 inX3 tyX3 tyX3_ok nmX3 rfl (by decide) q44 rfl (ty := .array (.array .int)) (by decide +kernel) q0 rfl rfl he hl9 hdg hw hn k
theorem gf_L_9 {p : Program} {l : Launch} {e : Env} {R : Room} {s : State} {m : MethodId} {args : Array Value} {below : List Frame} {meth : Method} {c : Code} {cc : ByteArray} {nL : Nat} {G : va_G} {tys : List (ClassId × FieldType)} {A : Nat → Prop} {cells slots : Nat} {Q : State → Prop} {ws : va_W} {lv : List (Nat × Value)} {pc n : Nat} {rest : List Value} (hC : Cx p s m args c cc nL RL G tys A) (q0 : Nat) {a : Nat} {fs : List Value} {v : Value} (he : ws[q0]? = some (a, .inr (3, fs))) (hv : fs[2]? = some v) (hdg : decode cc pc = .ok (.getfield 9, 3)) (hn : pc + 3 = n) (k : ZZ p l e R s m args below meth c G A nL cells slots Q ws lv n (v :: rest)) : ZZ p l e R s m args below meth c G A nL cells slots Q ws lv pc (.ref a :: rest) := z_get hC 2 inX3 rfl (by decide) q45 q0 he hv hdg hn k
theorem pf_L_9 {p : Program} {l : Launch} {e : Env} {R : Room} {s : State} {m : MethodId} {args : Array Value} {below : List Frame} {meth : Method} {c : Code} {cc : ByteArray} {nL : Nat} {G : va_G} {tys : List (ClassId × FieldType)} {A : Nat → Prop} {cells slots : Nat} {Q : State → Prop} {ws : va_W} {lv : List (Nat × Value)} {pc n : Nat} {rest : List Value} (hC : Cx p s m args c cc nL RL G tys A) (q0 : Nat) {a : Nat} {fs : List Value} {v : Nat} {ws' : va_W} (he : ws[q0]? = some (a, .inr (3, fs))) (hl9 : 2 < fs.length) (hdg : decode cc pc = .ok (.putfield 9, 3)) (hw : ws.set q0 (a, .inr (3, fs.set 2 (.ref v))) = ws') (hn : pc + 3 = n) (k : ZZ p l e R s m args below meth c G A nL cells slots Q ws' lv n rest) : ZZ p l e R s m args below meth c G A nL cells slots Q ws lv pc (.ref v :: .ref a :: rest) := z_putq hC 2 inX3 tyX3 tyX3_ok nmX3 rfl (by decide) q45 rfl (ty := .array (.array .int)) (by decide +kernel) q0 rfl rfl he hl9 hdg hw hn k
theorem kd_yX2_init : yX2_init.cls ≠ "java/lang/invoke/MethodHandle" ∧ yX2_init.cls ≠ "java/lang/invoke/VarHandle" ∧ (parseMethodDescriptor yX2_init.desc).map (fun d => d.parameters.length) = some 0 := by decide +kernel
theorem kg_L_65 : GoodIn zAW ((.code yX2_init prog_1_method_1_code 1 none) :: zAW) := aw_cd q46
theorem kd_yX1_init : yX1_init.cls ≠ "java/lang/invoke/MethodHandle" ∧ yX1_init.cls ≠ "java/lang/invoke/VarHandle" ∧ (parseMethodDescriptor yX1_init.desc).map (fun d => d.parameters.length) = some 0 := by decide +kernel
theorem kg_X2_9 : GoodIn zAW ((.code yX1_init prog_3_method_1_code 2 none) :: zAW) := aw_cd q51
theorem kd_yX0_init : yX0_init.cls ≠ "java/lang/invoke/MethodHandle" ∧ yX0_init.cls ≠ "java/lang/invoke/VarHandle" ∧ (parseMethodDescriptor yX0_init.desc).map (fun d => d.parameters.length) = some 0 := by decide +kernel
theorem kg_X2_18 : GoodIn zAW ((.code yX0_init prog_2_method_1_code 1 none) :: zAW) := aw_cd q56
theorem kd_yX2_pass : yX2_pass.cls = RX2 ∧ yX2_pass.cls ≠ "java/lang/invoke/MethodHandle" ∧ yX2_pass.cls ≠ "java/lang/invoke/VarHandle" ∧ (parseMethodDescriptor yX2_pass.desc).map (fun d => d.parameters.length) = some 1 := by decide +kernel
theorem kg_L_50 : GoodIn zAW (wsV RL 50 RX2 yX2_pass ((.code yX2_pass prog_1_method_5_code 3 (some .int)) :: zAW)) := aw_V q59 q60 q61 q49 q58
theorem kd_yX2_checkTurns : yX2_checkTurns.cls ≠ "java/lang/invoke/MethodHandle" ∧ yX2_checkTurns.cls ≠ "java/lang/invoke/VarHandle" ∧ (parseMethodDescriptor yX2_checkTurns.desc).map (fun d => d.parameters.length) = some 1 := by decide +kernel
theorem kg_X2_69 : GoodIn zAW (va_wsS RX2 69 yX2_checkTurns ((.code yX2_checkTurns prog_1_method_31_code 1 none) :: zAW)) := aw_S q63 q64 q49 q62
theorem kd_yX0_play : yX0_play.cls = RX0 ∧ yX0_play.cls ≠ "java/lang/invoke/MethodHandle" ∧ yX0_play.cls ≠ "java/lang/invoke/VarHandle" ∧ (parseMethodDescriptor yX0_play.desc).map (fun d => d.parameters.length) = some 3 := by decide +kernel
theorem kg_X2_75 : GoodIn zAW (wsV RX2 75 RX0 yX0_play ((.code yX0_play prog_2_method_8_code 7 (some .int)) :: zAW)) := aw_V q67 q68 q69 q70 q66
theorem kd_yX0_playAlone : yX0_playAlone.cls = RX0 ∧ yX0_playAlone.cls ≠ "java/lang/invoke/MethodHandle" ∧ yX0_playAlone.cls ≠ "java/lang/invoke/VarHandle" ∧ (parseMethodDescriptor yX0_playAlone.desc).map (fun d => d.parameters.length) = some 4 := by decide +kernel
theorem kg_X0_66 : GoodIn zAW (wsV RX0 66 RX0 yX0_playAlone ((.code yX0_playAlone prog_2_method_7_code 7 none) :: zAW)) := aw_V q72 q73 q74 q70 q71
theorem kd_yX1_amountIn : yX1_amountIn.cls = RX1 ∧ yX1_amountIn.cls ≠ "java/lang/invoke/MethodHandle" ∧ yX1_amountIn.cls ≠ "java/lang/invoke/VarHandle" ∧ (parseMethodDescriptor yX1_amountIn.desc).map (fun d => d.parameters.length) = some 2 := by decide +kernel
theorem kg_X0_48 : GoodIn zAW (wsV RX0 48 RX1 yX1_amountIn ((.code yX1_amountIn prog_3_method_5_code 3 (some .int)) :: zAW)) := aw_V q76 q77 q78 q54 q75
theorem kd_yX1_angleIn : yX1_angleIn.cls = RX1 ∧ yX1_angleIn.cls ≠ "java/lang/invoke/MethodHandle" ∧ yX1_angleIn.cls ≠ "java/lang/invoke/VarHandle" ∧ (parseMethodDescriptor yX1_angleIn.desc).map (fun d => d.parameters.length) = some 2 := by decide +kernel
theorem kg_X1_34 : GoodIn zAW (wsV RX1 34 RX1 yX1_angleIn ((.code yX1_angleIn prog_3_method_3_code 3 (some .int)) :: zAW)) := aw_V q80 q81 q82 q54 q79
theorem kd_yX2_standIn : yX2_standIn.cls ≠ "java/lang/invoke/MethodHandle" ∧ yX2_standIn.cls ≠ "java/lang/invoke/VarHandle" ∧ (parseMethodDescriptor yX2_standIn.desc).map (fun d => d.parameters.length) = some 2 := by decide +kernel
theorem kg_X1_18 : GoodIn zAW ((.code yX2_standIn prog_1_method_33_code 2 (some .int)) :: zAW) := aw_cd q83
theorem kd_yJ9_floorMod_7cf53 : yJ9_floorMod_7cf53.cls ≠ "java/lang/invoke/MethodHandle" ∧ yJ9_floorMod_7cf53.cls ≠ "java/lang/invoke/VarHandle" ∧ (parseMethodDescriptor yJ9_floorMod_7cf53.desc).map (fun d => d.parameters.length) = some 2 := by decide +kernel
theorem kg_X2_217 : GoodIn zAW (va_wsS RX2 217 yJ9_floorMod_7cf53 ((.code yJ9_floorMod_7cf53 prog_12_method_50_code 3 (some .int)) :: zAW)) := aw_S q86 q87 q88 q85
theorem kd_yX2_clayIn : yX2_clayIn.cls ≠ "java/lang/invoke/MethodHandle" ∧ yX2_clayIn.cls ≠ "java/lang/invoke/VarHandle" ∧ (parseMethodDescriptor yX2_clayIn.desc).map (fun d => d.parameters.length) = some 1 := by decide +kernel
theorem kg_X1_22 : GoodIn zAW ((.code yX2_clayIn prog_1_method_32_code 1 (some .int)) :: zAW) := aw_cd q89
theorem kd_yX1_angleAt : yX1_angleAt.cls = RX1 ∧ yX1_angleAt.cls ≠ "java/lang/invoke/MethodHandle" ∧ yX1_angleAt.cls ≠ "java/lang/invoke/VarHandle" ∧ (parseMethodDescriptor yX1_angleAt.desc).map (fun d => d.parameters.length) = some 2 := by decide +kernel
theorem kg_X1_26 : GoodIn zAW (wsV RX1 26 RX1 yX1_angleAt ((.code yX1_angleAt prog_3_method_2_code 3 (some .int)) :: zAW)) := aw_V q92 q93 q94 q54 q91
theorem kd_yX0_shoot : yX0_shoot.cls = RX0 ∧ yX0_shoot.cls ≠ "java/lang/invoke/MethodHandle" ∧ yX0_shoot.cls ≠ "java/lang/invoke/VarHandle" ∧ (parseMethodDescriptor yX0_shoot.desc).map (fun d => d.parameters.length) = some 2 := by decide +kernel
theorem kg_X0_53 : GoodIn zAW (wsV RX0 53 RX0 yX0_shoot ((.code yX0_shoot prog_2_method_6_code 4 none) :: zAW)) := aw_V q97 q98 q99 q70 q96
theorem kd_yX0_outcome : yX0_outcome.cls = RX0 ∧ yX0_outcome.cls ≠ "java/lang/invoke/MethodHandle" ∧ yX0_outcome.cls ≠ "java/lang/invoke/VarHandle" ∧ (parseMethodDescriptor yX0_outcome.desc).map (fun d => d.parameters.length) = some 2 := by decide +kernel
theorem kg_X0_45 : GoodIn zAW (wsV RX0 45 RX0 yX0_outcome ((.code yX0_outcome prog_2_method_5_code 3 (some .int)) :: zAW)) := aw_V q101 q102 q103 q70 q100
theorem kd_yX0_trouble : yX0_trouble.cls = RX0 ∧ yX0_trouble.cls ≠ "java/lang/invoke/MethodHandle" ∧ yX0_trouble.cls ≠ "java/lang/invoke/VarHandle" ∧ (parseMethodDescriptor yX0_trouble.desc).map (fun d => d.parameters.length) = some 2 := by decide +kernel
theorem kg_X0_41 : GoodIn zAW (wsV RX0 41 RX0 yX0_trouble ((.code yX0_trouble prog_2_method_4_code 4 (some .int)) :: zAW)) := aw_V q105 q106 q107 q70 q104
theorem kg_X0_57 : GoodIn zAW ((.code yX2_clayIn prog_1_method_32_code 1 (some .int)) :: zAW) := aw_cd q89
theorem kd_yX2_turn : yX2_turn.cls = RX2 ∧ yX2_turn.cls ≠ "java/lang/invoke/MethodHandle" ∧ yX2_turn.cls ≠ "java/lang/invoke/VarHandle" ∧ (parseMethodDescriptor yX2_turn.desc).map (fun d => d.parameters.length) = some 0 := by decide +kernel
theorem kg_L_105 : GoodIn zAW (wsV RL 105 RX2 yX2_turn ((.code yX2_turn prog_1_method_7_code 1 (some .int)) :: zAW)) := aw_V q110 q111 q112 q49 q109
theorem kd_yX2_angle : yX2_angle.cls = RX2 ∧ yX2_angle.cls ≠ "java/lang/invoke/MethodHandle" ∧ yX2_angle.cls ≠ "java/lang/invoke/VarHandle" ∧ (parseMethodDescriptor yX2_angle.desc).map (fun d => d.parameters.length) = some 2 := by decide +kernel
theorem kg_L_76 : GoodIn zAW (wsV RL 76 RX2 yX2_angle ((.code yX2_angle prog_1_method_8_code 3 (some .int)) :: zAW)) := aw_V q114 q115 q116 q49 q113
theorem kd_yX2_checkStand : yX2_checkStand.cls ≠ "java/lang/invoke/MethodHandle" ∧ yX2_checkStand.cls ≠ "java/lang/invoke/VarHandle" ∧ (parseMethodDescriptor yX2_checkStand.desc).map (fun d => d.parameters.length) = some 1 := by decide +kernel
theorem kg_X2_48 : GoodIn zAW (va_wsS RX2 48 yX2_checkStand ((.code yX2_checkStand prog_1_method_29_code 1 none) :: zAW)) := aw_S q118 q119 q49 q117
theorem kg_X2_90 : GoodIn zAW (wsV RX2 90 RX1 yX1_angleAt ((.code yX1_angleAt prog_3_method_2_code 3 (some .int)) :: zAW)) := aw_V q121 q93 q94 q54 q91
theorem kd_yX2_hardestClay : yX2_hardestClay.cls = RX2 ∧ yX2_hardestClay.cls ≠ "java/lang/invoke/MethodHandle" ∧ yX2_hardestClay.cls ≠ "java/lang/invoke/VarHandle" ∧ (parseMethodDescriptor yX2_hardestClay.desc).map (fun d => d.parameters.length) = some 1 := by decide +kernel
theorem kg_L_87 : GoodIn zAW (wsV RL 87 RX2 yX2_hardestClay ((.code yX2_hardestClay prog_1_method_9_code 2 (some .int)) :: zAW)) := aw_V q123 q124 q125 q49 q122
theorem kd_yX1_hardestAt : yX1_hardestAt.cls = RX1 ∧ yX1_hardestAt.cls ≠ "java/lang/invoke/MethodHandle" ∧ yX1_hardestAt.cls ≠ "java/lang/invoke/VarHandle" ∧ (parseMethodDescriptor yX1_hardestAt.desc).map (fun d => d.parameters.length) = some 1 := by decide +kernel
theorem kg_X2_93 : GoodIn zAW (wsV RX2 93 RX1 yX1_hardestAt ((.code yX1_hardestAt prog_3_method_6_code 4 (some .int)) :: zAW)) := aw_V q127 q128 q129 q54 q126
theorem kd_yX1_amountAt : yX1_amountAt.cls = RX1 ∧ yX1_amountAt.cls ≠ "java/lang/invoke/MethodHandle" ∧ yX1_amountAt.cls ≠ "java/lang/invoke/VarHandle" ∧ (parseMethodDescriptor yX1_amountAt.desc).map (fun d => d.parameters.length) = some 2 := by decide +kernel
theorem kg_X1_37 : GoodIn zAW (wsV RX1 37 RX1 yX1_amountAt ((.code yX1_amountAt prog_3_method_4_code 3 (some .int)) :: zAW)) := aw_V q131 q132 q133 q54 q130
theorem kd_yX2_standOf : yX2_standOf.cls = RX2 ∧ yX2_standOf.cls ≠ "java/lang/invoke/MethodHandle" ∧ yX2_standOf.cls ≠ "java/lang/invoke/VarHandle" ∧ (parseMethodDescriptor yX2_standOf.desc).map (fun d => d.parameters.length) = some 1 := by decide +kernel
theorem kg_L_99 : GoodIn zAW (wsV RL 99 RX2 yX2_standOf ((.code yX2_standOf prog_1_method_10_code 2 (some .int)) :: zAW)) := aw_V q135 q136 q137 q49 q134
theorem kd_yX2_checkGun : yX2_checkGun.cls = RX2 ∧ yX2_checkGun.cls ≠ "java/lang/invoke/MethodHandle" ∧ yX2_checkGun.cls ≠ "java/lang/invoke/VarHandle" ∧ (parseMethodDescriptor yX2_checkGun.desc).map (fun d => d.parameters.length) = some 1 := by decide +kernel
theorem kg_X2_63 : GoodIn zAW (wsV RX2 63 RX2 yX2_checkGun ((.code yX2_checkGun prog_1_method_30_code 2 none) :: zAW)) := aw_V q139 q140 q141 q49 q138
theorem kg_X2_97 : GoodIn zAW (va_wsS RX2 97 yX2_standIn ((.code yX2_standIn prog_1_method_33_code 2 (some .int)) :: zAW)) := aw_S q142 q84 q49 q83
theorem kd_yX2_angleFor : yX2_angleFor.cls = RX2 ∧ yX2_angleFor.cls ≠ "java/lang/invoke/MethodHandle" ∧ yX2_angleFor.cls ≠ "java/lang/invoke/VarHandle" ∧ (parseMethodDescriptor yX2_angleFor.desc).map (fun d => d.parameters.length) = some 1 := by decide +kernel
theorem kg_L_102 : GoodIn zAW (wsV RL 102 RX2 yX2_angleFor ((.code yX2_angleFor prog_1_method_11_code 2 (some .int)) :: zAW)) := aw_V q144 q145 q146 q49 q143
theorem kg_X2_100 : GoodIn zAW (wsV RX2 100 RX1 yX1_angleIn ((.code yX1_angleIn prog_3_method_3_code 3 (some .int)) :: zAW)) := aw_V q147 q81 q82 q54 q79
theorem kd_yX2_guns : yX2_guns.cls = RX2 ∧ yX2_guns.cls ≠ "java/lang/invoke/MethodHandle" ∧ yX2_guns.cls ≠ "java/lang/invoke/VarHandle" ∧ (parseMethodDescriptor yX2_guns.desc).map (fun d => d.parameters.length) = some 0 := by decide +kernel
theorem kg_L_74 : GoodIn zAW (wsV RL 74 RX2 yX2_guns ((.code yX2_guns prog_1_method_12_code 1 (some .int)) :: zAW)) := aw_V q149 q150 q151 q49 q148
theorem kd_yX2_scoreOf : yX2_scoreOf.cls = RX2 ∧ yX2_scoreOf.cls ≠ "java/lang/invoke/MethodHandle" ∧ yX2_scoreOf.cls ≠ "java/lang/invoke/VarHandle" ∧ (parseMethodDescriptor yX2_scoreOf.desc).map (fun d => d.parameters.length) = some 1 := by decide +kernel
theorem kg_L_90 : GoodIn zAW (wsV RL 90 RX2 yX2_scoreOf ((.code yX2_scoreOf prog_1_method_13_code 2 (some .int)) :: zAW)) := aw_V q153 q154 q155 q49 q152
theorem kd_yX2_firstsOf : yX2_firstsOf.cls = RX2 ∧ yX2_firstsOf.cls ≠ "java/lang/invoke/MethodHandle" ∧ yX2_firstsOf.cls ≠ "java/lang/invoke/VarHandle" ∧ (parseMethodDescriptor yX2_firstsOf.desc).map (fun d => d.parameters.length) = some 1 := by decide +kernel
theorem kg_L_108 : GoodIn zAW (wsV RL 108 RX2 yX2_firstsOf ((.code yX2_firstsOf prog_1_method_14_code 2 (some .int)) :: zAW)) := aw_V q157 q158 q159 q49 q156
theorem kd_yX2_fatigueOf : yX2_fatigueOf.cls = RX2 ∧ yX2_fatigueOf.cls ≠ "java/lang/invoke/MethodHandle" ∧ yX2_fatigueOf.cls ≠ "java/lang/invoke/VarHandle" ∧ (parseMethodDescriptor yX2_fatigueOf.desc).map (fun d => d.parameters.length) = some 1 := by decide +kernel
theorem kg_L_111 : GoodIn zAW (wsV RL 111 RX2 yX2_fatigueOf ((.code yX2_fatigueOf prog_1_method_16_code 2 (some .int)) :: zAW)) := aw_V q161 q162 q163 q49 q160
theorem kd_yX2_wouldHit : yX2_wouldHit.cls = RX2 ∧ yX2_wouldHit.cls ≠ "java/lang/invoke/MethodHandle" ∧ yX2_wouldHit.cls ≠ "java/lang/invoke/VarHandle" ∧ (parseMethodDescriptor yX2_wouldHit.desc).map (fun d => d.parameters.length) = some 1 := by decide +kernel
theorem kg_L_114 : GoodIn zAW (wsV RL 114 RX2 yX2_wouldHit ((.code yX2_wouldHit prog_1_method_17_code 2 (some .int)) :: zAW)) := aw_V q165 q166 q167 q49 q164
theorem kg_X2_112 : GoodIn zAW (wsV RX2 112 RX1 yX1_amountIn ((.code yX1_amountIn prog_3_method_5_code 3 (some .int)) :: zAW)) := aw_V q168 q77 q78 q54 q75
theorem kg_X2_115 : GoodIn zAW (wsV RX2 115 RX0 yX0_outcome ((.code yX0_outcome prog_2_method_5_code 3 (some .int)) :: zAW)) := aw_V q169 q102 q103 q70 q100
theorem kd_yX2_leader : yX2_leader.cls = RX2 ∧ yX2_leader.cls ≠ "java/lang/invoke/MethodHandle" ∧ yX2_leader.cls ≠ "java/lang/invoke/VarHandle" ∧ (parseMethodDescriptor yX2_leader.desc).map (fun d => d.parameters.length) = some 0 := by decide +kernel
theorem kg_L_96 : GoodIn zAW (wsV RL 96 RX2 yX2_leader ((.code yX2_leader prog_1_method_18_code 1 (some .int)) :: zAW)) := aw_V q171 q172 q173 q49 q170
theorem kd_yX0_leading : yX0_leading.cls = RX0 ∧ yX0_leading.cls ≠ "java/lang/invoke/MethodHandle" ∧ yX0_leading.cls ≠ "java/lang/invoke/VarHandle" ∧ (parseMethodDescriptor yX0_leading.desc).map (fun d => d.parameters.length) = some 0 := by decide +kernel
theorem kg_X2_118 : GoodIn zAW (wsV RX2 118 RX0 yX0_leading ((.code yX0_leading prog_2_method_9_code 3 (some .int)) :: zAW)) := aw_V q175 q176 q177 q70 q174
theorem kd_yX2_tied : yX2_tied.cls = RX2 ∧ yX2_tied.cls ≠ "java/lang/invoke/MethodHandle" ∧ yX2_tied.cls ≠ "java/lang/invoke/VarHandle" ∧ (parseMethodDescriptor yX2_tied.desc).map (fun d => d.parameters.length) = some 0 := by decide +kernel
theorem kg_L_120 : GoodIn zAW (wsV RL 120 RX2 yX2_tied ((.code yX2_tied prog_1_method_19_code 1 (some .int)) :: zAW)) := aw_V q179 q180 q181 q49 q178
theorem kd_yX0_countTied : yX0_countTied.cls = RX0 ∧ yX0_countTied.cls ≠ "java/lang/invoke/MethodHandle" ∧ yX0_countTied.cls ≠ "java/lang/invoke/VarHandle" ∧ (parseMethodDescriptor yX0_countTied.desc).map (fun d => d.parameters.length) = some 0 := by decide +kernel
theorem kg_X2_121 : GoodIn zAW (wsV RX2 121 RX0 yX0_countTied ((.code yX0_countTied prog_2_method_10_code 4 (some .int)) :: zAW)) := aw_V q183 q184 q185 q70 q182
theorem kg_X0_70 : GoodIn zAW (wsV RX0 70 RX0 yX0_leading ((.code yX0_leading prog_2_method_9_code 3 (some .int)) :: zAW)) := aw_V q186 q176 q177 q70 q174
theorem kd_yX2_rankOf : yX2_rankOf.cls = RX2 ∧ yX2_rankOf.cls ≠ "java/lang/invoke/MethodHandle" ∧ yX2_rankOf.cls ≠ "java/lang/invoke/VarHandle" ∧ (parseMethodDescriptor yX2_rankOf.desc).map (fun d => d.parameters.length) = some 1 := by decide +kernel
theorem kg_L_93 : GoodIn zAW (wsV RL 93 RX2 yX2_rankOf ((.code yX2_rankOf prog_1_method_20_code 2 (some .int)) :: zAW)) := aw_V q188 q189 q190 q49 q187
theorem kd_yX0_countAbove : yX0_countAbove.cls = RX0 ∧ yX0_countAbove.cls ≠ "java/lang/invoke/MethodHandle" ∧ yX0_countAbove.cls ≠ "java/lang/invoke/VarHandle" ∧ (parseMethodDescriptor yX0_countAbove.desc).map (fun d => d.parameters.length) = some 1 := by decide +kernel
theorem kg_X2_124 : GoodIn zAW (wsV RX2 124 RX0 yX0_countAbove ((.code yX0_countAbove prog_2_method_11_code 4 (some .int)) :: zAW)) := aw_V q192 q193 q194 q70 q191
theorem kd_yX2_scoreIn : yX2_scoreIn.cls = RX2 ∧ yX2_scoreIn.cls ≠ "java/lang/invoke/MethodHandle" ∧ yX2_scoreIn.cls ≠ "java/lang/invoke/VarHandle" ∧ (parseMethodDescriptor yX2_scoreIn.desc).map (fun d => d.parameters.length) = some 2 := by decide +kernel
theorem kg_L_133 : GoodIn zAW (wsV RL 133 RX2 yX2_scoreIn ((.code yX2_scoreIn prog_1_method_21_code 3 (some .int)) :: zAW)) := aw_V q196 q197 q198 q49 q195
theorem kd_yX0_takeOver : yX0_takeOver.cls = RX0 ∧ yX0_takeOver.cls ≠ "java/lang/invoke/MethodHandle" ∧ yX0_takeOver.cls ≠ "java/lang/invoke/VarHandle" ∧ (parseMethodDescriptor yX0_takeOver.desc).map (fun d => d.parameters.length) = some 1 := by decide +kernel
theorem kg_X2_127 : GoodIn zAW (wsV RX2 127 RX0 yX0_takeOver ((.code yX0_takeOver prog_2_method_3_code 3 none) :: zAW)) := aw_V q200 q201 q202 q70 q199
theorem kg_X2_131 : GoodIn zAW (wsV RX2 131 RX0 yX0_playAlone ((.code yX0_playAlone prog_2_method_7_code 7 none) :: zAW)) := aw_V q203 q73 q74 q70 q71
theorem kd_yX2_turnsUntilMiss : yX2_turnsUntilMiss.cls = RX2 ∧ yX2_turnsUntilMiss.cls ≠ "java/lang/invoke/MethodHandle" ∧ yX2_turnsUntilMiss.cls ≠ "java/lang/invoke/VarHandle" ∧ (parseMethodDescriptor yX2_turnsUntilMiss.desc).map (fun d => d.parameters.length) = some 1 := by decide +kernel
theorem kg_L_130 : GoodIn zAW (wsV RL 130 RX2 yX2_turnsUntilMiss ((.code yX2_turnsUntilMiss prog_1_method_22_code 3 (some .int)) :: zAW)) := aw_V q205 q206 q207 q49 q204
theorem kd_yX2_leaderIn : yX2_leaderIn.cls = RX2 ∧ yX2_leaderIn.cls ≠ "java/lang/invoke/MethodHandle" ∧ yX2_leaderIn.cls ≠ "java/lang/invoke/VarHandle" ∧ (parseMethodDescriptor yX2_leaderIn.desc).map (fun d => d.parameters.length) = some 1 := by decide +kernel
theorem kg_L_136 : GoodIn zAW (wsV RL 136 RX2 yX2_leaderIn ((.code yX2_leaderIn prog_1_method_23_code 2 (some .int)) :: zAW)) := aw_V q209 q210 q211 q49 q208
theorem kd_yX2_wouldWin : yX2_wouldWin.cls = RX2 ∧ yX2_wouldWin.cls ≠ "java/lang/invoke/MethodHandle" ∧ yX2_wouldWin.cls ≠ "java/lang/invoke/VarHandle" ∧ (parseMethodDescriptor yX2_wouldWin.desc).map (fun d => d.parameters.length) = some 0 := by decide +kernel
theorem kg_L_139 : GoodIn zAW (wsV RL 139 RX2 yX2_wouldWin ((.code yX2_wouldWin prog_1_method_24_code 1 (some .int)) :: zAW)) := aw_V q213 q214 q215 q49 q212
theorem kd_yX0_settleTie : yX0_settleTie.cls = RX0 ∧ yX0_settleTie.cls ≠ "java/lang/invoke/MethodHandle" ∧ yX0_settleTie.cls ≠ "java/lang/invoke/VarHandle" ∧ (parseMethodDescriptor yX0_settleTie.desc).map (fun d => d.parameters.length) = some 0 := by decide +kernel
theorem kg_X2_81 : GoodIn zAW (wsV RX2 81 RX0 yX0_settleTie ((.code yX0_settleTie prog_2_method_13_code 3 (some .int)) :: zAW)) := aw_V q217 q218 q219 q70 q216
theorem kd_yX0_countLeft : yX0_countLeft.cls = RX0 ∧ yX0_countLeft.cls ≠ "java/lang/invoke/MethodHandle" ∧ yX0_countLeft.cls ≠ "java/lang/invoke/VarHandle" ∧ (parseMethodDescriptor yX0_countLeft.desc).map (fun d => d.parameters.length) = some 0 := by decide +kernel
theorem kg_X0_74 : GoodIn zAW (wsV RX0 74 RX0 yX0_countLeft ((.code yX0_countLeft prog_2_method_16_code 3 (some .int)) :: zAW)) := aw_V q221 q222 q223 q70 q220
theorem kd_yX0_shootRound : yX0_shootRound.cls = RX0 ∧ yX0_shootRound.cls ≠ "java/lang/invoke/MethodHandle" ∧ yX0_shootRound.cls ≠ "java/lang/invoke/VarHandle" ∧ (parseMethodDescriptor yX0_shootRound.desc).map (fun d => d.parameters.length) = some 1 := by decide +kernel
theorem kg_X0_77 : GoodIn zAW (wsV RX0 77 RX0 yX0_shootRound ((.code yX0_shootRound prog_2_method_14_code 4 none) :: zAW)) := aw_V q225 q226 q227 q70 q224
theorem kd_yX0_keepThoseWhoHit : yX0_keepThoseWhoHit.cls = RX0 ∧ yX0_keepThoseWhoHit.cls ≠ "java/lang/invoke/MethodHandle" ∧ yX0_keepThoseWhoHit.cls ≠ "java/lang/invoke/VarHandle" ∧ (parseMethodDescriptor yX0_keepThoseWhoHit.desc).map (fun d => d.parameters.length) = some 0 := by decide +kernel
theorem kg_X0_84 : GoodIn zAW (wsV RX0 84 RX0 yX0_keepThoseWhoHit ((.code yX0_keepThoseWhoHit prog_2_method_15_code 2 none) :: zAW)) := aw_V q229 q230 q231 q70 q228
theorem kd_yX0_firstLeft : yX0_firstLeft.cls = RX0 ∧ yX0_firstLeft.cls ≠ "java/lang/invoke/MethodHandle" ∧ yX0_firstLeft.cls ≠ "java/lang/invoke/VarHandle" ∧ (parseMethodDescriptor yX0_firstLeft.desc).map (fun d => d.parameters.length) = some 0 := by decide +kernel
theorem kg_X0_81 : GoodIn zAW (wsV RX0 81 RX0 yX0_firstLeft ((.code yX0_firstLeft prog_2_method_17_code 2 (some .int)) :: zAW)) := aw_V q233 q234 q235 q70 q232
theorem kd_yX2_bestRest : yX2_bestRest.cls = RX2 ∧ yX2_bestRest.cls ≠ "java/lang/invoke/MethodHandle" ∧ yX2_bestRest.cls ≠ "java/lang/invoke/VarHandle" ∧ (parseMethodDescriptor yX2_bestRest.desc).map (fun d => d.parameters.length) = some 1 := by decide +kernel
theorem kg_L_123 : GoodIn zAW (wsV RL 123 RX2 yX2_bestRest ((.code yX2_bestRest prog_1_method_25_code 6 (some .int)) :: zAW)) := aw_V q237 q238 q239 q49 q236
theorem kd_yX2_scoreWithRest : yX2_scoreWithRest.cls = RX2 ∧ yX2_scoreWithRest.cls ≠ "java/lang/invoke/MethodHandle" ∧ yX2_scoreWithRest.cls ≠ "java/lang/invoke/VarHandle" ∧ (parseMethodDescriptor yX2_scoreWithRest.desc).map (fun d => d.parameters.length) = some 2 := by decide +kernel
theorem kg_X2_138 : GoodIn zAW (wsV RX2 138 RX2 yX2_scoreWithRest ((.code yX2_scoreWithRest prog_1_method_34_code 3 (some .int)) :: zAW)) := aw_V q241 q242 q243 q49 q240
theorem kd_yX2_swingWanted : yX2_swingWanted.cls = RX2 ∧ yX2_swingWanted.cls ≠ "java/lang/invoke/MethodHandle" ∧ yX2_swingWanted.cls ≠ "java/lang/invoke/VarHandle" ∧ (parseMethodDescriptor yX2_swingWanted.desc).map (fun d => d.parameters.length) = some 1 := by decide +kernel
theorem kg_L_117 : GoodIn zAW (wsV RL 117 RX2 yX2_swingWanted ((.code yX2_swingWanted prog_1_method_26_code 3 (some .int)) :: zAW)) := aw_V q245 q246 q247 q49 q244
theorem kd_yX1_greatestAmount : yX1_greatestAmount.cls = RX1 ∧ yX1_greatestAmount.cls ≠ "java/lang/invoke/MethodHandle" ∧ yX1_greatestAmount.cls ≠ "java/lang/invoke/VarHandle" ∧ (parseMethodDescriptor yX1_greatestAmount.desc).map (fun d => d.parameters.length) = some 0 := by decide +kernel
theorem kg_X2_141 : GoodIn zAW (wsV RX2 141 RX1 yX1_greatestAmount ((.code yX1_greatestAmount prog_3_method_7_code 3 (some .int)) :: zAW)) := aw_V q249 q250 q251 q54 q248
theorem kg_X1_40 : GoodIn zAW (wsV RX1 40 RX1 yX1_hardestAt ((.code yX1_hardestAt prog_3_method_6_code 4 (some .int)) :: zAW)) := aw_V q252 q128 q129 q54 q126
theorem kd_yX2_digest : yX2_digest.cls = RX2 ∧ yX2_digest.cls ≠ "java/lang/invoke/MethodHandle" ∧ yX2_digest.cls ≠ "java/lang/invoke/VarHandle" ∧ (parseMethodDescriptor yX2_digest.desc).map (fun d => d.parameters.length) = some 0 := by decide +kernel
theorem kg_L_70 : GoodIn zAW (wsV RL 70 RX2 yX2_digest ((.code yX2_digest prog_1_method_28_code 5 (some .long)) :: zAW)) := aw_V q256 q257 q258 q49 q255
theorem kg_X2_154 : GoodIn zAW (wsV RX2 154 RX2 yX2_turn ((.code yX2_turn prog_1_method_7_code 1 (some .int)) :: zAW)) := aw_V q259 q111 q112 q49 q109
theorem kd_yX2_fold : yX2_fold.cls ≠ "java/lang/invoke/MethodHandle" ∧ yX2_fold.cls ≠ "java/lang/invoke/VarHandle" ∧ (parseMethodDescriptor yX2_fold.desc).map (fun d => d.parameters.length) = some 2 := by decide +kernel
theorem kg_X2_156 : GoodIn zAW (va_wsS RX2 156 yX2_fold ((.code yX2_fold prog_1_method_35_code 4 (some .long)) :: zAW)) := aw_S q261 q262 q49 q260
theorem kg_X2_160 : GoodIn zAW (wsV RX2 160 RX2 yX2_guns ((.code yX2_guns prog_1_method_12_code 1 (some .int)) :: zAW)) := aw_V q263 q150 q151 q49 q148
theorem kg_X2_163 : GoodIn zAW (wsV RX2 163 RX2 yX2_leader ((.code yX2_leader prog_1_method_18_code 1 (some .int)) :: zAW)) := aw_V q264 q172 q173 q49 q170
theorem kg_X2_166 : GoodIn zAW (wsV RX2 166 RX2 yX2_tied ((.code yX2_tied prog_1_method_19_code 1 (some .int)) :: zAW)) := aw_V q265 q180 q181 q49 q178
theorem kg_X2_169 : GoodIn zAW (wsV RX2 169 RX2 yX2_wouldWin ((.code yX2_wouldWin prog_1_method_24_code 1 (some .int)) :: zAW)) := aw_V q266 q214 q215 q49 q212
theorem kg_X2_172 : GoodIn zAW (wsV RX2 172 RX2 yX2_leaderIn ((.code yX2_leaderIn prog_1_method_23_code 2 (some .int)) :: zAW)) := aw_V q267 q210 q211 q49 q208
theorem kg_X2_175 : GoodIn zAW (wsV RX2 175 RX2 yX2_angle ((.code yX2_angle prog_1_method_8_code 3 (some .int)) :: zAW)) := aw_V q268 q115 q116 q49 q113
theorem kg_X2_178 : GoodIn zAW (wsV RX2 178 RX2 yX2_hardestClay ((.code yX2_hardestClay prog_1_method_9_code 2 (some .int)) :: zAW)) := aw_V q269 q124 q125 q49 q122
theorem kg_X2_181 : GoodIn zAW (wsV RX2 181 RX2 yX2_standOf ((.code yX2_standOf prog_1_method_10_code 2 (some .int)) :: zAW)) := aw_V q270 q136 q137 q49 q134
theorem kg_X2_184 : GoodIn zAW (wsV RX2 184 RX2 yX2_angleFor ((.code yX2_angleFor prog_1_method_11_code 2 (some .int)) :: zAW)) := aw_V q271 q145 q146 q49 q143
theorem kg_X2_187 : GoodIn zAW (wsV RX2 187 RX2 yX2_scoreOf ((.code yX2_scoreOf prog_1_method_13_code 2 (some .int)) :: zAW)) := aw_V q272 q154 q155 q49 q152
theorem kg_X2_190 : GoodIn zAW (wsV RX2 190 RX2 yX2_firstsOf ((.code yX2_firstsOf prog_1_method_14_code 2 (some .int)) :: zAW)) := aw_V q273 q158 q159 q49 q156
theorem kd_yX2_missesOf : yX2_missesOf.cls = RX2 ∧ yX2_missesOf.cls ≠ "java/lang/invoke/MethodHandle" ∧ yX2_missesOf.cls ≠ "java/lang/invoke/VarHandle" ∧ (parseMethodDescriptor yX2_missesOf.desc).map (fun d => d.parameters.length) = some 1 := by decide +kernel
theorem kg_X2_193 : GoodIn zAW (wsV RX2 193 RX2 yX2_missesOf ((.code yX2_missesOf prog_1_method_15_code 2 (some .int)) :: zAW)) := aw_V q275 q276 q277 q49 q274
theorem kg_X2_196 : GoodIn zAW (wsV RX2 196 RX2 yX2_fatigueOf ((.code yX2_fatigueOf prog_1_method_16_code 2 (some .int)) :: zAW)) := aw_V q278 q162 q163 q49 q160
theorem kg_X2_199 : GoodIn zAW (wsV RX2 199 RX2 yX2_wouldHit ((.code yX2_wouldHit prog_1_method_17_code 2 (some .int)) :: zAW)) := aw_V q279 q166 q167 q49 q164
theorem kg_X2_202 : GoodIn zAW (wsV RX2 202 RX2 yX2_rankOf ((.code yX2_rankOf prog_1_method_20_code 2 (some .int)) :: zAW)) := aw_V q280 q189 q190 q49 q187
theorem kg_X2_205 : GoodIn zAW (wsV RX2 205 RX2 yX2_turnsUntilMiss ((.code yX2_turnsUntilMiss prog_1_method_22_code 3 (some .int)) :: zAW)) := aw_V q281 q206 q207 q49 q204
theorem kg_X2_208 : GoodIn zAW (wsV RX2 208 RX2 yX2_bestRest ((.code yX2_bestRest prog_1_method_25_code 6 (some .int)) :: zAW)) := aw_V q282 q238 q239 q49 q236
theorem kd_yX3_copy : yX3_copy.cls = RX3 ∧ yX3_copy.cls ≠ "java/lang/invoke/MethodHandle" ∧ yX3_copy.cls ≠ "java/lang/invoke/VarHandle" ∧ (parseMethodDescriptor yX3_copy.desc).map (fun d => d.parameters.length) = some 0 := by decide +kernel
theorem kg_L_126 : GoodIn zAW (wsV RL 126 RX3 yX3_copy ((.code yX3_copy prog_5_method_3_code 3 (Option.some (.object "ClayTrapsLaw$Sim"))) :: zAW)) := aw_V q284 q285 q286 q287 q283
theorem kd_yX3_init : yX3_init.cls ≠ "java/lang/invoke/MethodHandle" ∧ yX3_init.cls ≠ "java/lang/invoke/VarHandle" ∧ (parseMethodDescriptor yX3_init.desc).map (fun d => d.parameters.length) = some 0 := by decide +kernel
theorem kg_X3_18 : GoodIn zAW ((.code yX3_init prog_5_method_1_code 1 none) :: zAW) := aw_cd q288
theorem kd_yX3_pass : yX3_pass.cls = RX3 ∧ yX3_pass.cls ≠ "java/lang/invoke/MethodHandle" ∧ yX3_pass.cls ≠ "java/lang/invoke/VarHandle" ∧ (parseMethodDescriptor yX3_pass.desc).map (fun d => d.parameters.length) = some 0 := by decide +kernel
theorem kg_L_142 : GoodIn zAW (wsV RL 142 RX3 yX3_pass ((.code yX3_pass prog_5_method_8_code 6 (some .int)) :: zAW)) := aw_V q294 q295 q296 q287 q293
theorem kd_yX3_hit : yX3_hit.cls = RX3 ∧ yX3_hit.cls ≠ "java/lang/invoke/MethodHandle" ∧ yX3_hit.cls ≠ "java/lang/invoke/VarHandle" ∧ (parseMethodDescriptor yX3_hit.desc).map (fun d => d.parameters.length) = some 1 := by decide +kernel
theorem kg_X3_38 : GoodIn zAW (wsV RX3 38 RX3 yX3_hit ((.code yX3_hit prog_5_method_7_code 4 (some .int)) :: zAW)) := aw_V q298 q299 q300 q287 q297
theorem kd_yX3_angleFor : yX3_angleFor.cls = RX3 ∧ yX3_angleFor.cls ≠ "java/lang/invoke/MethodHandle" ∧ yX3_angleFor.cls ≠ "java/lang/invoke/VarHandle" ∧ (parseMethodDescriptor yX3_angleFor.desc).map (fun d => d.parameters.length) = some 1 := by decide +kernel
theorem kg_X3_31 : GoodIn zAW (wsV RX3 31 RX3 yX3_angleFor ((.code yX3_angleFor prog_5_method_5_code 2 (some .int)) :: zAW)) := aw_V q302 q303 q304 q287 q301
theorem kd_yX3_angle : yX3_angle.cls = RX3 ∧ yX3_angle.cls ≠ "java/lang/invoke/MethodHandle" ∧ yX3_angle.cls ≠ "java/lang/invoke/VarHandle" ∧ (parseMethodDescriptor yX3_angle.desc).map (fun d => d.parameters.length) = some 2 := by decide +kernel
theorem kg_X3_27 : GoodIn zAW (wsV RX3 27 RX3 yX3_angle ((.code yX3_angle prog_5_method_4_code 4 (some .int)) :: zAW)) := aw_V q306 q307 q308 q287 q305
theorem kd_yX3_amount : yX3_amount.cls ≠ "java/lang/invoke/MethodHandle" ∧ yX3_amount.cls ≠ "java/lang/invoke/VarHandle" ∧ (parseMethodDescriptor yX3_amount.desc).map (fun d => d.parameters.length) = some 1 := by decide +kernel
theorem kg_X3_35 : GoodIn zAW (va_wsS RX3 35 yX3_amount ((.code yX3_amount prog_5_method_6_code 1 (some .int)) :: zAW)) := aw_S q310 q311 q287 q309
theorem kd_yX3_pass_ : yX3_pass_.cls = RX3 ∧ yX3_pass_.cls ≠ "java/lang/invoke/MethodHandle" ∧ yX3_pass_.cls ≠ "java/lang/invoke/VarHandle" ∧ (parseMethodDescriptor yX3_pass_.desc).map (fun d => d.parameters.length) = some 1 := by decide +kernel
theorem kg_L_53 : GoodIn zAW (wsV RL 53 RX3 yX3_pass_ ((.code yX3_pass_ prog_5_method_9_code 4 (some .int)) :: zAW)) := aw_V q313 q314 q315 q287 q312
theorem kg_X3_41 : GoodIn zAW (wsV RX3 41 RX3 yX3_pass ((.code yX3_pass prog_5_method_8_code 6 (some .int)) :: zAW)) := aw_V q316 q295 q296 q287 q293
theorem kd_yX3_isSame : yX3_isSame.cls = RX3 ∧ yX3_isSame.cls ≠ "java/lang/invoke/MethodHandle" ∧ yX3_isSame.cls ≠ "java/lang/invoke/VarHandle" ∧ (parseMethodDescriptor yX3_isSame.desc).map (fun d => d.parameters.length) = some 1 := by decide +kernel
theorem kg_L_144 : GoodIn zAW (wsV RL 144 RX3 yX3_isSame ((.code yX3_isSame prog_5_method_12_code 11 (some .boolean)) :: zAW)) := aw_V q318 q319 q320 q287 q317
theorem kg_X3_48 : GoodIn zAW (wsV RX3 48 RX2 yX2_angle ((.code yX2_angle prog_1_method_8_code 3 (some .int)) :: zAW)) := aw_V q321 q115 q116 q49 q113
theorem kg_X3_51 : GoodIn zAW (wsV RX3 51 RX2 yX2_hardestClay ((.code yX2_hardestClay prog_1_method_9_code 2 (some .int)) :: zAW)) := aw_V q322 q124 q125 q49 q122
theorem kg_X3_54 : GoodIn zAW (wsV RX3 54 RX2 yX2_standOf ((.code yX2_standOf prog_1_method_10_code 2 (some .int)) :: zAW)) := aw_V q323 q136 q137 q49 q134
theorem kg_X3_57 : GoodIn zAW (wsV RX3 57 RX2 yX2_angleFor ((.code yX2_angleFor prog_1_method_11_code 2 (some .int)) :: zAW)) := aw_V q324 q145 q146 q49 q143
theorem kg_X3_58 : GoodIn zAW (wsV RX3 58 RX2 yX2_scoreOf ((.code yX2_scoreOf prog_1_method_13_code 2 (some .int)) :: zAW)) := aw_V q325 q154 q155 q49 q152
theorem kg_X3_61 : GoodIn zAW (wsV RX3 61 RX2 yX2_firstsOf ((.code yX2_firstsOf prog_1_method_14_code 2 (some .int)) :: zAW)) := aw_V q326 q158 q159 q49 q156
theorem kg_X3_64 : GoodIn zAW (wsV RX3 64 RX2 yX2_missesOf ((.code yX2_missesOf prog_1_method_15_code 2 (some .int)) :: zAW)) := aw_V q327 q276 q277 q49 q274
theorem kg_X3_67 : GoodIn zAW (wsV RX3 67 RX2 yX2_fatigueOf ((.code yX2_fatigueOf prog_1_method_16_code 2 (some .int)) :: zAW)) := aw_V q328 q162 q163 q49 q160
theorem kg_X3_70 : GoodIn zAW (wsV RX3 70 RX2 yX2_wouldHit ((.code yX2_wouldHit prog_1_method_17_code 2 (some .int)) :: zAW)) := aw_V q329 q166 q167 q49 q164
theorem kg_X3_73 : GoodIn zAW (wsV RX3 73 RX2 yX2_rankOf ((.code yX2_rankOf prog_1_method_20_code 2 (some .int)) :: zAW)) := aw_V q330 q189 q190 q49 q187
theorem kg_X3_76 : GoodIn zAW (wsV RX3 76 RX2 yX2_turn ((.code yX2_turn prog_1_method_7_code 1 (some .int)) :: zAW)) := aw_V q331 q111 q112 q49 q109
theorem kg_X3_78 : GoodIn zAW (wsV RX3 78 RX2 yX2_guns ((.code yX2_guns prog_1_method_12_code 1 (some .int)) :: zAW)) := aw_V q332 q150 q151 q49 q148
theorem kg_X3_80 : GoodIn zAW (wsV RX3 80 RX2 yX2_leader ((.code yX2_leader prog_1_method_18_code 1 (some .int)) :: zAW)) := aw_V q333 q172 q173 q49 q170
theorem kd_yX3_leader : yX3_leader.cls = RX3 ∧ yX3_leader.cls ≠ "java/lang/invoke/MethodHandle" ∧ yX3_leader.cls ≠ "java/lang/invoke/VarHandle" ∧ (parseMethodDescriptor yX3_leader.desc).map (fun d => d.parameters.length) = some 0 := by decide +kernel
theorem kg_X3_45 : GoodIn zAW (wsV RX3 45 RX3 yX3_leader ((.code yX3_leader prog_5_method_10_code 3 (some .int)) :: zAW)) := aw_V q335 q336 q337 q287 q334
theorem kg_X3_81 : GoodIn zAW (wsV RX3 81 RX2 yX2_tied ((.code yX2_tied prog_1_method_19_code 1 (some .int)) :: zAW)) := aw_V q338 q180 q181 q49 q178
theorem kd_yX2_meanScore : yX2_meanScore.cls = RX2 ∧ yX2_meanScore.cls ≠ "java/lang/invoke/MethodHandle" ∧ yX2_meanScore.cls ≠ "java/lang/invoke/VarHandle" ∧ (parseMethodDescriptor yX2_meanScore.desc).map (fun d => d.parameters.length) = some 0 := by decide +kernel
theorem kg_X3_84 : GoodIn zAW (wsV RX3 84 RX2 yX2_meanScore ((.code yX2_meanScore prog_1_method_27_code 1 (some .double)) :: zAW)) := aw_V q340 q341 q342 q49 q339
theorem kd_yX0_totalScore : yX0_totalScore.cls = RX0 ∧ yX0_totalScore.cls ≠ "java/lang/invoke/MethodHandle" ∧ yX0_totalScore.cls ≠ "java/lang/invoke/VarHandle" ∧ (parseMethodDescriptor yX0_totalScore.desc).map (fun d => d.parameters.length) = some 0 := by decide +kernel
theorem kg_X2_149 : GoodIn zAW (wsV RX2 149 RX0 yX0_totalScore ((.code yX0_totalScore prog_2_method_12_code 3 (some .int)) :: zAW)) := aw_V q344 q345 q346 q70 q343
theorem kd_yL_below : yL_below.cls ≠ "java/lang/invoke/MethodHandle" ∧ yL_below.cls ≠ "java/lang/invoke/VarHandle" ∧ (parseMethodDescriptor yL_below.desc).map (fun d => d.parameters.length) = some 2 := by decide +kernel
theorem kg_L_15 : GoodIn zAW (va_wsS RL 15 yL_below ((.code yL_below method_2_code 2 (some .int)) :: zAW)) := aw_S q348 q349 q350 q347
theorem kd_yL_cell : yL_cell.cls ≠ "java/lang/invoke/MethodHandle" ∧ yL_cell.cls ≠ "java/lang/invoke/VarHandle" ∧ (parseMethodDescriptor yL_cell.desc).map (fun d => d.parameters.length) = some 2 := by decide +kernel
theorem kg_L_57 : GoodIn zAW (va_wsS RL 57 yL_cell ((.code yL_cell method_3_code 2 (some .int)) :: zAW)) := aw_S q352 q353 q350 q351
theorem kd_yL_act : yL_act.cls ≠ "java/lang/invoke/MethodHandle" ∧ yL_act.cls ≠ "java/lang/invoke/VarHandle" ∧ (parseMethodDescriptor yL_act.desc).map (fun d => d.parameters.length) = some 3 := by decide +kernel
theorem kg_L_61 : GoodIn zAW (va_wsS RL 61 yL_act ((.codeWith yL_act method_4_code 9 (some .boolean) [(26, 161, 406, 54), (162, 284, 406, 54), (285, 322, 406, 54), (323, 356, 406, 54), (357, 405, 406, 54)]) :: zAW)) := aw_S q355 q356 q350 q354
theorem kd_yX3_add : yX3_add.cls = RX3 ∧ yX3_add.cls ≠ "java/lang/invoke/MethodHandle" ∧ yX3_add.cls ≠ "java/lang/invoke/VarHandle" ∧ (parseMethodDescriptor yX3_add.desc).map (fun d => d.parameters.length) = some 2 := by decide +kernel
theorem kg_L_21 : GoodIn zAW (wsV RL 21 RX3 yX3_add ((.code yX3_add prog_5_method_2_code 5 none) :: zAW)) := aw_V q358 q359 q360 q287 q357
theorem kd_yX2_addGun : yX2_addGun.cls = RX2 ∧ yX2_addGun.cls ≠ "java/lang/invoke/MethodHandle" ∧ yX2_addGun.cls ≠ "java/lang/invoke/VarHandle" ∧ (parseMethodDescriptor yX2_addGun.desc).map (fun d => d.parameters.length) = some 2 := by decide +kernel
theorem kg_L_25 : GoodIn zAW (wsV RL 25 RX2 yX2_addGun ((.code yX2_addGun prog_1_method_2_code 3 (some .int)) :: zAW)) := aw_V q362 q363 q364 q49 q361
theorem kd_yX0_enter : yX0_enter.cls = RX0 ∧ yX0_enter.cls ≠ "java/lang/invoke/MethodHandle" ∧ yX0_enter.cls ≠ "java/lang/invoke/VarHandle" ∧ (parseMethodDescriptor yX0_enter.desc).map (fun d => d.parameters.length) = some 2 := by decide +kernel
theorem kg_X2_44 : GoodIn zAW (wsV RX2 44 RX0 yX0_enter ((.code yX0_enter prog_2_method_2_code 4 (some .int)) :: zAW)) := aw_V q367 q368 q369 q70 q366
theorem kd_yX2_setTrap : yX2_setTrap.cls = RX2 ∧ yX2_setTrap.cls ≠ "java/lang/invoke/MethodHandle" ∧ yX2_setTrap.cls ≠ "java/lang/invoke/VarHandle" ∧ (parseMethodDescriptor yX2_setTrap.desc).map (fun d => d.parameters.length) = some 3 := by decide +kernel
theorem kg_L_35 : GoodIn zAW (wsV RL 35 RX2 yX2_setTrap ((.code yX2_setTrap prog_1_method_3_code 5 (some .int)) :: zAW)) := aw_V q371 q372 q373 q49 q370
theorem kd_yX2_rest : yX2_rest.cls = RX2 ∧ yX2_rest.cls ≠ "java/lang/invoke/MethodHandle" ∧ yX2_rest.cls ≠ "java/lang/invoke/VarHandle" ∧ (parseMethodDescriptor yX2_rest.desc).map (fun d => d.parameters.length) = some 1 := by decide +kernel
theorem kg_L_39 : GoodIn zAW (wsV RL 39 RX2 yX2_rest ((.code yX2_rest prog_1_method_4_code 3 (some .int)) :: zAW)) := aw_V q375 q376 q377 q49 q374
theorem kd_yX3_win : yX3_win.cls = RX3 ∧ yX3_win.cls ≠ "java/lang/invoke/MethodHandle" ∧ yX3_win.cls ≠ "java/lang/invoke/VarHandle" ∧ (parseMethodDescriptor yX3_win.desc).map (fun d => d.parameters.length) = some 0 := by decide +kernel
theorem kg_L_43 : GoodIn zAW (wsV RL 43 RX3 yX3_win ((.code yX3_win prog_5_method_11_code 7 (some .int)) :: zAW)) := aw_V q379 q380 q381 q287 q378
theorem kd_yX2_shootOff : yX2_shootOff.cls = RX2 ∧ yX2_shootOff.cls ≠ "java/lang/invoke/MethodHandle" ∧ yX2_shootOff.cls ≠ "java/lang/invoke/VarHandle" ∧ (parseMethodDescriptor yX2_shootOff.desc).map (fun d => d.parameters.length) = some 0 := by decide +kernel
theorem kg_L_47 : GoodIn zAW (wsV RL 47 RX2 yX2_shootOff ((.code yX2_shootOff prog_1_method_6_code 1 (some .int)) :: zAW)) := aw_V q383 q384 q385 q49 q382
theorem kd_yL_build : yL_build.cls ≠ "java/lang/invoke/MethodHandle" ∧ yL_build.cls ≠ "java/lang/invoke/VarHandle" ∧ (parseMethodDescriptor yL_build.desc).map (fun d => d.parameters.length) = some 2 := by decide +kernel
theorem kg_L_66 : GoodIn zAW (va_wsS RL 66 yL_build ((.code yL_build method_5_code 6 (Option.some (.object "ClayTrapsLaw$Sim"))) :: zAW)) := aw_S q387 q388 q350 q386
theorem kg_L_56 : GoodIn zAW ((.code yX3_init prog_5_method_1_code 1 none) :: zAW) := aw_cd q288
