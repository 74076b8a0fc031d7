theorem zq_t {w : Cond} (h : w ∈ tables_1) (hg : goodWord w = true := by rfl) : w ∈ zAW := List.mem_filter.mpr ⟨List.mem_append_right _ h, hg⟩
theorem zq_s {w : Cond} (h : w ∈ k2_sels lw_privs) (hg : goodWord w = true := by rfl) : w ∈ zAW := List.mem_filter.mpr ⟨List.mem_append_left _ h, hg⟩
set_option maxRecDepth 20000 in
theorem q0 : Cond.laysFinal "ClayTraps$Squad" "ClayTraps$Squad" "swings" "[I" ∈ zAW := zq_t (List.mem_append_left _ (List.mem_of_getElem? (l := tables_1_1) (i := 59) rfl))
set_option maxRecDepth 20000 in
theorem q1 : Cond.laysFinal "ClayTraps$Squad" "ClayTraps$Squad" "steadinesses" "[I" ∈ zAW := zq_t (List.mem_append_left _ (List.mem_of_getElem? (l := tables_1_1) (i := 61) rfl))
set_option maxRecDepth 20000 in
theorem q2 : Cond.laysFinal "ClayTraps$Squad" "ClayTraps$Squad" "fatigues" "[I" ∈ zAW := zq_t (List.mem_append_left _ (List.mem_of_getElem? (l := tables_1_1) (i := 63) rfl))
set_option maxRecDepth 20000 in
theorem q3 : Cond.laysFinal "ClayTraps$Squad" "ClayTraps$Squad" "scores" "[I" ∈ zAW := zq_t (List.mem_append_left _ (List.mem_of_getElem? (l := tables_1_1) (i := 65) rfl))
set_option maxRecDepth 20000 in
theorem q4 : Cond.laysFinal "ClayTraps$Squad" "ClayTraps$Squad" "firsts" "[I" ∈ zAW := zq_t (List.mem_append_left _ (List.mem_of_getElem? (l := tables_1_1) (i := 67) rfl))
set_option maxRecDepth 20000 in
theorem q5 : Cond.laysFinal "ClayTraps$Squad" "ClayTraps$Squad" "misses" "[I" ∈ zAW := zq_t (List.mem_append_left _ (List.mem_of_getElem? (l := tables_1_1) (i := 69) rfl))
set_option maxRecDepth 20000 in
theorem q6 : Cond.laysFinal "ClayTraps$Squad" "ClayTraps$Squad" "left" "[Z" ∈ zAW := zq_t (List.mem_append_left _ (List.mem_of_getElem? (l := tables_1_1) (i := 71) rfl))
set_option maxRecDepth 20000 in
theorem q7 : Cond.laysFinal "ClayTraps$Squad" "ClayTraps$Squad" "hits" "[Z" ∈ zAW := zq_t (List.mem_append_left _ (List.mem_of_getElem? (l := tables_1_1) (i := 73) rfl))
set_option maxRecDepth 20000 in
theorem q8 : Cond.lays "ClayTraps$Squad" "ClayTraps$Squad" "size" "I" ∈ zAW := zq_t (List.mem_append_left _ (List.mem_of_getElem? (l := tables_1_1) (i := 75) rfl))
set_option maxRecDepth 20000 in
theorem q9 : Cond.laysFinal "ClayTraps$Traps" "ClayTraps$Traps" "bases" "[I" ∈ zAW := zq_t (List.mem_append_left _ (List.mem_of_getElem? (l := tables_1_1) (i := 32) rfl))
set_option maxRecDepth 20000 in
theorem q10 : Cond.laysFinal "ClayTraps$Traps" "ClayTraps$Traps" "spreads" "[I" ∈ zAW := zq_t (List.mem_append_left _ (List.mem_of_getElem? (l := tables_1_1) (i := 34) rfl))
set_option maxRecDepth 20000 in
theorem q11 : Cond.laysFinal "ClayTraps" "ClayTraps" "traps" "LClayTraps$Traps;" ∈ zAW := zq_t (List.mem_append_left _ (List.mem_of_getElem? (l := tables_1_1) (i := 83) rfl))
set_option maxRecDepth 20000 in
theorem q12 : Cond.laysFinal "ClayTraps" "ClayTraps" "squad" "LClayTraps$Squad;" ∈ zAW := zq_t (List.mem_append_left _ (List.mem_of_getElem? (l := tables_1_1) (i := 85) rfl))
set_option maxRecDepth 20000 in
theorem q13 : Cond.laysFinal "ClayTraps" "ClayTraps" "trial" "LClayTraps$Squad;" ∈ zAW := zq_t (List.mem_append_left _ (List.mem_of_getElem? (l := tables_1_1) (i := 87) rfl))
set_option maxRecDepth 20000 in
theorem q14 : Cond.lays "ClayTraps" "ClayTraps" "turn" "I" ∈ zAW := zq_t (List.mem_append_left _ (List.mem_of_getElem? (l := tables_1_1) (i := 89) rfl))
set_option maxRecDepth 20000 in
theorem q15 : Cond.lays "ClayTrapsModel" "ClayTrapsModel" "thrown" "I" ∈ zAW := zq_t (List.mem_append_right _ (List.mem_append_right _ (List.mem_append_left _ (List.mem_of_getElem? (l := tables_1_3) (i := 55) rfl))))
set_option maxRecDepth 20000 in
theorem q16 : Cond.lays "ClayTrapsModel" "ClayTrapsModel" "guns" "I" ∈ zAW := zq_t (List.mem_append_right _ (List.mem_append_right _ (List.mem_append_left _ (List.mem_of_getElem? (l := tables_1_3) (i := 57) rfl))))
set_option maxRecDepth 20000 in
theorem q17 : Cond.laysFinal "ClayTrapsModel" "ClayTrapsModel" "swing" "[I" ∈ zAW := zq_t (List.mem_append_right _ (List.mem_append_right _ (List.mem_append_left _ (List.mem_of_getElem? (l := tables_1_3) (i := 59) rfl))))
set_option maxRecDepth 20000 in
theorem q18 : Cond.laysFinal "ClayTrapsModel" "ClayTrapsModel" "steady" "[I" ∈ zAW := zq_t (List.mem_append_right _ (List.mem_append_right _ (List.mem_append_left _ (List.mem_of_getElem? (l := tables_1_3) (i := 61) rfl))))
set_option maxRecDepth 20000 in
theorem q19 : Cond.laysFinal "ClayTrapsModel" "ClayTrapsModel" "base" "[I" ∈ zAW := zq_t (List.mem_append_right _ (List.mem_append_right _ (List.mem_append_left _ (List.mem_of_getElem? (l := tables_1_3) (i := 63) rfl))))
set_option maxRecDepth 20000 in
theorem q20 : Cond.laysFinal "ClayTrapsModel" "ClayTrapsModel" "spread" "[I" ∈ zAW := zq_t (List.mem_append_right _ (List.mem_append_right _ (List.mem_append_left _ (List.mem_of_getElem? (l := tables_1_3) (i := 65) rfl))))
set_option maxRecDepth 20000 in
theorem q21 : Cond.laysFinal "ClayTrapsModel" "ClayTrapsModel" "now" "[I" ∈ zAW := zq_t (List.mem_append_right _ (List.mem_append_right _ (List.mem_append_left _ (List.mem_of_getElem? (l := tables_1_3) (i := 67) rfl))))
set_option maxRecDepth 20000 in
theorem q22 : Cond.laysFinal "ClayTrapsModel" "ClayTrapsModel" "kept" "[I" ∈ zAW := zq_t (List.mem_append_right _ (List.mem_append_right _ (List.mem_append_left _ (List.mem_of_getElem? (l := tables_1_3) (i := 69) rfl))))
set_option maxRecDepth 20000 in
theorem q23 : Cond.fieldLink "ClayTraps$Traps" 9 "ClayTraps$Traps" "bases" "[I" ∈ zAW := zq_t (List.mem_append_left _ (List.mem_of_getElem? (l := tables_1_1) (i := 28) rfl))
set_option maxRecDepth 20000 in
theorem q24 : Cond.fieldLink "ClayTraps" 56 "ClayTraps$Traps" "bases" "[I" ∈ zAW := zq_t (List.mem_append_left _ (List.mem_of_getElem? (l := tables_1_1) (i := 29) rfl))
set_option maxRecDepth 20000 in
theorem q25 : Cond.fieldLink "ClayTraps$Traps" 15 "ClayTraps$Traps" "spreads" "[I" ∈ zAW := zq_t (List.mem_append_left _ (List.mem_of_getElem? (l := tables_1_1) (i := 30) rfl))
set_option maxRecDepth 20000 in
theorem q26 : Cond.fieldLink "ClayTraps" 60 "ClayTraps$Traps" "spreads" "[I" ∈ zAW := zq_t (List.mem_append_left _ (List.mem_of_getElem? (l := tables_1_1) (i := 31) rfl))
set_option maxRecDepth 20000 in
theorem q27 : Cond.fieldLink "ClayTraps$Squad" 9 "ClayTraps$Squad" "swings" "[I" ∈ zAW := zq_t (List.mem_append_left _ (List.mem_of_getElem? (l := tables_1_1) (i := 44) rfl))
set_option maxRecDepth 20000 in
theorem q28 : Cond.fieldLink "ClayTraps" 135 "ClayTraps$Squad" "swings" "[I" ∈ zAW := zq_t (List.mem_append_left _ (List.mem_of_getElem? (l := tables_1_1) (i := 45) rfl))
set_option maxRecDepth 20000 in
theorem q29 : Cond.fieldLink "ClayTraps$Squad" 15 "ClayTraps$Squad" "steadinesses" "[I" ∈ zAW := zq_t (List.mem_append_left _ (List.mem_of_getElem? (l := tables_1_1) (i := 46) rfl))
set_option maxRecDepth 20000 in
theorem q30 : Cond.fieldLink "ClayTraps$Squad" 18 "ClayTraps$Squad" "fatigues" "[I" ∈ zAW := zq_t (List.mem_append_left _ (List.mem_of_getElem? (l := tables_1_1) (i := 47) rfl))
set_option maxRecDepth 20000 in
theorem q31 : Cond.fieldLink "ClayTraps" 66 "ClayTraps$Squad" "fatigues" "[I" ∈ zAW := zq_t (List.mem_append_left _ (List.mem_of_getElem? (l := tables_1_1) (i := 48) rfl))
set_option maxRecDepth 20000 in
theorem q32 : Cond.fieldLink "ClayTraps$Squad" 21 "ClayTraps$Squad" "scores" "[I" ∈ zAW := zq_t (List.mem_append_left _ (List.mem_of_getElem? (l := tables_1_1) (i := 49) rfl))
set_option maxRecDepth 20000 in
theorem q33 : Cond.fieldLink "ClayTraps" 103 "ClayTraps$Squad" "scores" "[I" ∈ zAW := zq_t (List.mem_append_left _ (List.mem_of_getElem? (l := tables_1_1) (i := 50) rfl))
set_option maxRecDepth 20000 in
theorem q34 : Cond.fieldLink "ClayTraps$Squad" 24 "ClayTraps$Squad" "firsts" "[I" ∈ zAW := zq_t (List.mem_append_left _ (List.mem_of_getElem? (l := tables_1_1) (i := 51) rfl))
set_option maxRecDepth 20000 in
theorem q35 : Cond.fieldLink "ClayTraps" 106 "ClayTraps$Squad" "firsts" "[I" ∈ zAW := zq_t (List.mem_append_left _ (List.mem_of_getElem? (l := tables_1_1) (i := 52) rfl))
set_option maxRecDepth 20000 in
theorem q36 : Cond.fieldLink "ClayTraps$Squad" 27 "ClayTraps$Squad" "misses" "[I" ∈ zAW := zq_t (List.mem_append_left _ (List.mem_of_getElem? (l := tables_1_1) (i := 53) rfl))
set_option maxRecDepth 20000 in
theorem q37 : Cond.fieldLink "ClayTraps" 109 "ClayTraps$Squad" "misses" "[I" ∈ zAW := zq_t (List.mem_append_left _ (List.mem_of_getElem? (l := tables_1_1) (i := 54) rfl))
set_option maxRecDepth 20000 in
theorem q38 : Cond.fieldLink "ClayTraps$Squad" 30 "ClayTraps$Squad" "left" "[Z" ∈ zAW := zq_t (List.mem_append_left _ (List.mem_of_getElem? (l := tables_1_1) (i := 55) rfl))
set_option maxRecDepth 20000 in
theorem q39 : Cond.fieldLink "ClayTraps$Squad" 34 "ClayTraps$Squad" "hits" "[Z" ∈ zAW := zq_t (List.mem_append_left _ (List.mem_of_getElem? (l := tables_1_1) (i := 56) rfl))
set_option maxRecDepth 20000 in
theorem q40 : Cond.fieldLink "ClayTraps$Squad" 37 "ClayTraps$Squad" "size" "I" ∈ zAW := zq_t (List.mem_append_left _ (List.mem_of_getElem? (l := tables_1_1) (i := 57) rfl))
set_option maxRecDepth 20000 in
theorem q41 : Cond.fieldLink "ClayTraps" 35 "ClayTraps$Squad" "size" "I" ∈ zAW := zq_t (List.mem_append_left _ (List.mem_of_getElem? (l := tables_1_1) (i := 58) rfl))
set_option maxRecDepth 20000 in
theorem q42 : Cond.fieldLink "ClayTraps" 10 "ClayTraps" "traps" "LClayTraps$Traps;" ∈ zAW := zq_t (List.mem_append_left _ (List.mem_of_getElem? (l := tables_1_1) (i := 79) rfl))
set_option maxRecDepth 20000 in
theorem q43 : Cond.fieldLink "ClayTraps" 19 "ClayTraps" "squad" "LClayTraps$Squad;" ∈ zAW := zq_t (List.mem_append_left _ (List.mem_of_getElem? (l := tables_1_1) (i := 80) rfl))
set_option maxRecDepth 20000 in
theorem q44 : Cond.fieldLink "ClayTraps" 23 "ClayTraps" "trial" "LClayTraps$Squad;" ∈ zAW := zq_t (List.mem_append_left _ (List.mem_of_getElem? (l := tables_1_1) (i := 81) rfl))
set_option maxRecDepth 20000 in
theorem q45 : Cond.fieldLink "ClayTraps" 72 "ClayTraps" "turn" "I" ∈ zAW := zq_t (List.mem_append_left _ (List.mem_of_getElem? (l := tables_1_1) (i := 82) rfl))
set_option maxRecDepth 20000 in
theorem q46 : Cond.fieldLink "ClayTrapsModel" 28 "ClayTrapsModel" "thrown" "I" ∈ zAW := zq_t (List.mem_append_right _ (List.mem_append_right _ (List.mem_append_left _ (List.mem_of_getElem? (l := tables_1_3) (i := 47) rfl))))
set_option maxRecDepth 20000 in
theorem q47 : Cond.fieldLink "ClayTrapsModel" 32 "ClayTrapsModel" "guns" "I" ∈ zAW := zq_t (List.mem_append_right _ (List.mem_append_right _ (List.mem_append_left _ (List.mem_of_getElem? (l := tables_1_3) (i := 48) rfl))))
set_option maxRecDepth 20000 in
theorem q48 : Cond.fieldLink "ClayTrapsModel" 9 "ClayTrapsModel" "swing" "[I" ∈ zAW := zq_t (List.mem_append_right _ (List.mem_append_right _ (List.mem_append_left _ (List.mem_of_getElem? (l := tables_1_3) (i := 49) rfl))))
set_option maxRecDepth 20000 in
theorem q49 : Cond.fieldLink "ClayTrapsModel" 13 "ClayTrapsModel" "steady" "[I" ∈ zAW := zq_t (List.mem_append_right _ (List.mem_append_right _ (List.mem_append_left _ (List.mem_of_getElem? (l := tables_1_3) (i := 50) rfl))))
set_option maxRecDepth 20000 in
theorem q50 : Cond.fieldLink "ClayTrapsModel" 16 "ClayTrapsModel" "base" "[I" ∈ zAW := zq_t (List.mem_append_right _ (List.mem_append_right _ (List.mem_append_left _ (List.mem_of_getElem? (l := tables_1_3) (i := 51) rfl))))
set_option maxRecDepth 20000 in
theorem q51 : Cond.fieldLink "ClayTrapsModel" 19 "ClayTrapsModel" "spread" "[I" ∈ zAW := zq_t (List.mem_append_right _ (List.mem_append_right _ (List.mem_append_left _ (List.mem_of_getElem? (l := tables_1_3) (i := 52) rfl))))
set_option maxRecDepth 20000 in
theorem q52 : Cond.fieldLink "ClayTrapsModel" 22 "ClayTrapsModel" "now" "[I" ∈ zAW := zq_t (List.mem_append_right _ (List.mem_append_right _ (List.mem_append_left _ (List.mem_of_getElem? (l := tables_1_3) (i := 53) rfl))))
set_option maxRecDepth 20000 in
theorem q53 : Cond.fieldLink "ClayTrapsModel" 25 "ClayTrapsModel" "kept" "[I" ∈ zAW := zq_t (List.mem_append_right _ (List.mem_append_right _ (List.mem_append_left _ (List.mem_of_getElem? (l := tables_1_3) (i := 54) rfl))))
set_option maxRecDepth 20000 in
theorem q54 : Cond.code yX2_init prog_1_method_1_code 1 none ∈ zAW := zq_t (List.mem_append_left _ (List.mem_of_getElem? (l := tables_1_1) (i := 18) rfl))
set_option maxRecDepth 20000 in
theorem q55 : Cond.methodLink "ClayTrapsLaw" 79 yX2_init ∈ zAW := zq_t (List.mem_append_left _ (List.mem_of_getElem? (l := tables_1_1) (i := 16) rfl))
set_option maxRecDepth 20000 in
theorem q56 : Cond.instanceMethod yX2_init ∈ zAW := zq_t (List.mem_append_left _ (List.mem_of_getElem? (l := tables_1_1) (i := 17) rfl))
set_option maxRecDepth 20000 in
theorem q57 : Cond.initialized "ClayTraps" ∈ zAW := zq_t (List.mem_append_left _ (List.mem_of_getElem? (l := tables_1_1) (i := 1) rfl))
set_option maxRecDepth 20000 in
theorem q58 : Cond.methodLink "ClayTraps" 1 (⟨"java/lang/Object", "<init>", "()V"⟩ : MethodName) ∈ zAW := zq_t (List.mem_append_left _ (List.mem_of_getElem? (l := tables_1_1) (i := 19) rfl))
set_option maxRecDepth 20000 in
theorem q59 : Cond.code yX1_init prog_3_method_1_code 2 none ∈ zAW := zq_t (List.mem_append_left _ (List.mem_of_getElem? (l := tables_1_1) (i := 26) rfl))
set_option maxRecDepth 20000 in
theorem q60 : Cond.methodLink "ClayTraps" 9 yX1_init ∈ zAW := zq_t (List.mem_append_left _ (List.mem_of_getElem? (l := tables_1_1) (i := 24) rfl))
set_option maxRecDepth 20000 in
theorem q61 : Cond.instanceMethod yX1_init ∈ zAW := zq_t (List.mem_append_left _ (List.mem_of_getElem? (l := tables_1_1) (i := 25) rfl))
set_option maxRecDepth 20000 in
theorem q62 : Cond.initialized "ClayTraps$Traps" ∈ zAW := zq_t (List.mem_append_left _ (List.mem_of_getElem? (l := tables_1_1) (i := 2) rfl))
set_option maxRecDepth 20000 in
theorem q63 : Cond.methodLink "ClayTraps$Traps" 3 (⟨"java/lang/Object", "<init>", "()V"⟩ : MethodName) ∈ zAW := zq_t (List.mem_append_left _ (List.mem_of_getElem? (l := tables_1_1) (i := 27) rfl))
set_option maxRecDepth 20000 in
theorem q64 : Cond.code yX0_init prog_2_method_1_code 1 none ∈ zAW := zq_t (List.mem_append_left _ (List.mem_of_getElem? (l := tables_1_1) (i := 42) rfl))
set_option maxRecDepth 20000 in
theorem q65 : Cond.methodLink "ClayTraps$Squad" 3 (⟨"java/lang/Object", "<init>", "()V"⟩ : MethodName) ∈ zAW := zq_t (List.mem_append_left _ (List.mem_of_getElem? (l := tables_1_1) (i := 43) rfl))
set_option maxRecDepth 20000 in
theorem q66 : Cond.code yX2_turn prog_1_method_7_code 1 (some .int) ∈ zAW := zq_t (List.mem_append_left _ (List.mem_of_getElem? (l := tables_1_1) (i := 95) rfl))
set_option maxRecDepth 20000 in
theorem q67 : Cond.methodLink "ClayTrapsLaw" 107 yX2_turn ∈ zAW := zq_t (List.mem_append_left _ (List.mem_of_getElem? (l := tables_1_1) (i := 92) rfl))
set_option maxRecDepth 20000 in
theorem q68 : Cond.instanceMethod yX2_turn ∈ zAW := zq_t (List.mem_append_left _ (List.mem_of_getElem? (l := tables_1_1) (i := 93) rfl))
set_option maxRecDepth 20000 in
theorem q69 : Cond.selects "ClayTraps" yX2_turn yX2_turn ∈ zAW := zq_t (List.mem_append_left _ (List.mem_of_getElem? (l := tables_1_1) (i := 94) rfl))
set_option maxRecDepth 20000 in
theorem q70 : Cond.code yX2_guns prog_1_method_12_code 1 (some .int) ∈ zAW := zq_t (List.mem_append_left _ (List.mem_of_getElem? (l := tables_1_1) (i := 99) rfl))
set_option maxRecDepth 20000 in
theorem q71 : Cond.methodLink "ClayTrapsLaw" 123 yX2_guns ∈ zAW := zq_t (List.mem_append_left _ (List.mem_of_getElem? (l := tables_1_1) (i := 96) rfl))
set_option maxRecDepth 20000 in
theorem q72 : Cond.instanceMethod yX2_guns ∈ zAW := zq_t (List.mem_append_left _ (List.mem_of_getElem? (l := tables_1_1) (i := 97) rfl))
set_option maxRecDepth 20000 in
theorem q73 : Cond.selects "ClayTraps" yX2_guns yX2_guns ∈ zAW := zq_t (List.mem_append_left _ (List.mem_of_getElem? (l := tables_1_1) (i := 98) rfl))
set_option maxRecDepth 20000 in
theorem q74 : Cond.code yX2_leader prog_1_method_18_code 1 (some .int) ∈ zAW := zq_t (List.mem_append_left _ (List.mem_of_getElem? (l := tables_1_1) (i := 103) rfl))
set_option maxRecDepth 20000 in
theorem q75 : Cond.methodLink "ClayTrapsLaw" 142 yX2_leader ∈ zAW := zq_t (List.mem_append_left _ (List.mem_of_getElem? (l := tables_1_1) (i := 100) rfl))
set_option maxRecDepth 20000 in
theorem q76 : Cond.instanceMethod yX2_leader ∈ zAW := zq_t (List.mem_append_left _ (List.mem_of_getElem? (l := tables_1_1) (i := 101) rfl))
set_option maxRecDepth 20000 in
theorem q77 : Cond.selects "ClayTraps" yX2_leader yX2_leader ∈ zAW := zq_t (List.mem_append_left _ (List.mem_of_getElem? (l := tables_1_1) (i := 102) rfl))
set_option maxRecDepth 20000 in
theorem q78 : Cond.code yX0_leading prog_2_method_9_code 3 (some .int) ∈ zAW := zq_t (List.mem_append_left _ (List.mem_of_getElem? (l := tables_1_1) (i := 107) rfl))
set_option maxRecDepth 20000 in
theorem q79 : Cond.methodLink "ClayTraps" 118 yX0_leading ∈ zAW := zq_t (List.mem_append_left _ (List.mem_of_getElem? (l := tables_1_1) (i := 104) rfl))
set_option maxRecDepth 20000 in
theorem q80 : Cond.instanceMethod yX0_leading ∈ zAW := zq_t (List.mem_append_left _ (List.mem_of_getElem? (l := tables_1_1) (i := 105) rfl))
set_option maxRecDepth 20000 in
theorem q81 : Cond.selects "ClayTraps$Squad" yX0_leading yX0_leading ∈ zAW := zq_t (List.mem_append_left _ (List.mem_of_getElem? (l := tables_1_1) (i := 106) rfl))
set_option maxRecDepth 20000 in
theorem q82 : Cond.initialized "ClayTraps$Squad" ∈ zAW := zq_t (List.mem_append_left _ (List.mem_of_getElem? (l := tables_1_1) (i := 3) rfl))
set_option maxRecDepth 20000 in
theorem q83 : Cond.code yX2_tied prog_1_method_19_code 1 (some .int) ∈ zAW := zq_t (List.mem_append_left _ (List.mem_of_getElem? (l := tables_1_1) (i := 111) rfl))
set_option maxRecDepth 20000 in
theorem q84 : Cond.methodLink "ClayTrapsLaw" 146 yX2_tied ∈ zAW := zq_t (List.mem_append_left _ (List.mem_of_getElem? (l := tables_1_1) (i := 108) rfl))
set_option maxRecDepth 20000 in
theorem q85 : Cond.instanceMethod yX2_tied ∈ zAW := zq_t (List.mem_append_left _ (List.mem_of_getElem? (l := tables_1_1) (i := 109) rfl))
set_option maxRecDepth 20000 in
theorem q86 : Cond.selects "ClayTraps" yX2_tied yX2_tied ∈ zAW := zq_t (List.mem_append_left _ (List.mem_of_getElem? (l := tables_1_1) (i := 110) rfl))
set_option maxRecDepth 20000 in
theorem q87 : Cond.code yX0_countTied prog_2_method_10_code 4 (some .int) ∈ zAW := zq_t (List.mem_append_left _ (List.mem_of_getElem? (l := tables_1_1) (i := 115) rfl))
set_option maxRecDepth 20000 in
theorem q88 : Cond.methodLink "ClayTraps" 121 yX0_countTied ∈ zAW := zq_t (List.mem_append_left _ (List.mem_of_getElem? (l := tables_1_1) (i := 112) rfl))
set_option maxRecDepth 20000 in
theorem q89 : Cond.instanceMethod yX0_countTied ∈ zAW := zq_t (List.mem_append_left _ (List.mem_of_getElem? (l := tables_1_1) (i := 113) rfl))
set_option maxRecDepth 20000 in
theorem q90 : Cond.selects "ClayTraps$Squad" yX0_countTied yX0_countTied ∈ zAW := zq_t (List.mem_append_left _ (List.mem_of_getElem? (l := tables_1_1) (i := 114) rfl))
set_option maxRecDepth 20000 in
theorem q91 : Cond.methodLink "ClayTraps$Squad" 70 yX0_leading ∈ zAW := zq_t (List.mem_append_left _ (List.mem_of_getElem? (l := tables_1_1) (i := 116) rfl))
set_option maxRecDepth 20000 in
theorem q92 : Cond.code yX2_wouldWin prog_1_method_24_code 1 (some .int) ∈ zAW := zq_t (List.mem_append_left _ (List.mem_of_getElem? (l := tables_1_1) (i := 120) rfl))
set_option maxRecDepth 20000 in
theorem q93 : Cond.methodLink "ClayTrapsLaw" 162 yX2_wouldWin ∈ zAW := zq_t (List.mem_append_left _ (List.mem_of_getElem? (l := tables_1_1) (i := 117) rfl))
set_option maxRecDepth 20000 in
theorem q94 : Cond.instanceMethod yX2_wouldWin ∈ zAW := zq_t (List.mem_append_left _ (List.mem_of_getElem? (l := tables_1_1) (i := 118) rfl))
set_option maxRecDepth 20000 in
theorem q95 : Cond.selects "ClayTraps" yX2_wouldWin yX2_wouldWin ∈ zAW := zq_t (List.mem_append_left _ (List.mem_of_getElem? (l := tables_1_1) (i := 119) rfl))
set_option maxRecDepth 20000 in
theorem q96 : Cond.code yX0_takeOver prog_2_method_3_code 3 none ∈ zAW := zq_t (List.mem_append_left _ (List.mem_of_getElem? (l := tables_1_1) (i := 124) rfl))
set_option maxRecDepth 20000 in
theorem q97 : Cond.methodLink "ClayTraps" 127 yX0_takeOver ∈ zAW := zq_t (List.mem_append_left _ (List.mem_of_getElem? (l := tables_1_1) (i := 121) rfl))
set_option maxRecDepth 20000 in
theorem q98 : Cond.instanceMethod yX0_takeOver ∈ zAW := zq_t (List.mem_append_left _ (List.mem_of_getElem? (l := tables_1_1) (i := 122) rfl))
set_option maxRecDepth 20000 in
theorem q99 : Cond.selects "ClayTraps$Squad" yX0_takeOver yX0_takeOver ∈ zAW := zq_t (List.mem_append_left _ (List.mem_of_getElem? (l := tables_1_1) (i := 123) rfl))
set_option maxRecDepth 20000 in
theorem q100 : Cond.code yX0_settleTie prog_2_method_13_code 3 (some .int) ∈ zAW := zq_t (List.mem_append_left _ (List.mem_of_getElem? (l := tables_1_1) (i := 128) rfl))
set_option maxRecDepth 20000 in
theorem q101 : Cond.methodLink "ClayTraps" 81 yX0_settleTie ∈ zAW := zq_t (List.mem_append_left _ (List.mem_of_getElem? (l := tables_1_1) (i := 125) rfl))
set_option maxRecDepth 20000 in
theorem q102 : Cond.instanceMethod yX0_settleTie ∈ zAW := zq_t (List.mem_append_left _ (List.mem_of_getElem? (l := tables_1_1) (i := 126) rfl))
set_option maxRecDepth 20000 in
theorem q103 : Cond.selects "ClayTraps$Squad" yX0_settleTie yX0_settleTie ∈ zAW := zq_t (List.mem_append_left _ (List.mem_of_getElem? (l := tables_1_1) (i := 127) rfl))
set_option maxRecDepth 20000 in
theorem q104 : Cond.code yX0_countLeft prog_2_method_16_code 3 (some .int) ∈ zAW := zq_t (List.mem_append_left _ (List.mem_of_getElem? (l := tables_1_1) (i := 132) rfl))
set_option maxRecDepth 20000 in
theorem q105 : Cond.methodLink "ClayTraps$Squad" 74 yX0_countLeft ∈ zAW := zq_t (List.mem_append_left _ (List.mem_of_getElem? (l := tables_1_1) (i := 129) rfl))
set_option maxRecDepth 20000 in
theorem q106 : Cond.instanceMethod yX0_countLeft ∈ zAW := zq_t (List.mem_append_left _ (List.mem_of_getElem? (l := tables_1_1) (i := 130) rfl))
set_option maxRecDepth 20000 in
theorem q107 : Cond.selects "ClayTraps$Squad" yX0_countLeft yX0_countLeft ∈ zAW := zq_t (List.mem_append_left _ (List.mem_of_getElem? (l := tables_1_1) (i := 131) rfl))
set_option maxRecDepth 20000 in
theorem q108 : Cond.code yX0_shootRound prog_2_method_14_code 4 none ∈ zAW := zq_t (List.mem_append_left _ (List.mem_of_getElem? (l := tables_1_1) (i := 136) rfl))
set_option maxRecDepth 20000 in
theorem q109 : Cond.methodLink "ClayTraps$Squad" 77 yX0_shootRound ∈ zAW := zq_t (List.mem_append_left _ (List.mem_of_getElem? (l := tables_1_1) (i := 133) rfl))
set_option maxRecDepth 20000 in
theorem q110 : Cond.instanceMethod yX0_shootRound ∈ zAW := zq_t (List.mem_append_left _ (List.mem_of_getElem? (l := tables_1_1) (i := 134) rfl))
set_option maxRecDepth 20000 in
theorem q111 : Cond.selects "ClayTraps$Squad" yX0_shootRound yX0_shootRound ∈ zAW := zq_t (List.mem_append_left _ (List.mem_of_getElem? (l := tables_1_1) (i := 135) rfl))
set_option maxRecDepth 20000 in
theorem q112 : Cond.code yX0_trouble prog_2_method_4_code 4 (some .int) ∈ zAW := zq_t (List.mem_append_left _ (List.mem_of_getElem? (l := tables_1_1) (i := 140) rfl))
set_option maxRecDepth 20000 in
theorem q113 : Cond.methodLink "ClayTraps$Squad" 41 yX0_trouble ∈ zAW := zq_t (List.mem_append_left _ (List.mem_of_getElem? (l := tables_1_1) (i := 137) rfl))
set_option maxRecDepth 20000 in
theorem q114 : Cond.instanceMethod yX0_trouble ∈ zAW := zq_t (List.mem_append_left _ (List.mem_of_getElem? (l := tables_1_1) (i := 138) rfl))
set_option maxRecDepth 20000 in
theorem q115 : Cond.selects "ClayTraps$Squad" yX0_trouble yX0_trouble ∈ zAW := zq_t (List.mem_append_left _ (List.mem_of_getElem? (l := tables_1_1) (i := 139) rfl))
set_option maxRecDepth 20000 in
theorem q116 : Cond.code yX0_keepThoseWhoHit prog_2_method_15_code 2 none ∈ zAW := zq_t (List.mem_append_left _ (List.mem_of_getElem? (l := tables_1_1) (i := 144) rfl))
set_option maxRecDepth 20000 in
theorem q117 : Cond.methodLink "ClayTraps$Squad" 84 yX0_keepThoseWhoHit ∈ zAW := zq_t (List.mem_append_left _ (List.mem_of_getElem? (l := tables_1_1) (i := 141) rfl))
set_option maxRecDepth 20000 in
theorem q118 : Cond.instanceMethod yX0_keepThoseWhoHit ∈ zAW := zq_t (List.mem_append_left _ (List.mem_of_getElem? (l := tables_1_1) (i := 142) rfl))
set_option maxRecDepth 20000 in
theorem q119 : Cond.selects "ClayTraps$Squad" yX0_keepThoseWhoHit yX0_keepThoseWhoHit ∈ zAW := zq_t (List.mem_append_left _ (List.mem_of_getElem? (l := tables_1_1) (i := 143) rfl))
set_option maxRecDepth 20000 in
theorem q120 : Cond.code yX0_firstLeft prog_2_method_17_code 2 (some .int) ∈ zAW := zq_t (List.mem_append_left _ (List.mem_of_getElem? (l := tables_1_1) (i := 148) rfl))
set_option maxRecDepth 20000 in
theorem q121 : Cond.methodLink "ClayTraps$Squad" 81 yX0_firstLeft ∈ zAW := zq_t (List.mem_append_left _ (List.mem_of_getElem? (l := tables_1_1) (i := 145) rfl))
set_option maxRecDepth 20000 in
theorem q122 : Cond.instanceMethod yX0_firstLeft ∈ zAW := zq_t (List.mem_append_left _ (List.mem_of_getElem? (l := tables_1_1) (i := 146) rfl))
set_option maxRecDepth 20000 in
theorem q123 : Cond.selects "ClayTraps$Squad" yX0_firstLeft yX0_firstLeft ∈ zAW := zq_t (List.mem_append_left _ (List.mem_of_getElem? (l := tables_1_1) (i := 147) rfl))
set_option maxRecDepth 20000 in
theorem q124 : Cond.code yX2_meanScore prog_1_method_27_code 1 (some .double) ∈ zAW := zq_t (List.mem_append_left _ (List.mem_of_getElem? (l := tables_1_1) (i := 152) rfl))
set_option maxRecDepth 20000 in
theorem q125 : Cond.methodLink "ClayTrapsLaw" 172 yX2_meanScore ∈ zAW := zq_t (List.mem_append_left _ (List.mem_of_getElem? (l := tables_1_1) (i := 149) rfl))
set_option maxRecDepth 20000 in
theorem q126 : Cond.instanceMethod yX2_meanScore ∈ zAW := zq_t (List.mem_append_left _ (List.mem_of_getElem? (l := tables_1_1) (i := 150) rfl))
set_option maxRecDepth 20000 in
theorem q127 : Cond.selects "ClayTraps" yX2_meanScore yX2_meanScore ∈ zAW := zq_t (List.mem_append_left _ (List.mem_of_getElem? (l := tables_1_1) (i := 151) rfl))
set_option maxRecDepth 20000 in
theorem q128 : Cond.code yX0_totalScore prog_2_method_12_code 3 (some .int) ∈ zAW := zq_t (List.mem_append_left _ (List.mem_of_getElem? (l := tables_1_1) (i := 156) rfl))
set_option maxRecDepth 20000 in
theorem q129 : Cond.methodLink "ClayTraps" 149 yX0_totalScore ∈ zAW := zq_t (List.mem_append_left _ (List.mem_of_getElem? (l := tables_1_1) (i := 153) rfl))
set_option maxRecDepth 20000 in
theorem q130 : Cond.instanceMethod yX0_totalScore ∈ zAW := zq_t (List.mem_append_left _ (List.mem_of_getElem? (l := tables_1_1) (i := 154) rfl))
set_option maxRecDepth 20000 in
theorem q131 : Cond.selects "ClayTraps$Squad" yX0_totalScore yX0_totalScore ∈ zAW := zq_t (List.mem_append_left _ (List.mem_of_getElem? (l := tables_1_1) (i := 155) rfl))
set_option maxRecDepth 20000 in
theorem q132 : Cond.code yX2_digest prog_1_method_28_code 5 (some .long) ∈ zAW := zq_t (List.mem_append_left _ (List.mem_of_getElem? (l := tables_1_1) (i := 160) rfl))
set_option maxRecDepth 20000 in
theorem q133 : Cond.methodLink "ClayTrapsLaw" 177 yX2_digest ∈ zAW := zq_t (List.mem_append_left _ (List.mem_of_getElem? (l := tables_1_1) (i := 157) rfl))
set_option maxRecDepth 20000 in
theorem q134 : Cond.instanceMethod yX2_digest ∈ zAW := zq_t (List.mem_append_left _ (List.mem_of_getElem? (l := tables_1_1) (i := 158) rfl))
set_option maxRecDepth 20000 in
theorem q135 : Cond.selects "ClayTraps" yX2_digest yX2_digest ∈ zAW := zq_t (List.mem_append_left _ (List.mem_of_getElem? (l := tables_1_1) (i := 159) rfl))
set_option maxRecDepth 20000 in
theorem q136 : Cond.methodLink "ClayTraps" 154 yX2_turn ∈ zAW := zq_t (List.mem_append_left _ (List.mem_of_getElem? (l := tables_1_1) (i := 162) rfl))
set_option maxRecDepth 20000 in
theorem q137 : Cond.code yX2_fold prog_1_method_35_code 4 (some .long) ∈ zAW := zq_t (List.mem_append_left _ (List.mem_of_getElem? (l := tables_1_1) (i := 165) rfl))
set_option maxRecDepth 20000 in
theorem q138 : Cond.methodLink "ClayTraps" 156 yX2_fold ∈ zAW := zq_t (List.mem_append_left _ (List.mem_of_getElem? (l := tables_1_1) (i := 163) rfl))
set_option maxRecDepth 20000 in
theorem q139 : Cond.static yX2_fold ∈ zAW := zq_t (List.mem_append_left _ (List.mem_of_getElem? (l := tables_1_1) (i := 164) rfl))
set_option maxRecDepth 20000 in
theorem q140 : Cond.methodLink "ClayTraps" 160 yX2_guns ∈ zAW := zq_t (List.mem_append_left _ (List.mem_of_getElem? (l := tables_1_1) (i := 167) rfl))
set_option maxRecDepth 20000 in
theorem q141 : Cond.methodLink "ClayTraps" 163 yX2_leader ∈ zAW := zq_t (List.mem_append_left _ (List.mem_of_getElem? (l := tables_1_1) (i := 168) rfl))
set_option maxRecDepth 20000 in
theorem q142 : Cond.methodLink "ClayTraps" 166 yX2_tied ∈ zAW := zq_t (List.mem_append_left _ (List.mem_of_getElem? (l := tables_1_1) (i := 169) rfl))
set_option maxRecDepth 20000 in
theorem q143 : Cond.methodLink "ClayTraps" 169 yX2_wouldWin ∈ zAW := zq_t (List.mem_append_left _ (List.mem_of_getElem? (l := tables_1_1) (i := 170) rfl))
set_option maxRecDepth 20000 in
theorem q144 : Cond.code yX2_leaderIn prog_1_method_23_code 2 (some .int) ∈ zAW := zq_t (List.mem_append_left _ (List.mem_of_getElem? (l := tables_1_1) (i := 174) rfl))
set_option maxRecDepth 20000 in
theorem q145 : Cond.methodLink "ClayTraps" 172 yX2_leaderIn ∈ zAW := zq_t (List.mem_append_left _ (List.mem_of_getElem? (l := tables_1_1) (i := 171) rfl))
set_option maxRecDepth 20000 in
theorem q146 : Cond.instanceMethod yX2_leaderIn ∈ zAW := zq_t (List.mem_append_left _ (List.mem_of_getElem? (l := tables_1_1) (i := 172) rfl))
set_option maxRecDepth 20000 in
theorem q147 : Cond.selects "ClayTraps" yX2_leaderIn yX2_leaderIn ∈ zAW := zq_t (List.mem_append_left _ (List.mem_of_getElem? (l := tables_1_1) (i := 173) rfl))
set_option maxRecDepth 20000 in
theorem q148 : Cond.code yX2_checkTurns prog_1_method_31_code 1 none ∈ zAW := zq_t (List.mem_append_left _ (List.mem_of_getElem? (l := tables_1_1) (i := 177) rfl))
set_option maxRecDepth 20000 in
theorem q149 : Cond.methodLink "ClayTraps" 69 yX2_checkTurns ∈ zAW := zq_t (List.mem_append_left _ (List.mem_of_getElem? (l := tables_1_1) (i := 175) rfl))
set_option maxRecDepth 20000 in
theorem q150 : Cond.static yX2_checkTurns ∈ zAW := zq_t (List.mem_append_left _ (List.mem_of_getElem? (l := tables_1_1) (i := 176) rfl))
set_option maxRecDepth 20000 in
theorem q151 : Cond.methodLink "ClayTraps" 30 (⟨"java/lang/IllegalArgumentException", "<init>", "(Ljava/lang/String;)V"⟩ : MethodName) ∈ zAW := zq_t (List.mem_append_left _ (List.mem_of_getElem? (l := tables_1_1) (i := 220) rfl))
set_option maxRecDepth 20000 in
theorem q152 : Cond.code yX0_play prog_2_method_8_code 7 (some .int) ∈ zAW := zq_t (List.mem_append_right _ (List.mem_append_left _ (List.mem_of_getElem? (l := tables_1_2) (i := 9) rfl)))
set_option maxRecDepth 20000 in
theorem q153 : Cond.methodLink "ClayTraps" 75 yX0_play ∈ zAW := zq_t (List.mem_append_right _ (List.mem_append_left _ (List.mem_of_getElem? (l := tables_1_2) (i := 6) rfl)))
set_option maxRecDepth 20000 in
theorem q154 : Cond.instanceMethod yX0_play ∈ zAW := zq_t (List.mem_append_right _ (List.mem_append_left _ (List.mem_of_getElem? (l := tables_1_2) (i := 7) rfl)))
set_option maxRecDepth 20000 in
theorem q155 : Cond.selects "ClayTraps$Squad" yX0_play yX0_play ∈ zAW := zq_t (List.mem_append_right _ (List.mem_append_left _ (List.mem_of_getElem? (l := tables_1_2) (i := 8) rfl)))
set_option maxRecDepth 20000 in
theorem q156 : Cond.code yX0_playAlone prog_2_method_7_code 7 none ∈ zAW := zq_t (List.mem_append_right _ (List.mem_append_left _ (List.mem_of_getElem? (l := tables_1_2) (i := 13) rfl)))
set_option maxRecDepth 20000 in
theorem q157 : Cond.methodLink "ClayTraps$Squad" 66 yX0_playAlone ∈ zAW := zq_t (List.mem_append_right _ (List.mem_append_left _ (List.mem_of_getElem? (l := tables_1_2) (i := 10) rfl)))
set_option maxRecDepth 20000 in
theorem q158 : Cond.instanceMethod yX0_playAlone ∈ zAW := zq_t (List.mem_append_right _ (List.mem_append_left _ (List.mem_of_getElem? (l := tables_1_2) (i := 11) rfl)))
set_option maxRecDepth 20000 in
theorem q159 : Cond.selects "ClayTraps$Squad" yX0_playAlone yX0_playAlone ∈ zAW := zq_t (List.mem_append_right _ (List.mem_append_left _ (List.mem_of_getElem? (l := tables_1_2) (i := 12) rfl)))
set_option maxRecDepth 20000 in
theorem q160 : Cond.code yX1_amountIn prog_3_method_5_code 3 (some .int) ∈ zAW := zq_t (List.mem_append_right _ (List.mem_append_left _ (List.mem_of_getElem? (l := tables_1_2) (i := 17) rfl)))
set_option maxRecDepth 20000 in
theorem q161 : Cond.methodLink "ClayTraps$Squad" 48 yX1_amountIn ∈ zAW := zq_t (List.mem_append_right _ (List.mem_append_left _ (List.mem_of_getElem? (l := tables_1_2) (i := 14) rfl)))
set_option maxRecDepth 20000 in
theorem q162 : Cond.instanceMethod yX1_amountIn ∈ zAW := zq_t (List.mem_append_right _ (List.mem_append_left _ (List.mem_of_getElem? (l := tables_1_2) (i := 15) rfl)))
set_option maxRecDepth 20000 in
theorem q163 : Cond.selects "ClayTraps$Traps" yX1_amountIn yX1_amountIn ∈ zAW := zq_t (List.mem_append_right _ (List.mem_append_left _ (List.mem_of_getElem? (l := tables_1_2) (i := 16) rfl)))
set_option maxRecDepth 20000 in
theorem q164 : Cond.code yX1_angleIn prog_3_method_3_code 3 (some .int) ∈ zAW := zq_t (List.mem_append_right _ (List.mem_append_left _ (List.mem_of_getElem? (l := tables_1_2) (i := 21) rfl)))
set_option maxRecDepth 20000 in
theorem q165 : Cond.methodLink "ClayTraps$Traps" 34 yX1_angleIn ∈ zAW := zq_t (List.mem_append_right _ (List.mem_append_left _ (List.mem_of_getElem? (l := tables_1_2) (i := 18) rfl)))
set_option maxRecDepth 20000 in
theorem q166 : Cond.instanceMethod yX1_angleIn ∈ zAW := zq_t (List.mem_append_right _ (List.mem_append_left _ (List.mem_of_getElem? (l := tables_1_2) (i := 19) rfl)))
set_option maxRecDepth 20000 in
theorem q167 : Cond.selects "ClayTraps$Traps" yX1_angleIn yX1_angleIn ∈ zAW := zq_t (List.mem_append_right _ (List.mem_append_left _ (List.mem_of_getElem? (l := tables_1_2) (i := 20) rfl)))
set_option maxRecDepth 20000 in
theorem q168 : Cond.code yX2_standIn prog_1_method_33_code 2 (some .int) ∈ zAW := zq_t (List.mem_append_right _ (List.mem_append_left _ (List.mem_of_getElem? (l := tables_1_2) (i := 24) rfl)))
set_option maxRecDepth 20000 in
theorem q169 : Cond.static yX2_standIn ∈ zAW := zq_t (List.mem_append_right _ (List.mem_append_left _ (List.mem_of_getElem? (l := tables_1_2) (i := 23) rfl)))
set_option maxRecDepth 20000 in
theorem q170 : Cond.code yJ9_floorMod_7cf53 prog_11_method_50_code 3 (some .int) ∈ zAW := zq_t (List.mem_append_right _ (List.mem_append_left _ (List.mem_of_getElem? (l := tables_1_2) (i := 27) rfl)))
set_option maxRecDepth 20000 in
theorem q171 : Cond.methodLink "ClayTraps" 217 yJ9_floorMod_7cf53 ∈ zAW := zq_t (List.mem_append_right _ (List.mem_append_left _ (List.mem_of_getElem? (l := tables_1_2) (i := 25) rfl)))
set_option maxRecDepth 20000 in
theorem q172 : Cond.static yJ9_floorMod_7cf53 ∈ zAW := zq_t (List.mem_append_right _ (List.mem_append_left _ (List.mem_of_getElem? (l := tables_1_2) (i := 26) rfl)))
set_option maxRecDepth 20000 in
theorem q173 : Cond.initialized "java/lang/Math" ∈ zAW := zq_t (List.mem_append_left _ (List.mem_of_getElem? (l := tables_1_1) (i := 11) rfl))
set_option maxRecDepth 20000 in
theorem q174 : Cond.code yX2_clayIn prog_1_method_32_code 1 (some .int) ∈ zAW := zq_t (List.mem_append_right _ (List.mem_append_left _ (List.mem_of_getElem? (l := tables_1_2) (i := 30) rfl)))
set_option maxRecDepth 20000 in
theorem q175 : Cond.static yX2_clayIn ∈ zAW := zq_t (List.mem_append_right _ (List.mem_append_left _ (List.mem_of_getElem? (l := tables_1_2) (i := 29) rfl)))
set_option maxRecDepth 20000 in
theorem q176 : Cond.code yX1_angleAt prog_3_method_2_code 3 (some .int) ∈ zAW := zq_t (List.mem_append_right _ (List.mem_append_left _ (List.mem_of_getElem? (l := tables_1_2) (i := 34) rfl)))
set_option maxRecDepth 20000 in
theorem q177 : Cond.methodLink "ClayTraps$Traps" 26 yX1_angleAt ∈ zAW := zq_t (List.mem_append_right _ (List.mem_append_left _ (List.mem_of_getElem? (l := tables_1_2) (i := 31) rfl)))
set_option maxRecDepth 20000 in
theorem q178 : Cond.instanceMethod yX1_angleAt ∈ zAW := zq_t (List.mem_append_right _ (List.mem_append_left _ (List.mem_of_getElem? (l := tables_1_2) (i := 32) rfl)))
set_option maxRecDepth 20000 in
theorem q179 : Cond.selects "ClayTraps$Traps" yX1_angleAt yX1_angleAt ∈ zAW := zq_t (List.mem_append_right _ (List.mem_append_left _ (List.mem_of_getElem? (l := tables_1_2) (i := 33) rfl)))
set_option maxRecDepth 20000 in
theorem q180 : Cond.methodLink "ClayTraps$Traps" 29 yJ9_abs_0f7a4 ∈ zAW := zq_t (List.mem_append_right _ (List.mem_append_left _ (List.mem_of_getElem? (l := tables_1_2) (i := 35) rfl)))
set_option maxRecDepth 20000 in
theorem q181 : Cond.code yX0_shoot prog_2_method_6_code 4 none ∈ zAW := zq_t (List.mem_append_right _ (List.mem_append_left _ (List.mem_of_getElem? (l := tables_1_2) (i := 41) rfl)))
set_option maxRecDepth 20000 in
theorem q182 : Cond.methodLink "ClayTraps$Squad" 53 yX0_shoot ∈ zAW := zq_t (List.mem_append_right _ (List.mem_append_left _ (List.mem_of_getElem? (l := tables_1_2) (i := 38) rfl)))
set_option maxRecDepth 20000 in
theorem q183 : Cond.instanceMethod yX0_shoot ∈ zAW := zq_t (List.mem_append_right _ (List.mem_append_left _ (List.mem_of_getElem? (l := tables_1_2) (i := 39) rfl)))
set_option maxRecDepth 20000 in
theorem q184 : Cond.selects "ClayTraps$Squad" yX0_shoot yX0_shoot ∈ zAW := zq_t (List.mem_append_right _ (List.mem_append_left _ (List.mem_of_getElem? (l := tables_1_2) (i := 40) rfl)))
set_option maxRecDepth 20000 in
theorem q185 : Cond.code yX0_outcome prog_2_method_5_code 3 (some .int) ∈ zAW := zq_t (List.mem_append_right _ (List.mem_append_left _ (List.mem_of_getElem? (l := tables_1_2) (i := 45) rfl)))
set_option maxRecDepth 20000 in
theorem q186 : Cond.methodLink "ClayTraps$Squad" 45 yX0_outcome ∈ zAW := zq_t (List.mem_append_right _ (List.mem_append_left _ (List.mem_of_getElem? (l := tables_1_2) (i := 42) rfl)))
set_option maxRecDepth 20000 in
theorem q187 : Cond.instanceMethod yX0_outcome ∈ zAW := zq_t (List.mem_append_right _ (List.mem_append_left _ (List.mem_of_getElem? (l := tables_1_2) (i := 43) rfl)))
set_option maxRecDepth 20000 in
theorem q188 : Cond.selects "ClayTraps$Squad" yX0_outcome yX0_outcome ∈ zAW := zq_t (List.mem_append_right _ (List.mem_append_left _ (List.mem_of_getElem? (l := tables_1_2) (i := 44) rfl)))
set_option maxRecDepth 20000 in
theorem q189 : Cond.methodLink "ClayTraps$Squad" 61 yJ9_max_7cf53 ∈ zAW := zq_t (List.mem_append_right _ (List.mem_append_left _ (List.mem_of_getElem? (l := tables_1_2) (i := 47) rfl)))
set_option maxRecDepth 20000 in
theorem q190 : Cond.code yX2_angle prog_1_method_8_code 3 (some .int) ∈ zAW := zq_t (List.mem_append_right _ (List.mem_append_left _ (List.mem_of_getElem? (l := tables_1_2) (i := 53) rfl)))
set_option maxRecDepth 20000 in
theorem q191 : Cond.methodLink "ClayTraps" 175 yX2_angle ∈ zAW := zq_t (List.mem_append_right _ (List.mem_append_left _ (List.mem_of_getElem? (l := tables_1_2) (i := 50) rfl)))
set_option maxRecDepth 20000 in
theorem q192 : Cond.instanceMethod yX2_angle ∈ zAW := zq_t (List.mem_append_right _ (List.mem_append_left _ (List.mem_of_getElem? (l := tables_1_2) (i := 51) rfl)))
set_option maxRecDepth 20000 in
theorem q193 : Cond.selects "ClayTraps" yX2_angle yX2_angle ∈ zAW := zq_t (List.mem_append_right _ (List.mem_append_left _ (List.mem_of_getElem? (l := tables_1_2) (i := 52) rfl)))
set_option maxRecDepth 20000 in
theorem q194 : Cond.code yX2_checkStand prog_1_method_29_code 1 none ∈ zAW := zq_t (List.mem_append_right _ (List.mem_append_left _ (List.mem_of_getElem? (l := tables_1_2) (i := 56) rfl)))
set_option maxRecDepth 20000 in
theorem q195 : Cond.methodLink "ClayTraps" 48 yX2_checkStand ∈ zAW := zq_t (List.mem_append_right _ (List.mem_append_left _ (List.mem_of_getElem? (l := tables_1_2) (i := 54) rfl)))
set_option maxRecDepth 20000 in
theorem q196 : Cond.static yX2_checkStand ∈ zAW := zq_t (List.mem_append_right _ (List.mem_append_left _ (List.mem_of_getElem? (l := tables_1_2) (i := 55) rfl)))
set_option maxRecDepth 20000 in
theorem q197 : Cond.methodLink "ClayTraps" 89 (⟨"java/lang/IndexOutOfBoundsException", "<init>", "(Ljava/lang/String;)V"⟩ : MethodName) ∈ zAW := zq_t (List.mem_append_right _ (List.mem_append_left _ (List.mem_of_getElem? (l := tables_1_2) (i := 67) rfl)))
set_option maxRecDepth 20000 in
theorem q198 : Cond.methodLink "ClayTraps" 90 yX1_angleAt ∈ zAW := zq_t (List.mem_append_right _ (List.mem_append_left _ (List.mem_of_getElem? (l := tables_1_2) (i := 74) rfl)))
set_option maxRecDepth 20000 in
theorem q199 : Cond.code yX2_hardestClay prog_1_method_9_code 2 (some .int) ∈ zAW := zq_t (List.mem_append_right _ (List.mem_append_left _ (List.mem_of_getElem? (l := tables_1_2) (i := 78) rfl)))
set_option maxRecDepth 20000 in
theorem q200 : Cond.methodLink "ClayTraps" 178 yX2_hardestClay ∈ zAW := zq_t (List.mem_append_right _ (List.mem_append_left _ (List.mem_of_getElem? (l := tables_1_2) (i := 75) rfl)))
set_option maxRecDepth 20000 in
theorem q201 : Cond.instanceMethod yX2_hardestClay ∈ zAW := zq_t (List.mem_append_right _ (List.mem_append_left _ (List.mem_of_getElem? (l := tables_1_2) (i := 76) rfl)))
set_option maxRecDepth 20000 in
theorem q202 : Cond.selects "ClayTraps" yX2_hardestClay yX2_hardestClay ∈ zAW := zq_t (List.mem_append_right _ (List.mem_append_left _ (List.mem_of_getElem? (l := tables_1_2) (i := 77) rfl)))
set_option maxRecDepth 20000 in
theorem q203 : Cond.code yX1_hardestAt prog_3_method_6_code 4 (some .int) ∈ zAW := zq_t (List.mem_append_right _ (List.mem_append_left _ (List.mem_of_getElem? (l := tables_1_2) (i := 82) rfl)))
set_option maxRecDepth 20000 in
theorem q204 : Cond.methodLink "ClayTraps" 93 yX1_hardestAt ∈ zAW := zq_t (List.mem_append_right _ (List.mem_append_left _ (List.mem_of_getElem? (l := tables_1_2) (i := 79) rfl)))
set_option maxRecDepth 20000 in
theorem q205 : Cond.instanceMethod yX1_hardestAt ∈ zAW := zq_t (List.mem_append_right _ (List.mem_append_left _ (List.mem_of_getElem? (l := tables_1_2) (i := 80) rfl)))
set_option maxRecDepth 20000 in
theorem q206 : Cond.selects "ClayTraps$Traps" yX1_hardestAt yX1_hardestAt ∈ zAW := zq_t (List.mem_append_right _ (List.mem_append_left _ (List.mem_of_getElem? (l := tables_1_2) (i := 81) rfl)))
set_option maxRecDepth 20000 in
theorem q207 : Cond.code yX1_amountAt prog_3_method_4_code 3 (some .int) ∈ zAW := zq_t (List.mem_append_right _ (List.mem_append_left _ (List.mem_of_getElem? (l := tables_1_2) (i := 86) rfl)))
set_option maxRecDepth 20000 in
theorem q208 : Cond.methodLink "ClayTraps$Traps" 37 yX1_amountAt ∈ zAW := zq_t (List.mem_append_right _ (List.mem_append_left _ (List.mem_of_getElem? (l := tables_1_2) (i := 83) rfl)))
set_option maxRecDepth 20000 in
theorem q209 : Cond.instanceMethod yX1_amountAt ∈ zAW := zq_t (List.mem_append_right _ (List.mem_append_left _ (List.mem_of_getElem? (l := tables_1_2) (i := 84) rfl)))
set_option maxRecDepth 20000 in
theorem q210 : Cond.selects "ClayTraps$Traps" yX1_amountAt yX1_amountAt ∈ zAW := zq_t (List.mem_append_right _ (List.mem_append_left _ (List.mem_of_getElem? (l := tables_1_2) (i := 85) rfl)))
set_option maxRecDepth 20000 in
theorem q211 : Cond.code yX2_standOf prog_1_method_10_code 2 (some .int) ∈ zAW := zq_t (List.mem_append_right _ (List.mem_append_left _ (List.mem_of_getElem? (l := tables_1_2) (i := 90) rfl)))
set_option maxRecDepth 20000 in
theorem q212 : Cond.methodLink "ClayTraps" 181 yX2_standOf ∈ zAW := zq_t (List.mem_append_right _ (List.mem_append_left _ (List.mem_of_getElem? (l := tables_1_2) (i := 87) rfl)))
set_option maxRecDepth 20000 in
theorem q213 : Cond.instanceMethod yX2_standOf ∈ zAW := zq_t (List.mem_append_right _ (List.mem_append_left _ (List.mem_of_getElem? (l := tables_1_2) (i := 88) rfl)))
set_option maxRecDepth 20000 in
theorem q214 : Cond.selects "ClayTraps" yX2_standOf yX2_standOf ∈ zAW := zq_t (List.mem_append_right _ (List.mem_append_left _ (List.mem_of_getElem? (l := tables_1_2) (i := 89) rfl)))
set_option maxRecDepth 20000 in
theorem q215 : Cond.code yX2_checkGun prog_1_method_30_code 2 none ∈ zAW := zq_t (List.mem_append_right _ (List.mem_append_left _ (List.mem_of_getElem? (l := tables_1_2) (i := 94) rfl)))
set_option maxRecDepth 20000 in
theorem q216 : Cond.methodLink "ClayTraps" 63 yX2_checkGun ∈ zAW := zq_t (List.mem_append_right _ (List.mem_append_left _ (List.mem_of_getElem? (l := tables_1_2) (i := 91) rfl)))
set_option maxRecDepth 20000 in
theorem q217 : Cond.instanceMethod yX2_checkGun ∈ zAW := zq_t (List.mem_append_right _ (List.mem_append_left _ (List.mem_of_getElem? (l := tables_1_2) (i := 93) rfl)))
set_option maxRecDepth 20000 in
theorem q218 : Cond.selects "ClayTraps" yX2_checkGun yX2_checkGun ∈ zAW := zq_s (List.mem_of_getElem? (l := k2_sels lw_privs) (i := 1) rfl)
set_option maxRecDepth 20000 in
theorem q219 : Cond.methodLink "ClayTraps" 97 yX2_standIn ∈ zAW := zq_t (List.mem_append_right _ (List.mem_append_left _ (List.mem_of_getElem? (l := tables_1_2) (i := 96) rfl)))
set_option maxRecDepth 20000 in
theorem q220 : Cond.code yX2_angleFor prog_1_method_11_code 2 (some .int) ∈ zAW := zq_t (List.mem_append_right _ (List.mem_append_left _ (List.mem_of_getElem? (l := tables_1_2) (i := 100) rfl)))
set_option maxRecDepth 20000 in
theorem q221 : Cond.methodLink "ClayTraps" 184 yX2_angleFor ∈ zAW := zq_t (List.mem_append_right _ (List.mem_append_left _ (List.mem_of_getElem? (l := tables_1_2) (i := 97) rfl)))
set_option maxRecDepth 20000 in
theorem q222 : Cond.instanceMethod yX2_angleFor ∈ zAW := zq_t (List.mem_append_right _ (List.mem_append_left _ (List.mem_of_getElem? (l := tables_1_2) (i := 98) rfl)))
set_option maxRecDepth 20000 in
theorem q223 : Cond.selects "ClayTraps" yX2_angleFor yX2_angleFor ∈ zAW := zq_t (List.mem_append_right _ (List.mem_append_left _ (List.mem_of_getElem? (l := tables_1_2) (i := 99) rfl)))
set_option maxRecDepth 20000 in
theorem q224 : Cond.methodLink "ClayTraps" 100 yX1_angleIn ∈ zAW := zq_t (List.mem_append_right _ (List.mem_append_left _ (List.mem_of_getElem? (l := tables_1_2) (i := 101) rfl)))
set_option maxRecDepth 20000 in
theorem q225 : Cond.code yX2_scoreOf prog_1_method_13_code 2 (some .int) ∈ zAW := zq_t (List.mem_append_right _ (List.mem_append_left _ (List.mem_of_getElem? (l := tables_1_2) (i := 105) rfl)))
set_option maxRecDepth 20000 in
theorem q226 : Cond.methodLink "ClayTraps" 187 yX2_scoreOf ∈ zAW := zq_t (List.mem_append_right _ (List.mem_append_left _ (List.mem_of_getElem? (l := tables_1_2) (i := 102) rfl)))
set_option maxRecDepth 20000 in
theorem q227 : Cond.instanceMethod yX2_scoreOf ∈ zAW := zq_t (List.mem_append_right _ (List.mem_append_left _ (List.mem_of_getElem? (l := tables_1_2) (i := 103) rfl)))
set_option maxRecDepth 20000 in
theorem q228 : Cond.selects "ClayTraps" yX2_scoreOf yX2_scoreOf ∈ zAW := zq_t (List.mem_append_right _ (List.mem_append_left _ (List.mem_of_getElem? (l := tables_1_2) (i := 104) rfl)))
set_option maxRecDepth 20000 in
theorem q229 : Cond.code yX2_firstsOf prog_1_method_14_code 2 (some .int) ∈ zAW := zq_t (List.mem_append_right _ (List.mem_append_left _ (List.mem_of_getElem? (l := tables_1_2) (i := 109) rfl)))
set_option maxRecDepth 20000 in
theorem q230 : Cond.methodLink "ClayTraps" 190 yX2_firstsOf ∈ zAW := zq_t (List.mem_append_right _ (List.mem_append_left _ (List.mem_of_getElem? (l := tables_1_2) (i := 106) rfl)))
set_option maxRecDepth 20000 in
theorem q231 : Cond.instanceMethod yX2_firstsOf ∈ zAW := zq_t (List.mem_append_right _ (List.mem_append_left _ (List.mem_of_getElem? (l := tables_1_2) (i := 107) rfl)))
set_option maxRecDepth 20000 in
theorem q232 : Cond.selects "ClayTraps" yX2_firstsOf yX2_firstsOf ∈ zAW := zq_t (List.mem_append_right _ (List.mem_append_left _ (List.mem_of_getElem? (l := tables_1_2) (i := 108) rfl)))
set_option maxRecDepth 20000 in
theorem q233 : Cond.code yX2_missesOf prog_1_method_15_code 2 (some .int) ∈ zAW := zq_t (List.mem_append_right _ (List.mem_append_left _ (List.mem_of_getElem? (l := tables_1_2) (i := 113) rfl)))
set_option maxRecDepth 20000 in
theorem q234 : Cond.methodLink "ClayTraps" 193 yX2_missesOf ∈ zAW := zq_t (List.mem_append_right _ (List.mem_append_left _ (List.mem_of_getElem? (l := tables_1_2) (i := 110) rfl)))
set_option maxRecDepth 20000 in
theorem q235 : Cond.instanceMethod yX2_missesOf ∈ zAW := zq_t (List.mem_append_right _ (List.mem_append_left _ (List.mem_of_getElem? (l := tables_1_2) (i := 111) rfl)))
set_option maxRecDepth 20000 in
theorem q236 : Cond.selects "ClayTraps" yX2_missesOf yX2_missesOf ∈ zAW := zq_t (List.mem_append_right _ (List.mem_append_left _ (List.mem_of_getElem? (l := tables_1_2) (i := 112) rfl)))
set_option maxRecDepth 20000 in
theorem q237 : Cond.code yX2_fatigueOf prog_1_method_16_code 2 (some .int) ∈ zAW := zq_t (List.mem_append_right _ (List.mem_append_left _ (List.mem_of_getElem? (l := tables_1_2) (i := 117) rfl)))
set_option maxRecDepth 20000 in
theorem q238 : Cond.methodLink "ClayTraps" 196 yX2_fatigueOf ∈ zAW := zq_t (List.mem_append_right _ (List.mem_append_left _ (List.mem_of_getElem? (l := tables_1_2) (i := 114) rfl)))
set_option maxRecDepth 20000 in
theorem q239 : Cond.instanceMethod yX2_fatigueOf ∈ zAW := zq_t (List.mem_append_right _ (List.mem_append_left _ (List.mem_of_getElem? (l := tables_1_2) (i := 115) rfl)))
set_option maxRecDepth 20000 in
theorem q240 : Cond.selects "ClayTraps" yX2_fatigueOf yX2_fatigueOf ∈ zAW := zq_t (List.mem_append_right _ (List.mem_append_left _ (List.mem_of_getElem? (l := tables_1_2) (i := 116) rfl)))
set_option maxRecDepth 20000 in
theorem q241 : Cond.code yX2_wouldHit prog_1_method_17_code 2 (some .int) ∈ zAW := zq_t (List.mem_append_right _ (List.mem_append_left _ (List.mem_of_getElem? (l := tables_1_2) (i := 121) rfl)))
set_option maxRecDepth 20000 in
theorem q242 : Cond.methodLink "ClayTraps" 199 yX2_wouldHit ∈ zAW := zq_t (List.mem_append_right _ (List.mem_append_left _ (List.mem_of_getElem? (l := tables_1_2) (i := 118) rfl)))
set_option maxRecDepth 20000 in
theorem q243 : Cond.instanceMethod yX2_wouldHit ∈ zAW := zq_t (List.mem_append_right _ (List.mem_append_left _ (List.mem_of_getElem? (l := tables_1_2) (i := 119) rfl)))
set_option maxRecDepth 20000 in
theorem q244 : Cond.selects "ClayTraps" yX2_wouldHit yX2_wouldHit ∈ zAW := zq_t (List.mem_append_right _ (List.mem_append_left _ (List.mem_of_getElem? (l := tables_1_2) (i := 120) rfl)))
set_option maxRecDepth 20000 in
theorem q245 : Cond.methodLink "ClayTraps" 112 yX1_amountIn ∈ zAW := zq_t (List.mem_append_right _ (List.mem_append_left _ (List.mem_of_getElem? (l := tables_1_2) (i := 122) rfl)))
set_option maxRecDepth 20000 in
theorem q246 : Cond.methodLink "ClayTraps" 115 yX0_outcome ∈ zAW := zq_t (List.mem_append_right _ (List.mem_append_left _ (List.mem_of_getElem? (l := tables_1_2) (i := 123) rfl)))
set_option maxRecDepth 20000 in
theorem q247 : Cond.code yX2_rankOf prog_1_method_20_code 2 (some .int) ∈ zAW := zq_t (List.mem_append_right _ (List.mem_append_left _ (List.mem_of_getElem? (l := tables_1_2) (i := 127) rfl)))
set_option maxRecDepth 20000 in
theorem q248 : Cond.methodLink "ClayTraps" 202 yX2_rankOf ∈ zAW := zq_t (List.mem_append_right _ (List.mem_append_left _ (List.mem_of_getElem? (l := tables_1_2) (i := 124) rfl)))
set_option maxRecDepth 20000 in
theorem q249 : Cond.instanceMethod yX2_rankOf ∈ zAW := zq_t (List.mem_append_right _ (List.mem_append_left _ (List.mem_of_getElem? (l := tables_1_2) (i := 125) rfl)))
set_option maxRecDepth 20000 in
theorem q250 : Cond.selects "ClayTraps" yX2_rankOf yX2_rankOf ∈ zAW := zq_t (List.mem_append_right _ (List.mem_append_left _ (List.mem_of_getElem? (l := tables_1_2) (i := 126) rfl)))
set_option maxRecDepth 20000 in
theorem q251 : Cond.code yX0_countAbove prog_2_method_11_code 4 (some .int) ∈ zAW := zq_t (List.mem_append_right _ (List.mem_append_left _ (List.mem_of_getElem? (l := tables_1_2) (i := 131) rfl)))
set_option maxRecDepth 20000 in
theorem q252 : Cond.methodLink "ClayTraps" 124 yX0_countAbove ∈ zAW := zq_t (List.mem_append_right _ (List.mem_append_left _ (List.mem_of_getElem? (l := tables_1_2) (i := 128) rfl)))
set_option maxRecDepth 20000 in
theorem q253 : Cond.instanceMethod yX0_countAbove ∈ zAW := zq_t (List.mem_append_right _ (List.mem_append_left _ (List.mem_of_getElem? (l := tables_1_2) (i := 129) rfl)))
set_option maxRecDepth 20000 in
theorem q254 : Cond.selects "ClayTraps$Squad" yX0_countAbove yX0_countAbove ∈ zAW := zq_t (List.mem_append_right _ (List.mem_append_left _ (List.mem_of_getElem? (l := tables_1_2) (i := 130) rfl)))
set_option maxRecDepth 20000 in
theorem q255 : Cond.code yX2_turnsUntilMiss prog_1_method_22_code 3 (some .int) ∈ zAW := zq_t (List.mem_append_right _ (List.mem_append_left _ (List.mem_of_getElem? (l := tables_1_2) (i := 135) rfl)))
set_option maxRecDepth 20000 in
theorem q256 : Cond.methodLink "ClayTraps" 205 yX2_turnsUntilMiss ∈ zAW := zq_t (List.mem_append_right _ (List.mem_append_left _ (List.mem_of_getElem? (l := tables_1_2) (i := 132) rfl)))
set_option maxRecDepth 20000 in
theorem q257 : Cond.instanceMethod yX2_turnsUntilMiss ∈ zAW := zq_t (List.mem_append_right _ (List.mem_append_left _ (List.mem_of_getElem? (l := tables_1_2) (i := 133) rfl)))
set_option maxRecDepth 20000 in
theorem q258 : Cond.selects "ClayTraps" yX2_turnsUntilMiss yX2_turnsUntilMiss ∈ zAW := zq_t (List.mem_append_right _ (List.mem_append_left _ (List.mem_of_getElem? (l := tables_1_2) (i := 134) rfl)))
set_option maxRecDepth 20000 in
theorem q259 : Cond.code yX2_bestRest prog_1_method_25_code 6 (some .int) ∈ zAW := zq_t (List.mem_append_right _ (List.mem_append_left _ (List.mem_of_getElem? (l := tables_1_2) (i := 139) rfl)))
set_option maxRecDepth 20000 in
theorem q260 : Cond.methodLink "ClayTraps" 208 yX2_bestRest ∈ zAW := zq_t (List.mem_append_right _ (List.mem_append_left _ (List.mem_of_getElem? (l := tables_1_2) (i := 136) rfl)))
set_option maxRecDepth 20000 in
theorem q261 : Cond.instanceMethod yX2_bestRest ∈ zAW := zq_t (List.mem_append_right _ (List.mem_append_left _ (List.mem_of_getElem? (l := tables_1_2) (i := 137) rfl)))
set_option maxRecDepth 20000 in
theorem q262 : Cond.selects "ClayTraps" yX2_bestRest yX2_bestRest ∈ zAW := zq_t (List.mem_append_right _ (List.mem_append_left _ (List.mem_of_getElem? (l := tables_1_2) (i := 138) rfl)))
set_option maxRecDepth 20000 in
theorem q263 : Cond.code yX2_scoreWithRest prog_1_method_34_code 3 (some .int) ∈ zAW := zq_t (List.mem_append_right _ (List.mem_append_left _ (List.mem_of_getElem? (l := tables_1_2) (i := 143) rfl)))
set_option maxRecDepth 20000 in
theorem q264 : Cond.methodLink "ClayTraps" 138 yX2_scoreWithRest ∈ zAW := zq_t (List.mem_append_right _ (List.mem_append_left _ (List.mem_of_getElem? (l := tables_1_2) (i := 140) rfl)))
set_option maxRecDepth 20000 in
theorem q265 : Cond.instanceMethod yX2_scoreWithRest ∈ zAW := zq_t (List.mem_append_right _ (List.mem_append_left _ (List.mem_of_getElem? (l := tables_1_2) (i := 142) rfl)))
set_option maxRecDepth 20000 in
theorem q266 : Cond.selects "ClayTraps" yX2_scoreWithRest yX2_scoreWithRest ∈ zAW := zq_s (List.mem_of_getElem? (l := k2_sels lw_privs) (i := 2) rfl)
set_option maxRecDepth 20000 in
theorem q267 : Cond.methodLink "ClayTraps" 131 yX0_playAlone ∈ zAW := zq_t (List.mem_append_right _ (List.mem_append_left _ (List.mem_of_getElem? (l := tables_1_2) (i := 144) rfl)))
set_option maxRecDepth 20000 in
theorem q268 : Cond.codeWith yL_addGun method_3_code 5 (some .int) [(0, 10, 13, 13), (0, 10, 17, 15)] ∈ zAW := zq_t (List.mem_append_right _ (List.mem_append_left _ (List.mem_of_getElem? (l := tables_1_2) (i := 147) rfl)))
set_option maxRecDepth 20000 in
theorem q269 : Cond.methodLink "ClayTrapsLaw" 83 yL_addGun ∈ zAW := zq_t (List.mem_append_right _ (List.mem_append_left _ (List.mem_of_getElem? (l := tables_1_2) (i := 145) rfl)))
set_option maxRecDepth 20000 in
theorem q270 : Cond.static yL_addGun ∈ zAW := zq_t (List.mem_append_right _ (List.mem_append_left _ (List.mem_of_getElem? (l := tables_1_2) (i := 146) rfl)))
set_option maxRecDepth 20000 in
theorem q271 : Cond.initialized "ClayTrapsLaw" ∈ zAW := zq_t (List.mem_append_left _ (List.mem_of_getElem? (l := tables_1_1) (i := 0) rfl))
set_option maxRecDepth 20000 in
theorem q272 : Cond.code yX2_addGun prog_1_method_2_code 3 (some .int) ∈ zAW := zq_t (List.mem_append_right _ (List.mem_append_left _ (List.mem_of_getElem? (l := tables_1_2) (i := 153) rfl)))
set_option maxRecDepth 20000 in
theorem q273 : Cond.methodLink "ClayTrapsLaw" 7 yX2_addGun ∈ zAW := zq_t (List.mem_append_right _ (List.mem_append_left _ (List.mem_of_getElem? (l := tables_1_2) (i := 150) rfl)))
set_option maxRecDepth 20000 in
theorem q274 : Cond.instanceMethod yX2_addGun ∈ zAW := zq_t (List.mem_append_right _ (List.mem_append_left _ (List.mem_of_getElem? (l := tables_1_2) (i := 151) rfl)))
set_option maxRecDepth 20000 in
theorem q275 : Cond.selects "ClayTraps" yX2_addGun yX2_addGun ∈ zAW := zq_t (List.mem_append_right _ (List.mem_append_left _ (List.mem_of_getElem? (l := tables_1_2) (i := 152) rfl)))
set_option maxRecDepth 20000 in
theorem q276 : Cond.methodLink "ClayTraps" 43 (⟨"java/lang/IllegalStateException", "<init>", "(Ljava/lang/String;)V"⟩ : MethodName) ∈ zAW := zq_t (List.mem_append_right _ (List.mem_append_left _ (List.mem_of_getElem? (l := tables_1_2) (i := 166) rfl)))
set_option maxRecDepth 20000 in
theorem q277 : Cond.code yX0_enter prog_2_method_2_code 4 (some .int) ∈ zAW := zq_t (List.mem_append_right _ (List.mem_append_left _ (List.mem_of_getElem? (l := tables_1_2) (i := 175) rfl)))
set_option maxRecDepth 20000 in
theorem q278 : Cond.methodLink "ClayTraps" 44 yX0_enter ∈ zAW := zq_t (List.mem_append_right _ (List.mem_append_left _ (List.mem_of_getElem? (l := tables_1_2) (i := 172) rfl)))
set_option maxRecDepth 20000 in
theorem q279 : Cond.instanceMethod yX0_enter ∈ zAW := zq_t (List.mem_append_right _ (List.mem_append_left _ (List.mem_of_getElem? (l := tables_1_2) (i := 173) rfl)))
set_option maxRecDepth 20000 in
theorem q280 : Cond.selects "ClayTraps$Squad" yX0_enter yX0_enter ∈ zAW := zq_t (List.mem_append_right _ (List.mem_append_left _ (List.mem_of_getElem? (l := tables_1_2) (i := 174) rfl)))
set_option maxRecDepth 20000 in
theorem q281 : Cond.codeWith yL_setTrap method_4_code 6 (some .int) [(0, 12, 15, 21), (0, 12, 19, 13)] ∈ zAW := zq_t (List.mem_append_right _ (List.mem_append_left _ (List.mem_of_getElem? (l := tables_1_2) (i := 178) rfl)))
set_option maxRecDepth 20000 in
theorem q282 : Cond.methodLink "ClayTrapsLaw" 92 yL_setTrap ∈ zAW := zq_t (List.mem_append_right _ (List.mem_append_left _ (List.mem_of_getElem? (l := tables_1_2) (i := 176) rfl)))
set_option maxRecDepth 20000 in
theorem q283 : Cond.static yL_setTrap ∈ zAW := zq_t (List.mem_append_right _ (List.mem_append_left _ (List.mem_of_getElem? (l := tables_1_2) (i := 177) rfl)))
set_option maxRecDepth 20000 in
theorem q284 : Cond.code yX2_setTrap prog_1_method_3_code 5 (some .int) ∈ zAW := zq_t (List.mem_append_right _ (List.mem_append_left _ (List.mem_of_getElem? (l := tables_1_2) (i := 183) rfl)))
set_option maxRecDepth 20000 in
theorem q285 : Cond.methodLink "ClayTrapsLaw" 17 yX2_setTrap ∈ zAW := zq_t (List.mem_append_right _ (List.mem_append_left _ (List.mem_of_getElem? (l := tables_1_2) (i := 180) rfl)))
set_option maxRecDepth 20000 in
theorem q286 : Cond.instanceMethod yX2_setTrap ∈ zAW := zq_t (List.mem_append_right _ (List.mem_append_left _ (List.mem_of_getElem? (l := tables_1_2) (i := 181) rfl)))
set_option maxRecDepth 20000 in
theorem q287 : Cond.selects "ClayTraps" yX2_setTrap yX2_setTrap ∈ zAW := zq_t (List.mem_append_right _ (List.mem_append_left _ (List.mem_of_getElem? (l := tables_1_2) (i := 182) rfl)))
set_option maxRecDepth 20000 in
theorem q288 : Cond.codeWith yL_rest method_5_code 4 (some .int) [(0, 9, 12, 21)] ∈ zAW := zq_t (List.mem_append_right _ (List.mem_append_left _ (List.mem_of_getElem? (l := tables_1_2) (i := 188) rfl)))
set_option maxRecDepth 20000 in
theorem q289 : Cond.methodLink "ClayTrapsLaw" 96 yL_rest ∈ zAW := zq_t (List.mem_append_right _ (List.mem_append_left _ (List.mem_of_getElem? (l := tables_1_2) (i := 186) rfl)))
set_option maxRecDepth 20000 in
theorem q290 : Cond.static yL_rest ∈ zAW := zq_t (List.mem_append_right _ (List.mem_append_left _ (List.mem_of_getElem? (l := tables_1_2) (i := 187) rfl)))
set_option maxRecDepth 20000 in
theorem q291 : Cond.code yX2_rest prog_1_method_4_code 3 (some .int) ∈ zAW := zq_t (List.mem_append_right _ (List.mem_append_left _ (List.mem_of_getElem? (l := tables_1_2) (i := 192) rfl)))
set_option maxRecDepth 20000 in
theorem q292 : Cond.methodLink "ClayTrapsLaw" 23 yX2_rest ∈ zAW := zq_t (List.mem_append_right _ (List.mem_append_left _ (List.mem_of_getElem? (l := tables_1_2) (i := 189) rfl)))
set_option maxRecDepth 20000 in
theorem q293 : Cond.instanceMethod yX2_rest ∈ zAW := zq_t (List.mem_append_right _ (List.mem_append_left _ (List.mem_of_getElem? (l := tables_1_2) (i := 190) rfl)))
set_option maxRecDepth 20000 in
theorem q294 : Cond.selects "ClayTraps" yX2_rest yX2_rest ∈ zAW := zq_t (List.mem_append_right _ (List.mem_append_left _ (List.mem_of_getElem? (l := tables_1_2) (i := 191) rfl)))
set_option maxRecDepth 20000 in
theorem q295 : Cond.codeWith yL_pass method_6_code 4 (some .int) [(0, 9, 12, 13)] ∈ zAW := zq_t (List.mem_append_right _ (List.mem_append_left _ (List.mem_of_getElem? (l := tables_1_2) (i := 195) rfl)))
set_option maxRecDepth 20000 in
theorem q296 : Cond.methodLink "ClayTrapsLaw" 100 yL_pass ∈ zAW := zq_t (List.mem_append_right _ (List.mem_append_left _ (List.mem_of_getElem? (l := tables_1_2) (i := 193) rfl)))
set_option maxRecDepth 20000 in
theorem q297 : Cond.static yL_pass ∈ zAW := zq_t (List.mem_append_right _ (List.mem_append_left _ (List.mem_of_getElem? (l := tables_1_2) (i := 194) rfl)))
set_option maxRecDepth 20000 in
theorem q298 : Cond.code yX2_pass prog_1_method_5_code 3 (some .int) ∈ zAW := zq_t (List.mem_append_right _ (List.mem_append_left _ (List.mem_of_getElem? (l := tables_1_2) (i := 199) rfl)))
set_option maxRecDepth 20000 in
theorem q299 : Cond.methodLink "ClayTrapsLaw" 27 yX2_pass ∈ zAW := zq_t (List.mem_append_right _ (List.mem_append_left _ (List.mem_of_getElem? (l := tables_1_2) (i := 196) rfl)))
set_option maxRecDepth 20000 in
theorem q300 : Cond.instanceMethod yX2_pass ∈ zAW := zq_t (List.mem_append_right _ (List.mem_append_left _ (List.mem_of_getElem? (l := tables_1_2) (i := 197) rfl)))
set_option maxRecDepth 20000 in
theorem q301 : Cond.selects "ClayTraps" yX2_pass yX2_pass ∈ zAW := zq_t (List.mem_append_right _ (List.mem_append_left _ (List.mem_of_getElem? (l := tables_1_2) (i := 198) rfl)))
set_option maxRecDepth 20000 in
theorem q302 : Cond.codeWith yL_shootOff method_7_code 3 (some .int) [(0, 8, 11, 15)] ∈ zAW := zq_t (List.mem_append_right _ (List.mem_append_left _ (List.mem_of_getElem? (l := tables_1_2) (i := 202) rfl)))
set_option maxRecDepth 20000 in
theorem q303 : Cond.methodLink "ClayTrapsLaw" 103 yL_shootOff ∈ zAW := zq_t (List.mem_append_right _ (List.mem_append_left _ (List.mem_of_getElem? (l := tables_1_2) (i := 200) rfl)))
set_option maxRecDepth 20000 in
theorem q304 : Cond.static yL_shootOff ∈ zAW := zq_t (List.mem_append_right _ (List.mem_append_left _ (List.mem_of_getElem? (l := tables_1_2) (i := 201) rfl)))
set_option maxRecDepth 20000 in
theorem q305 : Cond.code yX2_shootOff prog_1_method_6_code 1 (some .int) ∈ zAW := zq_t (List.mem_append_right _ (List.mem_append_left _ (List.mem_of_getElem? (l := tables_1_2) (i := 206) rfl)))
set_option maxRecDepth 20000 in
theorem q306 : Cond.methodLink "ClayTrapsLaw" 30 yX2_shootOff ∈ zAW := zq_t (List.mem_append_right _ (List.mem_append_left _ (List.mem_of_getElem? (l := tables_1_2) (i := 203) rfl)))
set_option maxRecDepth 20000 in
theorem q307 : Cond.instanceMethod yX2_shootOff ∈ zAW := zq_t (List.mem_append_right _ (List.mem_append_left _ (List.mem_of_getElem? (l := tables_1_2) (i := 204) rfl)))
set_option maxRecDepth 20000 in
theorem q308 : Cond.selects "ClayTraps" yX2_shootOff yX2_shootOff ∈ zAW := zq_t (List.mem_append_right _ (List.mem_append_left _ (List.mem_of_getElem? (l := tables_1_2) (i := 205) rfl)))
set_option maxRecDepth 20000 in
theorem q309 : Cond.codeWith yL_angle method_8_code 5 (some .int) [(0, 10, 13, 21)] ∈ zAW := zq_t (List.mem_append_right _ (List.mem_append_left _ (List.mem_of_getElem? (l := tables_1_2) (i := 210) rfl)))
set_option maxRecDepth 20000 in
theorem q310 : Cond.methodLink "ClayTrapsLaw" 111 yL_angle ∈ zAW := zq_t (List.mem_append_right _ (List.mem_append_left _ (List.mem_of_getElem? (l := tables_1_2) (i := 208) rfl)))
set_option maxRecDepth 20000 in
theorem q311 : Cond.static yL_angle ∈ zAW := zq_t (List.mem_append_right _ (List.mem_append_left _ (List.mem_of_getElem? (l := tables_1_2) (i := 209) rfl)))
set_option maxRecDepth 20000 in
theorem q312 : Cond.methodLink "ClayTrapsLaw" 34 yX2_angle ∈ zAW := zq_t (List.mem_append_right _ (List.mem_append_left _ (List.mem_of_getElem? (l := tables_1_2) (i := 211) rfl)))
set_option maxRecDepth 20000 in
theorem q313 : Cond.codeWith yL_hardestClay method_9_code 4 (some .int) [(0, 9, 12, 21)] ∈ zAW := zq_t (List.mem_append_right _ (List.mem_append_left _ (List.mem_of_getElem? (l := tables_1_2) (i := 214) rfl)))
set_option maxRecDepth 20000 in
theorem q314 : Cond.methodLink "ClayTrapsLaw" 114 yL_hardestClay ∈ zAW := zq_t (List.mem_append_right _ (List.mem_append_left _ (List.mem_of_getElem? (l := tables_1_2) (i := 212) rfl)))
set_option maxRecDepth 20000 in
theorem q315 : Cond.static yL_hardestClay ∈ zAW := zq_t (List.mem_append_right _ (List.mem_append_left _ (List.mem_of_getElem? (l := tables_1_2) (i := 213) rfl)))
set_option maxRecDepth 20000 in
theorem q316 : Cond.methodLink "ClayTrapsLaw" 37 yX2_hardestClay ∈ zAW := zq_t (List.mem_append_right _ (List.mem_append_left _ (List.mem_of_getElem? (l := tables_1_2) (i := 215) rfl)))
set_option maxRecDepth 20000 in
theorem q317 : Cond.codeWith yL_standOf method_10_code 4 (some .int) [(0, 9, 12, 21)] ∈ zAW := zq_t (List.mem_append_right _ (List.mem_append_left _ (List.mem_of_getElem? (l := tables_1_2) (i := 218) rfl)))
set_option maxRecDepth 20000 in
theorem q318 : Cond.methodLink "ClayTrapsLaw" 117 yL_standOf ∈ zAW := zq_t (List.mem_append_right _ (List.mem_append_left _ (List.mem_of_getElem? (l := tables_1_2) (i := 216) rfl)))
set_option maxRecDepth 20000 in
theorem q319 : Cond.static yL_standOf ∈ zAW := zq_t (List.mem_append_right _ (List.mem_append_left _ (List.mem_of_getElem? (l := tables_1_2) (i := 217) rfl)))
set_option maxRecDepth 20000 in
theorem q320 : Cond.methodLink "ClayTrapsLaw" 40 yX2_standOf ∈ zAW := zq_t (List.mem_append_right _ (List.mem_append_left _ (List.mem_of_getElem? (l := tables_1_2) (i := 219) rfl)))
set_option maxRecDepth 20000 in
theorem q321 : Cond.codeWith yL_angleFor method_11_code 4 (some .int) [(0, 9, 12, 21)] ∈ zAW := zq_t (List.mem_append_right _ (List.mem_append_left _ (List.mem_of_getElem? (l := tables_1_2) (i := 222) rfl)))
set_option maxRecDepth 20000 in
theorem q322 : Cond.methodLink "ClayTrapsLaw" 120 yL_angleFor ∈ zAW := zq_t (List.mem_append_right _ (List.mem_append_left _ (List.mem_of_getElem? (l := tables_1_2) (i := 220) rfl)))
set_option maxRecDepth 20000 in
theorem q323 : Cond.static yL_angleFor ∈ zAW := zq_t (List.mem_append_right _ (List.mem_append_left _ (List.mem_of_getElem? (l := tables_1_2) (i := 221) rfl)))
set_option maxRecDepth 20000 in
theorem q324 : Cond.methodLink "ClayTrapsLaw" 43 yX2_angleFor ∈ zAW := zq_t (List.mem_append_right _ (List.mem_append_left _ (List.mem_of_getElem? (l := tables_1_2) (i := 223) rfl)))
set_option maxRecDepth 20000 in
theorem q325 : Cond.codeWith yL_scoreOf method_12_code 4 (some .int) [(0, 9, 12, 21)] ∈ zAW := zq_t (List.mem_append_right _ (List.mem_append_left _ (List.mem_of_getElem? (l := tables_1_2) (i := 226) rfl)))
set_option maxRecDepth 20000 in
theorem q326 : Cond.methodLink "ClayTrapsLaw" 127 yL_scoreOf ∈ zAW := zq_t (List.mem_append_right _ (List.mem_append_left _ (List.mem_of_getElem? (l := tables_1_2) (i := 224) rfl)))
set_option maxRecDepth 20000 in
theorem q327 : Cond.static yL_scoreOf ∈ zAW := zq_t (List.mem_append_right _ (List.mem_append_left _ (List.mem_of_getElem? (l := tables_1_2) (i := 225) rfl)))
set_option maxRecDepth 20000 in
theorem q328 : Cond.methodLink "ClayTrapsLaw" 46 yX2_scoreOf ∈ zAW := zq_t (List.mem_append_right _ (List.mem_append_left _ (List.mem_of_getElem? (l := tables_1_2) (i := 227) rfl)))
set_option maxRecDepth 20000 in
theorem q329 : Cond.codeWith yL_firstsOf method_13_code 4 (some .int) [(0, 9, 12, 21)] ∈ zAW := zq_t (List.mem_append_right _ (List.mem_append_left _ (List.mem_of_getElem? (l := tables_1_2) (i := 230) rfl)))
set_option maxRecDepth 20000 in
theorem q330 : Cond.methodLink "ClayTrapsLaw" 130 yL_firstsOf ∈ zAW := zq_t (List.mem_append_right _ (List.mem_append_left _ (List.mem_of_getElem? (l := tables_1_2) (i := 228) rfl)))
set_option maxRecDepth 20000 in
theorem q331 : Cond.static yL_firstsOf ∈ zAW := zq_t (List.mem_append_right _ (List.mem_append_left _ (List.mem_of_getElem? (l := tables_1_2) (i := 229) rfl)))
set_option maxRecDepth 20000 in
theorem q332 : Cond.methodLink "ClayTrapsLaw" 49 yX2_firstsOf ∈ zAW := zq_t (List.mem_append_right _ (List.mem_append_left _ (List.mem_of_getElem? (l := tables_1_2) (i := 231) rfl)))
set_option maxRecDepth 20000 in
theorem q333 : Cond.codeWith yL_missesOf method_14_code 4 (some .int) [(0, 9, 12, 21)] ∈ zAW := zq_t (List.mem_append_right _ (List.mem_append_left _ (List.mem_of_getElem? (l := tables_1_2) (i := 234) rfl)))
set_option maxRecDepth 20000 in
theorem q334 : Cond.methodLink "ClayTrapsLaw" 133 yL_missesOf ∈ zAW := zq_t (List.mem_append_right _ (List.mem_append_left _ (List.mem_of_getElem? (l := tables_1_2) (i := 232) rfl)))
set_option maxRecDepth 20000 in
theorem q335 : Cond.static yL_missesOf ∈ zAW := zq_t (List.mem_append_right _ (List.mem_append_left _ (List.mem_of_getElem? (l := tables_1_2) (i := 233) rfl)))
set_option maxRecDepth 20000 in
theorem q336 : Cond.methodLink "ClayTrapsLaw" 52 yX2_missesOf ∈ zAW := zq_t (List.mem_append_right _ (List.mem_append_left _ (List.mem_of_getElem? (l := tables_1_2) (i := 235) rfl)))
set_option maxRecDepth 20000 in
theorem q337 : Cond.codeWith yL_fatigueOf method_15_code 4 (some .int) [(0, 9, 12, 21)] ∈ zAW := zq_t (List.mem_append_right _ (List.mem_append_left _ (List.mem_of_getElem? (l := tables_1_2) (i := 238) rfl)))
set_option maxRecDepth 20000 in
theorem q338 : Cond.methodLink "ClayTrapsLaw" 136 yL_fatigueOf ∈ zAW := zq_t (List.mem_append_right _ (List.mem_append_left _ (List.mem_of_getElem? (l := tables_1_2) (i := 236) rfl)))
set_option maxRecDepth 20000 in
theorem q339 : Cond.static yL_fatigueOf ∈ zAW := zq_t (List.mem_append_right _ (List.mem_append_left _ (List.mem_of_getElem? (l := tables_1_2) (i := 237) rfl)))
set_option maxRecDepth 20000 in
theorem q340 : Cond.methodLink "ClayTrapsLaw" 55 yX2_fatigueOf ∈ zAW := zq_t (List.mem_append_right _ (List.mem_append_left _ (List.mem_of_getElem? (l := tables_1_2) (i := 239) rfl)))
set_option maxRecDepth 20000 in
theorem q341 : Cond.codeWith yL_wouldHit method_16_code 4 (some .int) [(0, 9, 12, 21)] ∈ zAW := zq_t (List.mem_append_right _ (List.mem_append_right _ (List.mem_append_left _ (List.mem_of_getElem? (l := tables_1_3) (i := 2) rfl))))
set_option maxRecDepth 20000 in
theorem q342 : Cond.methodLink "ClayTrapsLaw" 139 yL_wouldHit ∈ zAW := zq_t (List.mem_append_right _ (List.mem_append_right _ (List.mem_append_left _ (List.mem_of_getElem? (l := tables_1_3) (i := 0) rfl))))
set_option maxRecDepth 20000 in
theorem q343 : Cond.static yL_wouldHit ∈ zAW := zq_t (List.mem_append_right _ (List.mem_append_right _ (List.mem_append_left _ (List.mem_of_getElem? (l := tables_1_3) (i := 1) rfl))))
set_option maxRecDepth 20000 in
theorem q344 : Cond.methodLink "ClayTrapsLaw" 58 yX2_wouldHit ∈ zAW := zq_t (List.mem_append_right _ (List.mem_append_right _ (List.mem_append_left _ (List.mem_of_getElem? (l := tables_1_3) (i := 3) rfl))))
set_option maxRecDepth 20000 in
theorem q345 : Cond.codeWith yL_rankOf method_17_code 4 (some .int) [(0, 9, 12, 21)] ∈ zAW := zq_t (List.mem_append_right _ (List.mem_append_right _ (List.mem_append_left _ (List.mem_of_getElem? (l := tables_1_3) (i := 6) rfl))))
set_option maxRecDepth 20000 in
theorem q346 : Cond.methodLink "ClayTrapsLaw" 150 yL_rankOf ∈ zAW := zq_t (List.mem_append_right _ (List.mem_append_right _ (List.mem_append_left _ (List.mem_of_getElem? (l := tables_1_3) (i := 4) rfl))))
set_option maxRecDepth 20000 in
theorem q347 : Cond.static yL_rankOf ∈ zAW := zq_t (List.mem_append_right _ (List.mem_append_right _ (List.mem_append_left _ (List.mem_of_getElem? (l := tables_1_3) (i := 5) rfl))))
set_option maxRecDepth 20000 in
theorem q348 : Cond.methodLink "ClayTrapsLaw" 61 yX2_rankOf ∈ zAW := zq_t (List.mem_append_right _ (List.mem_append_right _ (List.mem_append_left _ (List.mem_of_getElem? (l := tables_1_3) (i := 7) rfl))))
set_option maxRecDepth 20000 in
theorem q349 : Cond.codeWith yL_scoreIn method_18_code 5 (some .int) [(0, 10, 13, 21), (0, 10, 17, 13)] ∈ zAW := zq_t (List.mem_append_right _ (List.mem_append_right _ (List.mem_append_left _ (List.mem_of_getElem? (l := tables_1_3) (i := 10) rfl))))
set_option maxRecDepth 20000 in
theorem q350 : Cond.methodLink "ClayTrapsLaw" 153 yL_scoreIn ∈ zAW := zq_t (List.mem_append_right _ (List.mem_append_right _ (List.mem_append_left _ (List.mem_of_getElem? (l := tables_1_3) (i := 8) rfl))))
set_option maxRecDepth 20000 in
theorem q351 : Cond.static yL_scoreIn ∈ zAW := zq_t (List.mem_append_right _ (List.mem_append_right _ (List.mem_append_left _ (List.mem_of_getElem? (l := tables_1_3) (i := 9) rfl))))
set_option maxRecDepth 20000 in
theorem q352 : Cond.code yX2_scoreIn prog_1_method_21_code 3 (some .int) ∈ zAW := zq_t (List.mem_append_right _ (List.mem_append_right _ (List.mem_append_left _ (List.mem_of_getElem? (l := tables_1_3) (i := 14) rfl))))
set_option maxRecDepth 20000 in
theorem q353 : Cond.methodLink "ClayTrapsLaw" 64 yX2_scoreIn ∈ zAW := zq_t (List.mem_append_right _ (List.mem_append_right _ (List.mem_append_left _ (List.mem_of_getElem? (l := tables_1_3) (i := 11) rfl))))
set_option maxRecDepth 20000 in
theorem q354 : Cond.instanceMethod yX2_scoreIn ∈ zAW := zq_t (List.mem_append_right _ (List.mem_append_right _ (List.mem_append_left _ (List.mem_of_getElem? (l := tables_1_3) (i := 12) rfl))))
set_option maxRecDepth 20000 in
theorem q355 : Cond.selects "ClayTraps" yX2_scoreIn yX2_scoreIn ∈ zAW := zq_t (List.mem_append_right _ (List.mem_append_right _ (List.mem_append_left _ (List.mem_of_getElem? (l := tables_1_3) (i := 13) rfl))))
set_option maxRecDepth 20000 in
theorem q356 : Cond.codeWith yL_turnsUntilMiss method_19_code 4 (some .int) [(0, 9, 12, 21)] ∈ zAW := zq_t (List.mem_append_right _ (List.mem_append_right _ (List.mem_append_left _ (List.mem_of_getElem? (l := tables_1_3) (i := 17) rfl))))
set_option maxRecDepth 20000 in
theorem q357 : Cond.methodLink "ClayTrapsLaw" 156 yL_turnsUntilMiss ∈ zAW := zq_t (List.mem_append_right _ (List.mem_append_right _ (List.mem_append_left _ (List.mem_of_getElem? (l := tables_1_3) (i := 15) rfl))))
set_option maxRecDepth 20000 in
theorem q358 : Cond.static yL_turnsUntilMiss ∈ zAW := zq_t (List.mem_append_right _ (List.mem_append_right _ (List.mem_append_left _ (List.mem_of_getElem? (l := tables_1_3) (i := 16) rfl))))
set_option maxRecDepth 20000 in
theorem q359 : Cond.methodLink "ClayTrapsLaw" 67 yX2_turnsUntilMiss ∈ zAW := zq_t (List.mem_append_right _ (List.mem_append_right _ (List.mem_append_left _ (List.mem_of_getElem? (l := tables_1_3) (i := 18) rfl))))
set_option maxRecDepth 20000 in
theorem q360 : Cond.codeWith yL_leaderIn method_20_code 4 (some .int) [(0, 9, 12, 13)] ∈ zAW := zq_t (List.mem_append_right _ (List.mem_append_right _ (List.mem_append_left _ (List.mem_of_getElem? (l := tables_1_3) (i := 21) rfl))))
set_option maxRecDepth 20000 in
theorem q361 : Cond.methodLink "ClayTrapsLaw" 159 yL_leaderIn ∈ zAW := zq_t (List.mem_append_right _ (List.mem_append_right _ (List.mem_append_left _ (List.mem_of_getElem? (l := tables_1_3) (i := 19) rfl))))
set_option maxRecDepth 20000 in
theorem q362 : Cond.static yL_leaderIn ∈ zAW := zq_t (List.mem_append_right _ (List.mem_append_right _ (List.mem_append_left _ (List.mem_of_getElem? (l := tables_1_3) (i := 20) rfl))))
set_option maxRecDepth 20000 in
theorem q363 : Cond.methodLink "ClayTrapsLaw" 70 yX2_leaderIn ∈ zAW := zq_t (List.mem_append_right _ (List.mem_append_right _ (List.mem_append_left _ (List.mem_of_getElem? (l := tables_1_3) (i := 22) rfl))))
set_option maxRecDepth 20000 in
theorem q364 : Cond.codeWith yL_bestRest method_21_code 4 (some .int) [(0, 9, 12, 21)] ∈ zAW := zq_t (List.mem_append_right _ (List.mem_append_right _ (List.mem_append_left _ (List.mem_of_getElem? (l := tables_1_3) (i := 25) rfl))))
set_option maxRecDepth 20000 in
theorem q365 : Cond.methodLink "ClayTrapsLaw" 166 yL_bestRest ∈ zAW := zq_t (List.mem_append_right _ (List.mem_append_right _ (List.mem_append_left _ (List.mem_of_getElem? (l := tables_1_3) (i := 23) rfl))))
set_option maxRecDepth 20000 in
theorem q366 : Cond.static yL_bestRest ∈ zAW := zq_t (List.mem_append_right _ (List.mem_append_right _ (List.mem_append_left _ (List.mem_of_getElem? (l := tables_1_3) (i := 24) rfl))))
set_option maxRecDepth 20000 in
theorem q367 : Cond.methodLink "ClayTrapsLaw" 73 yX2_bestRest ∈ zAW := zq_t (List.mem_append_right _ (List.mem_append_right _ (List.mem_append_left _ (List.mem_of_getElem? (l := tables_1_3) (i := 26) rfl))))
set_option maxRecDepth 20000 in
theorem q368 : Cond.codeWith yL_swingWanted method_22_code 4 (some .int) [(0, 9, 12, 21)] ∈ zAW := zq_t (List.mem_append_right _ (List.mem_append_right _ (List.mem_append_left _ (List.mem_of_getElem? (l := tables_1_3) (i := 29) rfl))))
set_option maxRecDepth 20000 in
theorem q369 : Cond.methodLink "ClayTrapsLaw" 169 yL_swingWanted ∈ zAW := zq_t (List.mem_append_right _ (List.mem_append_right _ (List.mem_append_left _ (List.mem_of_getElem? (l := tables_1_3) (i := 27) rfl))))
set_option maxRecDepth 20000 in
theorem q370 : Cond.static yL_swingWanted ∈ zAW := zq_t (List.mem_append_right _ (List.mem_append_right _ (List.mem_append_left _ (List.mem_of_getElem? (l := tables_1_3) (i := 28) rfl))))
set_option maxRecDepth 20000 in
theorem q371 : Cond.code yX2_swingWanted prog_1_method_26_code 3 (some .int) ∈ zAW := zq_t (List.mem_append_right _ (List.mem_append_right _ (List.mem_append_left _ (List.mem_of_getElem? (l := tables_1_3) (i := 33) rfl))))
set_option maxRecDepth 20000 in
theorem q372 : Cond.methodLink "ClayTrapsLaw" 76 yX2_swingWanted ∈ zAW := zq_t (List.mem_append_right _ (List.mem_append_right _ (List.mem_append_left _ (List.mem_of_getElem? (l := tables_1_3) (i := 30) rfl))))
set_option maxRecDepth 20000 in
theorem q373 : Cond.instanceMethod yX2_swingWanted ∈ zAW := zq_t (List.mem_append_right _ (List.mem_append_right _ (List.mem_append_left _ (List.mem_of_getElem? (l := tables_1_3) (i := 31) rfl))))
set_option maxRecDepth 20000 in
theorem q374 : Cond.selects "ClayTraps" yX2_swingWanted yX2_swingWanted ∈ zAW := zq_t (List.mem_append_right _ (List.mem_append_right _ (List.mem_append_left _ (List.mem_of_getElem? (l := tables_1_3) (i := 32) rfl))))
set_option maxRecDepth 20000 in
theorem q375 : Cond.code yX1_greatestAmount prog_3_method_7_code 3 (some .int) ∈ zAW := zq_t (List.mem_append_right _ (List.mem_append_right _ (List.mem_append_left _ (List.mem_of_getElem? (l := tables_1_3) (i := 37) rfl))))
set_option maxRecDepth 20000 in
theorem q376 : Cond.methodLink "ClayTraps" 141 yX1_greatestAmount ∈ zAW := zq_t (List.mem_append_right _ (List.mem_append_right _ (List.mem_append_left _ (List.mem_of_getElem? (l := tables_1_3) (i := 34) rfl))))
set_option maxRecDepth 20000 in
theorem q377 : Cond.instanceMethod yX1_greatestAmount ∈ zAW := zq_t (List.mem_append_right _ (List.mem_append_right _ (List.mem_append_left _ (List.mem_of_getElem? (l := tables_1_3) (i := 35) rfl))))
set_option maxRecDepth 20000 in
theorem q378 : Cond.selects "ClayTraps$Traps" yX1_greatestAmount yX1_greatestAmount ∈ zAW := zq_t (List.mem_append_right _ (List.mem_append_right _ (List.mem_append_left _ (List.mem_of_getElem? (l := tables_1_3) (i := 36) rfl))))
set_option maxRecDepth 20000 in
theorem q379 : Cond.methodLink "ClayTraps$Traps" 40 yX1_hardestAt ∈ zAW := zq_t (List.mem_append_right _ (List.mem_append_right _ (List.mem_append_left _ (List.mem_of_getElem? (l := tables_1_3) (i := 38) rfl))))
set_option maxRecDepth 20000 in
theorem q380 : Cond.methodLink "ClayTraps$Traps" 43 yJ9_max_7cf53 ∈ zAW := zq_t (List.mem_append_right _ (List.mem_append_right _ (List.mem_append_left _ (List.mem_of_getElem? (l := tables_1_3) (i := 39) rfl))))
set_option maxRecDepth 20000 in
theorem q381 : Cond.methodLink "ClayTraps" 144 yJ9_max_7cf53 ∈ zAW := zq_t (List.mem_append_right _ (List.mem_append_right _ (List.mem_append_left _ (List.mem_of_getElem? (l := tables_1_3) (i := 40) rfl))))
set_option maxRecDepth 20000 in
theorem q382 : Cond.code yX3_init prog_5_method_1_code 1 none ∈ zAW := zq_t (List.mem_append_right _ (List.mem_append_right _ (List.mem_append_left _ (List.mem_of_getElem? (l := tables_1_3) (i := 45) rfl))))
set_option maxRecDepth 20000 in
theorem q383 : Cond.methodLink "ClayTrapsLaw" 82 yX3_init ∈ zAW := zq_t (List.mem_append_right _ (List.mem_append_right _ (List.mem_append_left _ (List.mem_of_getElem? (l := tables_1_3) (i := 43) rfl))))
set_option maxRecDepth 20000 in
theorem q384 : Cond.instanceMethod yX3_init ∈ zAW := zq_t (List.mem_append_right _ (List.mem_append_right _ (List.mem_append_left _ (List.mem_of_getElem? (l := tables_1_3) (i := 44) rfl))))
set_option maxRecDepth 20000 in
theorem q385 : Cond.initialized "ClayTrapsModel" ∈ zAW := zq_t (List.mem_append_left _ (List.mem_of_getElem? (l := tables_1_1) (i := 4) rfl))
set_option maxRecDepth 20000 in
theorem q386 : Cond.methodLink "ClayTrapsModel" 3 (⟨"java/lang/Object", "<init>", "()V"⟩ : MethodName) ∈ zAW := zq_t (List.mem_append_right _ (List.mem_append_right _ (List.mem_append_left _ (List.mem_of_getElem? (l := tables_1_3) (i := 46) rfl))))
set_option maxRecDepth 20000 in
theorem q387 : Cond.code yX3_thrown prog_5_method_2_code 1 (some .int) ∈ zAW := zq_t (List.mem_append_right _ (List.mem_append_right _ (List.mem_append_left _ (List.mem_of_getElem? (l := tables_1_3) (i := 75) rfl))))
set_option maxRecDepth 20000 in
theorem q388 : Cond.methodLink "ClayTrapsLaw" 89 yX3_thrown ∈ zAW := zq_t (List.mem_append_right _ (List.mem_append_right _ (List.mem_append_left _ (List.mem_of_getElem? (l := tables_1_3) (i := 72) rfl))))
set_option maxRecDepth 20000 in
theorem q389 : Cond.instanceMethod yX3_thrown ∈ zAW := zq_t (List.mem_append_right _ (List.mem_append_right _ (List.mem_append_left _ (List.mem_of_getElem? (l := tables_1_3) (i := 73) rfl))))
set_option maxRecDepth 20000 in
theorem q390 : Cond.selects "ClayTrapsModel" yX3_thrown yX3_thrown ∈ zAW := zq_t (List.mem_append_right _ (List.mem_append_right _ (List.mem_append_left _ (List.mem_of_getElem? (l := tables_1_3) (i := 74) rfl))))
set_option maxRecDepth 20000 in
theorem q391 : Cond.code yX3_addGun prog_5_method_21_code 3 (some .int) ∈ zAW := zq_t (List.mem_append_right _ (List.mem_append_right _ (List.mem_append_left _ (List.mem_of_getElem? (l := tables_1_3) (i := 79) rfl))))
set_option maxRecDepth 20000 in
theorem q392 : Cond.methodLink "ClayTrapsLaw" 88 yX3_addGun ∈ zAW := zq_t (List.mem_append_right _ (List.mem_append_right _ (List.mem_append_left _ (List.mem_of_getElem? (l := tables_1_3) (i := 76) rfl))))
set_option maxRecDepth 20000 in
theorem q393 : Cond.instanceMethod yX3_addGun ∈ zAW := zq_t (List.mem_append_right _ (List.mem_append_right _ (List.mem_append_left _ (List.mem_of_getElem? (l := tables_1_3) (i := 77) rfl))))
set_option maxRecDepth 20000 in
theorem q394 : Cond.selects "ClayTrapsModel" yX3_addGun yX3_addGun ∈ zAW := zq_t (List.mem_append_right _ (List.mem_append_right _ (List.mem_append_left _ (List.mem_of_getElem? (l := tables_1_3) (i := 78) rfl))))
set_option maxRecDepth 20000 in
theorem q395 : Cond.code yX3_isFrom prog_5_method_5_code 3 (some .boolean) ∈ zAW := zq_t (List.mem_append_right _ (List.mem_append_right _ (List.mem_append_left _ (List.mem_of_getElem? (l := tables_1_3) (i := 82) rfl))))
set_option maxRecDepth 20000 in
theorem q396 : Cond.methodLink "ClayTrapsModel" 35 yX3_isFrom ∈ zAW := zq_t (List.mem_append_right _ (List.mem_append_right _ (List.mem_append_left _ (List.mem_of_getElem? (l := tables_1_3) (i := 80) rfl))))
set_option maxRecDepth 20000 in
theorem q397 : Cond.static yX3_isFrom ∈ zAW := zq_t (List.mem_append_right _ (List.mem_append_right _ (List.mem_append_left _ (List.mem_of_getElem? (l := tables_1_3) (i := 81) rfl))))
set_option maxRecDepth 20000 in
theorem q398 : Cond.code yX3_no prog_5_method_3_code 2 (some .int) ∈ zAW := zq_t (List.mem_append_right _ (List.mem_append_right _ (List.mem_append_left _ (List.mem_of_getElem? (l := tables_1_3) (i := 86) rfl))))
set_option maxRecDepth 20000 in
theorem q399 : Cond.methodLink "ClayTrapsModel" 92 yX3_no ∈ zAW := zq_t (List.mem_append_right _ (List.mem_append_right _ (List.mem_append_left _ (List.mem_of_getElem? (l := tables_1_3) (i := 83) rfl))))
set_option maxRecDepth 20000 in
theorem q400 : Cond.instanceMethod yX3_no ∈ zAW := zq_t (List.mem_append_right _ (List.mem_append_right _ (List.mem_append_left _ (List.mem_of_getElem? (l := tables_1_3) (i := 85) rfl))))
set_option maxRecDepth 20000 in
theorem q401 : Cond.selects "ClayTrapsModel" yX3_no yX3_no ∈ zAW := zq_s (List.mem_of_getElem? (l := k2_sels lw_privs) (i := 3) rfl)
set_option maxRecDepth 20000 in
theorem q402 : Cond.code yX3_setTrap prog_5_method_22_code 5 (some .int) ∈ zAW := zq_t (List.mem_append_right _ (List.mem_append_right _ (List.mem_append_left _ (List.mem_of_getElem? (l := tables_1_3) (i := 90) rfl))))
set_option maxRecDepth 20000 in
theorem q403 : Cond.methodLink "ClayTrapsLaw" 95 yX3_setTrap ∈ zAW := zq_t (List.mem_append_right _ (List.mem_append_right _ (List.mem_append_left _ (List.mem_of_getElem? (l := tables_1_3) (i := 87) rfl))))
set_option maxRecDepth 20000 in
theorem q404 : Cond.instanceMethod yX3_setTrap ∈ zAW := zq_t (List.mem_append_right _ (List.mem_append_right _ (List.mem_append_left _ (List.mem_of_getElem? (l := tables_1_3) (i := 88) rfl))))
set_option maxRecDepth 20000 in
theorem q405 : Cond.selects "ClayTrapsModel" yX3_setTrap yX3_setTrap ∈ zAW := zq_t (List.mem_append_right _ (List.mem_append_right _ (List.mem_append_left _ (List.mem_of_getElem? (l := tables_1_3) (i := 89) rfl))))
set_option maxRecDepth 20000 in
theorem q406 : Cond.code yX3_rest prog_5_method_23_code 3 (some .int) ∈ zAW := zq_t (List.mem_append_right _ (List.mem_append_right _ (List.mem_append_left _ (List.mem_of_getElem? (l := tables_1_3) (i := 94) rfl))))
set_option maxRecDepth 20000 in
theorem q407 : Cond.methodLink "ClayTrapsLaw" 99 yX3_rest ∈ zAW := zq_t (List.mem_append_right _ (List.mem_append_right _ (List.mem_append_left _ (List.mem_of_getElem? (l := tables_1_3) (i := 91) rfl))))
set_option maxRecDepth 20000 in
theorem q408 : Cond.instanceMethod yX3_rest ∈ zAW := zq_t (List.mem_append_right _ (List.mem_append_right _ (List.mem_append_left _ (List.mem_of_getElem? (l := tables_1_3) (i := 92) rfl))))
set_option maxRecDepth 20000 in
theorem q409 : Cond.selects "ClayTrapsModel" yX3_rest yX3_rest ∈ zAW := zq_t (List.mem_append_right _ (List.mem_append_right _ (List.mem_append_left _ (List.mem_of_getElem? (l := tables_1_3) (i := 93) rfl))))
set_option maxRecDepth 20000 in
theorem q410 : Cond.code yX3_isGun prog_5_method_6_code 2 (some .boolean) ∈ zAW := zq_t (List.mem_append_right _ (List.mem_append_right _ (List.mem_append_left _ (List.mem_of_getElem? (l := tables_1_3) (i := 98) rfl))))
set_option maxRecDepth 20000 in
theorem q411 : Cond.methodLink "ClayTrapsModel" 95 yX3_isGun ∈ zAW := zq_t (List.mem_append_right _ (List.mem_append_right _ (List.mem_append_left _ (List.mem_of_getElem? (l := tables_1_3) (i := 95) rfl))))
set_option maxRecDepth 20000 in
theorem q412 : Cond.instanceMethod yX3_isGun ∈ zAW := zq_t (List.mem_append_right _ (List.mem_append_right _ (List.mem_append_left _ (List.mem_of_getElem? (l := tables_1_3) (i := 97) rfl))))
set_option maxRecDepth 20000 in
theorem q413 : Cond.selects "ClayTrapsModel" yX3_isGun yX3_isGun ∈ zAW := zq_s (List.mem_of_getElem? (l := k2_sels lw_privs) (i := 4) rfl)
set_option maxRecDepth 20000 in
theorem q414 : Cond.code yX3_pass prog_5_method_24_code 3 (some .int) ∈ zAW := zq_t (List.mem_append_right _ (List.mem_append_right _ (List.mem_append_left _ (List.mem_of_getElem? (l := tables_1_3) (i := 102) rfl))))
set_option maxRecDepth 20000 in
theorem q415 : Cond.methodLink "ClayTrapsLaw" 102 yX3_pass ∈ zAW := zq_t (List.mem_append_right _ (List.mem_append_right _ (List.mem_append_left _ (List.mem_of_getElem? (l := tables_1_3) (i := 99) rfl))))
set_option maxRecDepth 20000 in
theorem q416 : Cond.instanceMethod yX3_pass ∈ zAW := zq_t (List.mem_append_right _ (List.mem_append_right _ (List.mem_append_left _ (List.mem_of_getElem? (l := tables_1_3) (i := 100) rfl))))
set_option maxRecDepth 20000 in
theorem q417 : Cond.selects "ClayTrapsModel" yX3_pass yX3_pass ∈ zAW := zq_t (List.mem_append_right _ (List.mem_append_right _ (List.mem_append_left _ (List.mem_of_getElem? (l := tables_1_3) (i := 101) rfl))))
set_option maxRecDepth 20000 in
theorem q418 : Cond.code yX3_missed prog_5_method_17_code 3 (some .int) ∈ zAW := zq_t (List.mem_append_right _ (List.mem_append_right _ (List.mem_append_left _ (List.mem_of_getElem? (l := tables_1_3) (i := 106) rfl))))
set_option maxRecDepth 20000 in
theorem q419 : Cond.methodLink "ClayTrapsModel" 99 yX3_missed ∈ zAW := zq_t (List.mem_append_right _ (List.mem_append_right _ (List.mem_append_left _ (List.mem_of_getElem? (l := tables_1_3) (i := 103) rfl))))
set_option maxRecDepth 20000 in
theorem q420 : Cond.instanceMethod yX3_missed ∈ zAW := zq_t (List.mem_append_right _ (List.mem_append_right _ (List.mem_append_left _ (List.mem_of_getElem? (l := tables_1_3) (i := 105) rfl))))
set_option maxRecDepth 20000 in
theorem q421 : Cond.selects "ClayTrapsModel" yX3_missed yX3_missed ∈ zAW := zq_s (List.mem_of_getElem? (l := k2_sels lw_privs) (i := 5) rfl)
set_option maxRecDepth 20000 in
theorem q422 : Cond.code yX3_turnsOn prog_5_method_16_code 3 none ∈ zAW := zq_t (List.mem_append_right _ (List.mem_append_right _ (List.mem_append_left _ (List.mem_of_getElem? (l := tables_1_3) (i := 110) rfl))))
set_option maxRecDepth 20000 in
theorem q423 : Cond.methodLink "ClayTrapsModel" 102 yX3_turnsOn ∈ zAW := zq_t (List.mem_append_right _ (List.mem_append_right _ (List.mem_append_left _ (List.mem_of_getElem? (l := tables_1_3) (i := 107) rfl))))
set_option maxRecDepth 20000 in
theorem q424 : Cond.instanceMethod yX3_turnsOn ∈ zAW := zq_t (List.mem_append_right _ (List.mem_append_right _ (List.mem_append_left _ (List.mem_of_getElem? (l := tables_1_3) (i := 109) rfl))))
set_option maxRecDepth 20000 in
theorem q425 : Cond.selects "ClayTrapsModel" yX3_turnsOn yX3_turnsOn ∈ zAW := zq_s (List.mem_of_getElem? (l := k2_sels lw_privs) (i := 6) rfl)
set_option maxRecDepth 20000 in
theorem q426 : Cond.code yX3_turnOn prog_5_method_15_code 2 none ∈ zAW := zq_t (List.mem_append_right _ (List.mem_append_right _ (List.mem_append_left _ (List.mem_of_getElem? (l := tables_1_3) (i := 114) rfl))))
set_option maxRecDepth 20000 in
theorem q427 : Cond.methodLink "ClayTrapsModel" 75 yX3_turnOn ∈ zAW := zq_t (List.mem_append_right _ (List.mem_append_right _ (List.mem_append_left _ (List.mem_of_getElem? (l := tables_1_3) (i := 111) rfl))))
set_option maxRecDepth 20000 in
theorem q428 : Cond.instanceMethod yX3_turnOn ∈ zAW := zq_t (List.mem_append_right _ (List.mem_append_right _ (List.mem_append_left _ (List.mem_of_getElem? (l := tables_1_3) (i := 113) rfl))))
set_option maxRecDepth 20000 in
theorem q429 : Cond.selects "ClayTrapsModel" yX3_turnOn yX3_turnOn ∈ zAW := zq_s (List.mem_of_getElem? (l := k2_sels lw_privs) (i := 7) rfl)
set_option maxRecDepth 20000 in
theorem q430 : Cond.code yX3_shoot prog_5_method_14_code 3 none ∈ zAW := zq_t (List.mem_append_right _ (List.mem_append_right _ (List.mem_append_left _ (List.mem_of_getElem? (l := tables_1_3) (i := 118) rfl))))
set_option maxRecDepth 20000 in
theorem q431 : Cond.methodLink "ClayTrapsModel" 68 yX3_shoot ∈ zAW := zq_t (List.mem_append_right _ (List.mem_append_right _ (List.mem_append_left _ (List.mem_of_getElem? (l := tables_1_3) (i := 115) rfl))))
set_option maxRecDepth 20000 in
theorem q432 : Cond.instanceMethod yX3_shoot ∈ zAW := zq_t (List.mem_append_right _ (List.mem_append_right _ (List.mem_append_left _ (List.mem_of_getElem? (l := tables_1_3) (i := 117) rfl))))
set_option maxRecDepth 20000 in
theorem q433 : Cond.selects "ClayTrapsModel" yX3_shoot yX3_shoot ∈ zAW := zq_s (List.mem_of_getElem? (l := k2_sels lw_privs) (i := 8) rfl)
set_option maxRecDepth 20000 in
theorem q434 : Cond.code yX3_hit prog_5_method_13_code 2 (some .int) ∈ zAW := zq_t (List.mem_append_right _ (List.mem_append_right _ (List.mem_append_left _ (List.mem_of_getElem? (l := tables_1_3) (i := 122) rfl))))
set_option maxRecDepth 20000 in
theorem q435 : Cond.methodLink "ClayTrapsModel" 65 yX3_hit ∈ zAW := zq_t (List.mem_append_right _ (List.mem_append_right _ (List.mem_append_left _ (List.mem_of_getElem? (l := tables_1_3) (i := 119) rfl))))
set_option maxRecDepth 20000 in
theorem q436 : Cond.instanceMethod yX3_hit ∈ zAW := zq_t (List.mem_append_right _ (List.mem_append_right _ (List.mem_append_left _ (List.mem_of_getElem? (l := tables_1_3) (i := 121) rfl))))
set_option maxRecDepth 20000 in
theorem q437 : Cond.selects "ClayTrapsModel" yX3_hit yX3_hit ∈ zAW := zq_s (List.mem_of_getElem? (l := k2_sels lw_privs) (i := 9) rfl)
set_option maxRecDepth 20000 in
theorem q438 : Cond.code yX3_far prog_5_method_12_code 2 (some .int) ∈ zAW := zq_t (List.mem_append_right _ (List.mem_append_right _ (List.mem_append_left _ (List.mem_of_getElem? (l := tables_1_3) (i := 126) rfl))))
set_option maxRecDepth 20000 in
theorem q439 : Cond.methodLink "ClayTrapsModel" 62 yX3_far ∈ zAW := zq_t (List.mem_append_right _ (List.mem_append_right _ (List.mem_append_left _ (List.mem_of_getElem? (l := tables_1_3) (i := 123) rfl))))
set_option maxRecDepth 20000 in
theorem q440 : Cond.instanceMethod yX3_far ∈ zAW := zq_t (List.mem_append_right _ (List.mem_append_right _ (List.mem_append_left _ (List.mem_of_getElem? (l := tables_1_3) (i := 125) rfl))))
set_option maxRecDepth 20000 in
theorem q441 : Cond.selects "ClayTrapsModel" yX3_far yX3_far ∈ zAW := zq_s (List.mem_of_getElem? (l := k2_sels lw_privs) (i := 10) rfl)
set_option maxRecDepth 20000 in
theorem q442 : Cond.code yX3_stand prog_5_method_11_code 2 (some .int) ∈ zAW := zq_t (List.mem_append_right _ (List.mem_append_right _ (List.mem_append_left _ (List.mem_of_getElem? (l := tables_1_3) (i := 130) rfl))))
set_option maxRecDepth 20000 in
theorem q443 : Cond.methodLink "ClayTrapsModel" 45 yX3_stand ∈ zAW := zq_t (List.mem_append_right _ (List.mem_append_right _ (List.mem_append_left _ (List.mem_of_getElem? (l := tables_1_3) (i := 127) rfl))))
set_option maxRecDepth 20000 in
theorem q444 : Cond.instanceMethod yX3_stand ∈ zAW := zq_t (List.mem_append_right _ (List.mem_append_right _ (List.mem_append_left _ (List.mem_of_getElem? (l := tables_1_3) (i := 129) rfl))))
set_option maxRecDepth 20000 in
theorem q445 : Cond.selects "ClayTrapsModel" yX3_stand yX3_stand ∈ zAW := zq_s (List.mem_of_getElem? (l := k2_sels lw_privs) (i := 11) rfl)
set_option maxRecDepth 20000 in
theorem q446 : Cond.code yX3_clay prog_5_method_10_code 1 (some .int) ∈ zAW := zq_t (List.mem_append_right _ (List.mem_append_right _ (List.mem_append_left _ (List.mem_of_getElem? (l := tables_1_3) (i := 134) rfl))))
set_option maxRecDepth 20000 in
theorem q447 : Cond.methodLink "ClayTrapsModel" 49 yX3_clay ∈ zAW := zq_t (List.mem_append_right _ (List.mem_append_right _ (List.mem_append_left _ (List.mem_of_getElem? (l := tables_1_3) (i := 131) rfl))))
set_option maxRecDepth 20000 in
theorem q448 : Cond.instanceMethod yX3_clay ∈ zAW := zq_t (List.mem_append_right _ (List.mem_append_right _ (List.mem_append_left _ (List.mem_of_getElem? (l := tables_1_3) (i := 133) rfl))))
set_option maxRecDepth 20000 in
theorem q449 : Cond.selects "ClayTrapsModel" yX3_clay yX3_clay ∈ zAW := zq_s (List.mem_of_getElem? (l := k2_sels lw_privs) (i := 12) rfl)
set_option maxRecDepth 20000 in
theorem q450 : Cond.code yX3_at prog_5_method_9_code 3 (some .int) ∈ zAW := zq_t (List.mem_append_right _ (List.mem_append_right _ (List.mem_append_left _ (List.mem_of_getElem? (l := tables_1_3) (i := 138) rfl))))
set_option maxRecDepth 20000 in
theorem q451 : Cond.methodLink "ClayTrapsModel" 53 yX3_at ∈ zAW := zq_t (List.mem_append_right _ (List.mem_append_right _ (List.mem_append_left _ (List.mem_of_getElem? (l := tables_1_3) (i := 135) rfl))))
set_option maxRecDepth 20000 in
theorem q452 : Cond.instanceMethod yX3_at ∈ zAW := zq_t (List.mem_append_right _ (List.mem_append_right _ (List.mem_append_left _ (List.mem_of_getElem? (l := tables_1_3) (i := 137) rfl))))
set_option maxRecDepth 20000 in
theorem q453 : Cond.selects "ClayTrapsModel" yX3_at yX3_at ∈ zAW := zq_s (List.mem_of_getElem? (l := k2_sels lw_privs) (i := 13) rfl)
set_option maxRecDepth 20000 in
theorem q454 : Cond.methodLink "ClayTrapsModel" 57 yJ9_abs_0f7a4 ∈ zAW := zq_t (List.mem_append_right _ (List.mem_append_right _ (List.mem_append_left _ (List.mem_of_getElem? (l := tables_1_3) (i := 139) rfl))))
set_option maxRecDepth 20000 in
theorem q455 : Cond.methodLink "ClayTrapsModel" 72 yJ9_max_7cf53 ∈ zAW := zq_t (List.mem_append_right _ (List.mem_append_right _ (List.mem_append_left _ (List.mem_of_getElem? (l := tables_1_3) (i := 140) rfl))))
set_option maxRecDepth 20000 in
theorem q456 : Cond.code yX3_shootOff prog_5_method_25_code 2 (some .int) ∈ zAW := zq_t (List.mem_append_right _ (List.mem_append_right _ (List.mem_append_left _ (List.mem_of_getElem? (l := tables_1_3) (i := 144) rfl))))
set_option maxRecDepth 20000 in
theorem q457 : Cond.methodLink "ClayTrapsLaw" 106 yX3_shootOff ∈ zAW := zq_t (List.mem_append_right _ (List.mem_append_right _ (List.mem_append_left _ (List.mem_of_getElem? (l := tables_1_3) (i := 141) rfl))))
set_option maxRecDepth 20000 in
theorem q458 : Cond.instanceMethod yX3_shootOff ∈ zAW := zq_t (List.mem_append_right _ (List.mem_append_right _ (List.mem_append_left _ (List.mem_of_getElem? (l := tables_1_3) (i := 142) rfl))))
set_option maxRecDepth 20000 in
theorem q459 : Cond.selects "ClayTrapsModel" yX3_shootOff yX3_shootOff ∈ zAW := zq_t (List.mem_append_right _ (List.mem_append_right _ (List.mem_append_left _ (List.mem_of_getElem? (l := tables_1_3) (i := 143) rfl))))
set_option maxRecDepth 20000 in
theorem q460 : Cond.code yX3_win prog_5_method_20_code 5 (some .int) ∈ zAW := zq_t (List.mem_append_right _ (List.mem_append_right _ (List.mem_append_left _ (List.mem_of_getElem? (l := tables_1_3) (i := 148) rfl))))
set_option maxRecDepth 20000 in
theorem q461 : Cond.methodLink "ClayTrapsModel" 105 yX3_win ∈ zAW := zq_t (List.mem_append_right _ (List.mem_append_right _ (List.mem_append_left _ (List.mem_of_getElem? (l := tables_1_3) (i := 145) rfl))))
set_option maxRecDepth 20000 in
theorem q462 : Cond.instanceMethod yX3_win ∈ zAW := zq_t (List.mem_append_right _ (List.mem_append_right _ (List.mem_append_left _ (List.mem_of_getElem? (l := tables_1_3) (i := 147) rfl))))
set_option maxRecDepth 20000 in
theorem q463 : Cond.selects "ClayTrapsModel" yX3_win yX3_win ∈ zAW := zq_s (List.mem_of_getElem? (l := k2_sels lw_privs) (i := 14) rfl)
set_option maxRecDepth 20000 in
theorem q464 : Cond.code yX3_best prog_5_method_19_code 3 (some .int) ∈ zAW := zq_t (List.mem_append_right _ (List.mem_append_right _ (List.mem_append_left _ (List.mem_of_getElem? (l := tables_1_3) (i := 152) rfl))))
set_option maxRecDepth 20000 in
theorem q465 : Cond.methodLink "ClayTrapsModel" 81 yX3_best ∈ zAW := zq_t (List.mem_append_right _ (List.mem_append_right _ (List.mem_append_left _ (List.mem_of_getElem? (l := tables_1_3) (i := 149) rfl))))
set_option maxRecDepth 20000 in
theorem q466 : Cond.instanceMethod yX3_best ∈ zAW := zq_t (List.mem_append_right _ (List.mem_append_right _ (List.mem_append_left _ (List.mem_of_getElem? (l := tables_1_3) (i := 151) rfl))))
set_option maxRecDepth 20000 in
theorem q467 : Cond.selects "ClayTrapsModel" yX3_best yX3_best ∈ zAW := zq_s (List.mem_of_getElem? (l := k2_sels lw_privs) (i := 15) rfl)
set_option maxRecDepth 20000 in
theorem q468 : Cond.code yX3_first prog_5_method_18_code 3 (some .int) ∈ zAW := zq_t (List.mem_append_right _ (List.mem_append_right _ (List.mem_append_left _ (List.mem_of_getElem? (l := tables_1_3) (i := 156) rfl))))
set_option maxRecDepth 20000 in
theorem q469 : Cond.methodLink "ClayTrapsModel" 78 yX3_first ∈ zAW := zq_t (List.mem_append_right _ (List.mem_append_right _ (List.mem_append_left _ (List.mem_of_getElem? (l := tables_1_3) (i := 153) rfl))))
set_option maxRecDepth 20000 in
theorem q470 : Cond.instanceMethod yX3_first ∈ zAW := zq_t (List.mem_append_right _ (List.mem_append_right _ (List.mem_append_left _ (List.mem_of_getElem? (l := tables_1_3) (i := 155) rfl))))
set_option maxRecDepth 20000 in
theorem q471 : Cond.selects "ClayTrapsModel" yX3_first yX3_first ∈ zAW := zq_s (List.mem_of_getElem? (l := k2_sels lw_privs) (i := 16) rfl)
set_option maxRecDepth 20000 in
theorem q472 : Cond.code yJ6_bitCount_0f7a4 prog_10_method_49_code 1 (some .int) ∈ zAW := zq_t (List.mem_append_right _ (List.mem_append_right _ (List.mem_append_left _ (List.mem_of_getElem? (l := tables_1_3) (i := 159) rfl))))
set_option maxRecDepth 20000 in
theorem q473 : Cond.methodLink "ClayTrapsModel" 84 yJ6_bitCount_0f7a4 ∈ zAW := zq_t (List.mem_append_right _ (List.mem_append_right _ (List.mem_append_left _ (List.mem_of_getElem? (l := tables_1_3) (i := 157) rfl))))
set_option maxRecDepth 20000 in
theorem q474 : Cond.static yJ6_bitCount_0f7a4 ∈ zAW := zq_t (List.mem_append_right _ (List.mem_append_right _ (List.mem_append_left _ (List.mem_of_getElem? (l := tables_1_3) (i := 158) rfl))))
set_option maxRecDepth 20000 in
theorem q475 : Cond.initialized "java/lang/Integer" ∈ zAW := zq_t (List.mem_append_left _ (List.mem_of_getElem? (l := tables_1_1) (i := 12) rfl))
set_option maxRecDepth 20000 in
theorem q476 : Cond.code yJ6_numberOfTrailingZeros_0f7a4 prog_10_method_48_code 2 (some .int) ∈ zAW := zq_t (List.mem_append_right _ (List.mem_append_right _ (List.mem_append_left _ (List.mem_of_getElem? (l := tables_1_3) (i := 165) rfl))))
set_option maxRecDepth 20000 in
theorem q477 : Cond.methodLink "ClayTrapsModel" 89 yJ6_numberOfTrailingZeros_0f7a4 ∈ zAW := zq_t (List.mem_append_right _ (List.mem_append_right _ (List.mem_append_left _ (List.mem_of_getElem? (l := tables_1_3) (i := 163) rfl))))
set_option maxRecDepth 20000 in
theorem q478 : Cond.static yJ6_numberOfTrailingZeros_0f7a4 ∈ zAW := zq_t (List.mem_append_right _ (List.mem_append_right _ (List.mem_append_left _ (List.mem_of_getElem? (l := tables_1_3) (i := 164) rfl))))
set_option maxRecDepth 20000 in
theorem q479 : Cond.code yX3_ok prog_5_method_4_code 2 (some .int) ∈ zAW := zq_t (List.mem_append_right _ (List.mem_append_right _ (List.mem_append_left _ (List.mem_of_getElem? (l := tables_1_3) (i := 170) rfl))))
set_option maxRecDepth 20000 in
theorem q480 : Cond.methodLink "ClayTrapsModel" 108 yX3_ok ∈ zAW := zq_t (List.mem_append_right _ (List.mem_append_right _ (List.mem_append_left _ (List.mem_of_getElem? (l := tables_1_3) (i := 167) rfl))))
set_option maxRecDepth 20000 in
theorem q481 : Cond.instanceMethod yX3_ok ∈ zAW := zq_t (List.mem_append_right _ (List.mem_append_right _ (List.mem_append_left _ (List.mem_of_getElem? (l := tables_1_3) (i := 169) rfl))))
set_option maxRecDepth 20000 in
theorem q482 : Cond.selects "ClayTrapsModel" yX3_ok yX3_ok ∈ zAW := zq_s (List.mem_of_getElem? (l := k2_sels lw_privs) (i := 17) rfl)
set_option maxRecDepth 20000 in
theorem q483 : Cond.code yX3_turn prog_5_method_26_code 1 (some .int) ∈ zAW := zq_t (List.mem_append_right _ (List.mem_append_right _ (List.mem_append_left _ (List.mem_of_getElem? (l := tables_1_3) (i := 174) rfl))))
set_option maxRecDepth 20000 in
theorem q484 : Cond.methodLink "ClayTrapsLaw" 110 yX3_turn ∈ zAW := zq_t (List.mem_append_right _ (List.mem_append_right _ (List.mem_append_left _ (List.mem_of_getElem? (l := tables_1_3) (i := 171) rfl))))
set_option maxRecDepth 20000 in
theorem q485 : Cond.instanceMethod yX3_turn ∈ zAW := zq_t (List.mem_append_right _ (List.mem_append_right _ (List.mem_append_left _ (List.mem_of_getElem? (l := tables_1_3) (i := 172) rfl))))
set_option maxRecDepth 20000 in
theorem q486 : Cond.selects "ClayTrapsModel" yX3_turn yX3_turn ∈ zAW := zq_t (List.mem_append_right _ (List.mem_append_right _ (List.mem_append_left _ (List.mem_of_getElem? (l := tables_1_3) (i := 173) rfl))))
set_option maxRecDepth 20000 in
theorem q487 : Cond.code yX3_angle prog_5_method_27_code 3 (some .int) ∈ zAW := zq_t (List.mem_append_right _ (List.mem_append_right _ (List.mem_append_left _ (List.mem_of_getElem? (l := tables_1_3) (i := 178) rfl))))
set_option maxRecDepth 20000 in
theorem q488 : Cond.methodLink "ClayTrapsLaw" 113 yX3_angle ∈ zAW := zq_t (List.mem_append_right _ (List.mem_append_right _ (List.mem_append_left _ (List.mem_of_getElem? (l := tables_1_3) (i := 175) rfl))))
set_option maxRecDepth 20000 in
theorem q489 : Cond.instanceMethod yX3_angle ∈ zAW := zq_t (List.mem_append_right _ (List.mem_append_right _ (List.mem_append_left _ (List.mem_of_getElem? (l := tables_1_3) (i := 176) rfl))))
set_option maxRecDepth 20000 in
theorem q490 : Cond.selects "ClayTrapsModel" yX3_angle yX3_angle ∈ zAW := zq_t (List.mem_append_right _ (List.mem_append_right _ (List.mem_append_left _ (List.mem_of_getElem? (l := tables_1_3) (i := 177) rfl))))
set_option maxRecDepth 20000 in
theorem q491 : Cond.code yX3_hardestClay prog_5_method_29_code 2 (some .int) ∈ zAW := zq_t (List.mem_append_right _ (List.mem_append_right _ (List.mem_append_left _ (List.mem_of_getElem? (l := tables_1_3) (i := 182) rfl))))
set_option maxRecDepth 20000 in
theorem q492 : Cond.methodLink "ClayTrapsLaw" 116 yX3_hardestClay ∈ zAW := zq_t (List.mem_append_right _ (List.mem_append_right _ (List.mem_append_left _ (List.mem_of_getElem? (l := tables_1_3) (i := 179) rfl))))
set_option maxRecDepth 20000 in
theorem q493 : Cond.instanceMethod yX3_hardestClay ∈ zAW := zq_t (List.mem_append_right _ (List.mem_append_right _ (List.mem_append_left _ (List.mem_of_getElem? (l := tables_1_3) (i := 180) rfl))))
set_option maxRecDepth 20000 in
theorem q494 : Cond.selects "ClayTrapsModel" yX3_hardestClay yX3_hardestClay ∈ zAW := zq_t (List.mem_append_right _ (List.mem_append_right _ (List.mem_append_left _ (List.mem_of_getElem? (l := tables_1_3) (i := 181) rfl))))
set_option maxRecDepth 20000 in
theorem q495 : Cond.code yX3_hardest prog_5_method_28_code 4 (some .int) ∈ zAW := zq_t (List.mem_append_right _ (List.mem_append_right _ (List.mem_append_left _ (List.mem_of_getElem? (l := tables_1_3) (i := 186) rfl))))
set_option maxRecDepth 20000 in
theorem q496 : Cond.methodLink "ClayTrapsModel" 111 yX3_hardest ∈ zAW := zq_t (List.mem_append_right _ (List.mem_append_right _ (List.mem_append_left _ (List.mem_of_getElem? (l := tables_1_3) (i := 183) rfl))))
set_option maxRecDepth 20000 in
theorem q497 : Cond.instanceMethod yX3_hardest ∈ zAW := zq_t (List.mem_append_right _ (List.mem_append_right _ (List.mem_append_left _ (List.mem_of_getElem? (l := tables_1_3) (i := 185) rfl))))
set_option maxRecDepth 20000 in
theorem q498 : Cond.selects "ClayTrapsModel" yX3_hardest yX3_hardest ∈ zAW := zq_s (List.mem_of_getElem? (l := k2_sels lw_privs) (i := 18) rfl)
set_option maxRecDepth 20000 in
theorem q499 : Cond.code yX3_standOf prog_5_method_30_code 2 (some .int) ∈ zAW := zq_t (List.mem_append_right _ (List.mem_append_right _ (List.mem_append_left _ (List.mem_of_getElem? (l := tables_1_3) (i := 190) rfl))))
set_option maxRecDepth 20000 in
theorem q500 : Cond.methodLink "ClayTrapsLaw" 119 yX3_standOf ∈ zAW := zq_t (List.mem_append_right _ (List.mem_append_right _ (List.mem_append_left _ (List.mem_of_getElem? (l := tables_1_3) (i := 187) rfl))))
set_option maxRecDepth 20000 in
theorem q501 : Cond.instanceMethod yX3_standOf ∈ zAW := zq_t (List.mem_append_right _ (List.mem_append_right _ (List.mem_append_left _ (List.mem_of_getElem? (l := tables_1_3) (i := 188) rfl))))
set_option maxRecDepth 20000 in
theorem q502 : Cond.selects "ClayTrapsModel" yX3_standOf yX3_standOf ∈ zAW := zq_t (List.mem_append_right _ (List.mem_append_right _ (List.mem_append_left _ (List.mem_of_getElem? (l := tables_1_3) (i := 189) rfl))))
set_option maxRecDepth 20000 in
theorem q503 : Cond.code yX3_angleFor prog_5_method_31_code 2 (some .int) ∈ zAW := zq_t (List.mem_append_right _ (List.mem_append_right _ (List.mem_append_left _ (List.mem_of_getElem? (l := tables_1_3) (i := 194) rfl))))
set_option maxRecDepth 20000 in
theorem q504 : Cond.methodLink "ClayTrapsLaw" 122 yX3_angleFor ∈ zAW := zq_t (List.mem_append_right _ (List.mem_append_right _ (List.mem_append_left _ (List.mem_of_getElem? (l := tables_1_3) (i := 191) rfl))))
set_option maxRecDepth 20000 in
theorem q505 : Cond.instanceMethod yX3_angleFor ∈ zAW := zq_t (List.mem_append_right _ (List.mem_append_right _ (List.mem_append_left _ (List.mem_of_getElem? (l := tables_1_3) (i := 192) rfl))))
set_option maxRecDepth 20000 in
theorem q506 : Cond.selects "ClayTrapsModel" yX3_angleFor yX3_angleFor ∈ zAW := zq_t (List.mem_append_right _ (List.mem_append_right _ (List.mem_append_left _ (List.mem_of_getElem? (l := tables_1_3) (i := 193) rfl))))
set_option maxRecDepth 20000 in
theorem q507 : Cond.code yX3_guns prog_5_method_32_code 1 (some .int) ∈ zAW := zq_t (List.mem_append_right _ (List.mem_append_right _ (List.mem_append_left _ (List.mem_of_getElem? (l := tables_1_3) (i := 198) rfl))))
set_option maxRecDepth 20000 in
theorem q508 : Cond.methodLink "ClayTrapsLaw" 126 yX3_guns ∈ zAW := zq_t (List.mem_append_right _ (List.mem_append_right _ (List.mem_append_left _ (List.mem_of_getElem? (l := tables_1_3) (i := 195) rfl))))
set_option maxRecDepth 20000 in
theorem q509 : Cond.instanceMethod yX3_guns ∈ zAW := zq_t (List.mem_append_right _ (List.mem_append_right _ (List.mem_append_left _ (List.mem_of_getElem? (l := tables_1_3) (i := 196) rfl))))
set_option maxRecDepth 20000 in
theorem q510 : Cond.selects "ClayTrapsModel" yX3_guns yX3_guns ∈ zAW := zq_t (List.mem_append_right _ (List.mem_append_right _ (List.mem_append_left _ (List.mem_of_getElem? (l := tables_1_3) (i := 197) rfl))))
set_option maxRecDepth 20000 in
theorem q511 : Cond.code yX3_scoreOf prog_5_method_34_code 2 (some .int) ∈ zAW := zq_t (List.mem_append_right _ (List.mem_append_right _ (List.mem_append_left _ (List.mem_of_getElem? (l := tables_1_3) (i := 202) rfl))))
set_option maxRecDepth 20000 in
theorem q512 : Cond.methodLink "ClayTrapsLaw" 129 yX3_scoreOf ∈ zAW := zq_t (List.mem_append_right _ (List.mem_append_right _ (List.mem_append_left _ (List.mem_of_getElem? (l := tables_1_3) (i := 199) rfl))))
set_option maxRecDepth 20000 in
theorem q513 : Cond.instanceMethod yX3_scoreOf ∈ zAW := zq_t (List.mem_append_right _ (List.mem_append_right _ (List.mem_append_left _ (List.mem_of_getElem? (l := tables_1_3) (i := 200) rfl))))
set_option maxRecDepth 20000 in
theorem q514 : Cond.selects "ClayTrapsModel" yX3_scoreOf yX3_scoreOf ∈ zAW := zq_t (List.mem_append_right _ (List.mem_append_right _ (List.mem_append_left _ (List.mem_of_getElem? (l := tables_1_3) (i := 201) rfl))))
set_option maxRecDepth 20000 in
theorem q515 : Cond.code yX3_ofGun prog_5_method_33_code 3 (some .int) ∈ zAW := zq_t (List.mem_append_right _ (List.mem_append_right _ (List.mem_append_left _ (List.mem_of_getElem? (l := tables_1_3) (i := 206) rfl))))
set_option maxRecDepth 20000 in
theorem q516 : Cond.methodLink "ClayTrapsModel" 114 yX3_ofGun ∈ zAW := zq_t (List.mem_append_right _ (List.mem_append_right _ (List.mem_append_left _ (List.mem_of_getElem? (l := tables_1_3) (i := 203) rfl))))
set_option maxRecDepth 20000 in
theorem q517 : Cond.instanceMethod yX3_ofGun ∈ zAW := zq_t (List.mem_append_right _ (List.mem_append_right _ (List.mem_append_left _ (List.mem_of_getElem? (l := tables_1_3) (i := 205) rfl))))
set_option maxRecDepth 20000 in
theorem q518 : Cond.selects "ClayTrapsModel" yX3_ofGun yX3_ofGun ∈ zAW := zq_s (List.mem_of_getElem? (l := k2_sels lw_privs) (i := 19) rfl)
set_option maxRecDepth 20000 in
theorem q519 : Cond.code yX3_firstsOf prog_5_method_35_code 2 (some .int) ∈ zAW := zq_t (List.mem_append_right _ (List.mem_append_right _ (List.mem_append_left _ (List.mem_of_getElem? (l := tables_1_3) (i := 210) rfl))))
set_option maxRecDepth 20000 in
theorem q520 : Cond.methodLink "ClayTrapsLaw" 132 yX3_firstsOf ∈ zAW := zq_t (List.mem_append_right _ (List.mem_append_right _ (List.mem_append_left _ (List.mem_of_getElem? (l := tables_1_3) (i := 207) rfl))))
set_option maxRecDepth 20000 in
theorem q521 : Cond.instanceMethod yX3_firstsOf ∈ zAW := zq_t (List.mem_append_right _ (List.mem_append_right _ (List.mem_append_left _ (List.mem_of_getElem? (l := tables_1_3) (i := 208) rfl))))
set_option maxRecDepth 20000 in
theorem q522 : Cond.selects "ClayTrapsModel" yX3_firstsOf yX3_firstsOf ∈ zAW := zq_t (List.mem_append_right _ (List.mem_append_right _ (List.mem_append_left _ (List.mem_of_getElem? (l := tables_1_3) (i := 209) rfl))))
set_option maxRecDepth 20000 in
theorem q523 : Cond.code yX3_missesOf prog_5_method_36_code 2 (some .int) ∈ zAW := zq_t (List.mem_append_right _ (List.mem_append_right _ (List.mem_append_left _ (List.mem_of_getElem? (l := tables_1_3) (i := 214) rfl))))
set_option maxRecDepth 20000 in
theorem q524 : Cond.methodLink "ClayTrapsLaw" 135 yX3_missesOf ∈ zAW := zq_t (List.mem_append_right _ (List.mem_append_right _ (List.mem_append_left _ (List.mem_of_getElem? (l := tables_1_3) (i := 211) rfl))))
set_option maxRecDepth 20000 in
theorem q525 : Cond.instanceMethod yX3_missesOf ∈ zAW := zq_t (List.mem_append_right _ (List.mem_append_right _ (List.mem_append_left _ (List.mem_of_getElem? (l := tables_1_3) (i := 212) rfl))))
set_option maxRecDepth 20000 in
theorem q526 : Cond.selects "ClayTrapsModel" yX3_missesOf yX3_missesOf ∈ zAW := zq_t (List.mem_append_right _ (List.mem_append_right _ (List.mem_append_left _ (List.mem_of_getElem? (l := tables_1_3) (i := 213) rfl))))
set_option maxRecDepth 20000 in
theorem q527 : Cond.code yX3_fatigueOf prog_5_method_37_code 2 (some .int) ∈ zAW := zq_t (List.mem_append_right _ (List.mem_append_right _ (List.mem_append_left _ (List.mem_of_getElem? (l := tables_1_3) (i := 218) rfl))))
set_option maxRecDepth 20000 in
theorem q528 : Cond.methodLink "ClayTrapsLaw" 138 yX3_fatigueOf ∈ zAW := zq_t (List.mem_append_right _ (List.mem_append_right _ (List.mem_append_left _ (List.mem_of_getElem? (l := tables_1_3) (i := 215) rfl))))
set_option maxRecDepth 20000 in
theorem q529 : Cond.instanceMethod yX3_fatigueOf ∈ zAW := zq_t (List.mem_append_right _ (List.mem_append_right _ (List.mem_append_left _ (List.mem_of_getElem? (l := tables_1_3) (i := 216) rfl))))
set_option maxRecDepth 20000 in
theorem q530 : Cond.selects "ClayTrapsModel" yX3_fatigueOf yX3_fatigueOf ∈ zAW := zq_t (List.mem_append_right _ (List.mem_append_right _ (List.mem_append_left _ (List.mem_of_getElem? (l := tables_1_3) (i := 217) rfl))))
set_option maxRecDepth 20000 in
theorem q531 : Cond.code yX3_wouldHit prog_5_method_38_code 2 (some .int) ∈ zAW := zq_t (List.mem_append_right _ (List.mem_append_right _ (List.mem_append_left _ (List.mem_of_getElem? (l := tables_1_3) (i := 222) rfl))))
set_option maxRecDepth 20000 in
theorem q532 : Cond.methodLink "ClayTrapsLaw" 141 yX3_wouldHit ∈ zAW := zq_t (List.mem_append_right _ (List.mem_append_right _ (List.mem_append_left _ (List.mem_of_getElem? (l := tables_1_3) (i := 219) rfl))))
set_option maxRecDepth 20000 in
theorem q533 : Cond.instanceMethod yX3_wouldHit ∈ zAW := zq_t (List.mem_append_right _ (List.mem_append_right _ (List.mem_append_left _ (List.mem_of_getElem? (l := tables_1_3) (i := 220) rfl))))
set_option maxRecDepth 20000 in
theorem q534 : Cond.selects "ClayTrapsModel" yX3_wouldHit yX3_wouldHit ∈ zAW := zq_t (List.mem_append_right _ (List.mem_append_right _ (List.mem_append_left _ (List.mem_of_getElem? (l := tables_1_3) (i := 221) rfl))))
set_option maxRecDepth 20000 in
theorem q535 : Cond.code yX3_leader prog_5_method_39_code 1 (some .int) ∈ zAW := zq_t (List.mem_append_right _ (List.mem_append_right _ (List.mem_append_left _ (List.mem_of_getElem? (l := tables_1_3) (i := 226) rfl))))
set_option maxRecDepth 20000 in
theorem q536 : Cond.methodLink "ClayTrapsLaw" 145 yX3_leader ∈ zAW := zq_t (List.mem_append_right _ (List.mem_append_right _ (List.mem_append_left _ (List.mem_of_getElem? (l := tables_1_3) (i := 223) rfl))))
set_option maxRecDepth 20000 in
theorem q537 : Cond.instanceMethod yX3_leader ∈ zAW := zq_t (List.mem_append_right _ (List.mem_append_right _ (List.mem_append_left _ (List.mem_of_getElem? (l := tables_1_3) (i := 224) rfl))))
set_option maxRecDepth 20000 in
theorem q538 : Cond.selects "ClayTrapsModel" yX3_leader yX3_leader ∈ zAW := zq_t (List.mem_append_right _ (List.mem_append_right _ (List.mem_append_left _ (List.mem_of_getElem? (l := tables_1_3) (i := 225) rfl))))
set_option maxRecDepth 20000 in
theorem q539 : Cond.code yX3_tied prog_5_method_40_code 1 (some .int) ∈ zAW := zq_t (List.mem_append_right _ (List.mem_append_right _ (List.mem_append_left _ (List.mem_of_getElem? (l := tables_1_3) (i := 230) rfl))))
set_option maxRecDepth 20000 in
theorem q540 : Cond.methodLink "ClayTrapsLaw" 149 yX3_tied ∈ zAW := zq_t (List.mem_append_right _ (List.mem_append_right _ (List.mem_append_left _ (List.mem_of_getElem? (l := tables_1_3) (i := 227) rfl))))
set_option maxRecDepth 20000 in
theorem q541 : Cond.instanceMethod yX3_tied ∈ zAW := zq_t (List.mem_append_right _ (List.mem_append_right _ (List.mem_append_left _ (List.mem_of_getElem? (l := tables_1_3) (i := 228) rfl))))
set_option maxRecDepth 20000 in
theorem q542 : Cond.selects "ClayTrapsModel" yX3_tied yX3_tied ∈ zAW := zq_t (List.mem_append_right _ (List.mem_append_right _ (List.mem_append_left _ (List.mem_of_getElem? (l := tables_1_3) (i := 229) rfl))))
set_option maxRecDepth 20000 in
theorem q543 : Cond.code yX3_rankOf prog_5_method_42_code 2 (some .int) ∈ zAW := zq_t (List.mem_append_right _ (List.mem_append_right _ (List.mem_append_left _ (List.mem_of_getElem? (l := tables_1_3) (i := 234) rfl))))
set_option maxRecDepth 20000 in
theorem q544 : Cond.methodLink "ClayTrapsLaw" 152 yX3_rankOf ∈ zAW := zq_t (List.mem_append_right _ (List.mem_append_right _ (List.mem_append_left _ (List.mem_of_getElem? (l := tables_1_3) (i := 231) rfl))))
set_option maxRecDepth 20000 in
theorem q545 : Cond.instanceMethod yX3_rankOf ∈ zAW := zq_t (List.mem_append_right _ (List.mem_append_right _ (List.mem_append_left _ (List.mem_of_getElem? (l := tables_1_3) (i := 232) rfl))))
set_option maxRecDepth 20000 in
theorem q546 : Cond.selects "ClayTrapsModel" yX3_rankOf yX3_rankOf ∈ zAW := zq_t (List.mem_append_right _ (List.mem_append_right _ (List.mem_append_left _ (List.mem_of_getElem? (l := tables_1_3) (i := 233) rfl))))
set_option maxRecDepth 20000 in
theorem q547 : Cond.code yX3_rank prog_5_method_41_code 4 (some .int) ∈ zAW := zq_t (List.mem_append_right _ (List.mem_append_right _ (List.mem_append_left _ (List.mem_of_getElem? (l := tables_1_3) (i := 238) rfl))))
set_option maxRecDepth 20000 in
theorem q548 : Cond.methodLink "ClayTrapsModel" 117 yX3_rank ∈ zAW := zq_t (List.mem_append_right _ (List.mem_append_right _ (List.mem_append_left _ (List.mem_of_getElem? (l := tables_1_3) (i := 235) rfl))))
set_option maxRecDepth 20000 in
theorem q549 : Cond.instanceMethod yX3_rank ∈ zAW := zq_t (List.mem_append_right _ (List.mem_append_right _ (List.mem_append_left _ (List.mem_of_getElem? (l := tables_1_3) (i := 237) rfl))))
set_option maxRecDepth 20000 in
theorem q550 : Cond.selects "ClayTrapsModel" yX3_rank yX3_rank ∈ zAW := zq_s (List.mem_of_getElem? (l := k2_sels lw_privs) (i := 20) rfl)
set_option maxRecDepth 20000 in
theorem q551 : Cond.code yX3_scoreIn prog_5_method_43_code 4 (some .int) ∈ zAW := zq_t (List.mem_append_right _ (List.mem_append_right _ (List.mem_append_right _ (List.mem_of_getElem? (l := tables_1_4) (i := 2) rfl))))
set_option maxRecDepth 20000 in
theorem q552 : Cond.methodLink "ClayTrapsLaw" 155 yX3_scoreIn ∈ zAW := zq_t (List.mem_append_right _ (List.mem_append_right _ (List.mem_append_left _ (List.mem_of_getElem? (l := tables_1_3) (i := 239) rfl))))
set_option maxRecDepth 20000 in
theorem q553 : Cond.instanceMethod yX3_scoreIn ∈ zAW := zq_t (List.mem_append_right _ (List.mem_append_right _ (List.mem_append_right _ (List.mem_of_getElem? (l := tables_1_4) (i := 0) rfl))))
set_option maxRecDepth 20000 in
theorem q554 : Cond.selects "ClayTrapsModel" yX3_scoreIn yX3_scoreIn ∈ zAW := zq_t (List.mem_append_right _ (List.mem_append_right _ (List.mem_append_right _ (List.mem_of_getElem? (l := tables_1_4) (i := 1) rfl))))
set_option maxRecDepth 20000 in
theorem q555 : Cond.code yX3_keep prog_5_method_7_code 1 none ∈ zAW := zq_t (List.mem_append_right _ (List.mem_append_right _ (List.mem_append_right _ (List.mem_of_getElem? (l := tables_1_4) (i := 6) rfl))))
set_option maxRecDepth 20000 in
theorem q556 : Cond.methodLink "ClayTrapsModel" 120 yX3_keep ∈ zAW := zq_t (List.mem_append_right _ (List.mem_append_right _ (List.mem_append_right _ (List.mem_of_getElem? (l := tables_1_4) (i := 3) rfl))))
set_option maxRecDepth 20000 in
theorem q557 : Cond.instanceMethod yX3_keep ∈ zAW := zq_t (List.mem_append_right _ (List.mem_append_right _ (List.mem_append_right _ (List.mem_of_getElem? (l := tables_1_4) (i := 5) rfl))))
set_option maxRecDepth 20000 in
theorem q558 : Cond.selects "ClayTrapsModel" yX3_keep yX3_keep ∈ zAW := zq_s (List.mem_of_getElem? (l := k2_sels lw_privs) (i := 21) rfl)
set_option maxRecDepth 20000 in
theorem q559 : Cond.methodLink "ClayTrapsModel" 39 (⟨"java/lang/System", "arraycopy", "(Ljava/lang/Object;ILjava/lang/Object;II)V"⟩ : MethodName) ∈ zAW := zq_t (List.mem_append_right _ (List.mem_append_right _ (List.mem_append_right _ (List.mem_of_getElem? (l := tables_1_4) (i := 7) rfl))))
set_option maxRecDepth 20000 in
theorem q560 : Cond.code yX3_bringBack prog_5_method_8_code 1 none ∈ zAW := zq_t (List.mem_append_right _ (List.mem_append_right _ (List.mem_append_right _ (List.mem_of_getElem? (l := tables_1_4) (i := 13) rfl))))
set_option maxRecDepth 20000 in
theorem q561 : Cond.methodLink "ClayTrapsModel" 123 yX3_bringBack ∈ zAW := zq_t (List.mem_append_right _ (List.mem_append_right _ (List.mem_append_right _ (List.mem_of_getElem? (l := tables_1_4) (i := 10) rfl))))
set_option maxRecDepth 20000 in
theorem q562 : Cond.instanceMethod yX3_bringBack ∈ zAW := zq_t (List.mem_append_right _ (List.mem_append_right _ (List.mem_append_right _ (List.mem_of_getElem? (l := tables_1_4) (i := 12) rfl))))
set_option maxRecDepth 20000 in
theorem q563 : Cond.selects "ClayTrapsModel" yX3_bringBack yX3_bringBack ∈ zAW := zq_s (List.mem_of_getElem? (l := k2_sels lw_privs) (i := 22) rfl)
set_option maxRecDepth 20000 in
theorem q564 : Cond.code yX3_turnsUntilMiss prog_5_method_45_code 2 (some .int) ∈ zAW := zq_t (List.mem_append_right _ (List.mem_append_right _ (List.mem_append_right _ (List.mem_of_getElem? (l := tables_1_4) (i := 17) rfl))))
set_option maxRecDepth 20000 in
theorem q565 : Cond.methodLink "ClayTrapsLaw" 158 yX3_turnsUntilMiss ∈ zAW := zq_t (List.mem_append_right _ (List.mem_append_right _ (List.mem_append_right _ (List.mem_of_getElem? (l := tables_1_4) (i := 14) rfl))))
set_option maxRecDepth 20000 in
theorem q566 : Cond.instanceMethod yX3_turnsUntilMiss ∈ zAW := zq_t (List.mem_append_right _ (List.mem_append_right _ (List.mem_append_right _ (List.mem_of_getElem? (l := tables_1_4) (i := 15) rfl))))
set_option maxRecDepth 20000 in
theorem q567 : Cond.selects "ClayTrapsModel" yX3_turnsUntilMiss yX3_turnsUntilMiss ∈ zAW := zq_t (List.mem_append_right _ (List.mem_append_right _ (List.mem_append_right _ (List.mem_of_getElem? (l := tables_1_4) (i := 16) rfl))))
set_option maxRecDepth 20000 in
theorem q568 : Cond.code yX3_untilMiss prog_5_method_44_code 4 (some .int) ∈ zAW := zq_t (List.mem_append_right _ (List.mem_append_right _ (List.mem_append_right _ (List.mem_of_getElem? (l := tables_1_4) (i := 21) rfl))))
set_option maxRecDepth 20000 in
theorem q569 : Cond.methodLink "ClayTrapsModel" 126 yX3_untilMiss ∈ zAW := zq_t (List.mem_append_right _ (List.mem_append_right _ (List.mem_append_right _ (List.mem_of_getElem? (l := tables_1_4) (i := 18) rfl))))
set_option maxRecDepth 20000 in
theorem q570 : Cond.instanceMethod yX3_untilMiss ∈ zAW := zq_t (List.mem_append_right _ (List.mem_append_right _ (List.mem_append_right _ (List.mem_of_getElem? (l := tables_1_4) (i := 20) rfl))))
set_option maxRecDepth 20000 in
theorem q571 : Cond.selects "ClayTrapsModel" yX3_untilMiss yX3_untilMiss ∈ zAW := zq_s (List.mem_of_getElem? (l := k2_sels lw_privs) (i := 23) rfl)
set_option maxRecDepth 20000 in
theorem q572 : Cond.code yX3_leaderIn prog_5_method_47_code 2 (some .int) ∈ zAW := zq_t (List.mem_append_right _ (List.mem_append_right _ (List.mem_append_right _ (List.mem_of_getElem? (l := tables_1_4) (i := 25) rfl))))
set_option maxRecDepth 20000 in
theorem q573 : Cond.methodLink "ClayTrapsLaw" 161 yX3_leaderIn ∈ zAW := zq_t (List.mem_append_right _ (List.mem_append_right _ (List.mem_append_right _ (List.mem_of_getElem? (l := tables_1_4) (i := 22) rfl))))
set_option maxRecDepth 20000 in
theorem q574 : Cond.instanceMethod yX3_leaderIn ∈ zAW := zq_t (List.mem_append_right _ (List.mem_append_right _ (List.mem_append_right _ (List.mem_of_getElem? (l := tables_1_4) (i := 23) rfl))))
set_option maxRecDepth 20000 in
theorem q575 : Cond.selects "ClayTrapsModel" yX3_leaderIn yX3_leaderIn ∈ zAW := zq_t (List.mem_append_right _ (List.mem_append_right _ (List.mem_append_right _ (List.mem_of_getElem? (l := tables_1_4) (i := 24) rfl))))
set_option maxRecDepth 20000 in
theorem q576 : Cond.code yX3_firstIn prog_5_method_46_code 3 (some .int) ∈ zAW := zq_t (List.mem_append_right _ (List.mem_append_right _ (List.mem_append_right _ (List.mem_of_getElem? (l := tables_1_4) (i := 29) rfl))))
set_option maxRecDepth 20000 in
theorem q577 : Cond.methodLink "ClayTrapsModel" 129 yX3_firstIn ∈ zAW := zq_t (List.mem_append_right _ (List.mem_append_right _ (List.mem_append_right _ (List.mem_of_getElem? (l := tables_1_4) (i := 26) rfl))))
set_option maxRecDepth 20000 in
theorem q578 : Cond.instanceMethod yX3_firstIn ∈ zAW := zq_t (List.mem_append_right _ (List.mem_append_right _ (List.mem_append_right _ (List.mem_of_getElem? (l := tables_1_4) (i := 28) rfl))))
set_option maxRecDepth 20000 in
theorem q579 : Cond.selects "ClayTrapsModel" yX3_firstIn yX3_firstIn ∈ zAW := zq_s (List.mem_of_getElem? (l := k2_sels lw_privs) (i := 24) rfl)
set_option maxRecDepth 20000 in
theorem q580 : Cond.code yX3_wouldWin prog_5_method_49_code 1 (some .int) ∈ zAW := zq_t (List.mem_append_right _ (List.mem_append_right _ (List.mem_append_right _ (List.mem_of_getElem? (l := tables_1_4) (i := 33) rfl))))
set_option maxRecDepth 20000 in
theorem q581 : Cond.methodLink "ClayTrapsLaw" 165 yX3_wouldWin ∈ zAW := zq_t (List.mem_append_right _ (List.mem_append_right _ (List.mem_append_right _ (List.mem_of_getElem? (l := tables_1_4) (i := 30) rfl))))
set_option maxRecDepth 20000 in
theorem q582 : Cond.instanceMethod yX3_wouldWin ∈ zAW := zq_t (List.mem_append_right _ (List.mem_append_right _ (List.mem_append_right _ (List.mem_of_getElem? (l := tables_1_4) (i := 31) rfl))))
set_option maxRecDepth 20000 in
theorem q583 : Cond.selects "ClayTrapsModel" yX3_wouldWin yX3_wouldWin ∈ zAW := zq_t (List.mem_append_right _ (List.mem_append_right _ (List.mem_append_right _ (List.mem_of_getElem? (l := tables_1_4) (i := 32) rfl))))
set_option maxRecDepth 20000 in
theorem q584 : Cond.code yX3_winner prog_5_method_48_code 2 (some .int) ∈ zAW := zq_t (List.mem_append_right _ (List.mem_append_right _ (List.mem_append_right _ (List.mem_of_getElem? (l := tables_1_4) (i := 37) rfl))))
set_option maxRecDepth 20000 in
theorem q585 : Cond.methodLink "ClayTrapsModel" 132 yX3_winner ∈ zAW := zq_t (List.mem_append_right _ (List.mem_append_right _ (List.mem_append_right _ (List.mem_of_getElem? (l := tables_1_4) (i := 34) rfl))))
set_option maxRecDepth 20000 in
theorem q586 : Cond.instanceMethod yX3_winner ∈ zAW := zq_t (List.mem_append_right _ (List.mem_append_right _ (List.mem_append_right _ (List.mem_of_getElem? (l := tables_1_4) (i := 36) rfl))))
set_option maxRecDepth 20000 in
theorem q587 : Cond.selects "ClayTrapsModel" yX3_winner yX3_winner ∈ zAW := zq_s (List.mem_of_getElem? (l := k2_sels lw_privs) (i := 25) rfl)
set_option maxRecDepth 20000 in
theorem q588 : Cond.code yX3_bestRest prog_5_method_51_code 2 (some .int) ∈ zAW := zq_t (List.mem_append_right _ (List.mem_append_right _ (List.mem_append_right _ (List.mem_of_getElem? (l := tables_1_4) (i := 41) rfl))))
set_option maxRecDepth 20000 in
theorem q589 : Cond.methodLink "ClayTrapsLaw" 168 yX3_bestRest ∈ zAW := zq_t (List.mem_append_right _ (List.mem_append_right _ (List.mem_append_right _ (List.mem_of_getElem? (l := tables_1_4) (i := 38) rfl))))
set_option maxRecDepth 20000 in
theorem q590 : Cond.instanceMethod yX3_bestRest ∈ zAW := zq_t (List.mem_append_right _ (List.mem_append_right _ (List.mem_append_right _ (List.mem_of_getElem? (l := tables_1_4) (i := 39) rfl))))
set_option maxRecDepth 20000 in
theorem q591 : Cond.selects "ClayTrapsModel" yX3_bestRest yX3_bestRest ∈ zAW := zq_t (List.mem_append_right _ (List.mem_append_right _ (List.mem_append_right _ (List.mem_of_getElem? (l := tables_1_4) (i := 40) rfl))))
set_option maxRecDepth 20000 in
theorem q592 : Cond.code yX3_restFor prog_5_method_50_code 6 (some .int) ∈ zAW := zq_t (List.mem_append_right _ (List.mem_append_right _ (List.mem_append_right _ (List.mem_of_getElem? (l := tables_1_4) (i := 45) rfl))))
set_option maxRecDepth 20000 in
theorem q593 : Cond.methodLink "ClayTrapsModel" 135 yX3_restFor ∈ zAW := zq_t (List.mem_append_right _ (List.mem_append_right _ (List.mem_append_right _ (List.mem_of_getElem? (l := tables_1_4) (i := 42) rfl))))
set_option maxRecDepth 20000 in
theorem q594 : Cond.instanceMethod yX3_restFor ∈ zAW := zq_t (List.mem_append_right _ (List.mem_append_right _ (List.mem_append_right _ (List.mem_of_getElem? (l := tables_1_4) (i := 44) rfl))))
set_option maxRecDepth 20000 in
theorem q595 : Cond.selects "ClayTrapsModel" yX3_restFor yX3_restFor ∈ zAW := zq_s (List.mem_of_getElem? (l := k2_sels lw_privs) (i := 26) rfl)
set_option maxRecDepth 20000 in
theorem q596 : Cond.code yX3_swingWanted prog_5_method_52_code 4 (some .int) ∈ zAW := zq_t (List.mem_append_right _ (List.mem_append_right _ (List.mem_append_right _ (List.mem_of_getElem? (l := tables_1_4) (i := 49) rfl))))
set_option maxRecDepth 20000 in
theorem q597 : Cond.methodLink "ClayTrapsLaw" 171 yX3_swingWanted ∈ zAW := zq_t (List.mem_append_right _ (List.mem_append_right _ (List.mem_append_right _ (List.mem_of_getElem? (l := tables_1_4) (i := 46) rfl))))
set_option maxRecDepth 20000 in
theorem q598 : Cond.instanceMethod yX3_swingWanted ∈ zAW := zq_t (List.mem_append_right _ (List.mem_append_right _ (List.mem_append_right _ (List.mem_of_getElem? (l := tables_1_4) (i := 47) rfl))))
set_option maxRecDepth 20000 in
theorem q599 : Cond.selects "ClayTrapsModel" yX3_swingWanted yX3_swingWanted ∈ zAW := zq_t (List.mem_append_right _ (List.mem_append_right _ (List.mem_append_right _ (List.mem_of_getElem? (l := tables_1_4) (i := 48) rfl))))
set_option maxRecDepth 20000 in
theorem q600 : Cond.code yX3_meanScore prog_5_method_53_code 3 (some .double) ∈ zAW := zq_t (List.mem_append_right _ (List.mem_append_right _ (List.mem_append_right _ (List.mem_of_getElem? (l := tables_1_4) (i := 53) rfl))))
set_option maxRecDepth 20000 in
theorem q601 : Cond.methodLink "ClayTrapsLaw" 176 yX3_meanScore ∈ zAW := zq_t (List.mem_append_right _ (List.mem_append_right _ (List.mem_append_right _ (List.mem_of_getElem? (l := tables_1_4) (i := 50) rfl))))
set_option maxRecDepth 20000 in
theorem q602 : Cond.instanceMethod yX3_meanScore ∈ zAW := zq_t (List.mem_append_right _ (List.mem_append_right _ (List.mem_append_right _ (List.mem_of_getElem? (l := tables_1_4) (i := 51) rfl))))
set_option maxRecDepth 20000 in
theorem q603 : Cond.selects "ClayTrapsModel" yX3_meanScore yX3_meanScore ∈ zAW := zq_t (List.mem_append_right _ (List.mem_append_right _ (List.mem_append_right _ (List.mem_of_getElem? (l := tables_1_4) (i := 52) rfl))))
set_option maxRecDepth 20000 in
theorem q604 : Cond.code yX3_digest prog_5_method_54_code 10 (some .long) ∈ zAW := zq_t (List.mem_append_right _ (List.mem_append_right _ (List.mem_append_right _ (List.mem_of_getElem? (l := tables_1_4) (i := 57) rfl))))
set_option maxRecDepth 20000 in
theorem q605 : Cond.methodLink "ClayTrapsLaw" 181 yX3_digest ∈ zAW := zq_t (List.mem_append_right _ (List.mem_append_right _ (List.mem_append_right _ (List.mem_of_getElem? (l := tables_1_4) (i := 54) rfl))))
set_option maxRecDepth 20000 in
theorem q606 : Cond.instanceMethod yX3_digest ∈ zAW := zq_t (List.mem_append_right _ (List.mem_append_right _ (List.mem_append_right _ (List.mem_of_getElem? (l := tables_1_4) (i := 55) rfl))))
set_option maxRecDepth 20000 in
theorem q607 : Cond.selects "ClayTrapsModel" yX3_digest yX3_digest ∈ zAW := zq_t (List.mem_append_right _ (List.mem_append_right _ (List.mem_append_right _ (List.mem_of_getElem? (l := tables_1_4) (i := 56) rfl))))
set_option maxRecDepth 20000 in
theorem q608 : Cond.initialized "java/lang/Throwable" ∈ zAW := zq_t (List.mem_append_left _ (List.mem_of_getElem? (l := tables_1_1) (i := 5) rfl))
set_option maxRecDepth 20000 in
theorem q609 : Cond.initialized "java/lang/Exception" ∈ zAW := zq_t (List.mem_append_left _ (List.mem_of_getElem? (l := tables_1_1) (i := 6) rfl))
set_option maxRecDepth 20000 in
theorem q610 : Cond.initialized "java/lang/RuntimeException" ∈ zAW := zq_t (List.mem_append_left _ (List.mem_of_getElem? (l := tables_1_1) (i := 7) rfl))
set_option maxRecDepth 20000 in
theorem q611 : Cond.initialized "java/lang/IllegalArgumentException" ∈ zAW := zq_t (List.mem_append_left _ (List.mem_of_getElem? (l := tables_1_1) (i := 8) rfl))
set_option maxRecDepth 20000 in
theorem q612 : Cond.initialized "java/lang/IllegalStateException" ∈ zAW := zq_t (List.mem_append_left _ (List.mem_of_getElem? (l := tables_1_1) (i := 9) rfl))
set_option maxRecDepth 20000 in
theorem q613 : Cond.initialized "java/lang/IndexOutOfBoundsException" ∈ zAW := zq_t (List.mem_append_left _ (List.mem_of_getElem? (l := tables_1_1) (i := 10) rfl))
set_option maxRecDepth 20000 in
theorem q614 : Cond.initialized "java/lang/System" ∈ zAW := zq_t (List.mem_append_left _ (List.mem_of_getElem? (l := tables_1_1) (i := 13) rfl))
set_option maxRecDepth 20000 in
theorem q615 : Cond.classLink "ClayTrapsLaw" 8 "ClayTraps" ∈ zAW := zq_t (List.mem_append_left _ (List.mem_of_getElem? (l := tables_1_1) (i := 14) rfl))
set_option maxRecDepth 20000 in
theorem q616 : Cond.instantiable "ClayTraps" 4 ∈ zAW := zq_t (List.mem_append_left _ (List.mem_of_getElem? (l := tables_1_1) (i := 15) rfl))
set_option maxRecDepth 20000 in
theorem q617 : Cond.classLink "ClayTraps" 7 "ClayTraps$Traps" ∈ zAW := zq_t (List.mem_append_left _ (List.mem_of_getElem? (l := tables_1_1) (i := 22) rfl))
set_option maxRecDepth 20000 in
theorem q618 : Cond.instantiable "ClayTraps$Traps" 2 ∈ zAW := zq_t (List.mem_append_left _ (List.mem_of_getElem? (l := tables_1_1) (i := 23) rfl))
set_option maxRecDepth 20000 in
theorem q619 : Cond.arrayClass .int ∈ zAW := zq_t (List.mem_append_left _ (List.mem_of_getElem? (l := tables_1_1) (i := 37) rfl))
set_option maxRecDepth 20000 in
theorem q620 : Cond.classLink "ClayTraps" 16 "ClayTraps$Squad" ∈ zAW := zq_t (List.mem_append_left _ (List.mem_of_getElem? (l := tables_1_1) (i := 38) rfl))
set_option maxRecDepth 20000 in
theorem q621 : Cond.instantiable "ClayTraps$Squad" 9 ∈ zAW := zq_t (List.mem_append_left _ (List.mem_of_getElem? (l := tables_1_1) (i := 39) rfl))
set_option maxRecDepth 20000 in
theorem q622 : Cond.arrayClass .boolean ∈ zAW := zq_t (List.mem_append_left _ (List.mem_of_getElem? (l := tables_1_1) (i := 78) rfl))
set_option maxRecDepth 20000 in
theorem q623 : Cond.classLink "ClayTraps" 26 "java/lang/IllegalArgumentException" ∈ zAW := zq_t (List.mem_append_left _ (List.mem_of_getElem? (l := tables_1_1) (i := 178) rfl))
set_option maxRecDepth 20000 in
theorem q624 : Cond.instantiable "java/lang/IllegalArgumentException" 6 ∈ zAW := zq_t (List.mem_append_left _ (List.mem_of_getElem? (l := tables_1_1) (i := 179) rfl))
set_option maxRecDepth 20000 in
theorem q625 : Cond.instantiable "java/lang/Throwable" 6 ∈ zAW := zq_t (List.mem_append_left _ (List.mem_of_getElem? (l := tables_1_1) (i := 217) rfl))
set_option maxRecDepth 20000 in
theorem q626 : Cond.arrayClass .byte ∈ zAW := zq_t (List.mem_append_right _ (List.mem_append_left _ (List.mem_of_getElem? (l := tables_1_2) (i := 5) rfl)))
set_option maxRecDepth 20000 in
theorem q627 : Cond.classLink "ClayTraps" 85 "java/lang/IndexOutOfBoundsException" ∈ zAW := zq_t (List.mem_append_right _ (List.mem_append_left _ (List.mem_of_getElem? (l := tables_1_2) (i := 57) rfl)))
set_option maxRecDepth 20000 in
theorem q628 : Cond.instantiable "java/lang/IndexOutOfBoundsException" 6 ∈ zAW := zq_t (List.mem_append_right _ (List.mem_append_left _ (List.mem_of_getElem? (l := tables_1_2) (i := 58) rfl)))
set_option maxRecDepth 20000 in
theorem q629 : Cond.classLink "ClayTrapsLaw" 13 "java/lang/IllegalArgumentException" ∈ zAW := zq_t (List.mem_append_right _ (List.mem_append_left _ (List.mem_of_getElem? (l := tables_1_2) (i := 148) rfl)))
set_option maxRecDepth 20000 in
theorem q630 : Cond.classLink "ClayTrapsLaw" 15 "java/lang/IllegalStateException" ∈ zAW := zq_t (List.mem_append_right _ (List.mem_append_left _ (List.mem_of_getElem? (l := tables_1_2) (i := 149) rfl)))
set_option maxRecDepth 20000 in
theorem q631 : Cond.classLink "ClayTraps" 39 "java/lang/IllegalStateException" ∈ zAW := zq_t (List.mem_append_right _ (List.mem_append_left _ (List.mem_of_getElem? (l := tables_1_2) (i := 156) rfl)))
set_option maxRecDepth 20000 in
theorem q632 : Cond.instantiable "java/lang/IllegalStateException" 6 ∈ zAW := zq_t (List.mem_append_right _ (List.mem_append_left _ (List.mem_of_getElem? (l := tables_1_2) (i := 157) rfl)))
set_option maxRecDepth 20000 in
theorem q633 : Cond.classLink "ClayTrapsLaw" 21 "java/lang/IndexOutOfBoundsException" ∈ zAW := zq_t (List.mem_append_right _ (List.mem_append_left _ (List.mem_of_getElem? (l := tables_1_2) (i := 179) rfl)))
set_option maxRecDepth 20000 in
theorem q634 : Cond.classLink "ClayTrapsLaw" 80 "ClayTrapsModel" ∈ zAW := zq_t (List.mem_append_right _ (List.mem_append_right _ (List.mem_append_left _ (List.mem_of_getElem? (l := tables_1_3) (i := 41) rfl))))
set_option maxRecDepth 20000 in
theorem q635 : Cond.instantiable "ClayTrapsModel" 8 ∈ zAW := zq_t (List.mem_append_right _ (List.mem_append_right _ (List.mem_append_left _ (List.mem_of_getElem? (l := tables_1_3) (i := 42) rfl))))
set_option maxRecDepth 20000 in
theorem q636 : Cond.arrayClass .long ∈ zAW := zq_t (List.mem_append_right _ (List.mem_append_right _ (List.mem_append_right _ (List.mem_of_getElem? (l := tables_1_4) (i := 60) rfl))))
set_option maxRecDepth 20000 in
theorem q637 : Cond.static yJ9_abs_0f7a4 ∈ zAW := zq_t (List.mem_append_right _ (List.mem_append_left _ (List.mem_of_getElem? (l := tables_1_2) (i := 36) rfl)))
set_option maxRecDepth 20000 in
theorem q638 : Cond.static yJ9_max_7cf53 ∈ zAW := zq_t (List.mem_append_right _ (List.mem_append_left _ (List.mem_of_getElem? (l := tables_1_2) (i := 48) rfl)))
set_option maxRecDepth 20000 in
theorem q639 : Cond.code yJ9_abs_0f7a4 prog_11_method_59_code 1 (some .int) ∈ zAW := zq_t (List.mem_append_right _ (List.mem_append_left _ (List.mem_of_getElem? (l := tables_1_2) (i := 37) rfl)))
set_option maxRecDepth 20000 in
theorem q640 : Cond.code yJ9_max_7cf53 prog_11_method_65_code 2 (some .int) ∈ zAW := zq_t (List.mem_append_right _ (List.mem_append_left _ (List.mem_of_getElem? (l := tables_1_2) (i := 49) rfl)))
set_option maxRecDepth 20000 in
theorem q641 : Cond.instanceMethod (⟨"java/lang/Object", "<init>", "()V"⟩ : MethodName) ∈ zAW := zq_t (List.mem_append_left _ (List.mem_of_getElem? (l := tables_1_1) (i := 20) rfl))
set_option maxRecDepth 20000 in
theorem q642 : Cond.static (⟨"java/lang/System", "arraycopy", "(Ljava/lang/Object;ILjava/lang/Object;II)V"⟩ : MethodName) ∈ zAW := zq_t (List.mem_append_right _ (List.mem_append_right _ (List.mem_append_right _ (List.mem_of_getElem? (l := tables_1_4) (i := 8) rfl))))
set_option maxRecDepth 20000 in
theorem q643 : Cond.native (⟨"java/lang/System", "arraycopy", "(Ljava/lang/Object;ILjava/lang/Object;II)V"⟩ : MethodName) ∈ zAW := zq_t (List.mem_append_right _ (List.mem_append_right _ (List.mem_append_right _ (List.mem_of_getElem? (l := tables_1_4) (i := 9) rfl))))
set_option maxRecDepth 20000 in
theorem q644 : Cond.code (⟨"java/lang/Object", "<init>", "()V"⟩ : MethodName) object_method_1_code 1 none ∈ zAW := zq_t (List.mem_append_left _ (List.mem_of_getElem? (l := tables_1_1) (i := 21) rfl))
set_option maxRecDepth 20000 in
theorem q645 : Cond.constantLong "ClayTraps" 152 (2137 : Int64) ∈ zAW := zq_t (List.mem_append_left _ (List.mem_of_getElem? (l := tables_1_1) (i := 161) rfl))
set_option maxRecDepth 20000 in
theorem q646 : Cond.constantLong "ClayTraps" 220 (31 : Int64) ∈ zAW := zq_t (List.mem_append_left _ (List.mem_of_getElem? (l := tables_1_1) (i := 166) rfl))
set_option maxRecDepth 20000 in
theorem q647 : Cond.constant "java/lang/Integer" 265 (1431655765 : Int32) ∈ zAW := zq_t (List.mem_append_right _ (List.mem_append_right _ (List.mem_append_left _ (List.mem_of_getElem? (l := tables_1_3) (i := 160) rfl))))
set_option maxRecDepth 20000 in
theorem q648 : Cond.constant "java/lang/Integer" 266 (858993459 : Int32) ∈ zAW := zq_t (List.mem_append_right _ (List.mem_append_right _ (List.mem_append_left _ (List.mem_of_getElem? (l := tables_1_3) (i := 161) rfl))))
set_option maxRecDepth 20000 in
theorem q649 : Cond.constant "java/lang/Integer" 267 (252645135 : Int32) ∈ zAW := zq_t (List.mem_append_right _ (List.mem_append_right _ (List.mem_append_left _ (List.mem_of_getElem? (l := tables_1_3) (i := 162) rfl))))
set_option maxRecDepth 20000 in
theorem q650 : Cond.constant "java/lang/Integer" 264 (65536 : Int32) ∈ zAW := zq_t (List.mem_append_right _ (List.mem_append_right _ (List.mem_append_left _ (List.mem_of_getElem? (l := tables_1_3) (i := 166) rfl))))
set_option maxRecDepth 20000 in
theorem q651 : Cond.constantLong "ClayTrapsModel" 138 (2137 : Int64) ∈ zAW := zq_t (List.mem_append_right _ (List.mem_append_right _ (List.mem_append_right _ (List.mem_of_getElem? (l := tables_1_4) (i := 58) rfl))))
set_option maxRecDepth 20000 in
theorem q652 : Cond.constantLong "ClayTrapsModel" 140 (31 : Int64) ∈ zAW := zq_t (List.mem_append_right _ (List.mem_append_right _ (List.mem_append_right _ (List.mem_of_getElem? (l := tables_1_4) (i := 59) rfl))))
theorem inX0 : ∀ w ∈ u_ws RX0 TX0 9, w ∈ zAW := by
  intro w hw
  obtain ⟨k, hk, rfl⟩ := List.mem_map.mp hw
  match k, List.mem_range.mp hk with
  | 0, _ => exact q0
  | 1, _ => exact q1
  | 2, _ => exact q2
  | 3, _ => exact q3
  | 4, _ => exact q4
  | 5, _ => exact q5
  | 6, _ => exact q6
  | 7, _ => exact q7
  | 8, _ => exact q8
  | k + 9, h => exact absurd h (by omega)
theorem inX1 : ∀ w ∈ u_ws RX1 TX1 2, w ∈ zAW := by
  intro w hw
  obtain ⟨k, hk, rfl⟩ := List.mem_map.mp hw
  match k, List.mem_range.mp hk with
  | 0, _ => exact q9
  | 1, _ => exact q10
  | k + 2, h => exact absurd h (by omega)
theorem inX2 : ∀ w ∈ u_ws RX2 TX2 4, w ∈ zAW := by
  intro w hw
  obtain ⟨k, hk, rfl⟩ := List.mem_map.mp hw
  match k, List.mem_range.mp hk with
  | 0, _ => exact q11
  | 1, _ => exact q12
  | 2, _ => exact q13
  | 3, _ => exact q14
  | k + 4, h => exact absurd h (by omega)
theorem inX3 : ∀ w ∈ u_ws RX3 TX3 8, w ∈ zAW := by
  intro w hw
  obtain ⟨k, hk, rfl⟩ := List.mem_map.mp hw
  match k, List.mem_range.mp hk with
  | 0, _ => exact q15
  | 1, _ => exact q16
  | 2, _ => exact q17
  | 3, _ => exact q18
  | 4, _ => exact q19
  | 5, _ => exact q20
  | 6, _ => exact q21
  | 7, _ => exact q22
  | k + 8, h => exact absurd h (by omega)
theorem gf_X1_9 {p : Program} {l : Launch} {e : Env} {R : Room} {s : State} {m : MethodId} {args : Array Value} {below : List Frame} {meth : Method} {c : Code} {cc : ByteArray} {nL : Nat} {G : va_G} {tys : List (ClassId × FieldType)} {A : Nat → Prop} {cells slots : Nat} {Q : State → Prop} {ws : va_W} {lv : List (Nat × Value)} {pc n : Nat} {rest : List Value} (hC : Cx p s m args c cc nL RX1 G tys A) (q0 : Nat) {a : Nat} {fs : List Value} {v : Value} (he : ws[q0]? = some (a, .inr (1, fs))) (hv : fs[0]? = some v) (hdg : decode cc pc = .ok (.getfield 9, 3)) (hn : pc + 3 = n) (k : ZZ p l e R s m args below meth c G A nL cells slots Q ws lv n (v :: rest)) : ZZ p l e R s m args below meth c G A nL cells slots Q ws lv pc (.ref a :: rest) := z_get hC 0 inX1 rfl (by decide) q23 q0 he hv hdg hn k
theorem gf_X2_56 {p : Program} {l : Launch} {e : Env} {R : Room} {s : State} {m : MethodId} {args : Array Value} {below : List Frame} {meth : Method} {c : Code} {cc : ByteArray} {nL : Nat} {G : va_G} {tys : List (ClassId × FieldType)} {A : Nat → Prop} {cells slots : Nat} {Q : State → Prop} {ws : va_W} {lv : List (Nat × Value)} {pc n : Nat} {rest : List Value} (hC : Cx p s m args c cc nL RX2 G tys A) (q0 : Nat) {a : Nat} {fs : List Value} {v : Value} (he : ws[q0]? = some (a, .inr (1, fs))) (hv : fs[0]? = some v) (hdg : decode cc pc = .ok (.getfield 56, 3)) (hn : pc + 3 = n) (k : ZZ p l e R s m args below meth c G A nL cells slots Q ws lv n (v :: rest)) : ZZ p l e R s m args below meth c G A nL cells slots Q ws lv pc (.ref a :: rest) := z_get hC 0 inX1 rfl (by decide) q24 q0 he hv hdg hn k
theorem gf_X1_15 {p : Program} {l : Launch} {e : Env} {R : Room} {s : State} {m : MethodId} {args : Array Value} {below : List Frame} {meth : Method} {c : Code} {cc : ByteArray} {nL : Nat} {G : va_G} {tys : List (ClassId × FieldType)} {A : Nat → Prop} {cells slots : Nat} {Q : State → Prop} {ws : va_W} {lv : List (Nat × Value)} {pc n : Nat} {rest : List Value} (hC : Cx p s m args c cc nL RX1 G tys A) (q0 : Nat) {a : Nat} {fs : List Value} {v : Value} (he : ws[q0]? = some (a, .inr (1, fs))) (hv : fs[1]? = some v) (hdg : decode cc pc = .ok (.getfield 15, 3)) (hn : pc + 3 = n) (k : ZZ p l e R s m args below meth c G A nL cells slots Q ws lv n (v :: rest)) : ZZ p l e R s m args below meth c G A nL cells slots Q ws lv pc (.ref a :: rest) := z_get hC 1 inX1 rfl (by decide) q25 q0 he hv hdg hn k
theorem gf_X2_60 {p : Program} {l : Launch} {e : Env} {R : Room} {s : State} {m : MethodId} {args : Array Value} {below : List Frame} {meth : Method} {c : Code} {cc : ByteArray} {nL : Nat} {G : va_G} {tys : List (ClassId × FieldType)} {A : Nat → Prop} {cells slots : Nat} {Q : State → Prop} {ws : va_W} {lv : List (Nat × Value)} {pc n : Nat} {rest : List Value} (hC : Cx p s m args c cc nL RX2 G tys A) (q0 : Nat) {a : Nat} {fs : List Value} {v : Value} (he : ws[q0]? = some (a, .inr (1, fs))) (hv : fs[1]? = some v) (hdg : decode cc pc = .ok (.getfield 60, 3)) (hn : pc + 3 = n) (k : ZZ p l e R s m args below meth c G A nL cells slots Q ws lv n (v :: rest)) : ZZ p l e R s m args below meth c G A nL cells slots Q ws lv pc (.ref a :: rest) := z_get hC 1 inX1 rfl (by decide) q26 q0 he hv hdg hn k
theorem gf_X0_9 {p : Program} {l : Launch} {e : Env} {R : Room} {s : State} {m : MethodId} {args : Array Value} {below : List Frame} {meth : Method} {c : Code} {cc : ByteArray} {nL : Nat} {G : va_G} {tys : List (ClassId × FieldType)} {A : Nat → Prop} {cells slots : Nat} {Q : State → Prop} {ws : va_W} {lv : List (Nat × Value)} {pc n : Nat} {rest : List Value} (hC : Cx p s m args c cc nL RX0 G tys A) (q0 : Nat) {a : Nat} {fs : List Value} {v : Value} (he : ws[q0]? = some (a, .inr (0, fs))) (hv : fs[0]? = some v) (hdg : decode cc pc = .ok (.getfield 9, 3)) (hn : pc + 3 = n) (k : ZZ p l e R s m args below meth c G A nL cells slots Q ws lv n (v :: rest)) : ZZ p l e R s m args below meth c G A nL cells slots Q ws lv pc (.ref a :: rest) := z_get hC 0 inX0 rfl (by decide) q27 q0 he hv hdg hn k
theorem gf_X2_135 {p : Program} {l : Launch} {e : Env} {R : Room} {s : State} {m : MethodId} {args : Array Value} {below : List Frame} {meth : Method} {c : Code} {cc : ByteArray} {nL : Nat} {G : va_G} {tys : List (ClassId × FieldType)} {A : Nat → Prop} {cells slots : Nat} {Q : State → Prop} {ws : va_W} {lv : List (Nat × Value)} {pc n : Nat} {rest : List Value} (hC : Cx p s m args c cc nL RX2 G tys A) (q0 : Nat) {a : Nat} {fs : List Value} {v : Value} (he : ws[q0]? = some (a, .inr (0, fs))) (hv : fs[0]? = some v) (hdg : decode cc pc = .ok (.getfield 135, 3)) (hn : pc + 3 = n) (k : ZZ p l e R s m args below meth c G A nL cells slots Q ws lv n (v :: rest)) : ZZ p l e R s m args below meth c G A nL cells slots Q ws lv pc (.ref a :: rest) := z_get hC 0 inX0 rfl (by decide) q28 q0 he hv hdg hn k
theorem gf_X0_15 {p : Program} {l : Launch} {e : Env} {R : Room} {s : State} {m : MethodId} {args : Array Value} {below : List Frame} {meth : Method} {c : Code} {cc : ByteArray} {nL : Nat} {G : va_G} {tys : List (ClassId × FieldType)} {A : Nat → Prop} {cells slots : Nat} {Q : State → Prop} {ws : va_W} {lv : List (Nat × Value)} {pc n : Nat} {rest : List Value} (hC : Cx p s m args c cc nL RX0 G tys A) (q0 : Nat) {a : Nat} {fs : List Value} {v : Value} (he : ws[q0]? = some (a, .inr (0, fs))) (hv : fs[1]? = some v) (hdg : decode cc pc = .ok (.getfield 15, 3)) (hn : pc + 3 = n) (k : ZZ p l e R s m args below meth c G A nL cells slots Q ws lv n (v :: rest)) : ZZ p l e R s m args below meth c G A nL cells slots Q ws lv pc (.ref a :: rest) := z_get hC 1 inX0 rfl (by decide) q29 q0 he hv hdg hn k
theorem gf_X0_18 {p : Program} {l : Launch} {e : Env} {R : Room} {s : State} {m : MethodId} {args : Array Value} {below : List Frame} {meth : Method} {c : Code} {cc : ByteArray} {nL : Nat} {G : va_G} {tys : List (ClassId × FieldType)} {A : Nat → Prop} {cells slots : Nat} {Q : State → Prop} {ws : va_W} {lv : List (Nat × Value)} {pc n : Nat} {rest : List Value} (hC : Cx p s m args c cc nL RX0 G tys A) (q0 : Nat) {a : Nat} {fs : List Value} {v : Value} (he : ws[q0]? = some (a, .inr (0, fs))) (hv : fs[2]? = some v) (hdg : decode cc pc = .ok (.getfield 18, 3)) (hn : pc + 3 = n) (k : ZZ p l e R s m args below meth c G A nL cells slots Q ws lv n (v :: rest)) : ZZ p l e R s m args below meth c G A nL cells slots Q ws lv pc (.ref a :: rest) := z_get hC 2 inX0 rfl (by decide) q30 q0 he hv hdg hn k
theorem gf_X2_66 {p : Program} {l : Launch} {e : Env} {R : Room} {s : State} {m : MethodId} {args : Array Value} {below : List Frame} {meth : Method} {c : Code} {cc : ByteArray} {nL : Nat} {G : va_G} {tys : List (ClassId × FieldType)} {A : Nat → Prop} {cells slots : Nat} {Q : State → Prop} {ws : va_W} {lv : List (Nat × Value)} {pc n : Nat} {rest : List Value} (hC : Cx p s m args c cc nL RX2 G tys A) (q0 : Nat) {a : Nat} {fs : List Value} {v : Value} (he : ws[q0]? = some (a, .inr (0, fs))) (hv : fs[2]? = some v) (hdg : decode cc pc = .ok (.getfield 66, 3)) (hn : pc + 3 = n) (k : ZZ p l e R s m args below meth c G A nL cells slots Q ws lv n (v :: rest)) : ZZ p l e R s m args below meth c G A nL cells slots Q ws lv pc (.ref a :: rest) := z_get hC 2 inX0 rfl (by decide) q31 q0 he hv hdg hn k
theorem gf_X0_21 {p : Program} {l : Launch} {e : Env} {R : Room} {s : State} {m : MethodId} {args : Array Value} {below : List Frame} {meth : Method} {c : Code} {cc : ByteArray} {nL : Nat} {G : va_G} {tys : List (ClassId × FieldType)} {A : Nat → Prop} {cells slots : Nat} {Q : State → Prop} {ws : va_W} {lv : List (Nat × Value)} {pc n : Nat} {rest : List Value} (hC : Cx p s m args c cc nL RX0 G tys A) (q0 : Nat) {a : Nat} {fs : List Value} {v : Value} (he : ws[q0]? = some (a, .inr (0, fs))) (hv : fs[3]? = some v) (hdg : decode cc pc = .ok (.getfield 21, 3)) (hn : pc + 3 = n) (k : ZZ p l e R s m args below meth c G A nL cells slots Q ws lv n (v :: rest)) : ZZ p l e R s m args below meth c G A nL cells slots Q ws lv pc (.ref a :: rest) := z_get hC 3 inX0 rfl (by decide) q32 q0 he hv hdg hn k
theorem gf_X2_103 {p : Program} {l : Launch} {e : Env} {R : Room} {s : State} {m : MethodId} {args : Array Value} {below : List Frame} {meth : Method} {c : Code} {cc : ByteArray} {nL : Nat} {G : va_G} {tys : List (ClassId × FieldType)} {A : Nat → Prop} {cells slots : Nat} {Q : State → Prop} {ws : va_W} {lv : List (Nat × Value)} {pc n : Nat} {rest : List Value} (hC : Cx p s m args c cc nL RX2 G tys A) (q0 : Nat) {a : Nat} {fs : List Value} {v : Value} (he : ws[q0]? = some (a, .inr (0, fs))) (hv : fs[3]? = some v) (hdg : decode cc pc = .ok (.getfield 103, 3)) (hn : pc + 3 = n) (k : ZZ p l e R s m args below meth c G A nL cells slots Q ws lv n (v :: rest)) : ZZ p l e R s m args below meth c G A nL cells slots Q ws lv pc (.ref a :: rest) := z_get hC 3 inX0 rfl (by decide) q33 q0 he hv hdg hn k
theorem gf_X0_24 {p : Program} {l : Launch} {e : Env} {R : Room} {s : State} {m : MethodId} {args : Array Value} {below : List Frame} {meth : Method} {c : Code} {cc : ByteArray} {nL : Nat} {G : va_G} {tys : List (ClassId × FieldType)} {A : Nat → Prop} {cells slots : Nat} {Q : State → Prop} {ws : va_W} {lv : List (Nat × Value)} {pc n : Nat} {rest : List Value} (hC : Cx p s m args c cc nL RX0 G tys A) (q0 : Nat) {a : Nat} {fs : List Value} {v : Value} (he : ws[q0]? = some (a, .inr (0, fs))) (hv : fs[4]? = some v) (hdg : decode cc pc = .ok (.getfield 24, 3)) (hn : pc + 3 = n) (k : ZZ p l e R s m args below meth c G A nL cells slots Q ws lv n (v :: rest)) : ZZ p l e R s m args below meth c G A nL cells slots Q ws lv pc (.ref a :: rest) := z_get hC 4 inX0 rfl (by decide) q34 q0 he hv hdg hn k
theorem gf_X2_106 {p : Program} {l : Launch} {e : Env} {R : Room} {s : State} {m : MethodId} {args : Array Value} {below : List Frame} {meth : Method} {c : Code} {cc : ByteArray} {nL : Nat} {G : va_G} {tys : List (ClassId × FieldType)} {A : Nat → Prop} {cells slots : Nat} {Q : State → Prop} {ws : va_W} {lv : List (Nat × Value)} {pc n : Nat} {rest : List Value} (hC : Cx p s m args c cc nL RX2 G tys A) (q0 : Nat) {a : Nat} {fs : List Value} {v : Value} (he : ws[q0]? = some (a, .inr (0, fs))) (hv : fs[4]? = some v) (hdg : decode cc pc = .ok (.getfield 106, 3)) (hn : pc + 3 = n) (k : ZZ p l e R s m args below meth c G A nL cells slots Q ws lv n (v :: rest)) : ZZ p l e R s m args below meth c G A nL cells slots Q ws lv pc (.ref a :: rest) := z_get hC 4 inX0 rfl (by decide) q35 q0 he hv hdg hn k
theorem gf_X0_27 {p : Program} {l : Launch} {e : Env} {R : Room} {s : State} {m : MethodId} {args : Array Value} {below : List Frame} {meth : Method} {c : Code} {cc : ByteArray} {nL : Nat} {G : va_G} {tys : List (ClassId × FieldType)} {A : Nat → Prop} {cells slots : Nat} {Q : State → Prop} {ws : va_W} {lv : List (Nat × Value)} {pc n : Nat} {rest : List Value} (hC : Cx p s m args c cc nL RX0 G tys A) (q0 : Nat) {a : Nat} {fs : List Value} {v : Value} (he : ws[q0]? = some (a, .inr (0, fs))) (hv : fs[5]? = some v) (hdg : decode cc pc = .ok (.getfield 27, 3)) (hn : pc + 3 = n) (k : ZZ p l e R s m args below meth c G A nL cells slots Q ws lv n (v :: rest)) : ZZ p l e R s m args below meth c G A nL cells slots Q ws lv pc (.ref a :: rest) := z_get hC 5 inX0 rfl (by decide) q36 q0 he hv hdg hn k
theorem gf_X2_109 {p : Program} {l : Launch} {e : Env} {R : Room} {s : State} {m : MethodId} {args : Array Value} {below : List Frame} {meth : Method} {c : Code} {cc : ByteArray} {nL : Nat} {G : va_G} {tys : List (ClassId × FieldType)} {A : Nat → Prop} {cells slots : Nat} {Q : State → Prop} {ws : va_W} {lv : List (Nat × Value)} {pc n : Nat} {rest : List Value} (hC : Cx p s m args c cc nL RX2 G tys A) (q0 : Nat) {a : Nat} {fs : List Value} {v : Value} (he : ws[q0]? = some (a, .inr (0, fs))) (hv : fs[5]? = some v) (hdg : decode cc pc = .ok (.getfield 109, 3)) (hn : pc + 3 = n) (k : ZZ p l e R s m args below meth c G A nL cells slots Q ws lv n (v :: rest)) : ZZ p l e R s m args below meth c G A nL cells slots Q ws lv pc (.ref a :: rest) := z_get hC 5 inX0 rfl (by decide) q37 q0 he hv hdg hn k
theorem gf_X0_30 {p : Program} {l : Launch} {e : Env} {R : Room} {s : State} {m : MethodId} {args : Array Value} {below : List Frame} {meth : Method} {c : Code} {cc : ByteArray} {nL : Nat} {G : va_G} {tys : List (ClassId × FieldType)} {A : Nat → Prop} {cells slots : Nat} {Q : State → Prop} {ws : va_W} {lv : List (Nat × Value)} {pc n : Nat} {rest : List Value} (hC : Cx p s m args c cc nL RX0 G tys A) (q0 : Nat) {a : Nat} {fs : List Value} {v : Value} (he : ws[q0]? = some (a, .inr (0, fs))) (hv : fs[6]? = some v) (hdg : decode cc pc = .ok (.getfield 30, 3)) (hn : pc + 3 = n) (k : ZZ p l e R s m args below meth c G A nL cells slots Q ws lv n (v :: rest)) : ZZ p l e R s m args below meth c G A nL cells slots Q ws lv pc (.ref a :: rest) := z_get hC 6 inX0 rfl (by decide) q38 q0 he hv hdg hn k
theorem gf_X0_34 {p : Program} {l : Launch} {e : Env} {R : Room} {s : State} {m : MethodId} {args : Array Value} {below : List Frame} {meth : Method} {c : Code} {cc : ByteArray} {nL : Nat} {G : va_G} {tys : List (ClassId × FieldType)} {A : Nat → Prop} {cells slots : Nat} {Q : State → Prop} {ws : va_W} {lv : List (Nat × Value)} {pc n : Nat} {rest : List Value} (hC : Cx p s m args c cc nL RX0 G tys A) (q0 : Nat) {a : Nat} {fs : List Value} {v : Value} (he : ws[q0]? = some (a, .inr (0, fs))) (hv : fs[7]? = some v) (hdg : decode cc pc = .ok (.getfield 34, 3)) (hn : pc + 3 = n) (k : ZZ p l e R s m args below meth c G A nL cells slots Q ws lv n (v :: rest)) : ZZ p l e R s m args below meth c G A nL cells slots Q ws lv pc (.ref a :: rest) := z_get hC 7 inX0 rfl (by decide) q39 q0 he hv hdg hn k
theorem gf_X0_37 {p : Program} {l : Launch} {e : Env} {R : Room} {s : State} {m : MethodId} {args : Array Value} {below : List Frame} {meth : Method} {c : Code} {cc : ByteArray} {nL : Nat} {G : va_G} {tys : List (ClassId × FieldType)} {A : Nat → Prop} {cells slots : Nat} {Q : State → Prop} {ws : va_W} {lv : List (Nat × Value)} {pc n : Nat} {rest : List Value} (hC : Cx p s m args c cc nL RX0 G tys A) (q0 : Nat) {a : Nat} {fs : List Value} {v : Value} (he : ws[q0]? = some (a, .inr (0, fs))) (hv : fs[8]? = some v) (hdg : decode cc pc = .ok (.getfield 37, 3)) (hn : pc + 3 = n) (k : ZZ p l e R s m args below meth c G A nL cells slots Q ws lv n (v :: rest)) : ZZ p l e R s m args below meth c G A nL cells slots Q ws lv pc (.ref a :: rest) := z_get hC 8 inX0 rfl (by decide) q40 q0 he hv hdg hn k
theorem pf_X0_37 {p : Program} {l : Launch} {e : Env} {R : Room} {s : State} {m : MethodId} {args : Array Value} {below : List Frame} {meth : Method} {c : Code} {cc : ByteArray} {nL : Nat} {G : va_G} {tys : List (ClassId × FieldType)} {A : Nat → Prop} {cells slots : Nat} {Q : State → Prop} {ws : va_W} {lv : List (Nat × Value)} {pc n : Nat} {rest : List Value} (hC : Cx p s m args c cc nL RX0 G tys A) (q0 : Nat) {a : Nat} {fs : List Value} {v : Int32} {ws' : va_W} (he : ws[q0]? = some (a, .inr (0, fs))) (hl9 : 8 < fs.length) (hdg : decode cc pc = .ok (.putfield 37, 3)) (hw : ws.set q0 (a, .inr (0, fs.set 8 (.int v))) = ws') (hn : pc + 3 = n) (k : ZZ p l e R s m args below meth c G A nL cells slots Q ws' lv n rest) : ZZ p l e R s m args below meth c G A nL cells slots Q ws lv pc (.int v :: .ref a :: rest) := z_put hC 8 inX0 tyX0 tyX0_ok nmX0 rfl (by decide) q40 rfl (by decide +kernel) q0 he hl9 hdg hw hn k
theorem gf_X2_35 {p : Program} {l : Launch} {e : Env} {R : Room} {s : State} {m : MethodId} {args : Array Value} {below : List Frame} {meth : Method} {c : Code} {cc : ByteArray} {nL : Nat} {G : va_G} {tys : List (ClassId × FieldType)} {A : Nat → Prop} {cells slots : Nat} {Q : State → Prop} {ws : va_W} {lv : List (Nat × Value)} {pc n : Nat} {rest : List Value} (hC : Cx p s m args c cc nL RX2 G tys A) (q0 : Nat) {a : Nat} {fs : List Value} {v : Value} (he : ws[q0]? = some (a, .inr (0, fs))) (hv : fs[8]? = some v) (hdg : decode cc pc = .ok (.getfield 35, 3)) (hn : pc + 3 = n) (k : ZZ p l e R s m args below meth c G A nL cells slots Q ws lv n (v :: rest)) : ZZ p l e R s m args below meth c G A nL cells slots Q ws lv pc (.ref a :: rest) := z_get hC 8 inX0 rfl (by decide) q41 q0 he hv hdg hn k
theorem pf_X2_35 {p : Program} {l : Launch} {e : Env} {R : Room} {s : State} {m : MethodId} {args : Array Value} {below : List Frame} {meth : Method} {c : Code} {cc : ByteArray} {nL : Nat} {G : va_G} {tys : List (ClassId × FieldType)} {A : Nat → Prop} {cells slots : Nat} {Q : State → Prop} {ws : va_W} {lv : List (Nat × Value)} {pc n : Nat} {rest : List Value} (hC : Cx p s m args c cc nL RX2 G tys A) (q0 : Nat) {a : Nat} {fs : List Value} {v : Int32} {ws' : va_W} (he : ws[q0]? = some (a, .inr (0, fs))) (hl9 : 8 < fs.length) (hdg : decode cc pc = .ok (.putfield 35, 3)) (hw : ws.set q0 (a, .inr (0, fs.set 8 (.int v))) = ws') (hn : pc + 3 = n) (k : ZZ p l e R s m args below meth c G A nL cells slots Q ws' lv n rest) : ZZ p l e R s m args below meth c G A nL cells slots Q ws lv pc (.int v :: .ref a :: rest) := z_put hC 8 inX0 tyX0 tyX0_ok nmX0 rfl (by decide) q41 rfl (by decide +kernel) q0 he hl9 hdg hw hn k
theorem gf_X2_10 {p : Program} {l : Launch} {e : Env} {R : Room} {s : State} {m : MethodId} {args : Array Value} {below : List Frame} {meth : Method} {c : Code} {cc : ByteArray} {nL : Nat} {G : va_G} {tys : List (ClassId × FieldType)} {A : Nat → Prop} {cells slots : Nat} {Q : State → Prop} {ws : va_W} {lv : List (Nat × Value)} {pc n : Nat} {rest : List Value} (hC : Cx p s m args c cc nL RX2 G tys A) (q0 : Nat) {a : Nat} {fs : List Value} {v : Value} (he : ws[q0]? = some (a, .inr (2, fs))) (hv : fs[0]? = some v) (hdg : decode cc pc = .ok (.getfield 10, 3)) (hn : pc + 3 = n) (k : ZZ p l e R s m args below meth c G A nL cells slots Q ws lv n (v :: rest)) : ZZ p l e R s m args below meth c G A nL cells slots Q ws lv pc (.ref a :: rest) := z_get hC 0 inX2 rfl (by decide) q42 q0 he hv hdg hn k
theorem gf_X2_19 {p : Program} {l : Launch} {e : Env} {R : Room} {s : State} {m : MethodId} {args : Array Value} {below : List Frame} {meth : Method} {c : Code} {cc : ByteArray} {nL : Nat} {G : va_G} {tys : List (ClassId × FieldType)} {A : Nat → Prop} {cells slots : Nat} {Q : State → Prop} {ws : va_W} {lv : List (Nat × Value)} {pc n : Nat} {rest : List Value} (hC : Cx p s m args c cc nL RX2 G tys A) (q0 : Nat) {a : Nat} {fs : List Value} {v : Value} (he : ws[q0]? = some (a, .inr (2, fs))) (hv : fs[1]? = some v) (hdg : decode cc pc = .ok (.getfield 19, 3)) (hn : pc + 3 = n) (k : ZZ p l e R s m args below meth c G A nL cells slots Q ws lv n (v :: rest)) : ZZ p l e R s m args below meth c G A nL cells slots Q ws lv pc (.ref a :: rest) := z_get hC 1 inX2 rfl (by decide) q43 q0 he hv hdg hn k
theorem gf_X2_23 {p : Program} {l : Launch} {e : Env} {R : Room} {s : State} {m : MethodId} {args : Array Value} {below : List Frame} {meth : Method} {c : Code} {cc : ByteArray} {nL : Nat} {G : va_G} {tys : List (ClassId × FieldType)} {A : Nat → Prop} {cells slots : Nat} {Q : State → Prop} {ws : va_W} {lv : List (Nat × Value)} {pc n : Nat} {rest : List Value} (hC : Cx p s m args c cc nL RX2 G tys A) (q0 : Nat) {a : Nat} {fs : List Value} {v : Value} (he : ws[q0]? = some (a, .inr (2, fs))) (hv : fs[2]? = some v) (hdg : decode cc pc = .ok (.getfield 23, 3)) (hn : pc + 3 = n) (k : ZZ p l e R s m args below meth c G A nL cells slots Q ws lv n (v :: rest)) : ZZ p l e R s m args below meth c G A nL cells slots Q ws lv pc (.ref a :: rest) := z_get hC 2 inX2 rfl (by decide) q44 q0 he hv hdg hn k
theorem gf_X2_72 {p : Program} {l : Launch} {e : Env} {R : Room} {s : State} {m : MethodId} {args : Array Value} {below : List Frame} {meth : Method} {c : Code} {cc : ByteArray} {nL : Nat} {G : va_G} {tys : List (ClassId × FieldType)} {A : Nat → Prop} {cells slots : Nat} {Q : State → Prop} {ws : va_W} {lv : List (Nat × Value)} {pc n : Nat} {rest : List Value} (hC : Cx p s m args c cc nL RX2 G tys A) (q0 : Nat) {a : Nat} {fs : List Value} {v : Value} (he : ws[q0]? = some (a, .inr (2, fs))) (hv : fs[3]? = some v) (hdg : decode cc pc = .ok (.getfield 72, 3)) (hn : pc + 3 = n) (k : ZZ p l e R s m args below meth c G A nL cells slots Q ws lv n (v :: rest)) : ZZ p l e R s m args below meth c G A nL cells slots Q ws lv pc (.ref a :: rest) := z_get hC 3 inX2 rfl (by decide) q45 q0 he hv hdg hn k
theorem pf_X2_72 {p : Program} {l : Launch} {e : Env} {R : Room} {s : State} {m : MethodId} {args : Array Value} {below : List Frame} {meth : Method} {c : Code} {cc : ByteArray} {nL : Nat} {G : va_G} {tys : List (ClassId × FieldType)} {A : Nat → Prop} {cells slots : Nat} {Q : State → Prop} {ws : va_W} {lv : List (Nat × Value)} {pc n : Nat} {rest : List Value} (hC : Cx p s m args c cc nL RX2 G tys A) (q0 : Nat) {a : Nat} {fs : List Value} {v : Int32} {ws' : va_W} (he : ws[q0]? = some (a, .inr (2, fs))) (hl9 : 3 < fs.length) (hdg : decode cc pc = .ok (.putfield 72, 3)) (hw : ws.set q0 (a, .inr (2, fs.set 3 (.int v))) = ws') (hn : pc + 3 = n) (k : ZZ p l e R s m args below meth c G A nL cells slots Q ws' lv n rest) : ZZ p l e R s m args below meth c G A nL cells slots Q ws lv pc (.int v :: .ref a :: rest) := z_put hC 3 inX2 tyX2 tyX2_ok nmX2 rfl (by decide) q45 rfl (by decide +kernel) q0 he hl9 hdg hw hn k
theorem gf_X3_28 {p : Program} {l : Launch} {e : Env} {R : Room} {s : State} {m : MethodId} {args : Array Value} {below : List Frame} {meth : Method} {c : Code} {cc : ByteArray} {nL : Nat} {G : va_G} {tys : List (ClassId × FieldType)} {A : Nat → Prop} {cells slots : Nat} {Q : State → Prop} {ws : va_W} {lv : List (Nat × Value)} {pc n : Nat} {rest : List Value} (hC : Cx p s m args c cc nL RX3 G tys A) (q0 : Nat) {a : Nat} {fs : List Value} {v : Value} (he : ws[q0]? = some (a, .inr (3, fs))) (hv : fs[0]? = some v) (hdg : decode cc pc = .ok (.getfield 28, 3)) (hn : pc + 3 = n) (k : ZZ p l e R s m args below meth c G A nL cells slots Q ws lv n (v :: rest)) : ZZ p l e R s m args below meth c G A nL cells slots Q ws lv pc (.ref a :: rest) := z_get hC 0 inX3 rfl (by decide) q46 q0 he hv hdg hn k
theorem pf_X3_28 {p : Program} {l : Launch} {e : Env} {R : Room} {s : State} {m : MethodId} {args : Array Value} {below : List Frame} {meth : Method} {c : Code} {cc : ByteArray} {nL : Nat} {G : va_G} {tys : List (ClassId × FieldType)} {A : Nat → Prop} {cells slots : Nat} {Q : State → Prop} {ws : va_W} {lv : List (Nat × Value)} {pc n : Nat} {rest : List Value} (hC : Cx p s m args c cc nL RX3 G tys A) (q0 : Nat) {a : Nat} {fs : List Value} {v : Int32} {ws' : va_W} (he : ws[q0]? = some (a, .inr (3, fs))) (hl9 : 0 < fs.length) (hdg : decode cc pc = .ok (.putfield 28, 3)) (hw : ws.set q0 (a, .inr (3, fs.set 0 (.int v))) = ws') (hn : pc + 3 = n) (k : ZZ p l e R s m args below meth c G A nL cells slots Q ws' lv n rest) : ZZ p l e R s m args below meth c G A nL cells slots Q ws lv pc (.int v :: .ref a :: rest) := z_put hC 0 inX3 tyX3 tyX3_ok nmX3 rfl (by decide) q46 rfl (by decide +kernel) q0 he hl9 hdg hw hn k
theorem gf_X3_32 {p : Program} {l : Launch} {e : Env} {R : Room} {s : State} {m : MethodId} {args : Array Value} {below : List Frame} {meth : Method} {c : Code} {cc : ByteArray} {nL : Nat} {G : va_G} {tys : List (ClassId × FieldType)} {A : Nat → Prop} {cells slots : Nat} {Q : State → Prop} {ws : va_W} {lv : List (Nat × Value)} {pc n : Nat} {rest : List Value} (hC : Cx p s m args c cc nL RX3 G tys A) (q0 : Nat) {a : Nat} {fs : List Value} {v : Value} (he : ws[q0]? = some (a, .inr (3, fs))) (hv : fs[1]? = some v) (hdg : decode cc pc = .ok (.getfield 32, 3)) (hn : pc + 3 = n) (k : ZZ p l e R s m args below meth c G A nL cells slots Q ws lv n (v :: rest)) : ZZ p l e R s m args below meth c G A nL cells slots Q ws lv pc (.ref a :: rest) := z_get hC 1 inX3 rfl (by decide) q47 q0 he hv hdg hn k
theorem pf_X3_32 {p : Program} {l : Launch} {e : Env} {R : Room} {s : State} {m : MethodId} {args : Array Value} {below : List Frame} {meth : Method} {c : Code} {cc : ByteArray} {nL : Nat} {G : va_G} {tys : List (ClassId × FieldType)} {A : Nat → Prop} {cells slots : Nat} {Q : State → Prop} {ws : va_W} {lv : List (Nat × Value)} {pc n : Nat} {rest : List Value} (hC : Cx p s m args c cc nL RX3 G tys A) (q0 : Nat) {a : Nat} {fs : List Value} {v : Int32} {ws' : va_W} (he : ws[q0]? = some (a, .inr (3, fs))) (hl9 : 1 < fs.length) (hdg : decode cc pc = .ok (.putfield 32, 3)) (hw : ws.set q0 (a, .inr (3, fs.set 1 (.int v))) = ws') (hn : pc + 3 = n) (k : ZZ p l e R s m args below meth c G A nL cells slots Q ws' lv n rest) : ZZ p l e R s m args below meth c G A nL cells slots Q ws lv pc (.int v :: .ref a :: rest) := z_put hC 1 inX3 tyX3 tyX3_ok nmX3 rfl (by decide) q47 rfl (by decide +kernel) q0 he hl9 hdg hw hn k
theorem gf_X3_9 {p : Program} {l : Launch} {e : Env} {R : Room} {s : State} {m : MethodId} {args : Array Value} {below : List Frame} {meth : Method} {c : Code} {cc : ByteArray} {nL : Nat} {G : va_G} {tys : List (ClassId × FieldType)} {A : Nat → Prop} {cells slots : Nat} {Q : State → Prop} {ws : va_W} {lv : List (Nat × Value)} {pc n : Nat} {rest : List Value} (hC : Cx p s m args c cc nL RX3 G tys A) (q0 : Nat) {a : Nat} {fs : List Value} {v : Value} (he : ws[q0]? = some (a, .inr (3, fs))) (hv : fs[2]? = some v) (hdg : decode cc pc = .ok (.getfield 9, 3)) (hn : pc + 3 = n) (k : ZZ p l e R s m args below meth c G A nL cells slots Q ws lv n (v :: rest)) : ZZ p l e R s m args below meth c G A nL cells slots Q ws lv pc (.ref a :: rest) := z_get hC 2 inX3 rfl (by decide) q48 q0 he hv hdg hn k
theorem gf_X3_13 {p : Program} {l : Launch} {e : Env} {R : Room} {s : State} {m : MethodId} {args : Array Value} {below : List Frame} {meth : Method} {c : Code} {cc : ByteArray} {nL : Nat} {G : va_G} {tys : List (ClassId × FieldType)} {A : Nat → Prop} {cells slots : Nat} {Q : State → Prop} {ws : va_W} {lv : List (Nat × Value)} {pc n : Nat} {rest : List Value} (hC : Cx p s m args c cc nL RX3 G tys A) (q0 : Nat) {a : Nat} {fs : List Value} {v : Value} (he : ws[q0]? = some (a, .inr (3, fs))) (hv : fs[3]? = some v) (hdg : decode cc pc = .ok (.getfield 13, 3)) (hn : pc + 3 = n) (k : ZZ p l e R s m args below meth c G A nL cells slots Q ws lv n (v :: rest)) : ZZ p l e R s m args below meth c G A nL cells slots Q ws lv pc (.ref a :: rest) := z_get hC 3 inX3 rfl (by decide) q49 q0 he hv hdg hn k
theorem gf_X3_16 {p : Program} {l : Launch} {e : Env} {R : Room} {s : State} {m : MethodId} {args : Array Value} {below : List Frame} {meth : Method} {c : Code} {cc : ByteArray} {nL : Nat} {G : va_G} {tys : List (ClassId × FieldType)} {A : Nat → Prop} {cells slots : Nat} {Q : State → Prop} {ws : va_W} {lv : List (Nat × Value)} {pc n : Nat} {rest : List Value} (hC : Cx p s m args c cc nL RX3 G tys A) (q0 : Nat) {a : Nat} {fs : List Value} {v : Value} (he : ws[q0]? = some (a, .inr (3, fs))) (hv : fs[4]? = some v) (hdg : decode cc pc = .ok (.getfield 16, 3)) (hn : pc + 3 = n) (k : ZZ p l e R s m args below meth c G A nL cells slots Q ws lv n (v :: rest)) : ZZ p l e R s m args below meth c G A nL cells slots Q ws lv pc (.ref a :: rest) := z_get hC 4 inX3 rfl (by decide) q50 q0 he hv hdg hn k
theorem gf_X3_19 {p : Program} {l : Launch} {e : Env} {R : Room} {s : State} {m : MethodId} {args : Array Value} {below : List Frame} {meth : Method} {c : Code} {cc : ByteArray} {nL : Nat} {G : va_G} {tys : List (ClassId × FieldType)} {A : Nat → Prop} {cells slots : Nat} {Q : State → Prop} {ws : va_W} {lv : List (Nat × Value)} {pc n : Nat} {rest : List Value} (hC : Cx p s m args c cc nL RX3 G tys A) (q0 : Nat) {a : Nat} {fs : List Value} {v : Value} (he : ws[q0]? = some (a, .inr (3, fs))) (hv : fs[5]? = some v) (hdg : decode cc pc = .ok (.getfield 19, 3)) (hn : pc + 3 = n) (k : ZZ p l e R s m args below meth c G A nL cells slots Q ws lv n (v :: rest)) : ZZ p l e R s m args below meth c G A nL cells slots Q ws lv pc (.ref a :: rest) := z_get hC 5 inX3 rfl (by decide) q51 q0 he hv hdg hn k
theorem gf_X3_22 {p : Program} {l : Launch} {e : Env} {R : Room} {s : State} {m : MethodId} {args : Array Value} {below : List Frame} {meth : Method} {c : Code} {cc : ByteArray} {nL : Nat} {G : va_G} {tys : List (ClassId × FieldType)} {A : Nat → Prop} {cells slots : Nat} {Q : State → Prop} {ws : va_W} {lv : List (Nat × Value)} {pc n : Nat} {rest : List Value} (hC : Cx p s m args c cc nL RX3 G tys A) (q0 : Nat) {a : Nat} {fs : List Value} {v : Value} (he : ws[q0]? = some (a, .inr (3, fs))) (hv : fs[6]? = some v) (hdg : decode cc pc = .ok (.getfield 22, 3)) (hn : pc + 3 = n) (k : ZZ p l e R s m args below meth c G A nL cells slots Q ws lv n (v :: rest)) : ZZ p l e R s m args below meth c G A nL cells slots Q ws lv pc (.ref a :: rest) := z_get hC 6 inX3 rfl (by decide) q52 q0 he hv hdg hn k
theorem gf_X3_25 {p : Program} {l : Launch} {e : Env} {R : Room} {s : State} {m : MethodId} {args : Array Value} {below : List Frame} {meth : Method} {c : Code} {cc : ByteArray} {nL : Nat} {G : va_G} {tys : List (ClassId × FieldType)} {A : Nat → Prop} {cells slots : Nat} {Q : State → Prop} {ws : va_W} {lv : List (Nat × Value)} {pc n : Nat} {rest : List Value} (hC : Cx p s m args c cc nL RX3 G tys A) (q0 : Nat) {a : Nat} {fs : List Value} {v : Value} (he : ws[q0]? = some (a, .inr (3, fs))) (hv : fs[7]? = some v) (hdg : decode cc pc = .ok (.getfield 25, 3)) (hn : pc + 3 = n) (k : ZZ p l e R s m args below meth c G A nL cells slots Q ws lv n (v :: rest)) : ZZ p l e R s m args below meth c G A nL cells slots Q ws lv pc (.ref a :: rest) := z_get hC 7 inX3 rfl (by decide) q53 q0 he hv hdg hn k
theorem kd_yX2_init : yX2_init.cls ≠ "java/lang/invoke/MethodHandle" ∧ yX2_init.cls ≠ "java/lang/invoke/VarHandle" ∧ (parseMethodDescriptor yX2_init.desc).map (fun d => d.parameters.length) = some 0 := by decide +kernel
theorem kg_L_79 : GoodIn zAW ((.code yX2_init prog_1_method_1_code 1 none) :: zAW) := aw_cd q54
theorem kd_yX1_init : yX1_init.cls ≠ "java/lang/invoke/MethodHandle" ∧ yX1_init.cls ≠ "java/lang/invoke/VarHandle" ∧ (parseMethodDescriptor yX1_init.desc).map (fun d => d.parameters.length) = some 0 := by decide +kernel
theorem kg_X2_9 : GoodIn zAW ((.code yX1_init prog_3_method_1_code 2 none) :: zAW) := aw_cd q59
theorem kd_yX0_init : yX0_init.cls ≠ "java/lang/invoke/MethodHandle" ∧ yX0_init.cls ≠ "java/lang/invoke/VarHandle" ∧ (parseMethodDescriptor yX0_init.desc).map (fun d => d.parameters.length) = some 0 := by decide +kernel
theorem kg_X2_18 : GoodIn zAW ((.code yX0_init prog_2_method_1_code 1 none) :: zAW) := aw_cd q64
theorem kd_yX2_turn : yX2_turn.cls = RX2 ∧ yX2_turn.cls ≠ "java/lang/invoke/MethodHandle" ∧ yX2_turn.cls ≠ "java/lang/invoke/VarHandle" ∧ (parseMethodDescriptor yX2_turn.desc).map (fun d => d.parameters.length) = some 0 := by decide +kernel
theorem kg_L_107 : GoodIn zAW (wsV RL 107 RX2 yX2_turn ((.code yX2_turn prog_1_method_7_code 1 (some .int)) :: zAW)) := aw_V q67 q68 q69 q57 q66
theorem kd_yX2_guns : yX2_guns.cls = RX2 ∧ yX2_guns.cls ≠ "java/lang/invoke/MethodHandle" ∧ yX2_guns.cls ≠ "java/lang/invoke/VarHandle" ∧ (parseMethodDescriptor yX2_guns.desc).map (fun d => d.parameters.length) = some 0 := by decide +kernel
theorem kg_L_123 : GoodIn zAW (wsV RL 123 RX2 yX2_guns ((.code yX2_guns prog_1_method_12_code 1 (some .int)) :: zAW)) := aw_V q71 q72 q73 q57 q70
theorem kd_yX2_leader : yX2_leader.cls = RX2 ∧ yX2_leader.cls ≠ "java/lang/invoke/MethodHandle" ∧ yX2_leader.cls ≠ "java/lang/invoke/VarHandle" ∧ (parseMethodDescriptor yX2_leader.desc).map (fun d => d.parameters.length) = some 0 := by decide +kernel
theorem kg_L_142 : GoodIn zAW (wsV RL 142 RX2 yX2_leader ((.code yX2_leader prog_1_method_18_code 1 (some .int)) :: zAW)) := aw_V q75 q76 q77 q57 q74
theorem kd_yX0_leading : yX0_leading.cls = RX0 ∧ yX0_leading.cls ≠ "java/lang/invoke/MethodHandle" ∧ yX0_leading.cls ≠ "java/lang/invoke/VarHandle" ∧ (parseMethodDescriptor yX0_leading.desc).map (fun d => d.parameters.length) = some 0 := by decide +kernel
theorem kg_X2_118 : GoodIn zAW (wsV RX2 118 RX0 yX0_leading ((.code yX0_leading prog_2_method_9_code 3 (some .int)) :: zAW)) := aw_V q79 q80 q81 q82 q78
theorem kd_yX2_tied : yX2_tied.cls = RX2 ∧ yX2_tied.cls ≠ "java/lang/invoke/MethodHandle" ∧ yX2_tied.cls ≠ "java/lang/invoke/VarHandle" ∧ (parseMethodDescriptor yX2_tied.desc).map (fun d => d.parameters.length) = some 0 := by decide +kernel
theorem kg_L_146 : GoodIn zAW (wsV RL 146 RX2 yX2_tied ((.code yX2_tied prog_1_method_19_code 1 (some .int)) :: zAW)) := aw_V q84 q85 q86 q57 q83
theorem kd_yX0_countTied : yX0_countTied.cls = RX0 ∧ yX0_countTied.cls ≠ "java/lang/invoke/MethodHandle" ∧ yX0_countTied.cls ≠ "java/lang/invoke/VarHandle" ∧ (parseMethodDescriptor yX0_countTied.desc).map (fun d => d.parameters.length) = some 0 := by decide +kernel
theorem kg_X2_121 : GoodIn zAW (wsV RX2 121 RX0 yX0_countTied ((.code yX0_countTied prog_2_method_10_code 4 (some .int)) :: zAW)) := aw_V q88 q89 q90 q82 q87
theorem kg_X0_70 : GoodIn zAW (wsV RX0 70 RX0 yX0_leading ((.code yX0_leading prog_2_method_9_code 3 (some .int)) :: zAW)) := aw_V q91 q80 q81 q82 q78
theorem kd_yX2_wouldWin : yX2_wouldWin.cls = RX2 ∧ yX2_wouldWin.cls ≠ "java/lang/invoke/MethodHandle" ∧ yX2_wouldWin.cls ≠ "java/lang/invoke/VarHandle" ∧ (parseMethodDescriptor yX2_wouldWin.desc).map (fun d => d.parameters.length) = some 0 := by decide +kernel
theorem kg_L_162 : GoodIn zAW (wsV RL 162 RX2 yX2_wouldWin ((.code yX2_wouldWin prog_1_method_24_code 1 (some .int)) :: zAW)) := aw_V q93 q94 q95 q57 q92
theorem kd_yX0_takeOver : yX0_takeOver.cls = RX0 ∧ yX0_takeOver.cls ≠ "java/lang/invoke/MethodHandle" ∧ yX0_takeOver.cls ≠ "java/lang/invoke/VarHandle" ∧ (parseMethodDescriptor yX0_takeOver.desc).map (fun d => d.parameters.length) = some 1 := by decide +kernel
theorem kg_X2_127 : GoodIn zAW (wsV RX2 127 RX0 yX0_takeOver ((.code yX0_takeOver prog_2_method_3_code 3 none) :: zAW)) := aw_V q97 q98 q99 q82 q96
theorem kd_yX0_settleTie : yX0_settleTie.cls = RX0 ∧ yX0_settleTie.cls ≠ "java/lang/invoke/MethodHandle" ∧ yX0_settleTie.cls ≠ "java/lang/invoke/VarHandle" ∧ (parseMethodDescriptor yX0_settleTie.desc).map (fun d => d.parameters.length) = some 0 := by decide +kernel
theorem kg_X2_81 : GoodIn zAW (wsV RX2 81 RX0 yX0_settleTie ((.code yX0_settleTie prog_2_method_13_code 3 (some .int)) :: zAW)) := aw_V q101 q102 q103 q82 q100
theorem kd_yX0_countLeft : yX0_countLeft.cls = RX0 ∧ yX0_countLeft.cls ≠ "java/lang/invoke/MethodHandle" ∧ yX0_countLeft.cls ≠ "java/lang/invoke/VarHandle" ∧ (parseMethodDescriptor yX0_countLeft.desc).map (fun d => d.parameters.length) = some 0 := by decide +kernel
theorem kg_X0_74 : GoodIn zAW (wsV RX0 74 RX0 yX0_countLeft ((.code yX0_countLeft prog_2_method_16_code 3 (some .int)) :: zAW)) := aw_V q105 q106 q107 q82 q104
theorem kd_yX0_shootRound : yX0_shootRound.cls = RX0 ∧ yX0_shootRound.cls ≠ "java/lang/invoke/MethodHandle" ∧ yX0_shootRound.cls ≠ "java/lang/invoke/VarHandle" ∧ (parseMethodDescriptor yX0_shootRound.desc).map (fun d => d.parameters.length) = some 1 := by decide +kernel
theorem kg_X0_77 : GoodIn zAW (wsV RX0 77 RX0 yX0_shootRound ((.code yX0_shootRound prog_2_method_14_code 4 none) :: zAW)) := aw_V q109 q110 q111 q82 q108
theorem kd_yX0_trouble : yX0_trouble.cls = RX0 ∧ yX0_trouble.cls ≠ "java/lang/invoke/MethodHandle" ∧ yX0_trouble.cls ≠ "java/lang/invoke/VarHandle" ∧ (parseMethodDescriptor yX0_trouble.desc).map (fun d => d.parameters.length) = some 2 := by decide +kernel
theorem kg_X0_41 : GoodIn zAW (wsV RX0 41 RX0 yX0_trouble ((.code yX0_trouble prog_2_method_4_code 4 (some .int)) :: zAW)) := aw_V q113 q114 q115 q82 q112
theorem kd_yX0_keepThoseWhoHit : yX0_keepThoseWhoHit.cls = RX0 ∧ yX0_keepThoseWhoHit.cls ≠ "java/lang/invoke/MethodHandle" ∧ yX0_keepThoseWhoHit.cls ≠ "java/lang/invoke/VarHandle" ∧ (parseMethodDescriptor yX0_keepThoseWhoHit.desc).map (fun d => d.parameters.length) = some 0 := by decide +kernel
theorem kg_X0_84 : GoodIn zAW (wsV RX0 84 RX0 yX0_keepThoseWhoHit ((.code yX0_keepThoseWhoHit prog_2_method_15_code 2 none) :: zAW)) := aw_V q117 q118 q119 q82 q116
theorem kd_yX0_firstLeft : yX0_firstLeft.cls = RX0 ∧ yX0_firstLeft.cls ≠ "java/lang/invoke/MethodHandle" ∧ yX0_firstLeft.cls ≠ "java/lang/invoke/VarHandle" ∧ (parseMethodDescriptor yX0_firstLeft.desc).map (fun d => d.parameters.length) = some 0 := by decide +kernel
theorem kg_X0_81 : GoodIn zAW (wsV RX0 81 RX0 yX0_firstLeft ((.code yX0_firstLeft prog_2_method_17_code 2 (some .int)) :: zAW)) := aw_V q121 q122 q123 q82 q120
theorem kd_yX2_meanScore : yX2_meanScore.cls = RX2 ∧ yX2_meanScore.cls ≠ "java/lang/invoke/MethodHandle" ∧ yX2_meanScore.cls ≠ "java/lang/invoke/VarHandle" ∧ (parseMethodDescriptor yX2_meanScore.desc).map (fun d => d.parameters.length) = some 0 := by decide +kernel
theorem kg_L_172 : GoodIn zAW (wsV RL 172 RX2 yX2_meanScore ((.code yX2_meanScore prog_1_method_27_code 1 (some .double)) :: zAW)) := aw_V q125 q126 q127 q57 q124
theorem kd_yX0_totalScore : yX0_totalScore.cls = RX0 ∧ yX0_totalScore.cls ≠ "java/lang/invoke/MethodHandle" ∧ yX0_totalScore.cls ≠ "java/lang/invoke/VarHandle" ∧ (parseMethodDescriptor yX0_totalScore.desc).map (fun d => d.parameters.length) = some 0 := by decide +kernel
theorem kg_X2_149 : GoodIn zAW (wsV RX2 149 RX0 yX0_totalScore ((.code yX0_totalScore prog_2_method_12_code 3 (some .int)) :: zAW)) := aw_V q129 q130 q131 q82 q128
theorem kd_yX2_digest : yX2_digest.cls = RX2 ∧ yX2_digest.cls ≠ "java/lang/invoke/MethodHandle" ∧ yX2_digest.cls ≠ "java/lang/invoke/VarHandle" ∧ (parseMethodDescriptor yX2_digest.desc).map (fun d => d.parameters.length) = some 0 := by decide +kernel
theorem kg_L_177 : GoodIn zAW (wsV RL 177 RX2 yX2_digest ((.code yX2_digest prog_1_method_28_code 5 (some .long)) :: zAW)) := aw_V q133 q134 q135 q57 q132
theorem kg_X2_154 : GoodIn zAW (wsV RX2 154 RX2 yX2_turn ((.code yX2_turn prog_1_method_7_code 1 (some .int)) :: zAW)) := aw_V q136 q68 q69 q57 q66
theorem kd_yX2_fold : yX2_fold.cls ≠ "java/lang/invoke/MethodHandle" ∧ yX2_fold.cls ≠ "java/lang/invoke/VarHandle" ∧ (parseMethodDescriptor yX2_fold.desc).map (fun d => d.parameters.length) = some 2 := by decide +kernel
theorem kg_X2_156 : GoodIn zAW (va_wsS RX2 156 yX2_fold ((.code yX2_fold prog_1_method_35_code 4 (some .long)) :: zAW)) := aw_S q138 q139 q57 q137
theorem kg_X2_160 : GoodIn zAW (wsV RX2 160 RX2 yX2_guns ((.code yX2_guns prog_1_method_12_code 1 (some .int)) :: zAW)) := aw_V q140 q72 q73 q57 q70
theorem kg_X2_163 : GoodIn zAW (wsV RX2 163 RX2 yX2_leader ((.code yX2_leader prog_1_method_18_code 1 (some .int)) :: zAW)) := aw_V q141 q76 q77 q57 q74
theorem kg_X2_166 : GoodIn zAW (wsV RX2 166 RX2 yX2_tied ((.code yX2_tied prog_1_method_19_code 1 (some .int)) :: zAW)) := aw_V q142 q85 q86 q57 q83
theorem kg_X2_169 : GoodIn zAW (wsV RX2 169 RX2 yX2_wouldWin ((.code yX2_wouldWin prog_1_method_24_code 1 (some .int)) :: zAW)) := aw_V q143 q94 q95 q57 q92
theorem kd_yX2_leaderIn : yX2_leaderIn.cls = RX2 ∧ yX2_leaderIn.cls ≠ "java/lang/invoke/MethodHandle" ∧ yX2_leaderIn.cls ≠ "java/lang/invoke/VarHandle" ∧ (parseMethodDescriptor yX2_leaderIn.desc).map (fun d => d.parameters.length) = some 1 := by decide +kernel
theorem kg_X2_172 : GoodIn zAW (wsV RX2 172 RX2 yX2_leaderIn ((.code yX2_leaderIn prog_1_method_23_code 2 (some .int)) :: zAW)) := aw_V q145 q146 q147 q57 q144
theorem kd_yX2_checkTurns : yX2_checkTurns.cls ≠ "java/lang/invoke/MethodHandle" ∧ yX2_checkTurns.cls ≠ "java/lang/invoke/VarHandle" ∧ (parseMethodDescriptor yX2_checkTurns.desc).map (fun d => d.parameters.length) = some 1 := by decide +kernel
theorem kg_X2_69 : GoodIn zAW (va_wsS RX2 69 yX2_checkTurns ((.code yX2_checkTurns prog_1_method_31_code 1 none) :: zAW)) := aw_S q149 q150 q57 q148
theorem kd_yX0_play : yX0_play.cls = RX0 ∧ yX0_play.cls ≠ "java/lang/invoke/MethodHandle" ∧ yX0_play.cls ≠ "java/lang/invoke/VarHandle" ∧ (parseMethodDescriptor yX0_play.desc).map (fun d => d.parameters.length) = some 3 := by decide +kernel
theorem kg_X2_75 : GoodIn zAW (wsV RX2 75 RX0 yX0_play ((.code yX0_play prog_2_method_8_code 7 (some .int)) :: zAW)) := aw_V q153 q154 q155 q82 q152
theorem kd_yX0_playAlone : yX0_playAlone.cls = RX0 ∧ yX0_playAlone.cls ≠ "java/lang/invoke/MethodHandle" ∧ yX0_playAlone.cls ≠ "java/lang/invoke/VarHandle" ∧ (parseMethodDescriptor yX0_playAlone.desc).map (fun d => d.parameters.length) = some 4 := by decide +kernel
theorem kg_X0_66 : GoodIn zAW (wsV RX0 66 RX0 yX0_playAlone ((.code yX0_playAlone prog_2_method_7_code 7 none) :: zAW)) := aw_V q157 q158 q159 q82 q156
theorem kd_yX1_amountIn : yX1_amountIn.cls = RX1 ∧ yX1_amountIn.cls ≠ "java/lang/invoke/MethodHandle" ∧ yX1_amountIn.cls ≠ "java/lang/invoke/VarHandle" ∧ (parseMethodDescriptor yX1_amountIn.desc).map (fun d => d.parameters.length) = some 2 := by decide +kernel
theorem kg_X0_48 : GoodIn zAW (wsV RX0 48 RX1 yX1_amountIn ((.code yX1_amountIn prog_3_method_5_code 3 (some .int)) :: zAW)) := aw_V q161 q162 q163 q62 q160
theorem kd_yX1_angleIn : yX1_angleIn.cls = RX1 ∧ yX1_angleIn.cls ≠ "java/lang/invoke/MethodHandle" ∧ yX1_angleIn.cls ≠ "java/lang/invoke/VarHandle" ∧ (parseMethodDescriptor yX1_angleIn.desc).map (fun d => d.parameters.length) = some 2 := by decide +kernel
theorem kg_X1_34 : GoodIn zAW (wsV RX1 34 RX1 yX1_angleIn ((.code yX1_angleIn prog_3_method_3_code 3 (some .int)) :: zAW)) := aw_V q165 q166 q167 q62 q164
theorem kd_yX2_standIn : yX2_standIn.cls ≠ "java/lang/invoke/MethodHandle" ∧ yX2_standIn.cls ≠ "java/lang/invoke/VarHandle" ∧ (parseMethodDescriptor yX2_standIn.desc).map (fun d => d.parameters.length) = some 2 := by decide +kernel
theorem kg_X1_18 : GoodIn zAW ((.code yX2_standIn prog_1_method_33_code 2 (some .int)) :: zAW) := aw_cd q168
theorem kd_yJ9_floorMod_7cf53 : yJ9_floorMod_7cf53.cls ≠ "java/lang/invoke/MethodHandle" ∧ yJ9_floorMod_7cf53.cls ≠ "java/lang/invoke/VarHandle" ∧ (parseMethodDescriptor yJ9_floorMod_7cf53.desc).map (fun d => d.parameters.length) = some 2 := by decide +kernel
theorem kg_X2_217 : GoodIn zAW (va_wsS RX2 217 yJ9_floorMod_7cf53 ((.code yJ9_floorMod_7cf53 prog_11_method_50_code 3 (some .int)) :: zAW)) := aw_S q171 q172 q173 q170
theorem kd_yX2_clayIn : yX2_clayIn.cls ≠ "java/lang/invoke/MethodHandle" ∧ yX2_clayIn.cls ≠ "java/lang/invoke/VarHandle" ∧ (parseMethodDescriptor yX2_clayIn.desc).map (fun d => d.parameters.length) = some 1 := by decide +kernel
theorem kg_X1_22 : GoodIn zAW ((.code yX2_clayIn prog_1_method_32_code 1 (some .int)) :: zAW) := aw_cd q174
theorem kd_yX1_angleAt : yX1_angleAt.cls = RX1 ∧ yX1_angleAt.cls ≠ "java/lang/invoke/MethodHandle" ∧ yX1_angleAt.cls ≠ "java/lang/invoke/VarHandle" ∧ (parseMethodDescriptor yX1_angleAt.desc).map (fun d => d.parameters.length) = some 2 := by decide +kernel
theorem kg_X1_26 : GoodIn zAW (wsV RX1 26 RX1 yX1_angleAt ((.code yX1_angleAt prog_3_method_2_code 3 (some .int)) :: zAW)) := aw_V q177 q178 q179 q62 q176
theorem kd_yX0_shoot : yX0_shoot.cls = RX0 ∧ yX0_shoot.cls ≠ "java/lang/invoke/MethodHandle" ∧ yX0_shoot.cls ≠ "java/lang/invoke/VarHandle" ∧ (parseMethodDescriptor yX0_shoot.desc).map (fun d => d.parameters.length) = some 2 := by decide +kernel
theorem kg_X0_53 : GoodIn zAW (wsV RX0 53 RX0 yX0_shoot ((.code yX0_shoot prog_2_method_6_code 4 none) :: zAW)) := aw_V q182 q183 q184 q82 q181
theorem kd_yX0_outcome : yX0_outcome.cls = RX0 ∧ yX0_outcome.cls ≠ "java/lang/invoke/MethodHandle" ∧ yX0_outcome.cls ≠ "java/lang/invoke/VarHandle" ∧ (parseMethodDescriptor yX0_outcome.desc).map (fun d => d.parameters.length) = some 2 := by decide +kernel
theorem kg_X0_45 : GoodIn zAW (wsV RX0 45 RX0 yX0_outcome ((.code yX0_outcome prog_2_method_5_code 3 (some .int)) :: zAW)) := aw_V q186 q187 q188 q82 q185
theorem kg_X0_57 : GoodIn zAW ((.code yX2_clayIn prog_1_method_32_code 1 (some .int)) :: zAW) := aw_cd q174
theorem kd_yX2_angle : yX2_angle.cls = RX2 ∧ yX2_angle.cls ≠ "java/lang/invoke/MethodHandle" ∧ yX2_angle.cls ≠ "java/lang/invoke/VarHandle" ∧ (parseMethodDescriptor yX2_angle.desc).map (fun d => d.parameters.length) = some 2 := by decide +kernel
theorem kg_X2_175 : GoodIn zAW (wsV RX2 175 RX2 yX2_angle ((.code yX2_angle prog_1_method_8_code 3 (some .int)) :: zAW)) := aw_V q191 q192 q193 q57 q190
theorem kd_yX2_checkStand : yX2_checkStand.cls ≠ "java/lang/invoke/MethodHandle" ∧ yX2_checkStand.cls ≠ "java/lang/invoke/VarHandle" ∧ (parseMethodDescriptor yX2_checkStand.desc).map (fun d => d.parameters.length) = some 1 := by decide +kernel
theorem kg_X2_48 : GoodIn zAW (va_wsS RX2 48 yX2_checkStand ((.code yX2_checkStand prog_1_method_29_code 1 none) :: zAW)) := aw_S q195 q196 q57 q194
theorem kg_X2_90 : GoodIn zAW (wsV RX2 90 RX1 yX1_angleAt ((.code yX1_angleAt prog_3_method_2_code 3 (some .int)) :: zAW)) := aw_V q198 q178 q179 q62 q176
theorem kd_yX2_hardestClay : yX2_hardestClay.cls = RX2 ∧ yX2_hardestClay.cls ≠ "java/lang/invoke/MethodHandle" ∧ yX2_hardestClay.cls ≠ "java/lang/invoke/VarHandle" ∧ (parseMethodDescriptor yX2_hardestClay.desc).map (fun d => d.parameters.length) = some 1 := by decide +kernel
theorem kg_X2_178 : GoodIn zAW (wsV RX2 178 RX2 yX2_hardestClay ((.code yX2_hardestClay prog_1_method_9_code 2 (some .int)) :: zAW)) := aw_V q200 q201 q202 q57 q199
theorem kd_yX1_hardestAt : yX1_hardestAt.cls = RX1 ∧ yX1_hardestAt.cls ≠ "java/lang/invoke/MethodHandle" ∧ yX1_hardestAt.cls ≠ "java/lang/invoke/VarHandle" ∧ (parseMethodDescriptor yX1_hardestAt.desc).map (fun d => d.parameters.length) = some 1 := by decide +kernel
theorem kg_X2_93 : GoodIn zAW (wsV RX2 93 RX1 yX1_hardestAt ((.code yX1_hardestAt prog_3_method_6_code 4 (some .int)) :: zAW)) := aw_V q204 q205 q206 q62 q203
theorem kd_yX1_amountAt : yX1_amountAt.cls = RX1 ∧ yX1_amountAt.cls ≠ "java/lang/invoke/MethodHandle" ∧ yX1_amountAt.cls ≠ "java/lang/invoke/VarHandle" ∧ (parseMethodDescriptor yX1_amountAt.desc).map (fun d => d.parameters.length) = some 2 := by decide +kernel
theorem kg_X1_37 : GoodIn zAW (wsV RX1 37 RX1 yX1_amountAt ((.code yX1_amountAt prog_3_method_4_code 3 (some .int)) :: zAW)) := aw_V q208 q209 q210 q62 q207
theorem kd_yX2_standOf : yX2_standOf.cls = RX2 ∧ yX2_standOf.cls ≠ "java/lang/invoke/MethodHandle" ∧ yX2_standOf.cls ≠ "java/lang/invoke/VarHandle" ∧ (parseMethodDescriptor yX2_standOf.desc).map (fun d => d.parameters.length) = some 1 := by decide +kernel
theorem kg_X2_181 : GoodIn zAW (wsV RX2 181 RX2 yX2_standOf ((.code yX2_standOf prog_1_method_10_code 2 (some .int)) :: zAW)) := aw_V q212 q213 q214 q57 q211
theorem kd_yX2_checkGun : yX2_checkGun.cls = RX2 ∧ yX2_checkGun.cls ≠ "java/lang/invoke/MethodHandle" ∧ yX2_checkGun.cls ≠ "java/lang/invoke/VarHandle" ∧ (parseMethodDescriptor yX2_checkGun.desc).map (fun d => d.parameters.length) = some 1 := by decide +kernel
theorem kg_X2_63 : GoodIn zAW (wsV RX2 63 RX2 yX2_checkGun ((.code yX2_checkGun prog_1_method_30_code 2 none) :: zAW)) := aw_V q216 q217 q218 q57 q215
theorem kg_X2_97 : GoodIn zAW (va_wsS RX2 97 yX2_standIn ((.code yX2_standIn prog_1_method_33_code 2 (some .int)) :: zAW)) := aw_S q219 q169 q57 q168
theorem kd_yX2_angleFor : yX2_angleFor.cls = RX2 ∧ yX2_angleFor.cls ≠ "java/lang/invoke/MethodHandle" ∧ yX2_angleFor.cls ≠ "java/lang/invoke/VarHandle" ∧ (parseMethodDescriptor yX2_angleFor.desc).map (fun d => d.parameters.length) = some 1 := by decide +kernel
theorem kg_X2_184 : GoodIn zAW (wsV RX2 184 RX2 yX2_angleFor ((.code yX2_angleFor prog_1_method_11_code 2 (some .int)) :: zAW)) := aw_V q221 q222 q223 q57 q220
theorem kg_X2_100 : GoodIn zAW (wsV RX2 100 RX1 yX1_angleIn ((.code yX1_angleIn prog_3_method_3_code 3 (some .int)) :: zAW)) := aw_V q224 q166 q167 q62 q164
theorem kd_yX2_scoreOf : yX2_scoreOf.cls = RX2 ∧ yX2_scoreOf.cls ≠ "java/lang/invoke/MethodHandle" ∧ yX2_scoreOf.cls ≠ "java/lang/invoke/VarHandle" ∧ (parseMethodDescriptor yX2_scoreOf.desc).map (fun d => d.parameters.length) = some 1 := by decide +kernel
theorem kg_X2_187 : GoodIn zAW (wsV RX2 187 RX2 yX2_scoreOf ((.code yX2_scoreOf prog_1_method_13_code 2 (some .int)) :: zAW)) := aw_V q226 q227 q228 q57 q225
theorem kd_yX2_firstsOf : yX2_firstsOf.cls = RX2 ∧ yX2_firstsOf.cls ≠ "java/lang/invoke/MethodHandle" ∧ yX2_firstsOf.cls ≠ "java/lang/invoke/VarHandle" ∧ (parseMethodDescriptor yX2_firstsOf.desc).map (fun d => d.parameters.length) = some 1 := by decide +kernel
theorem kg_X2_190 : GoodIn zAW (wsV RX2 190 RX2 yX2_firstsOf ((.code yX2_firstsOf prog_1_method_14_code 2 (some .int)) :: zAW)) := aw_V q230 q231 q232 q57 q229
theorem kd_yX2_missesOf : yX2_missesOf.cls = RX2 ∧ yX2_missesOf.cls ≠ "java/lang/invoke/MethodHandle" ∧ yX2_missesOf.cls ≠ "java/lang/invoke/VarHandle" ∧ (parseMethodDescriptor yX2_missesOf.desc).map (fun d => d.parameters.length) = some 1 := by decide +kernel
theorem kg_X2_193 : GoodIn zAW (wsV RX2 193 RX2 yX2_missesOf ((.code yX2_missesOf prog_1_method_15_code 2 (some .int)) :: zAW)) := aw_V q234 q235 q236 q57 q233
theorem kd_yX2_fatigueOf : yX2_fatigueOf.cls = RX2 ∧ yX2_fatigueOf.cls ≠ "java/lang/invoke/MethodHandle" ∧ yX2_fatigueOf.cls ≠ "java/lang/invoke/VarHandle" ∧ (parseMethodDescriptor yX2_fatigueOf.desc).map (fun d => d.parameters.length) = some 1 := by decide +kernel
theorem kg_X2_196 : GoodIn zAW (wsV RX2 196 RX2 yX2_fatigueOf ((.code yX2_fatigueOf prog_1_method_16_code 2 (some .int)) :: zAW)) := aw_V q238 q239 q240 q57 q237
theorem kd_yX2_wouldHit : yX2_wouldHit.cls = RX2 ∧ yX2_wouldHit.cls ≠ "java/lang/invoke/MethodHandle" ∧ yX2_wouldHit.cls ≠ "java/lang/invoke/VarHandle" ∧ (parseMethodDescriptor yX2_wouldHit.desc).map (fun d => d.parameters.length) = some 1 := by decide +kernel
theorem kg_X2_199 : GoodIn zAW (wsV RX2 199 RX2 yX2_wouldHit ((.code yX2_wouldHit prog_1_method_17_code 2 (some .int)) :: zAW)) := aw_V q242 q243 q244 q57 q241
theorem kg_X2_112 : GoodIn zAW (wsV RX2 112 RX1 yX1_amountIn ((.code yX1_amountIn prog_3_method_5_code 3 (some .int)) :: zAW)) := aw_V q245 q162 q163 q62 q160
theorem kg_X2_115 : GoodIn zAW (wsV RX2 115 RX0 yX0_outcome ((.code yX0_outcome prog_2_method_5_code 3 (some .int)) :: zAW)) := aw_V q246 q187 q188 q82 q185
theorem kd_yX2_rankOf : yX2_rankOf.cls = RX2 ∧ yX2_rankOf.cls ≠ "java/lang/invoke/MethodHandle" ∧ yX2_rankOf.cls ≠ "java/lang/invoke/VarHandle" ∧ (parseMethodDescriptor yX2_rankOf.desc).map (fun d => d.parameters.length) = some 1 := by decide +kernel
theorem kg_X2_202 : GoodIn zAW (wsV RX2 202 RX2 yX2_rankOf ((.code yX2_rankOf prog_1_method_20_code 2 (some .int)) :: zAW)) := aw_V q248 q249 q250 q57 q247
theorem kd_yX0_countAbove : yX0_countAbove.cls = RX0 ∧ yX0_countAbove.cls ≠ "java/lang/invoke/MethodHandle" ∧ yX0_countAbove.cls ≠ "java/lang/invoke/VarHandle" ∧ (parseMethodDescriptor yX0_countAbove.desc).map (fun d => d.parameters.length) = some 1 := by decide +kernel
theorem kg_X2_124 : GoodIn zAW (wsV RX2 124 RX0 yX0_countAbove ((.code yX0_countAbove prog_2_method_11_code 4 (some .int)) :: zAW)) := aw_V q252 q253 q254 q82 q251
theorem kd_yX2_turnsUntilMiss : yX2_turnsUntilMiss.cls = RX2 ∧ yX2_turnsUntilMiss.cls ≠ "java/lang/invoke/MethodHandle" ∧ yX2_turnsUntilMiss.cls ≠ "java/lang/invoke/VarHandle" ∧ (parseMethodDescriptor yX2_turnsUntilMiss.desc).map (fun d => d.parameters.length) = some 1 := by decide +kernel
theorem kg_X2_205 : GoodIn zAW (wsV RX2 205 RX2 yX2_turnsUntilMiss ((.code yX2_turnsUntilMiss prog_1_method_22_code 3 (some .int)) :: zAW)) := aw_V q256 q257 q258 q57 q255
theorem kd_yX2_bestRest : yX2_bestRest.cls = RX2 ∧ yX2_bestRest.cls ≠ "java/lang/invoke/MethodHandle" ∧ yX2_bestRest.cls ≠ "java/lang/invoke/VarHandle" ∧ (parseMethodDescriptor yX2_bestRest.desc).map (fun d => d.parameters.length) = some 1 := by decide +kernel
theorem kg_X2_208 : GoodIn zAW (wsV RX2 208 RX2 yX2_bestRest ((.code yX2_bestRest prog_1_method_25_code 6 (some .int)) :: zAW)) := aw_V q260 q261 q262 q57 q259
theorem kd_yX2_scoreWithRest : yX2_scoreWithRest.cls = RX2 ∧ yX2_scoreWithRest.cls ≠ "java/lang/invoke/MethodHandle" ∧ yX2_scoreWithRest.cls ≠ "java/lang/invoke/VarHandle" ∧ (parseMethodDescriptor yX2_scoreWithRest.desc).map (fun d => d.parameters.length) = some 2 := by decide +kernel
theorem kg_X2_138 : GoodIn zAW (wsV RX2 138 RX2 yX2_scoreWithRest ((.code yX2_scoreWithRest prog_1_method_34_code 3 (some .int)) :: zAW)) := aw_V q264 q265 q266 q57 q263
theorem kg_X2_131 : GoodIn zAW (wsV RX2 131 RX0 yX0_playAlone ((.code yX0_playAlone prog_2_method_7_code 7 none) :: zAW)) := aw_V q267 q158 q159 q82 q156
theorem kd_yL_addGun : yL_addGun.cls ≠ "java/lang/invoke/MethodHandle" ∧ yL_addGun.cls ≠ "java/lang/invoke/VarHandle" ∧ (parseMethodDescriptor yL_addGun.desc).map (fun d => d.parameters.length) = some 4 := by decide +kernel
theorem kg_L_83 : GoodIn zAW (va_wsS RL 83 yL_addGun ((.codeWith yL_addGun method_3_code 5 (some .int) [(0, 10, 13, 13), (0, 10, 17, 15)]) :: zAW)) := aw_S q269 q270 q271 q268
theorem kd_yX2_addGun : yX2_addGun.cls = RX2 ∧ yX2_addGun.cls ≠ "java/lang/invoke/MethodHandle" ∧ yX2_addGun.cls ≠ "java/lang/invoke/VarHandle" ∧ (parseMethodDescriptor yX2_addGun.desc).map (fun d => d.parameters.length) = some 2 := by decide +kernel
theorem kg_L_7 : GoodIn zAW (wsV RL 7 RX2 yX2_addGun ((.code yX2_addGun prog_1_method_2_code 3 (some .int)) :: zAW)) := aw_V q273 q274 q275 q57 q272
theorem kd_yX0_enter : yX0_enter.cls = RX0 ∧ yX0_enter.cls ≠ "java/lang/invoke/MethodHandle" ∧ yX0_enter.cls ≠ "java/lang/invoke/VarHandle" ∧ (parseMethodDescriptor yX0_enter.desc).map (fun d => d.parameters.length) = some 2 := by decide +kernel
theorem kg_X2_44 : GoodIn zAW (wsV RX2 44 RX0 yX0_enter ((.code yX0_enter prog_2_method_2_code 4 (some .int)) :: zAW)) := aw_V q278 q279 q280 q82 q277
theorem kd_yL_setTrap : yL_setTrap.cls ≠ "java/lang/invoke/MethodHandle" ∧ yL_setTrap.cls ≠ "java/lang/invoke/VarHandle" ∧ (parseMethodDescriptor yL_setTrap.desc).map (fun d => d.parameters.length) = some 5 := by decide +kernel
theorem kg_L_92 : GoodIn zAW (va_wsS RL 92 yL_setTrap ((.codeWith yL_setTrap method_4_code 6 (some .int) [(0, 12, 15, 21), (0, 12, 19, 13)]) :: zAW)) := aw_S q282 q283 q271 q281
theorem kd_yX2_setTrap : yX2_setTrap.cls = RX2 ∧ yX2_setTrap.cls ≠ "java/lang/invoke/MethodHandle" ∧ yX2_setTrap.cls ≠ "java/lang/invoke/VarHandle" ∧ (parseMethodDescriptor yX2_setTrap.desc).map (fun d => d.parameters.length) = some 3 := by decide +kernel
theorem kg_L_17 : GoodIn zAW (wsV RL 17 RX2 yX2_setTrap ((.code yX2_setTrap prog_1_method_3_code 5 (some .int)) :: zAW)) := aw_V q285 q286 q287 q57 q284
theorem kd_yL_rest : yL_rest.cls ≠ "java/lang/invoke/MethodHandle" ∧ yL_rest.cls ≠ "java/lang/invoke/VarHandle" ∧ (parseMethodDescriptor yL_rest.desc).map (fun d => d.parameters.length) = some 3 := by decide +kernel
theorem kg_L_96 : GoodIn zAW (va_wsS RL 96 yL_rest ((.codeWith yL_rest method_5_code 4 (some .int) [(0, 9, 12, 21)]) :: zAW)) := aw_S q289 q290 q271 q288
theorem kd_yX2_rest : yX2_rest.cls = RX2 ∧ yX2_rest.cls ≠ "java/lang/invoke/MethodHandle" ∧ yX2_rest.cls ≠ "java/lang/invoke/VarHandle" ∧ (parseMethodDescriptor yX2_rest.desc).map (fun d => d.parameters.length) = some 1 := by decide +kernel
theorem kg_L_23 : GoodIn zAW (wsV RL 23 RX2 yX2_rest ((.code yX2_rest prog_1_method_4_code 3 (some .int)) :: zAW)) := aw_V q292 q293 q294 q57 q291
theorem kd_yL_pass : yL_pass.cls ≠ "java/lang/invoke/MethodHandle" ∧ yL_pass.cls ≠ "java/lang/invoke/VarHandle" ∧ (parseMethodDescriptor yL_pass.desc).map (fun d => d.parameters.length) = some 3 := by decide +kernel
theorem kg_L_100 : GoodIn zAW (va_wsS RL 100 yL_pass ((.codeWith yL_pass method_6_code 4 (some .int) [(0, 9, 12, 13)]) :: zAW)) := aw_S q296 q297 q271 q295
theorem kd_yX2_pass : yX2_pass.cls = RX2 ∧ yX2_pass.cls ≠ "java/lang/invoke/MethodHandle" ∧ yX2_pass.cls ≠ "java/lang/invoke/VarHandle" ∧ (parseMethodDescriptor yX2_pass.desc).map (fun d => d.parameters.length) = some 1 := by decide +kernel
theorem kg_L_27 : GoodIn zAW (wsV RL 27 RX2 yX2_pass ((.code yX2_pass prog_1_method_5_code 3 (some .int)) :: zAW)) := aw_V q299 q300 q301 q57 q298
theorem kd_yL_shootOff : yL_shootOff.cls ≠ "java/lang/invoke/MethodHandle" ∧ yL_shootOff.cls ≠ "java/lang/invoke/VarHandle" ∧ (parseMethodDescriptor yL_shootOff.desc).map (fun d => d.parameters.length) = some 2 := by decide +kernel
theorem kg_L_103 : GoodIn zAW (va_wsS RL 103 yL_shootOff ((.codeWith yL_shootOff method_7_code 3 (some .int) [(0, 8, 11, 15)]) :: zAW)) := aw_S q303 q304 q271 q302
theorem kd_yX2_shootOff : yX2_shootOff.cls = RX2 ∧ yX2_shootOff.cls ≠ "java/lang/invoke/MethodHandle" ∧ yX2_shootOff.cls ≠ "java/lang/invoke/VarHandle" ∧ (parseMethodDescriptor yX2_shootOff.desc).map (fun d => d.parameters.length) = some 0 := by decide +kernel
theorem kg_L_30 : GoodIn zAW (wsV RL 30 RX2 yX2_shootOff ((.code yX2_shootOff prog_1_method_6_code 1 (some .int)) :: zAW)) := aw_V q306 q307 q308 q57 q305
theorem kd_yL_angle : yL_angle.cls ≠ "java/lang/invoke/MethodHandle" ∧ yL_angle.cls ≠ "java/lang/invoke/VarHandle" ∧ (parseMethodDescriptor yL_angle.desc).map (fun d => d.parameters.length) = some 4 := by decide +kernel
theorem kg_L_111 : GoodIn zAW (va_wsS RL 111 yL_angle ((.codeWith yL_angle method_8_code 5 (some .int) [(0, 10, 13, 21)]) :: zAW)) := aw_S q310 q311 q271 q309
theorem kg_L_34 : GoodIn zAW (wsV RL 34 RX2 yX2_angle ((.code yX2_angle prog_1_method_8_code 3 (some .int)) :: zAW)) := aw_V q312 q192 q193 q57 q190
theorem kd_yL_hardestClay : yL_hardestClay.cls ≠ "java/lang/invoke/MethodHandle" ∧ yL_hardestClay.cls ≠ "java/lang/invoke/VarHandle" ∧ (parseMethodDescriptor yL_hardestClay.desc).map (fun d => d.parameters.length) = some 3 := by decide +kernel
theorem kg_L_114 : GoodIn zAW (va_wsS RL 114 yL_hardestClay ((.codeWith yL_hardestClay method_9_code 4 (some .int) [(0, 9, 12, 21)]) :: zAW)) := aw_S q314 q315 q271 q313
theorem kg_L_37 : GoodIn zAW (wsV RL 37 RX2 yX2_hardestClay ((.code yX2_hardestClay prog_1_method_9_code 2 (some .int)) :: zAW)) := aw_V q316 q201 q202 q57 q199
theorem kd_yL_standOf : yL_standOf.cls ≠ "java/lang/invoke/MethodHandle" ∧ yL_standOf.cls ≠ "java/lang/invoke/VarHandle" ∧ (parseMethodDescriptor yL_standOf.desc).map (fun d => d.parameters.length) = some 3 := by decide +kernel
theorem kg_L_117 : GoodIn zAW (va_wsS RL 117 yL_standOf ((.codeWith yL_standOf method_10_code 4 (some .int) [(0, 9, 12, 21)]) :: zAW)) := aw_S q318 q319 q271 q317
theorem kg_L_40 : GoodIn zAW (wsV RL 40 RX2 yX2_standOf ((.code yX2_standOf prog_1_method_10_code 2 (some .int)) :: zAW)) := aw_V q320 q213 q214 q57 q211
theorem kd_yL_angleFor : yL_angleFor.cls ≠ "java/lang/invoke/MethodHandle" ∧ yL_angleFor.cls ≠ "java/lang/invoke/VarHandle" ∧ (parseMethodDescriptor yL_angleFor.desc).map (fun d => d.parameters.length) = some 3 := by decide +kernel
theorem kg_L_120 : GoodIn zAW (va_wsS RL 120 yL_angleFor ((.codeWith yL_angleFor method_11_code 4 (some .int) [(0, 9, 12, 21)]) :: zAW)) := aw_S q322 q323 q271 q321
theorem kg_L_43 : GoodIn zAW (wsV RL 43 RX2 yX2_angleFor ((.code yX2_angleFor prog_1_method_11_code 2 (some .int)) :: zAW)) := aw_V q324 q222 q223 q57 q220
theorem kd_yL_scoreOf : yL_scoreOf.cls ≠ "java/lang/invoke/MethodHandle" ∧ yL_scoreOf.cls ≠ "java/lang/invoke/VarHandle" ∧ (parseMethodDescriptor yL_scoreOf.desc).map (fun d => d.parameters.length) = some 3 := by decide +kernel
theorem kg_L_127 : GoodIn zAW (va_wsS RL 127 yL_scoreOf ((.codeWith yL_scoreOf method_12_code 4 (some .int) [(0, 9, 12, 21)]) :: zAW)) := aw_S q326 q327 q271 q325
theorem kg_L_46 : GoodIn zAW (wsV RL 46 RX2 yX2_scoreOf ((.code yX2_scoreOf prog_1_method_13_code 2 (some .int)) :: zAW)) := aw_V q328 q227 q228 q57 q225
theorem kd_yL_firstsOf : yL_firstsOf.cls ≠ "java/lang/invoke/MethodHandle" ∧ yL_firstsOf.cls ≠ "java/lang/invoke/VarHandle" ∧ (parseMethodDescriptor yL_firstsOf.desc).map (fun d => d.parameters.length) = some 3 := by decide +kernel
theorem kg_L_130 : GoodIn zAW (va_wsS RL 130 yL_firstsOf ((.codeWith yL_firstsOf method_13_code 4 (some .int) [(0, 9, 12, 21)]) :: zAW)) := aw_S q330 q331 q271 q329
theorem kg_L_49 : GoodIn zAW (wsV RL 49 RX2 yX2_firstsOf ((.code yX2_firstsOf prog_1_method_14_code 2 (some .int)) :: zAW)) := aw_V q332 q231 q232 q57 q229
theorem kd_yL_missesOf : yL_missesOf.cls ≠ "java/lang/invoke/MethodHandle" ∧ yL_missesOf.cls ≠ "java/lang/invoke/VarHandle" ∧ (parseMethodDescriptor yL_missesOf.desc).map (fun d => d.parameters.length) = some 3 := by decide +kernel
theorem kg_L_133 : GoodIn zAW (va_wsS RL 133 yL_missesOf ((.codeWith yL_missesOf method_14_code 4 (some .int) [(0, 9, 12, 21)]) :: zAW)) := aw_S q334 q335 q271 q333
theorem kg_L_52 : GoodIn zAW (wsV RL 52 RX2 yX2_missesOf ((.code yX2_missesOf prog_1_method_15_code 2 (some .int)) :: zAW)) := aw_V q336 q235 q236 q57 q233
theorem kd_yL_fatigueOf : yL_fatigueOf.cls ≠ "java/lang/invoke/MethodHandle" ∧ yL_fatigueOf.cls ≠ "java/lang/invoke/VarHandle" ∧ (parseMethodDescriptor yL_fatigueOf.desc).map (fun d => d.parameters.length) = some 3 := by decide +kernel
theorem kg_L_136 : GoodIn zAW (va_wsS RL 136 yL_fatigueOf ((.codeWith yL_fatigueOf method_15_code 4 (some .int) [(0, 9, 12, 21)]) :: zAW)) := aw_S q338 q339 q271 q337
theorem kg_L_55 : GoodIn zAW (wsV RL 55 RX2 yX2_fatigueOf ((.code yX2_fatigueOf prog_1_method_16_code 2 (some .int)) :: zAW)) := aw_V q340 q239 q240 q57 q237
theorem kd_yL_wouldHit : yL_wouldHit.cls ≠ "java/lang/invoke/MethodHandle" ∧ yL_wouldHit.cls ≠ "java/lang/invoke/VarHandle" ∧ (parseMethodDescriptor yL_wouldHit.desc).map (fun d => d.parameters.length) = some 3 := by decide +kernel
theorem kg_L_139 : GoodIn zAW (va_wsS RL 139 yL_wouldHit ((.codeWith yL_wouldHit method_16_code 4 (some .int) [(0, 9, 12, 21)]) :: zAW)) := aw_S q342 q343 q271 q341
theorem kg_L_58 : GoodIn zAW (wsV RL 58 RX2 yX2_wouldHit ((.code yX2_wouldHit prog_1_method_17_code 2 (some .int)) :: zAW)) := aw_V q344 q243 q244 q57 q241
theorem kd_yL_rankOf : yL_rankOf.cls ≠ "java/lang/invoke/MethodHandle" ∧ yL_rankOf.cls ≠ "java/lang/invoke/VarHandle" ∧ (parseMethodDescriptor yL_rankOf.desc).map (fun d => d.parameters.length) = some 3 := by decide +kernel
theorem kg_L_150 : GoodIn zAW (va_wsS RL 150 yL_rankOf ((.codeWith yL_rankOf method_17_code 4 (some .int) [(0, 9, 12, 21)]) :: zAW)) := aw_S q346 q347 q271 q345
theorem kg_L_61 : GoodIn zAW (wsV RL 61 RX2 yX2_rankOf ((.code yX2_rankOf prog_1_method_20_code 2 (some .int)) :: zAW)) := aw_V q348 q249 q250 q57 q247
theorem kd_yL_scoreIn : yL_scoreIn.cls ≠ "java/lang/invoke/MethodHandle" ∧ yL_scoreIn.cls ≠ "java/lang/invoke/VarHandle" ∧ (parseMethodDescriptor yL_scoreIn.desc).map (fun d => d.parameters.length) = some 4 := by decide +kernel
theorem kg_L_153 : GoodIn zAW (va_wsS RL 153 yL_scoreIn ((.codeWith yL_scoreIn method_18_code 5 (some .int) [(0, 10, 13, 21), (0, 10, 17, 13)]) :: zAW)) := aw_S q350 q351 q271 q349
theorem kd_yX2_scoreIn : yX2_scoreIn.cls = RX2 ∧ yX2_scoreIn.cls ≠ "java/lang/invoke/MethodHandle" ∧ yX2_scoreIn.cls ≠ "java/lang/invoke/VarHandle" ∧ (parseMethodDescriptor yX2_scoreIn.desc).map (fun d => d.parameters.length) = some 2 := by decide +kernel
theorem kg_L_64 : GoodIn zAW (wsV RL 64 RX2 yX2_scoreIn ((.code yX2_scoreIn prog_1_method_21_code 3 (some .int)) :: zAW)) := aw_V q353 q354 q355 q57 q352
theorem kd_yL_turnsUntilMiss : yL_turnsUntilMiss.cls ≠ "java/lang/invoke/MethodHandle" ∧ yL_turnsUntilMiss.cls ≠ "java/lang/invoke/VarHandle" ∧ (parseMethodDescriptor yL_turnsUntilMiss.desc).map (fun d => d.parameters.length) = some 3 := by decide +kernel
theorem kg_L_156 : GoodIn zAW (va_wsS RL 156 yL_turnsUntilMiss ((.codeWith yL_turnsUntilMiss method_19_code 4 (some .int) [(0, 9, 12, 21)]) :: zAW)) := aw_S q357 q358 q271 q356
theorem kg_L_67 : GoodIn zAW (wsV RL 67 RX2 yX2_turnsUntilMiss ((.code yX2_turnsUntilMiss prog_1_method_22_code 3 (some .int)) :: zAW)) := aw_V q359 q257 q258 q57 q255
theorem kd_yL_leaderIn : yL_leaderIn.cls ≠ "java/lang/invoke/MethodHandle" ∧ yL_leaderIn.cls ≠ "java/lang/invoke/VarHandle" ∧ (parseMethodDescriptor yL_leaderIn.desc).map (fun d => d.parameters.length) = some 3 := by decide +kernel
theorem kg_L_159 : GoodIn zAW (va_wsS RL 159 yL_leaderIn ((.codeWith yL_leaderIn method_20_code 4 (some .int) [(0, 9, 12, 13)]) :: zAW)) := aw_S q361 q362 q271 q360
theorem kg_L_70 : GoodIn zAW (wsV RL 70 RX2 yX2_leaderIn ((.code yX2_leaderIn prog_1_method_23_code 2 (some .int)) :: zAW)) := aw_V q363 q146 q147 q57 q144
theorem kd_yL_bestRest : yL_bestRest.cls ≠ "java/lang/invoke/MethodHandle" ∧ yL_bestRest.cls ≠ "java/lang/invoke/VarHandle" ∧ (parseMethodDescriptor yL_bestRest.desc).map (fun d => d.parameters.length) = some 3 := by decide +kernel
theorem kg_L_166 : GoodIn zAW (va_wsS RL 166 yL_bestRest ((.codeWith yL_bestRest method_21_code 4 (some .int) [(0, 9, 12, 21)]) :: zAW)) := aw_S q365 q366 q271 q364
theorem kg_L_73 : GoodIn zAW (wsV RL 73 RX2 yX2_bestRest ((.code yX2_bestRest prog_1_method_25_code 6 (some .int)) :: zAW)) := aw_V q367 q261 q262 q57 q259
theorem kd_yL_swingWanted : yL_swingWanted.cls ≠ "java/lang/invoke/MethodHandle" ∧ yL_swingWanted.cls ≠ "java/lang/invoke/VarHandle" ∧ (parseMethodDescriptor yL_swingWanted.desc).map (fun d => d.parameters.length) = some 3 := by decide +kernel
theorem kg_L_169 : GoodIn zAW (va_wsS RL 169 yL_swingWanted ((.codeWith yL_swingWanted method_22_code 4 (some .int) [(0, 9, 12, 21)]) :: zAW)) := aw_S q369 q370 q271 q368
theorem kd_yX2_swingWanted : yX2_swingWanted.cls = RX2 ∧ yX2_swingWanted.cls ≠ "java/lang/invoke/MethodHandle" ∧ yX2_swingWanted.cls ≠ "java/lang/invoke/VarHandle" ∧ (parseMethodDescriptor yX2_swingWanted.desc).map (fun d => d.parameters.length) = some 1 := by decide +kernel
theorem kg_L_76 : GoodIn zAW (wsV RL 76 RX2 yX2_swingWanted ((.code yX2_swingWanted prog_1_method_26_code 3 (some .int)) :: zAW)) := aw_V q372 q373 q374 q57 q371
theorem kd_yX1_greatestAmount : yX1_greatestAmount.cls = RX1 ∧ yX1_greatestAmount.cls ≠ "java/lang/invoke/MethodHandle" ∧ yX1_greatestAmount.cls ≠ "java/lang/invoke/VarHandle" ∧ (parseMethodDescriptor yX1_greatestAmount.desc).map (fun d => d.parameters.length) = some 0 := by decide +kernel
theorem kg_X2_141 : GoodIn zAW (wsV RX2 141 RX1 yX1_greatestAmount ((.code yX1_greatestAmount prog_3_method_7_code 3 (some .int)) :: zAW)) := aw_V q376 q377 q378 q62 q375
theorem kg_X1_40 : GoodIn zAW (wsV RX1 40 RX1 yX1_hardestAt ((.code yX1_hardestAt prog_3_method_6_code 4 (some .int)) :: zAW)) := aw_V q379 q205 q206 q62 q203
theorem kd_yX3_init : yX3_init.cls ≠ "java/lang/invoke/MethodHandle" ∧ yX3_init.cls ≠ "java/lang/invoke/VarHandle" ∧ (parseMethodDescriptor yX3_init.desc).map (fun d => d.parameters.length) = some 0 := by decide +kernel
theorem kg_L_82 : GoodIn zAW ((.code yX3_init prog_5_method_1_code 1 none) :: zAW) := aw_cd q382
theorem kd_yX3_thrown : yX3_thrown.cls = RX3 ∧ yX3_thrown.cls ≠ "java/lang/invoke/MethodHandle" ∧ yX3_thrown.cls ≠ "java/lang/invoke/VarHandle" ∧ (parseMethodDescriptor yX3_thrown.desc).map (fun d => d.parameters.length) = some 0 := by decide +kernel
theorem kg_L_89 : GoodIn zAW (wsV RL 89 RX3 yX3_thrown ((.code yX3_thrown prog_5_method_2_code 1 (some .int)) :: zAW)) := aw_V q388 q389 q390 q385 q387
theorem kd_yX3_addGun : yX3_addGun.cls = RX3 ∧ yX3_addGun.cls ≠ "java/lang/invoke/MethodHandle" ∧ yX3_addGun.cls ≠ "java/lang/invoke/VarHandle" ∧ (parseMethodDescriptor yX3_addGun.desc).map (fun d => d.parameters.length) = some 2 := by decide +kernel
theorem kg_L_88 : GoodIn zAW (wsV RL 88 RX3 yX3_addGun ((.code yX3_addGun prog_5_method_21_code 3 (some .int)) :: zAW)) := aw_V q392 q393 q394 q385 q391
theorem kd_yX3_isFrom : yX3_isFrom.cls ≠ "java/lang/invoke/MethodHandle" ∧ yX3_isFrom.cls ≠ "java/lang/invoke/VarHandle" ∧ (parseMethodDescriptor yX3_isFrom.desc).map (fun d => d.parameters.length) = some 3 := by decide +kernel
theorem kg_X3_35 : GoodIn zAW (va_wsS RX3 35 yX3_isFrom ((.code yX3_isFrom prog_5_method_5_code 3 (some .boolean)) :: zAW)) := aw_S q396 q397 q385 q395
theorem kd_yX3_no : yX3_no.cls = RX3 ∧ yX3_no.cls ≠ "java/lang/invoke/MethodHandle" ∧ yX3_no.cls ≠ "java/lang/invoke/VarHandle" ∧ (parseMethodDescriptor yX3_no.desc).map (fun d => d.parameters.length) = some 1 := by decide +kernel
theorem kg_X3_92 : GoodIn zAW (wsV RX3 92 RX3 yX3_no ((.code yX3_no prog_5_method_3_code 2 (some .int)) :: zAW)) := aw_V q399 q400 q401 q385 q398
theorem kd_yX3_setTrap : yX3_setTrap.cls = RX3 ∧ yX3_setTrap.cls ≠ "java/lang/invoke/MethodHandle" ∧ yX3_setTrap.cls ≠ "java/lang/invoke/VarHandle" ∧ (parseMethodDescriptor yX3_setTrap.desc).map (fun d => d.parameters.length) = some 3 := by decide +kernel
theorem kg_L_95 : GoodIn zAW (wsV RL 95 RX3 yX3_setTrap ((.code yX3_setTrap prog_5_method_22_code 5 (some .int)) :: zAW)) := aw_V q403 q404 q405 q385 q402
theorem kd_yX3_rest : yX3_rest.cls = RX3 ∧ yX3_rest.cls ≠ "java/lang/invoke/MethodHandle" ∧ yX3_rest.cls ≠ "java/lang/invoke/VarHandle" ∧ (parseMethodDescriptor yX3_rest.desc).map (fun d => d.parameters.length) = some 1 := by decide +kernel
theorem kg_L_99 : GoodIn zAW (wsV RL 99 RX3 yX3_rest ((.code yX3_rest prog_5_method_23_code 3 (some .int)) :: zAW)) := aw_V q407 q408 q409 q385 q406
theorem kd_yX3_isGun : yX3_isGun.cls = RX3 ∧ yX3_isGun.cls ≠ "java/lang/invoke/MethodHandle" ∧ yX3_isGun.cls ≠ "java/lang/invoke/VarHandle" ∧ (parseMethodDescriptor yX3_isGun.desc).map (fun d => d.parameters.length) = some 1 := by decide +kernel
theorem kg_X3_95 : GoodIn zAW (wsV RX3 95 RX3 yX3_isGun ((.code yX3_isGun prog_5_method_6_code 2 (some .boolean)) :: zAW)) := aw_V q411 q412 q413 q385 q410
theorem kd_yX3_pass : yX3_pass.cls = RX3 ∧ yX3_pass.cls ≠ "java/lang/invoke/MethodHandle" ∧ yX3_pass.cls ≠ "java/lang/invoke/VarHandle" ∧ (parseMethodDescriptor yX3_pass.desc).map (fun d => d.parameters.length) = some 1 := by decide +kernel
theorem kg_L_102 : GoodIn zAW (wsV RL 102 RX3 yX3_pass ((.code yX3_pass prog_5_method_24_code 3 (some .int)) :: zAW)) := aw_V q415 q416 q417 q385 q414
theorem kd_yX3_missed : yX3_missed.cls = RX3 ∧ yX3_missed.cls ≠ "java/lang/invoke/MethodHandle" ∧ yX3_missed.cls ≠ "java/lang/invoke/VarHandle" ∧ (parseMethodDescriptor yX3_missed.desc).map (fun d => d.parameters.length) = some 0 := by decide +kernel
theorem kg_X3_99 : GoodIn zAW (wsV RX3 99 RX3 yX3_missed ((.code yX3_missed prog_5_method_17_code 3 (some .int)) :: zAW)) := aw_V q419 q420 q421 q385 q418
theorem kd_yX3_turnsOn : yX3_turnsOn.cls = RX3 ∧ yX3_turnsOn.cls ≠ "java/lang/invoke/MethodHandle" ∧ yX3_turnsOn.cls ≠ "java/lang/invoke/VarHandle" ∧ (parseMethodDescriptor yX3_turnsOn.desc).map (fun d => d.parameters.length) = some 1 := by decide +kernel
theorem kg_X3_102 : GoodIn zAW (wsV RX3 102 RX3 yX3_turnsOn ((.code yX3_turnsOn prog_5_method_16_code 3 none) :: zAW)) := aw_V q423 q424 q425 q385 q422
theorem kd_yX3_turnOn : yX3_turnOn.cls = RX3 ∧ yX3_turnOn.cls ≠ "java/lang/invoke/MethodHandle" ∧ yX3_turnOn.cls ≠ "java/lang/invoke/VarHandle" ∧ (parseMethodDescriptor yX3_turnOn.desc).map (fun d => d.parameters.length) = some 0 := by decide +kernel
theorem kg_X3_75 : GoodIn zAW (wsV RX3 75 RX3 yX3_turnOn ((.code yX3_turnOn prog_5_method_15_code 2 none) :: zAW)) := aw_V q427 q428 q429 q385 q426
theorem kd_yX3_shoot : yX3_shoot.cls = RX3 ∧ yX3_shoot.cls ≠ "java/lang/invoke/MethodHandle" ∧ yX3_shoot.cls ≠ "java/lang/invoke/VarHandle" ∧ (parseMethodDescriptor yX3_shoot.desc).map (fun d => d.parameters.length) = some 1 := by decide +kernel
theorem kg_X3_68 : GoodIn zAW (wsV RX3 68 RX3 yX3_shoot ((.code yX3_shoot prog_5_method_14_code 3 none) :: zAW)) := aw_V q431 q432 q433 q385 q430
theorem kd_yX3_hit : yX3_hit.cls = RX3 ∧ yX3_hit.cls ≠ "java/lang/invoke/MethodHandle" ∧ yX3_hit.cls ≠ "java/lang/invoke/VarHandle" ∧ (parseMethodDescriptor yX3_hit.desc).map (fun d => d.parameters.length) = some 1 := by decide +kernel
theorem kg_X3_65 : GoodIn zAW (wsV RX3 65 RX3 yX3_hit ((.code yX3_hit prog_5_method_13_code 2 (some .int)) :: zAW)) := aw_V q435 q436 q437 q385 q434
theorem kd_yX3_far : yX3_far.cls = RX3 ∧ yX3_far.cls ≠ "java/lang/invoke/MethodHandle" ∧ yX3_far.cls ≠ "java/lang/invoke/VarHandle" ∧ (parseMethodDescriptor yX3_far.desc).map (fun d => d.parameters.length) = some 1 := by decide +kernel
theorem kg_X3_62 : GoodIn zAW (wsV RX3 62 RX3 yX3_far ((.code yX3_far prog_5_method_12_code 2 (some .int)) :: zAW)) := aw_V q439 q440 q441 q385 q438
theorem kd_yX3_stand : yX3_stand.cls = RX3 ∧ yX3_stand.cls ≠ "java/lang/invoke/MethodHandle" ∧ yX3_stand.cls ≠ "java/lang/invoke/VarHandle" ∧ (parseMethodDescriptor yX3_stand.desc).map (fun d => d.parameters.length) = some 1 := by decide +kernel
theorem kg_X3_45 : GoodIn zAW (wsV RX3 45 RX3 yX3_stand ((.code yX3_stand prog_5_method_11_code 2 (some .int)) :: zAW)) := aw_V q443 q444 q445 q385 q442
theorem kd_yX3_clay : yX3_clay.cls = RX3 ∧ yX3_clay.cls ≠ "java/lang/invoke/MethodHandle" ∧ yX3_clay.cls ≠ "java/lang/invoke/VarHandle" ∧ (parseMethodDescriptor yX3_clay.desc).map (fun d => d.parameters.length) = some 0 := by decide +kernel
theorem kg_X3_49 : GoodIn zAW (wsV RX3 49 RX3 yX3_clay ((.code yX3_clay prog_5_method_10_code 1 (some .int)) :: zAW)) := aw_V q447 q448 q449 q385 q446
theorem kd_yX3_at : yX3_at.cls = RX3 ∧ yX3_at.cls ≠ "java/lang/invoke/MethodHandle" ∧ yX3_at.cls ≠ "java/lang/invoke/VarHandle" ∧ (parseMethodDescriptor yX3_at.desc).map (fun d => d.parameters.length) = some 2 := by decide +kernel
theorem kg_X3_53 : GoodIn zAW (wsV RX3 53 RX3 yX3_at ((.code yX3_at prog_5_method_9_code 3 (some .int)) :: zAW)) := aw_V q451 q452 q453 q385 q450
theorem kd_yX3_shootOff : yX3_shootOff.cls = RX3 ∧ yX3_shootOff.cls ≠ "java/lang/invoke/MethodHandle" ∧ yX3_shootOff.cls ≠ "java/lang/invoke/VarHandle" ∧ (parseMethodDescriptor yX3_shootOff.desc).map (fun d => d.parameters.length) = some 0 := by decide +kernel
theorem kg_L_106 : GoodIn zAW (wsV RL 106 RX3 yX3_shootOff ((.code yX3_shootOff prog_5_method_25_code 2 (some .int)) :: zAW)) := aw_V q457 q458 q459 q385 q456
theorem kd_yX3_win : yX3_win.cls = RX3 ∧ yX3_win.cls ≠ "java/lang/invoke/MethodHandle" ∧ yX3_win.cls ≠ "java/lang/invoke/VarHandle" ∧ (parseMethodDescriptor yX3_win.desc).map (fun d => d.parameters.length) = some 0 := by decide +kernel
theorem kg_X3_105 : GoodIn zAW (wsV RX3 105 RX3 yX3_win ((.code yX3_win prog_5_method_20_code 5 (some .int)) :: zAW)) := aw_V q461 q462 q463 q385 q460
theorem kd_yX3_best : yX3_best.cls = RX3 ∧ yX3_best.cls ≠ "java/lang/invoke/MethodHandle" ∧ yX3_best.cls ≠ "java/lang/invoke/VarHandle" ∧ (parseMethodDescriptor yX3_best.desc).map (fun d => d.parameters.length) = some 0 := by decide +kernel
theorem kg_X3_81 : GoodIn zAW (wsV RX3 81 RX3 yX3_best ((.code yX3_best prog_5_method_19_code 3 (some .int)) :: zAW)) := aw_V q465 q466 q467 q385 q464
theorem kd_yX3_first : yX3_first.cls = RX3 ∧ yX3_first.cls ≠ "java/lang/invoke/MethodHandle" ∧ yX3_first.cls ≠ "java/lang/invoke/VarHandle" ∧ (parseMethodDescriptor yX3_first.desc).map (fun d => d.parameters.length) = some 0 := by decide +kernel
theorem kg_X3_78 : GoodIn zAW (wsV RX3 78 RX3 yX3_first ((.code yX3_first prog_5_method_18_code 3 (some .int)) :: zAW)) := aw_V q469 q470 q471 q385 q468
theorem kd_yJ6_bitCount_0f7a4 : yJ6_bitCount_0f7a4.cls ≠ "java/lang/invoke/MethodHandle" ∧ yJ6_bitCount_0f7a4.cls ≠ "java/lang/invoke/VarHandle" ∧ (parseMethodDescriptor yJ6_bitCount_0f7a4.desc).map (fun d => d.parameters.length) = some 1 := by decide +kernel
theorem kg_X3_84 : GoodIn zAW (va_wsS RX3 84 yJ6_bitCount_0f7a4 ((.code yJ6_bitCount_0f7a4 prog_10_method_49_code 1 (some .int)) :: zAW)) := aw_S q473 q474 q475 q472
theorem kd_yJ6_numberOfTrailingZeros_0f7a4 : yJ6_numberOfTrailingZeros_0f7a4.cls ≠ "java/lang/invoke/MethodHandle" ∧ yJ6_numberOfTrailingZeros_0f7a4.cls ≠ "java/lang/invoke/VarHandle" ∧ (parseMethodDescriptor yJ6_numberOfTrailingZeros_0f7a4.desc).map (fun d => d.parameters.length) = some 1 := by decide +kernel
theorem kg_X3_89 : GoodIn zAW (va_wsS RX3 89 yJ6_numberOfTrailingZeros_0f7a4 ((.code yJ6_numberOfTrailingZeros_0f7a4 prog_10_method_48_code 2 (some .int)) :: zAW)) := aw_S q477 q478 q475 q476
theorem kd_yX3_ok : yX3_ok.cls = RX3 ∧ yX3_ok.cls ≠ "java/lang/invoke/MethodHandle" ∧ yX3_ok.cls ≠ "java/lang/invoke/VarHandle" ∧ (parseMethodDescriptor yX3_ok.desc).map (fun d => d.parameters.length) = some 1 := by decide +kernel
theorem kg_X3_108 : GoodIn zAW (wsV RX3 108 RX3 yX3_ok ((.code yX3_ok prog_5_method_4_code 2 (some .int)) :: zAW)) := aw_V q480 q481 q482 q385 q479
theorem kd_yX3_turn : yX3_turn.cls = RX3 ∧ yX3_turn.cls ≠ "java/lang/invoke/MethodHandle" ∧ yX3_turn.cls ≠ "java/lang/invoke/VarHandle" ∧ (parseMethodDescriptor yX3_turn.desc).map (fun d => d.parameters.length) = some 0 := by decide +kernel
theorem kg_L_110 : GoodIn zAW (wsV RL 110 RX3 yX3_turn ((.code yX3_turn prog_5_method_26_code 1 (some .int)) :: zAW)) := aw_V q484 q485 q486 q385 q483
theorem kd_yX3_angle : yX3_angle.cls = RX3 ∧ yX3_angle.cls ≠ "java/lang/invoke/MethodHandle" ∧ yX3_angle.cls ≠ "java/lang/invoke/VarHandle" ∧ (parseMethodDescriptor yX3_angle.desc).map (fun d => d.parameters.length) = some 2 := by decide +kernel
theorem kg_L_113 : GoodIn zAW (wsV RL 113 RX3 yX3_angle ((.code yX3_angle prog_5_method_27_code 3 (some .int)) :: zAW)) := aw_V q488 q489 q490 q385 q487
theorem kd_yX3_hardestClay : yX3_hardestClay.cls = RX3 ∧ yX3_hardestClay.cls ≠ "java/lang/invoke/MethodHandle" ∧ yX3_hardestClay.cls ≠ "java/lang/invoke/VarHandle" ∧ (parseMethodDescriptor yX3_hardestClay.desc).map (fun d => d.parameters.length) = some 1 := by decide +kernel
theorem kg_L_116 : GoodIn zAW (wsV RL 116 RX3 yX3_hardestClay ((.code yX3_hardestClay prog_5_method_29_code 2 (some .int)) :: zAW)) := aw_V q492 q493 q494 q385 q491
theorem kd_yX3_hardest : yX3_hardest.cls = RX3 ∧ yX3_hardest.cls ≠ "java/lang/invoke/MethodHandle" ∧ yX3_hardest.cls ≠ "java/lang/invoke/VarHandle" ∧ (parseMethodDescriptor yX3_hardest.desc).map (fun d => d.parameters.length) = some 1 := by decide +kernel
theorem kg_X3_111 : GoodIn zAW (wsV RX3 111 RX3 yX3_hardest ((.code yX3_hardest prog_5_method_28_code 4 (some .int)) :: zAW)) := aw_V q496 q497 q498 q385 q495
theorem kd_yX3_standOf : yX3_standOf.cls = RX3 ∧ yX3_standOf.cls ≠ "java/lang/invoke/MethodHandle" ∧ yX3_standOf.cls ≠ "java/lang/invoke/VarHandle" ∧ (parseMethodDescriptor yX3_standOf.desc).map (fun d => d.parameters.length) = some 1 := by decide +kernel
theorem kg_L_119 : GoodIn zAW (wsV RL 119 RX3 yX3_standOf ((.code yX3_standOf prog_5_method_30_code 2 (some .int)) :: zAW)) := aw_V q500 q501 q502 q385 q499
theorem kd_yX3_angleFor : yX3_angleFor.cls = RX3 ∧ yX3_angleFor.cls ≠ "java/lang/invoke/MethodHandle" ∧ yX3_angleFor.cls ≠ "java/lang/invoke/VarHandle" ∧ (parseMethodDescriptor yX3_angleFor.desc).map (fun d => d.parameters.length) = some 1 := by decide +kernel
theorem kg_L_122 : GoodIn zAW (wsV RL 122 RX3 yX3_angleFor ((.code yX3_angleFor prog_5_method_31_code 2 (some .int)) :: zAW)) := aw_V q504 q505 q506 q385 q503
theorem kd_yX3_guns : yX3_guns.cls = RX3 ∧ yX3_guns.cls ≠ "java/lang/invoke/MethodHandle" ∧ yX3_guns.cls ≠ "java/lang/invoke/VarHandle" ∧ (parseMethodDescriptor yX3_guns.desc).map (fun d => d.parameters.length) = some 0 := by decide +kernel
theorem kg_L_126 : GoodIn zAW (wsV RL 126 RX3 yX3_guns ((.code yX3_guns prog_5_method_32_code 1 (some .int)) :: zAW)) := aw_V q508 q509 q510 q385 q507
theorem kd_yX3_scoreOf : yX3_scoreOf.cls = RX3 ∧ yX3_scoreOf.cls ≠ "java/lang/invoke/MethodHandle" ∧ yX3_scoreOf.cls ≠ "java/lang/invoke/VarHandle" ∧ (parseMethodDescriptor yX3_scoreOf.desc).map (fun d => d.parameters.length) = some 1 := by decide +kernel
theorem kg_L_129 : GoodIn zAW (wsV RL 129 RX3 yX3_scoreOf ((.code yX3_scoreOf prog_5_method_34_code 2 (some .int)) :: zAW)) := aw_V q512 q513 q514 q385 q511
theorem kd_yX3_ofGun : yX3_ofGun.cls = RX3 ∧ yX3_ofGun.cls ≠ "java/lang/invoke/MethodHandle" ∧ yX3_ofGun.cls ≠ "java/lang/invoke/VarHandle" ∧ (parseMethodDescriptor yX3_ofGun.desc).map (fun d => d.parameters.length) = some 2 := by decide +kernel
theorem kg_X3_114 : GoodIn zAW (wsV RX3 114 RX3 yX3_ofGun ((.code yX3_ofGun prog_5_method_33_code 3 (some .int)) :: zAW)) := aw_V q516 q517 q518 q385 q515
theorem kd_yX3_firstsOf : yX3_firstsOf.cls = RX3 ∧ yX3_firstsOf.cls ≠ "java/lang/invoke/MethodHandle" ∧ yX3_firstsOf.cls ≠ "java/lang/invoke/VarHandle" ∧ (parseMethodDescriptor yX3_firstsOf.desc).map (fun d => d.parameters.length) = some 1 := by decide +kernel
theorem kg_L_132 : GoodIn zAW (wsV RL 132 RX3 yX3_firstsOf ((.code yX3_firstsOf prog_5_method_35_code 2 (some .int)) :: zAW)) := aw_V q520 q521 q522 q385 q519
theorem kd_yX3_missesOf : yX3_missesOf.cls = RX3 ∧ yX3_missesOf.cls ≠ "java/lang/invoke/MethodHandle" ∧ yX3_missesOf.cls ≠ "java/lang/invoke/VarHandle" ∧ (parseMethodDescriptor yX3_missesOf.desc).map (fun d => d.parameters.length) = some 1 := by decide +kernel
theorem kg_L_135 : GoodIn zAW (wsV RL 135 RX3 yX3_missesOf ((.code yX3_missesOf prog_5_method_36_code 2 (some .int)) :: zAW)) := aw_V q524 q525 q526 q385 q523
theorem kd_yX3_fatigueOf : yX3_fatigueOf.cls = RX3 ∧ yX3_fatigueOf.cls ≠ "java/lang/invoke/MethodHandle" ∧ yX3_fatigueOf.cls ≠ "java/lang/invoke/VarHandle" ∧ (parseMethodDescriptor yX3_fatigueOf.desc).map (fun d => d.parameters.length) = some 1 := by decide +kernel
theorem kg_L_138 : GoodIn zAW (wsV RL 138 RX3 yX3_fatigueOf ((.code yX3_fatigueOf prog_5_method_37_code 2 (some .int)) :: zAW)) := aw_V q528 q529 q530 q385 q527
theorem kd_yX3_wouldHit : yX3_wouldHit.cls = RX3 ∧ yX3_wouldHit.cls ≠ "java/lang/invoke/MethodHandle" ∧ yX3_wouldHit.cls ≠ "java/lang/invoke/VarHandle" ∧ (parseMethodDescriptor yX3_wouldHit.desc).map (fun d => d.parameters.length) = some 1 := by decide +kernel
theorem kg_L_141 : GoodIn zAW (wsV RL 141 RX3 yX3_wouldHit ((.code yX3_wouldHit prog_5_method_38_code 2 (some .int)) :: zAW)) := aw_V q532 q533 q534 q385 q531
theorem kd_yX3_leader : yX3_leader.cls = RX3 ∧ yX3_leader.cls ≠ "java/lang/invoke/MethodHandle" ∧ yX3_leader.cls ≠ "java/lang/invoke/VarHandle" ∧ (parseMethodDescriptor yX3_leader.desc).map (fun d => d.parameters.length) = some 0 := by decide +kernel
theorem kg_L_145 : GoodIn zAW (wsV RL 145 RX3 yX3_leader ((.code yX3_leader prog_5_method_39_code 1 (some .int)) :: zAW)) := aw_V q536 q537 q538 q385 q535
theorem kd_yX3_tied : yX3_tied.cls = RX3 ∧ yX3_tied.cls ≠ "java/lang/invoke/MethodHandle" ∧ yX3_tied.cls ≠ "java/lang/invoke/VarHandle" ∧ (parseMethodDescriptor yX3_tied.desc).map (fun d => d.parameters.length) = some 0 := by decide +kernel
theorem kg_L_149 : GoodIn zAW (wsV RL 149 RX3 yX3_tied ((.code yX3_tied prog_5_method_40_code 1 (some .int)) :: zAW)) := aw_V q540 q541 q542 q385 q539
theorem kd_yX3_rankOf : yX3_rankOf.cls = RX3 ∧ yX3_rankOf.cls ≠ "java/lang/invoke/MethodHandle" ∧ yX3_rankOf.cls ≠ "java/lang/invoke/VarHandle" ∧ (parseMethodDescriptor yX3_rankOf.desc).map (fun d => d.parameters.length) = some 1 := by decide +kernel
theorem kg_L_152 : GoodIn zAW (wsV RL 152 RX3 yX3_rankOf ((.code yX3_rankOf prog_5_method_42_code 2 (some .int)) :: zAW)) := aw_V q544 q545 q546 q385 q543
theorem kd_yX3_rank : yX3_rank.cls = RX3 ∧ yX3_rank.cls ≠ "java/lang/invoke/MethodHandle" ∧ yX3_rank.cls ≠ "java/lang/invoke/VarHandle" ∧ (parseMethodDescriptor yX3_rank.desc).map (fun d => d.parameters.length) = some 1 := by decide +kernel
theorem kg_X3_117 : GoodIn zAW (wsV RX3 117 RX3 yX3_rank ((.code yX3_rank prog_5_method_41_code 4 (some .int)) :: zAW)) := aw_V q548 q549 q550 q385 q547
theorem kd_yX3_scoreIn : yX3_scoreIn.cls = RX3 ∧ yX3_scoreIn.cls ≠ "java/lang/invoke/MethodHandle" ∧ yX3_scoreIn.cls ≠ "java/lang/invoke/VarHandle" ∧ (parseMethodDescriptor yX3_scoreIn.desc).map (fun d => d.parameters.length) = some 2 := by decide +kernel
theorem kg_L_155 : GoodIn zAW (wsV RL 155 RX3 yX3_scoreIn ((.code yX3_scoreIn prog_5_method_43_code 4 (some .int)) :: zAW)) := aw_V q552 q553 q554 q385 q551
theorem kd_yX3_keep : yX3_keep.cls = RX3 ∧ yX3_keep.cls ≠ "java/lang/invoke/MethodHandle" ∧ yX3_keep.cls ≠ "java/lang/invoke/VarHandle" ∧ (parseMethodDescriptor yX3_keep.desc).map (fun d => d.parameters.length) = some 0 := by decide +kernel
theorem kg_X3_120 : GoodIn zAW (wsV RX3 120 RX3 yX3_keep ((.code yX3_keep prog_5_method_7_code 1 none) :: zAW)) := aw_V q556 q557 q558 q385 q555
theorem kd_yX3_bringBack : yX3_bringBack.cls = RX3 ∧ yX3_bringBack.cls ≠ "java/lang/invoke/MethodHandle" ∧ yX3_bringBack.cls ≠ "java/lang/invoke/VarHandle" ∧ (parseMethodDescriptor yX3_bringBack.desc).map (fun d => d.parameters.length) = some 0 := by decide +kernel
theorem kg_X3_123 : GoodIn zAW (wsV RX3 123 RX3 yX3_bringBack ((.code yX3_bringBack prog_5_method_8_code 1 none) :: zAW)) := aw_V q561 q562 q563 q385 q560
theorem kd_yX3_turnsUntilMiss : yX3_turnsUntilMiss.cls = RX3 ∧ yX3_turnsUntilMiss.cls ≠ "java/lang/invoke/MethodHandle" ∧ yX3_turnsUntilMiss.cls ≠ "java/lang/invoke/VarHandle" ∧ (parseMethodDescriptor yX3_turnsUntilMiss.desc).map (fun d => d.parameters.length) = some 1 := by decide +kernel
theorem kg_L_158 : GoodIn zAW (wsV RL 158 RX3 yX3_turnsUntilMiss ((.code yX3_turnsUntilMiss prog_5_method_45_code 2 (some .int)) :: zAW)) := aw_V q565 q566 q567 q385 q564
theorem kd_yX3_untilMiss : yX3_untilMiss.cls = RX3 ∧ yX3_untilMiss.cls ≠ "java/lang/invoke/MethodHandle" ∧ yX3_untilMiss.cls ≠ "java/lang/invoke/VarHandle" ∧ (parseMethodDescriptor yX3_untilMiss.desc).map (fun d => d.parameters.length) = some 1 := by decide +kernel
theorem kg_X3_126 : GoodIn zAW (wsV RX3 126 RX3 yX3_untilMiss ((.code yX3_untilMiss prog_5_method_44_code 4 (some .int)) :: zAW)) := aw_V q569 q570 q571 q385 q568
theorem kd_yX3_leaderIn : yX3_leaderIn.cls = RX3 ∧ yX3_leaderIn.cls ≠ "java/lang/invoke/MethodHandle" ∧ yX3_leaderIn.cls ≠ "java/lang/invoke/VarHandle" ∧ (parseMethodDescriptor yX3_leaderIn.desc).map (fun d => d.parameters.length) = some 1 := by decide +kernel
theorem kg_L_161 : GoodIn zAW (wsV RL 161 RX3 yX3_leaderIn ((.code yX3_leaderIn prog_5_method_47_code 2 (some .int)) :: zAW)) := aw_V q573 q574 q575 q385 q572
theorem kd_yX3_firstIn : yX3_firstIn.cls = RX3 ∧ yX3_firstIn.cls ≠ "java/lang/invoke/MethodHandle" ∧ yX3_firstIn.cls ≠ "java/lang/invoke/VarHandle" ∧ (parseMethodDescriptor yX3_firstIn.desc).map (fun d => d.parameters.length) = some 1 := by decide +kernel
theorem kg_X3_129 : GoodIn zAW (wsV RX3 129 RX3 yX3_firstIn ((.code yX3_firstIn prog_5_method_46_code 3 (some .int)) :: zAW)) := aw_V q577 q578 q579 q385 q576
theorem kd_yX3_wouldWin : yX3_wouldWin.cls = RX3 ∧ yX3_wouldWin.cls ≠ "java/lang/invoke/MethodHandle" ∧ yX3_wouldWin.cls ≠ "java/lang/invoke/VarHandle" ∧ (parseMethodDescriptor yX3_wouldWin.desc).map (fun d => d.parameters.length) = some 0 := by decide +kernel
theorem kg_L_165 : GoodIn zAW (wsV RL 165 RX3 yX3_wouldWin ((.code yX3_wouldWin prog_5_method_49_code 1 (some .int)) :: zAW)) := aw_V q581 q582 q583 q385 q580
theorem kd_yX3_winner : yX3_winner.cls = RX3 ∧ yX3_winner.cls ≠ "java/lang/invoke/MethodHandle" ∧ yX3_winner.cls ≠ "java/lang/invoke/VarHandle" ∧ (parseMethodDescriptor yX3_winner.desc).map (fun d => d.parameters.length) = some 0 := by decide +kernel
theorem kg_X3_132 : GoodIn zAW (wsV RX3 132 RX3 yX3_winner ((.code yX3_winner prog_5_method_48_code 2 (some .int)) :: zAW)) := aw_V q585 q586 q587 q385 q584
theorem kd_yX3_bestRest : yX3_bestRest.cls = RX3 ∧ yX3_bestRest.cls ≠ "java/lang/invoke/MethodHandle" ∧ yX3_bestRest.cls ≠ "java/lang/invoke/VarHandle" ∧ (parseMethodDescriptor yX3_bestRest.desc).map (fun d => d.parameters.length) = some 1 := by decide +kernel
theorem kg_L_168 : GoodIn zAW (wsV RL 168 RX3 yX3_bestRest ((.code yX3_bestRest prog_5_method_51_code 2 (some .int)) :: zAW)) := aw_V q589 q590 q591 q385 q588
theorem kd_yX3_restFor : yX3_restFor.cls = RX3 ∧ yX3_restFor.cls ≠ "java/lang/invoke/MethodHandle" ∧ yX3_restFor.cls ≠ "java/lang/invoke/VarHandle" ∧ (parseMethodDescriptor yX3_restFor.desc).map (fun d => d.parameters.length) = some 1 := by decide +kernel
theorem kg_X3_135 : GoodIn zAW (wsV RX3 135 RX3 yX3_restFor ((.code yX3_restFor prog_5_method_50_code 6 (some .int)) :: zAW)) := aw_V q593 q594 q595 q385 q592
theorem kd_yX3_swingWanted : yX3_swingWanted.cls = RX3 ∧ yX3_swingWanted.cls ≠ "java/lang/invoke/MethodHandle" ∧ yX3_swingWanted.cls ≠ "java/lang/invoke/VarHandle" ∧ (parseMethodDescriptor yX3_swingWanted.desc).map (fun d => d.parameters.length) = some 1 := by decide +kernel
theorem kg_L_171 : GoodIn zAW (wsV RL 171 RX3 yX3_swingWanted ((.code yX3_swingWanted prog_5_method_52_code 4 (some .int)) :: zAW)) := aw_V q597 q598 q599 q385 q596
theorem kd_yX3_meanScore : yX3_meanScore.cls = RX3 ∧ yX3_meanScore.cls ≠ "java/lang/invoke/MethodHandle" ∧ yX3_meanScore.cls ≠ "java/lang/invoke/VarHandle" ∧ (parseMethodDescriptor yX3_meanScore.desc).map (fun d => d.parameters.length) = some 0 := by decide +kernel
theorem kg_L_176 : GoodIn zAW (wsV RL 176 RX3 yX3_meanScore ((.code yX3_meanScore prog_5_method_53_code 3 (some .double)) :: zAW)) := aw_V q601 q602 q603 q385 q600
theorem kd_yX3_digest : yX3_digest.cls = RX3 ∧ yX3_digest.cls ≠ "java/lang/invoke/MethodHandle" ∧ yX3_digest.cls ≠ "java/lang/invoke/VarHandle" ∧ (parseMethodDescriptor yX3_digest.desc).map (fun d => d.parameters.length) = some 0 := by decide +kernel
theorem kg_L_181 : GoodIn zAW (wsV RL 181 RX3 yX3_digest ((.code yX3_digest prog_5_method_54_code 10 (some .long)) :: zAW)) := aw_V q605 q606 q607 q385 q604
