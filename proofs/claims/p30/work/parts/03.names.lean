def RX0 : String := "ClayTraps$Squad"
def TX0 : u_T := fun k => match k with
  | 0 => ("ClayTraps$Squad", "swings", "[I", true)
  | 1 => ("ClayTraps$Squad", "steadinesses", "[I", true)
  | 2 => ("ClayTraps$Squad", "fatigues", "[I", true)
  | 3 => ("ClayTraps$Squad", "scores", "[I", true)
  | 4 => ("ClayTraps$Squad", "firsts", "[I", true)
  | 5 => ("ClayTraps$Squad", "misses", "[I", true)
  | 6 => ("ClayTraps$Squad", "left", "[Z", true)
  | 7 => ("ClayTraps$Squad", "hits", "[Z", true)
  | _ => ("ClayTraps$Squad", "size", "I", false)
def tyX0 : Nat → FieldType := fun k => match k with
  | 0 => .array .int
  | 1 => .array .int
  | 2 => .array .int
  | 3 => .array .int
  | 4 => .array .int
  | 5 => .array .int
  | 6 => .array .boolean
  | 7 => .array .boolean
  | _ => .int
abbrev wsX00 : List Cond := u_ws RX0 TX0 9
theorem nmX0 : ∀ a, a < 9 → ∀ b, b < 9 → a ≠ b → (TX0 a).2.1 ≠ (TX0 b).2.1 := by decide +kernel
theorem tyX0_ok : ∀ k, k < 9 → parseFieldDescriptor (TX0 k).2.2.1 = some (tyX0 k) := by decide +kernel
abbrev cX0_init : ByteArray := prog_2_method_1_code
def yX0_init : MethodName := ⟨RX0, "<init>", "()V"⟩
abbrev cX0_enter : ByteArray := prog_2_method_2_code
def yX0_enter : MethodName := ⟨RX0, "enter", "(II)I"⟩
abbrev cX0_takeOver : ByteArray := prog_2_method_3_code
def yX0_takeOver : MethodName := ⟨RX0, "takeOver", "(LClayTraps$Squad;)V"⟩
abbrev cX0_trouble : ByteArray := prog_2_method_4_code
def yX0_trouble : MethodName := ⟨RX0, "trouble", "(II)I"⟩
abbrev cX0_outcome : ByteArray := prog_2_method_5_code
def yX0_outcome : MethodName := ⟨RX0, "outcome", "(II)I"⟩
abbrev cX0_shoot : ByteArray := prog_2_method_6_code
def yX0_shoot : MethodName := ⟨RX0, "shoot", "(II)V"⟩
abbrev cX0_playAlone : ByteArray := prog_2_method_7_code
def yX0_playAlone : MethodName := ⟨RX0, "playAlone", "(LClayTraps$Traps;III)V"⟩
abbrev cX0_play : ByteArray := prog_2_method_8_code
def yX0_play : MethodName := ⟨RX0, "play", "(LClayTraps$Traps;II)I"⟩
abbrev cX0_leading : ByteArray := prog_2_method_9_code
def yX0_leading : MethodName := ⟨RX0, "leading", "()I"⟩
abbrev cX0_countTied : ByteArray := prog_2_method_10_code
def yX0_countTied : MethodName := ⟨RX0, "countTied", "()I"⟩
abbrev cX0_countAbove : ByteArray := prog_2_method_11_code
def yX0_countAbove : MethodName := ⟨RX0, "countAbove", "(I)I"⟩
abbrev cX0_totalScore : ByteArray := prog_2_method_12_code
def yX0_totalScore : MethodName := ⟨RX0, "totalScore", "()I"⟩
abbrev cX0_settleTie : ByteArray := prog_2_method_13_code
def yX0_settleTie : MethodName := ⟨RX0, "settleTie", "()I"⟩
abbrev cX0_shootRound : ByteArray := prog_2_method_14_code
def yX0_shootRound : MethodName := ⟨RX0, "shootRound", "(I)V"⟩
abbrev cX0_keepThoseWhoHit : ByteArray := prog_2_method_15_code
def yX0_keepThoseWhoHit : MethodName := ⟨RX0, "keepThoseWhoHit", "()V"⟩
abbrev cX0_countLeft : ByteArray := prog_2_method_16_code
def yX0_countLeft : MethodName := ⟨RX0, "countLeft", "()I"⟩
abbrev cX0_firstLeft : ByteArray := prog_2_method_17_code
def yX0_firstLeft : MethodName := ⟨RX0, "firstLeft", "()I"⟩
def RX1 : String := "ClayTraps$Traps"
def TX1 : u_T := fun k => match k with
  | 0 => ("ClayTraps$Traps", "bases", "[I", true)
  | _ => ("ClayTraps$Traps", "spreads", "[I", true)
def tyX1 : Nat → FieldType := fun k => match k with
  | 0 => .array .int
  | _ => .array .int
abbrev wsX10 : List Cond := u_ws RX1 TX1 2
theorem nmX1 : ∀ a, a < 2 → ∀ b, b < 2 → a ≠ b → (TX1 a).2.1 ≠ (TX1 b).2.1 := by decide +kernel
theorem tyX1_ok : ∀ k, k < 2 → parseFieldDescriptor (TX1 k).2.2.1 = some (tyX1 k) := by decide +kernel
abbrev cX1_init : ByteArray := prog_3_method_1_code
def yX1_init : MethodName := ⟨RX1, "<init>", "()V"⟩
abbrev cX1_angleAt : ByteArray := prog_3_method_2_code
def yX1_angleAt : MethodName := ⟨RX1, "angleAt", "(II)I"⟩
abbrev cX1_angleIn : ByteArray := prog_3_method_3_code
def yX1_angleIn : MethodName := ⟨RX1, "angleIn", "(II)I"⟩
abbrev cX1_amountAt : ByteArray := prog_3_method_4_code
def yX1_amountAt : MethodName := ⟨RX1, "amountAt", "(II)I"⟩
abbrev cX1_amountIn : ByteArray := prog_3_method_5_code
def yX1_amountIn : MethodName := ⟨RX1, "amountIn", "(II)I"⟩
abbrev cX1_hardestAt : ByteArray := prog_3_method_6_code
def yX1_hardestAt : MethodName := ⟨RX1, "hardestAt", "(I)I"⟩
abbrev cX1_greatestAmount : ByteArray := prog_3_method_7_code
def yX1_greatestAmount : MethodName := ⟨RX1, "greatestAmount", "()I"⟩
def RX2 : String := "ClayTraps"
def TX2 : u_T := fun k => match k with
  | 0 => ("ClayTraps", "traps", "LClayTraps$Traps;", true)
  | 1 => ("ClayTraps", "squad", "LClayTraps$Squad;", true)
  | 2 => ("ClayTraps", "trial", "LClayTraps$Squad;", true)
  | _ => ("ClayTraps", "turn", "I", false)
def tyX2 : Nat → FieldType := fun k => match k with
  | 0 => .object "ClayTraps$Traps"
  | 1 => .object "ClayTraps$Squad"
  | 2 => .object "ClayTraps$Squad"
  | _ => .int
abbrev wsX20 : List Cond := u_ws RX2 TX2 4
theorem nmX2 : ∀ a, a < 4 → ∀ b, b < 4 → a ≠ b → (TX2 a).2.1 ≠ (TX2 b).2.1 := by decide +kernel
theorem tyX2_ok : ∀ k, k < 4 → parseFieldDescriptor (TX2 k).2.2.1 = some (tyX2 k) := by decide +kernel
abbrev cX2_init : ByteArray := prog_1_method_1_code
def yX2_init : MethodName := ⟨RX2, "<init>", "()V"⟩
abbrev cX2_addGun : ByteArray := prog_1_method_2_code
def yX2_addGun : MethodName := ⟨RX2, "addGun", "(II)I"⟩
abbrev cX2_setTrap : ByteArray := prog_1_method_3_code
def yX2_setTrap : MethodName := ⟨RX2, "setTrap", "(III)I"⟩
abbrev cX2_rest : ByteArray := prog_1_method_4_code
def yX2_rest : MethodName := ⟨RX2, "rest", "(I)I"⟩
abbrev cX2_pass : ByteArray := prog_1_method_5_code
def yX2_pass : MethodName := ⟨RX2, "pass", "(I)I"⟩
abbrev cX2_shootOff : ByteArray := prog_1_method_6_code
def yX2_shootOff : MethodName := ⟨RX2, "shootOff", "()I"⟩
abbrev cX2_turn : ByteArray := prog_1_method_7_code
def yX2_turn : MethodName := ⟨RX2, "turn", "()I"⟩
abbrev cX2_angle : ByteArray := prog_1_method_8_code
def yX2_angle : MethodName := ⟨RX2, "angle", "(II)I"⟩
abbrev cX2_hardestClay : ByteArray := prog_1_method_9_code
def yX2_hardestClay : MethodName := ⟨RX2, "hardestClay", "(I)I"⟩
abbrev cX2_standOf : ByteArray := prog_1_method_10_code
def yX2_standOf : MethodName := ⟨RX2, "standOf", "(I)I"⟩
abbrev cX2_angleFor : ByteArray := prog_1_method_11_code
def yX2_angleFor : MethodName := ⟨RX2, "angleFor", "(I)I"⟩
abbrev cX2_guns : ByteArray := prog_1_method_12_code
def yX2_guns : MethodName := ⟨RX2, "guns", "()I"⟩
abbrev cX2_scoreOf : ByteArray := prog_1_method_13_code
def yX2_scoreOf : MethodName := ⟨RX2, "scoreOf", "(I)I"⟩
abbrev cX2_firstsOf : ByteArray := prog_1_method_14_code
def yX2_firstsOf : MethodName := ⟨RX2, "firstsOf", "(I)I"⟩
abbrev cX2_missesOf : ByteArray := prog_1_method_15_code
def yX2_missesOf : MethodName := ⟨RX2, "missesOf", "(I)I"⟩
abbrev cX2_fatigueOf : ByteArray := prog_1_method_16_code
def yX2_fatigueOf : MethodName := ⟨RX2, "fatigueOf", "(I)I"⟩
abbrev cX2_wouldHit : ByteArray := prog_1_method_17_code
def yX2_wouldHit : MethodName := ⟨RX2, "wouldHit", "(I)I"⟩
abbrev cX2_leader : ByteArray := prog_1_method_18_code
def yX2_leader : MethodName := ⟨RX2, "leader", "()I"⟩
abbrev cX2_tied : ByteArray := prog_1_method_19_code
def yX2_tied : MethodName := ⟨RX2, "tied", "()I"⟩
abbrev cX2_rankOf : ByteArray := prog_1_method_20_code
def yX2_rankOf : MethodName := ⟨RX2, "rankOf", "(I)I"⟩
abbrev cX2_scoreIn : ByteArray := prog_1_method_21_code
def yX2_scoreIn : MethodName := ⟨RX2, "scoreIn", "(II)I"⟩
abbrev cX2_turnsUntilMiss : ByteArray := prog_1_method_22_code
def yX2_turnsUntilMiss : MethodName := ⟨RX2, "turnsUntilMiss", "(I)I"⟩
abbrev cX2_leaderIn : ByteArray := prog_1_method_23_code
def yX2_leaderIn : MethodName := ⟨RX2, "leaderIn", "(I)I"⟩
abbrev cX2_wouldWin : ByteArray := prog_1_method_24_code
def yX2_wouldWin : MethodName := ⟨RX2, "wouldWin", "()I"⟩
abbrev cX2_bestRest : ByteArray := prog_1_method_25_code
def yX2_bestRest : MethodName := ⟨RX2, "bestRest", "(I)I"⟩
abbrev cX2_swingWanted : ByteArray := prog_1_method_26_code
def yX2_swingWanted : MethodName := ⟨RX2, "swingWanted", "(I)I"⟩
abbrev cX2_meanScore : ByteArray := prog_1_method_27_code
def yX2_meanScore : MethodName := ⟨RX2, "meanScore", "()D"⟩
abbrev cX2_digest : ByteArray := prog_1_method_28_code
def yX2_digest : MethodName := ⟨RX2, "digest", "()J"⟩
abbrev cX2_checkStand : ByteArray := prog_1_method_29_code
def yX2_checkStand : MethodName := ⟨RX2, "checkStand", "(I)V"⟩
abbrev cX2_checkGun : ByteArray := prog_1_method_30_code
def yX2_checkGun : MethodName := ⟨RX2, "checkGun", "(I)V"⟩
abbrev cX2_checkTurns : ByteArray := prog_1_method_31_code
def yX2_checkTurns : MethodName := ⟨RX2, "checkTurns", "(I)V"⟩
abbrev cX2_clayIn : ByteArray := prog_1_method_32_code
def yX2_clayIn : MethodName := ⟨RX2, "clayIn", "(I)I"⟩
abbrev cX2_standIn : ByteArray := prog_1_method_33_code
def yX2_standIn : MethodName := ⟨RX2, "standIn", "(II)I"⟩
abbrev cX2_scoreWithRest : ByteArray := prog_1_method_34_code
def yX2_scoreWithRest : MethodName := ⟨RX2, "scoreWithRest", "(II)I"⟩
abbrev cX2_fold : ByteArray := prog_1_method_35_code
def yX2_fold : MethodName := ⟨RX2, "fold", "(JJ)J"⟩
def RX3 : String := "ClayTrapsLaw$Sim"
def TX3 : u_T := fun k => match k with
  | 0 => ("ClayTrapsLaw$Sim", "turn", "I", false)
  | 1 => ("ClayTrapsLaw$Sim", "traps", "[[I", false)
  | _ => ("ClayTrapsLaw$Sim", "guns", "[[I", false)
def tyX3 : Nat → FieldType := fun k => match k with
  | 0 => .int
  | 1 => .array (.array .int)
  | _ => .array (.array .int)
abbrev wsX30 : List Cond := u_ws RX3 TX3 3
theorem nmX3 : ∀ a, a < 3 → ∀ b, b < 3 → a ≠ b → (TX3 a).2.1 ≠ (TX3 b).2.1 := by decide +kernel
theorem tyX3_ok : ∀ k, k < 3 → parseFieldDescriptor (TX3 k).2.2.1 = some (tyX3 k) := by decide +kernel
abbrev cX3_init : ByteArray := prog_5_method_1_code
def yX3_init : MethodName := ⟨RX3, "<init>", "()V"⟩
abbrev cX3_add : ByteArray := prog_5_method_2_code
def yX3_add : MethodName := ⟨RX3, "add", "(II)V"⟩
abbrev cX3_copy : ByteArray := prog_5_method_3_code
def yX3_copy : MethodName := ⟨RX3, "copy", "()LClayTrapsLaw$Sim;"⟩
abbrev cX3_angle : ByteArray := prog_5_method_4_code
def yX3_angle : MethodName := ⟨RX3, "angle", "(II)I"⟩
abbrev cX3_angleFor : ByteArray := prog_5_method_5_code
def yX3_angleFor : MethodName := ⟨RX3, "angleFor", "(I)I"⟩
abbrev cX3_amount : ByteArray := prog_5_method_6_code
def yX3_amount : MethodName := ⟨RX3, "amount", "(I)I"⟩
abbrev cX3_hit : ByteArray := prog_5_method_7_code
def yX3_hit : MethodName := ⟨RX3, "hit", "(I)I"⟩
abbrev cX3_pass : ByteArray := prog_5_method_8_code
def yX3_pass : MethodName := ⟨RX3, "pass", "()I"⟩
abbrev cX3_pass_ : ByteArray := prog_5_method_9_code
def yX3_pass_ : MethodName := ⟨RX3, "pass", "(I)I"⟩
abbrev cX3_leader : ByteArray := prog_5_method_10_code
def yX3_leader : MethodName := ⟨RX3, "leader", "()I"⟩
abbrev cX3_win : ByteArray := prog_5_method_11_code
def yX3_win : MethodName := ⟨RX3, "win", "()I"⟩
abbrev cX3_isSame : ByteArray := prog_5_method_12_code
def yX3_isSame : MethodName := ⟨RX3, "isSame", "(LClayTraps;)Z"⟩
def RX4 : String := "ClayTrapsModel"
def TX4 : u_T := fun k => match k with
  | _ => ("", "", "", false)
def tyX4 : Nat → FieldType := fun k => match k with
  | _ => .int
abbrev wsX40 : List Cond := u_ws RX4 TX4 0
theorem nmX4 : ∀ a, a < 0 → ∀ b, b < 0 → a ≠ b → (TX4 a).2.1 ≠ (TX4 b).2.1 := by decide +kernel
theorem tyX4_ok : ∀ k, k < 0 → parseFieldDescriptor (TX4 k).2.2.1 = some (tyX4 k) := by decide +kernel
def RJx8e188 : String := "java/lang/Cloneable"
def TJx8e188 : u_T := fun k => match k with
  | _ => ("", "", "", false)
def tyJx8e188 : Nat → FieldType := fun k => match k with
  | _ => .int
abbrev wsJx8e1880 : List Cond := u_ws RJx8e188 TJx8e188 0
theorem nmJx8e188 : ∀ a, a < 0 → ∀ b, b < 0 → a ≠ b → (TJx8e188 a).2.1 ≠ (TJx8e188 b).2.1 := by decide +kernel
theorem tyJx8e188_ok : ∀ k, k < 0 → parseFieldDescriptor (TJx8e188 k).2.2.1 = some (tyJx8e188 k) := by decide +kernel
def RJ9 : String := "java/lang/Math"
def TJ9 : u_T := fun k => match k with
  | _ => ("", "", "", false)
def tyJ9 : Nat → FieldType := fun k => match k with
  | _ => .int
abbrev wsJ90 : List Cond := u_ws RJ9 TJ9 0
theorem nmJ9 : ∀ a, a < 0 → ∀ b, b < 0 → a ≠ b → (TJ9 a).2.1 ≠ (TJ9 b).2.1 := by decide +kernel
theorem tyJ9_ok : ∀ k, k < 0 → parseFieldDescriptor (TJ9 k).2.2.1 = some (tyJ9 k) := by decide +kernel
abbrev cJ9_floorMod_7cf53 : ByteArray := prog_12_method_50_code
def yJ9_floorMod_7cf53 : MethodName := ⟨RJ9, "floorMod", "(II)I"⟩
abbrev cJ9_abs_0f7a4 : ByteArray := prog_12_method_59_code
def yJ9_abs_0f7a4 : MethodName := ⟨RJ9, "abs", "(I)I"⟩
abbrev cJ9_max_7cf53 : ByteArray := prog_12_method_65_code
def yJ9_max_7cf53 : MethodName := ⟨RJ9, "max", "(II)I"⟩
def RJ0 : String := "java/lang/String"
def TJ0 : u_T := fun k => match k with
  | _ => ("", "", "", false)
def tyJ0 : Nat → FieldType := fun k => match k with
  | _ => .int
abbrev wsJ00 : List Cond := u_ws RJ0 TJ0 0
theorem nmJ0 : ∀ a, a < 0 → ∀ b, b < 0 → a ≠ b → (TJ0 a).2.1 ≠ (TJ0 b).2.1 := by decide +kernel
theorem tyJ0_ok : ∀ k, k < 0 → parseFieldDescriptor (TJ0 k).2.2.1 = some (tyJ0 k) := by decide +kernel
def RL : String := "ClayTrapsLaw"
abbrev cL_below : ByteArray := method_2_code
def yL_below : MethodName := ⟨RL, "below", "(II)I"⟩
abbrev cL_cell : ByteArray := method_3_code
def yL_cell : MethodName := ⟨RL, "cell", "([II)I"⟩
abbrev cL_act : ByteArray := method_4_code
def yL_act : MethodName := ⟨RL, "act", "(LClayTraps;LClayTrapsLaw$Sim;I)Z"⟩
abbrev cL_build : ByteArray := method_5_code
def yL_build : MethodName := ⟨RL, "build", "(LClayTraps;[I)LClayTrapsLaw$Sim;"⟩
abbrev cL_law : ByteArray := code
def yL_law : MethodName := ⟨RL, "law", "([I)Z"⟩
abbrev vwCl : List vw_C := [(RX0, TX0, 9), (RX1, TX1, 2), (RX2, TX2, 4), (RX3, TX3, 3)]
/-- the words of every method: all good ones of the tables -/
def zAW : List Cond := lw_tbl.filter goodWord
