set_option maxRecDepth 100000 in
set_option maxHeartbeats 4000000 in
theorem kx_X2_setTrap_a (l : Launch) (G : va_G) (cI cZ cJ : ClassId) (h : Nat) (ta : Nat → Nat) (sa : Nat → Nat) (ua : Nat → Nat) (T : Nat) (b : Nat → Int32) (r : Nat → Int32) (sw : Nat → Int32) (st : Nat → Int32) (fa : Nat → Int32) (sc : Nat → Int32) (fi : Nat → Int32) (mi : Nat → Int32) (lf : Nat → Bool) (hi : Nat → Bool) (n : Nat) (sw2 : Nat → Int32) (st2 : Nat → Int32) (fa2 : Nat → Int32) (sc2 : Nat → Int32) (fi2 : Nat → Int32) (mi2 : Nat → Int32) (lf2 : Nat → Bool) (hi2 : Nat → Bool) (n2 : Nat) (x : Int32) (y : Int32) (z : Int32) (hl : l.stackTraces = false) (hn : n ≤ 6) (hT : T < 2 ^ 29) (hb : x < 0 ∨ nI 5 ≤ x) : MX l yX2_setTrap cX2_setTrap 5 7 102 (some .int) G (tY cI cZ cJ) [.ref h, .int x, .int y, .int z] ((wH h ta sa ua T) ++ (wT ta cI b r) ++ (wS sa cI cZ sw st fa sc fi mi lf hi n) ++ (wS ua cI cZ sw2 st2 fa2 sc2 fi2 mi2 lf2 hi2 n2)) "java/lang/IndexOutOfBoundsException" 1 6 := by
  refine MX_of (by decide) (Nat.le_of_ble_eq_true rfl) [(0, .ref h), (1, .int x), (2, .int y), (3, .int z)] rfl ?_
  intro p e s m below meth c hC hno hlocks hname
  have hC : Cx p s m _ c cX2_setTrap 5 RX2 G (tY cI cZ cJ) _ := hC
  refine z_iload_n (n := 1) hC dX2_setTrap_0 rfl 1 rfl rfl ?_
  exact z_callsx (As := [.int x]) (rest := []) hC hno hlocks (kx_X2_checkStand l G cI cZ cJ x hl hb) kg_X2_48 kd_yX2_checkStand dX2_setTrap_1 ⟨Nat.le_of_ble_eq_true rfl, Nat.le_of_ble_eq_true rfl⟩ rfl (Nat.le_of_ble_eq_true rfl) ⟨Nat.le_of_ble_eq_true rfl, Nat.le_of_ble_eq_true rfl⟩ rfl (Nat.le_refl _) (Nat.le_refl _)

set_option maxRecDepth 100000 in
set_option maxHeartbeats 4000000 in
theorem kx_X2_angle_a (l : Launch) (G : va_G) (cI cZ cJ : ClassId) (h : Nat) (ta : Nat → Nat) (sa : Nat → Nat) (ua : Nat → Nat) (T : Nat) (b : Nat → Int32) (r : Nat → Int32) (sw : Nat → Int32) (st : Nat → Int32) (fa : Nat → Int32) (sc : Nat → Int32) (fi : Nat → Int32) (mi : Nat → Int32) (lf : Nat → Bool) (hi : Nat → Bool) (n : Nat) (sw2 : Nat → Int32) (st2 : Nat → Int32) (fa2 : Nat → Int32) (sc2 : Nat → Int32) (fi2 : Nat → Int32) (mi2 : Nat → Int32) (lf2 : Nat → Bool) (hi2 : Nat → Bool) (n2 : Nat) (x : Int32) (y : Int32) (hl : l.stackTraces = false) (hn : n ≤ 6) (hT : T < 2 ^ 29) (hb : x < 0 ∨ nI 5 ≤ x) : MX l yX2_angle cX2_angle 3 7 102 (some .int) G (tY cI cZ cJ) [.ref h, .int x, .int y] ((wH h ta sa ua T) ++ (wT ta cI b r) ++ (wS sa cI cZ sw st fa sc fi mi lf hi n) ++ (wS ua cI cZ sw2 st2 fa2 sc2 fi2 mi2 lf2 hi2 n2)) "java/lang/IndexOutOfBoundsException" 1 6 := by
  refine MX_of (by decide) (Nat.le_of_ble_eq_true rfl) [(0, .ref h), (1, .int x), (2, .int y)] rfl ?_
  intro p e s m below meth c hC hno hlocks hname
  have hC : Cx p s m _ c cX2_angle 3 RX2 G (tY cI cZ cJ) _ := hC
  refine z_iload_n (n := 1) hC dX2_angle_0 rfl 1 rfl rfl ?_
  exact z_callsx (As := [.int x]) (rest := []) hC hno hlocks (kx_X2_checkStand l G cI cZ cJ x hl hb) kg_X2_48 kd_yX2_checkStand dX2_angle_1 ⟨Nat.le_of_ble_eq_true rfl, Nat.le_of_ble_eq_true rfl⟩ rfl (Nat.le_of_ble_eq_true rfl) ⟨Nat.le_of_ble_eq_true rfl, Nat.le_of_ble_eq_true rfl⟩ rfl (Nat.le_refl _) (Nat.le_refl _)

set_option maxRecDepth 100000 in
set_option maxHeartbeats 4000000 in
theorem kx_X2_hardestClay (l : Launch) (G : va_G) (cI cZ cJ : ClassId) (h : Nat) (ta : Nat → Nat) (sa : Nat → Nat) (ua : Nat → Nat) (T : Nat) (b : Nat → Int32) (r : Nat → Int32) (sw : Nat → Int32) (st : Nat → Int32) (fa : Nat → Int32) (sc : Nat → Int32) (fi : Nat → Int32) (mi : Nat → Int32) (lf : Nat → Bool) (hi : Nat → Bool) (n : Nat) (sw2 : Nat → Int32) (st2 : Nat → Int32) (fa2 : Nat → Int32) (sc2 : Nat → Int32) (fi2 : Nat → Int32) (mi2 : Nat → Int32) (lf2 : Nat → Bool) (hi2 : Nat → Bool) (n2 : Nat) (x : Int32) (hl : l.stackTraces = false) (hn : n ≤ 6) (hT : T < 2 ^ 29) (hb : x < 0 ∨ nI 5 ≤ x) : MX l yX2_hardestClay cX2_hardestClay 2 7 102 (some .int) G (tY cI cZ cJ) [.ref h, .int x] ((wH h ta sa ua T) ++ (wT ta cI b r) ++ (wS sa cI cZ sw st fa sc fi mi lf hi n) ++ (wS ua cI cZ sw2 st2 fa2 sc2 fi2 mi2 lf2 hi2 n2)) "java/lang/IndexOutOfBoundsException" 1 6 := by
  refine MX_of (by decide) (Nat.le_of_ble_eq_true rfl) [(0, .ref h), (1, .int x)] rfl ?_
  intro p e s m below meth c hC hno hlocks hname
  have hC : Cx p s m _ c cX2_hardestClay 2 RX2 G (tY cI cZ cJ) _ := hC
  refine z_iload_n (n := 1) hC dX2_hardestClay_0 rfl 1 rfl rfl ?_
  exact z_callsx (As := [.int x]) (rest := []) hC hno hlocks (kx_X2_checkStand l G cI cZ cJ x hl hb) kg_X2_48 kd_yX2_checkStand dX2_hardestClay_1 ⟨Nat.le_of_ble_eq_true rfl, Nat.le_of_ble_eq_true rfl⟩ rfl (Nat.le_of_ble_eq_true rfl) ⟨Nat.le_of_ble_eq_true rfl, Nat.le_of_ble_eq_true rfl⟩ rfl (Nat.le_refl _) (Nat.le_refl _)

set_option maxRecDepth 100000 in
set_option maxHeartbeats 4000000 in
theorem kx_X2_pass (l : Launch) (G : va_G) (cI cZ cJ : ClassId) (h : Nat) (ta : Nat → Nat) (sa : Nat → Nat) (ua : Nat → Nat) (T : Nat) (b : Nat → Int32) (r : Nat → Int32) (sw : Nat → Int32) (st : Nat → Int32) (fa : Nat → Int32) (sc : Nat → Int32) (fi : Nat → Int32) (mi : Nat → Int32) (lf : Nat → Bool) (hi : Nat → Bool) (n : Nat) (sw2 : Nat → Int32) (st2 : Nat → Int32) (fa2 : Nat → Int32) (sc2 : Nat → Int32) (fi2 : Nat → Int32) (mi2 : Nat → Int32) (lf2 : Nat → Bool) (hi2 : Nat → Bool) (n2 : Nat) (x : Int32) (hl : l.stackTraces = false) (hn : n ≤ 6) (hT : T < 2 ^ 29) (hb : x < nI 1 ∨ nI 50 < x) : MX l yX2_pass cX2_pass 3 7 102 (some .int) G (tY cI cZ cJ) [.ref h, .int x] ((wH h ta sa ua T) ++ (wT ta cI b r) ++ (wS sa cI cZ sw st fa sc fi mi lf hi n) ++ (wS ua cI cZ sw2 st2 fa2 sc2 fi2 mi2 lf2 hi2 n2)) "java/lang/IllegalArgumentException" 1 6 := by
  refine MX_of (by decide) (Nat.le_of_ble_eq_true rfl) [(0, .ref h), (1, .int x)] rfl ?_
  intro p e s m below meth c hC hno hlocks hname
  have hC : Cx p s m _ c cX2_pass 3 RX2 G (tY cI cZ cJ) _ := hC
  refine z_iload_n (n := 1) hC dX2_pass_0 rfl 1 rfl rfl ?_
  exact z_callsx (As := [.int x]) (rest := []) hC hno hlocks (kx_X2_checkTurns l G cI cZ cJ x hl hb) kg_X2_69 kd_yX2_checkTurns dX2_pass_1 ⟨Nat.le_of_ble_eq_true rfl, Nat.le_of_ble_eq_true rfl⟩ rfl (Nat.le_of_ble_eq_true rfl) ⟨Nat.le_of_ble_eq_true rfl, Nat.le_of_ble_eq_true rfl⟩ rfl (Nat.le_refl _) (Nat.le_refl _)

set_option maxRecDepth 100000 in
set_option maxHeartbeats 4000000 in
theorem kx_X2_leaderIn (l : Launch) (G : va_G) (cI cZ cJ : ClassId) (h : Nat) (ta : Nat → Nat) (sa : Nat → Nat) (ua : Nat → Nat) (T : Nat) (b : Nat → Int32) (r : Nat → Int32) (sw : Nat → Int32) (st : Nat → Int32) (fa : Nat → Int32) (sc : Nat → Int32) (fi : Nat → Int32) (mi : Nat → Int32) (lf : Nat → Bool) (hi : Nat → Bool) (n : Nat) (sw2 : Nat → Int32) (st2 : Nat → Int32) (fa2 : Nat → Int32) (sc2 : Nat → Int32) (fi2 : Nat → Int32) (mi2 : Nat → Int32) (lf2 : Nat → Bool) (hi2 : Nat → Bool) (n2 : Nat) (x : Int32) (hl : l.stackTraces = false) (hn : n ≤ 6) (hT : T < 2 ^ 29) (hb : x < nI 1 ∨ nI 50 < x) : MX l yX2_leaderIn cX2_leaderIn 2 7 102 (some .int) G (tY cI cZ cJ) [.ref h, .int x] ((wH h ta sa ua T) ++ (wT ta cI b r) ++ (wS sa cI cZ sw st fa sc fi mi lf hi n) ++ (wS ua cI cZ sw2 st2 fa2 sc2 fi2 mi2 lf2 hi2 n2)) "java/lang/IllegalArgumentException" 1 6 := by
  refine MX_of (by decide) (Nat.le_of_ble_eq_true rfl) [(0, .ref h), (1, .int x)] rfl ?_
  intro p e s m below meth c hC hno hlocks hname
  have hC : Cx p s m _ c cX2_leaderIn 2 RX2 G (tY cI cZ cJ) _ := hC
  refine z_iload_n (n := 1) hC dX2_leaderIn_0 rfl 1 rfl rfl ?_
  exact z_callsx (As := [.int x]) (rest := []) hC hno hlocks (kx_X2_checkTurns l G cI cZ cJ x hl hb) kg_X2_69 kd_yX2_checkTurns dX2_leaderIn_1 ⟨Nat.le_of_ble_eq_true rfl, Nat.le_of_ble_eq_true rfl⟩ rfl (Nat.le_of_ble_eq_true rfl) ⟨Nat.le_of_ble_eq_true rfl, Nat.le_of_ble_eq_true rfl⟩ rfl (Nat.le_refl _) (Nat.le_refl _)
