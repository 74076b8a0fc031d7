set_option maxRecDepth 100000 in
set_option maxHeartbeats 4000000 in
theorem kx_X2_rest (l : Launch) (G : va_G) (cI cZ cJ : ClassId) (h : Nat) (ta : Nat → Nat) (sa : Nat → Nat) (ua : Nat → Nat) (T : Nat) (b : Nat → Int32) (r : Nat → Int32) (sw : Nat → Int32) (st : Nat → Int32) (fa : Nat → Int32) (sc : Nat → Int32) (fi : Nat → Int32) (mi : Nat → Int32) (lf : Nat → Bool) (hi : Nat → Bool) (n : Nat) (sw2 : Nat → Int32) (st2 : Nat → Int32) (fa2 : Nat → Int32) (sc2 : Nat → Int32) (fi2 : Nat → Int32) (mi2 : Nat → Int32) (lf2 : Nat → Bool) (hi2 : Nat → Bool) (n2 : Nat) (x : Int32) (hl : l.stackTraces = false) (hn : n ≤ 6) (hT : T < 2 ^ 29) (hb : x < 0 ∨ nI n ≤ x) : MX l yX2_rest cX2_rest 3 7 103 (some .int) G (tY cI cZ cJ) [.ref h, .int x] ((wH h ta sa ua T) ++ (wT ta cI b r) ++ (wS sa cI cZ sw st fa sc fi mi lf hi n) ++ (wS ua cI cZ sw2 st2 fa2 sc2 fi2 mi2 lf2 hi2 n2)) "java/lang/IndexOutOfBoundsException" 1 6 := by
  refine MX_of (by decide) (Nat.le_of_ble_eq_true rfl) [(0, .ref h), (1, .int x)] rfl ?_
  intro p e s m below meth c hC hno hlocks hname
  have hC : Cx p s m _ c cX2_rest 3 RX2 G (tY cI cZ cJ) _ := hC
  refine z_aload_n (n := 1) hC dX2_rest_0 rfl 0 rfl rfl ?_
  refine z_iload_n (n := 2) hC dX2_rest_1 rfl 1 rfl rfl ?_
  exact z_callvx (As := [.int x]) (rest := []) hC hno hlocks (kx_X2_checkGun l G cI cZ cJ h ta sa ua T sw st fa sc fi mi lf hi n x hl hn hb) kg_X2_63 kd_yX2_checkGun dX2_rest_2 ⟨Nat.le_of_ble_eq_true rfl, Nat.le_of_ble_eq_true rfl⟩ 0 rfl rfl rfl [0, 4, 5, 6, 7, 8, 9, 10, 11, 12] rfl (by decide) rfl (Nat.le_of_ble_eq_true rfl) ⟨Nat.le_of_ble_eq_true rfl, Nat.le_of_ble_eq_true rfl⟩ [1, 2, 3, 13, 14, 15, 16, 17, 18, 19, 20, 21] rfl rfl (Nat.le_refl _) (Nat.le_refl _)

set_option maxRecDepth 100000 in
set_option maxHeartbeats 4000000 in
theorem kx_X2_standOf (l : Launch) (G : va_G) (cI cZ cJ : ClassId) (h : Nat) (ta : Nat → Nat) (sa : Nat → Nat) (ua : Nat → Nat) (T : Nat) (b : Nat → Int32) (r : Nat → Int32) (sw : Nat → Int32) (st : Nat → Int32) (fa : Nat → Int32) (sc : Nat → Int32) (fi : Nat → Int32) (mi : Nat → Int32) (lf : Nat → Bool) (hi : Nat → Bool) (n : Nat) (sw2 : Nat → Int32) (st2 : Nat → Int32) (fa2 : Nat → Int32) (sc2 : Nat → Int32) (fi2 : Nat → Int32) (mi2 : Nat → Int32) (lf2 : Nat → Bool) (hi2 : Nat → Bool) (n2 : Nat) (x : Int32) (hl : l.stackTraces = false) (hn : n ≤ 6) (hT : T < 2 ^ 29) (hb : x < 0 ∨ nI n ≤ x) : MX l yX2_standOf cX2_standOf 2 7 103 (some .int) G (tY cI cZ cJ) [.ref h, .int x] ((wH h ta sa ua T) ++ (wT ta cI b r) ++ (wS sa cI cZ sw st fa sc fi mi lf hi n) ++ (wS ua cI cZ sw2 st2 fa2 sc2 fi2 mi2 lf2 hi2 n2)) "java/lang/IndexOutOfBoundsException" 1 6 := by
  refine MX_of (by decide) (Nat.le_of_ble_eq_true rfl) [(0, .ref h), (1, .int x)] rfl ?_
  intro p e s m below meth c hC hno hlocks hname
  have hC : Cx p s m _ c cX2_standOf 2 RX2 G (tY cI cZ cJ) _ := hC
  refine z_aload_n (n := 1) hC dX2_standOf_0 rfl 0 rfl rfl ?_
  refine z_iload_n (n := 2) hC dX2_standOf_1 rfl 1 rfl rfl ?_
  exact z_callvx (As := [.int x]) (rest := []) hC hno hlocks (kx_X2_checkGun l G cI cZ cJ h ta sa ua T sw st fa sc fi mi lf hi n x hl hn hb) kg_X2_63 kd_yX2_checkGun dX2_standOf_2 ⟨Nat.le_of_ble_eq_true rfl, Nat.le_of_ble_eq_true rfl⟩ 0 rfl rfl rfl [0, 4, 5, 6, 7, 8, 9, 10, 11, 12] rfl (by decide) rfl (Nat.le_of_ble_eq_true rfl) ⟨Nat.le_of_ble_eq_true rfl, Nat.le_of_ble_eq_true rfl⟩ [1, 2, 3, 13, 14, 15, 16, 17, 18, 19, 20, 21] rfl rfl (Nat.le_refl _) (Nat.le_refl _)

set_option maxRecDepth 100000 in
set_option maxHeartbeats 4000000 in
theorem kx_X2_angleFor (l : Launch) (G : va_G) (cI cZ cJ : ClassId) (h : Nat) (ta : Nat → Nat) (sa : Nat → Nat) (ua : Nat → Nat) (T : Nat) (b : Nat → Int32) (r : Nat → Int32) (sw : Nat → Int32) (st : Nat → Int32) (fa : Nat → Int32) (sc : Nat → Int32) (fi : Nat → Int32) (mi : Nat → Int32) (lf : Nat → Bool) (hi : Nat → Bool) (n : Nat) (sw2 : Nat → Int32) (st2 : Nat → Int32) (fa2 : Nat → Int32) (sc2 : Nat → Int32) (fi2 : Nat → Int32) (mi2 : Nat → Int32) (lf2 : Nat → Bool) (hi2 : Nat → Bool) (n2 : Nat) (x : Int32) (hl : l.stackTraces = false) (hn : n ≤ 6) (hT : T < 2 ^ 29) (hb : x < 0 ∨ nI n ≤ x) : MX l yX2_angleFor cX2_angleFor 2 7 103 (some .int) G (tY cI cZ cJ) [.ref h, .int x] ((wH h ta sa ua T) ++ (wT ta cI b r) ++ (wS sa cI cZ sw st fa sc fi mi lf hi n) ++ (wS ua cI cZ sw2 st2 fa2 sc2 fi2 mi2 lf2 hi2 n2)) "java/lang/IndexOutOfBoundsException" 1 6 := by
  refine MX_of (by decide) (Nat.le_of_ble_eq_true rfl) [(0, .ref h), (1, .int x)] rfl ?_
  intro p e s m below meth c hC hno hlocks hname
  have hC : Cx p s m _ c cX2_angleFor 2 RX2 G (tY cI cZ cJ) _ := hC
  refine z_aload_n (n := 1) hC dX2_angleFor_0 rfl 0 rfl rfl ?_
  refine z_iload_n (n := 2) hC dX2_angleFor_1 rfl 1 rfl rfl ?_
  exact z_callvx (As := [.int x]) (rest := []) hC hno hlocks (kx_X2_checkGun l G cI cZ cJ h ta sa ua T sw st fa sc fi mi lf hi n x hl hn hb) kg_X2_63 kd_yX2_checkGun dX2_angleFor_2 ⟨Nat.le_of_ble_eq_true rfl, Nat.le_of_ble_eq_true rfl⟩ 0 rfl rfl rfl [0, 4, 5, 6, 7, 8, 9, 10, 11, 12] rfl (by decide) rfl (Nat.le_of_ble_eq_true rfl) ⟨Nat.le_of_ble_eq_true rfl, Nat.le_of_ble_eq_true rfl⟩ [1, 2, 3, 13, 14, 15, 16, 17, 18, 19, 20, 21] rfl rfl (Nat.le_refl _) (Nat.le_refl _)

set_option maxRecDepth 100000 in
set_option maxHeartbeats 4000000 in
theorem kx_X2_scoreOf (l : Launch) (G : va_G) (cI cZ cJ : ClassId) (h : Nat) (ta : Nat → Nat) (sa : Nat → Nat) (ua : Nat → Nat) (T : Nat) (b : Nat → Int32) (r : Nat → Int32) (sw : Nat → Int32) (st : Nat → Int32) (fa : Nat → Int32) (sc : Nat → Int32) (fi : Nat → Int32) (mi : Nat → Int32) (lf : Nat → Bool) (hi : Nat → Bool) (n : Nat) (sw2 : Nat → Int32) (st2 : Nat → Int32) (fa2 : Nat → Int32) (sc2 : Nat → Int32) (fi2 : Nat → Int32) (mi2 : Nat → Int32) (lf2 : Nat → Bool) (hi2 : Nat → Bool) (n2 : Nat) (x : Int32) (hl : l.stackTraces = false) (hn : n ≤ 6) (hT : T < 2 ^ 29) (hb : x < 0 ∨ nI n ≤ x) : MX l yX2_scoreOf cX2_scoreOf 2 7 103 (some .int) G (tY cI cZ cJ) [.ref h, .int x] ((wH h ta sa ua T) ++ (wT ta cI b r) ++ (wS sa cI cZ sw st fa sc fi mi lf hi n) ++ (wS ua cI cZ sw2 st2 fa2 sc2 fi2 mi2 lf2 hi2 n2)) "java/lang/IndexOutOfBoundsException" 1 6 := by
  refine MX_of (by decide) (Nat.le_of_ble_eq_true rfl) [(0, .ref h), (1, .int x)] rfl ?_
  intro p e s m below meth c hC hno hlocks hname
  have hC : Cx p s m _ c cX2_scoreOf 2 RX2 G (tY cI cZ cJ) _ := hC
  refine z_aload_n (n := 1) hC dX2_scoreOf_0 rfl 0 rfl rfl ?_
  refine z_iload_n (n := 2) hC dX2_scoreOf_1 rfl 1 rfl rfl ?_
  exact z_callvx (As := [.int x]) (rest := []) hC hno hlocks (kx_X2_checkGun l G cI cZ cJ h ta sa ua T sw st fa sc fi mi lf hi n x hl hn hb) kg_X2_63 kd_yX2_checkGun dX2_scoreOf_2 ⟨Nat.le_of_ble_eq_true rfl, Nat.le_of_ble_eq_true rfl⟩ 0 rfl rfl rfl [0, 4, 5, 6, 7, 8, 9, 10, 11, 12] rfl (by decide) rfl (Nat.le_of_ble_eq_true rfl) ⟨Nat.le_of_ble_eq_true rfl, Nat.le_of_ble_eq_true rfl⟩ [1, 2, 3, 13, 14, 15, 16, 17, 18, 19, 20, 21] rfl rfl (Nat.le_refl _) (Nat.le_refl _)

set_option maxRecDepth 100000 in
set_option maxHeartbeats 4000000 in
theorem kx_X2_firstsOf (l : Launch) (G : va_G) (cI cZ cJ : ClassId) (h : Nat) (ta : Nat → Nat) (sa : Nat → Nat) (ua : Nat → Nat) (T : Nat) (b : Nat → Int32) (r : Nat → Int32) (sw : Nat → Int32) (st : Nat → Int32) (fa : Nat → Int32) (sc : Nat → Int32) (fi : Nat → Int32) (mi : Nat → Int32) (lf : Nat → Bool) (hi : Nat → Bool) (n : Nat) (sw2 : Nat → Int32) (st2 : Nat → Int32) (fa2 : Nat → Int32) (sc2 : Nat → Int32) (fi2 : Nat → Int32) (mi2 : Nat → Int32) (lf2 : Nat → Bool) (hi2 : Nat → Bool) (n2 : Nat) (x : Int32) (hl : l.stackTraces = false) (hn : n ≤ 6) (hT : T < 2 ^ 29) (hb : x < 0 ∨ nI n ≤ x) : MX l yX2_firstsOf cX2_firstsOf 2 7 103 (some .int) G (tY cI cZ cJ) [.ref h, .int x] ((wH h ta sa ua T) ++ (wT ta cI b r) ++ (wS sa cI cZ sw st fa sc fi mi lf hi n) ++ (wS ua cI cZ sw2 st2 fa2 sc2 fi2 mi2 lf2 hi2 n2)) "java/lang/IndexOutOfBoundsException" 1 6 := by
  refine MX_of (by decide) (Nat.le_of_ble_eq_true rfl) [(0, .ref h), (1, .int x)] rfl ?_
  intro p e s m below meth c hC hno hlocks hname
  have hC : Cx p s m _ c cX2_firstsOf 2 RX2 G (tY cI cZ cJ) _ := hC
  refine z_aload_n (n := 1) hC dX2_firstsOf_0 rfl 0 rfl rfl ?_
  refine z_iload_n (n := 2) hC dX2_firstsOf_1 rfl 1 rfl rfl ?_
  exact z_callvx (As := [.int x]) (rest := []) hC hno hlocks (kx_X2_checkGun l G cI cZ cJ h ta sa ua T sw st fa sc fi mi lf hi n x hl hn hb) kg_X2_63 kd_yX2_checkGun dX2_firstsOf_2 ⟨Nat.le_of_ble_eq_true rfl, Nat.le_of_ble_eq_true rfl⟩ 0 rfl rfl rfl [0, 4, 5, 6, 7, 8, 9, 10, 11, 12] rfl (by decide) rfl (Nat.le_of_ble_eq_true rfl) ⟨Nat.le_of_ble_eq_true rfl, Nat.le_of_ble_eq_true rfl⟩ [1, 2, 3, 13, 14, 15, 16, 17, 18, 19, 20, 21] rfl rfl (Nat.le_refl _) (Nat.le_refl _)

set_option maxRecDepth 100000 in
set_option maxHeartbeats 4000000 in
theorem kx_X2_missesOf (l : Launch) (G : va_G) (cI cZ cJ : ClassId) (h : Nat) (ta : Nat → Nat) (sa : Nat → Nat) (ua : Nat → Nat) (T : Nat) (b : Nat → Int32) (r : Nat → Int32) (sw : Nat → Int32) (st : Nat → Int32) (fa : Nat → Int32) (sc : Nat → Int32) (fi : Nat → Int32) (mi : Nat → Int32) (lf : Nat → Bool) (hi : Nat → Bool) (n : Nat) (sw2 : Nat → Int32) (st2 : Nat → Int32) (fa2 : Nat → Int32) (sc2 : Nat → Int32) (fi2 : Nat → Int32) (mi2 : Nat → Int32) (lf2 : Nat → Bool) (hi2 : Nat → Bool) (n2 : Nat) (x : Int32) (hl : l.stackTraces = false) (hn : n ≤ 6) (hT : T < 2 ^ 29) (hb : x < 0 ∨ nI n ≤ x) : MX l yX2_missesOf cX2_missesOf 2 7 103 (some .int) G (tY cI cZ cJ) [.ref h, .int x] ((wH h ta sa ua T) ++ (wT ta cI b r) ++ (wS sa cI cZ sw st fa sc fi mi lf hi n) ++ (wS ua cI cZ sw2 st2 fa2 sc2 fi2 mi2 lf2 hi2 n2)) "java/lang/IndexOutOfBoundsException" 1 6 := by
  refine MX_of (by decide) (Nat.le_of_ble_eq_true rfl) [(0, .ref h), (1, .int x)] rfl ?_
  intro p e s m below meth c hC hno hlocks hname
  have hC : Cx p s m _ c cX2_missesOf 2 RX2 G (tY cI cZ cJ) _ := hC
  refine z_aload_n (n := 1) hC dX2_missesOf_0 rfl 0 rfl rfl ?_
  refine z_iload_n (n := 2) hC dX2_missesOf_1 rfl 1 rfl rfl ?_
  exact z_callvx (As := [.int x]) (rest := []) hC hno hlocks (kx_X2_checkGun l G cI cZ cJ h ta sa ua T sw st fa sc fi mi lf hi n x hl hn hb) kg_X2_63 kd_yX2_checkGun dX2_missesOf_2 ⟨Nat.le_of_ble_eq_true rfl, Nat.le_of_ble_eq_true rfl⟩ 0 rfl rfl rfl [0, 4, 5, 6, 7, 8, 9, 10, 11, 12] rfl (by decide) rfl (Nat.le_of_ble_eq_true rfl) ⟨Nat.le_of_ble_eq_true rfl, Nat.le_of_ble_eq_true rfl⟩ [1, 2, 3, 13, 14, 15, 16, 17, 18, 19, 20, 21] rfl rfl (Nat.le_refl _) (Nat.le_refl _)

set_option maxRecDepth 100000 in
set_option maxHeartbeats 4000000 in
theorem kx_X2_fatigueOf (l : Launch) (G : va_G) (cI cZ cJ : ClassId) (h : Nat) (ta : Nat → Nat) (sa : Nat → Nat) (ua : Nat → Nat) (T : Nat) (b : Nat → Int32) (r : Nat → Int32) (sw : Nat → Int32) (st : Nat → Int32) (fa : Nat → Int32) (sc : Nat → Int32) (fi : Nat → Int32) (mi : Nat → Int32) (lf : Nat → Bool) (hi : Nat → Bool) (n : Nat) (sw2 : Nat → Int32) (st2 : Nat → Int32) (fa2 : Nat → Int32) (sc2 : Nat → Int32) (fi2 : Nat → Int32) (mi2 : Nat → Int32) (lf2 : Nat → Bool) (hi2 : Nat → Bool) (n2 : Nat) (x : Int32) (hl : l.stackTraces = false) (hn : n ≤ 6) (hT : T < 2 ^ 29) (hb : x < 0 ∨ nI n ≤ x) : MX l yX2_fatigueOf cX2_fatigueOf 2 7 103 (some .int) G (tY cI cZ cJ) [.ref h, .int x] ((wH h ta sa ua T) ++ (wT ta cI b r) ++ (wS sa cI cZ sw st fa sc fi mi lf hi n) ++ (wS ua cI cZ sw2 st2 fa2 sc2 fi2 mi2 lf2 hi2 n2)) "java/lang/IndexOutOfBoundsException" 1 6 := by
  refine MX_of (by decide) (Nat.le_of_ble_eq_true rfl) [(0, .ref h), (1, .int x)] rfl ?_
  intro p e s m below meth c hC hno hlocks hname
  have hC : Cx p s m _ c cX2_fatigueOf 2 RX2 G (tY cI cZ cJ) _ := hC
  refine z_aload_n (n := 1) hC dX2_fatigueOf_0 rfl 0 rfl rfl ?_
  refine z_iload_n (n := 2) hC dX2_fatigueOf_1 rfl 1 rfl rfl ?_
  exact z_callvx (As := [.int x]) (rest := []) hC hno hlocks (kx_X2_checkGun l G cI cZ cJ h ta sa ua T sw st fa sc fi mi lf hi n x hl hn hb) kg_X2_63 kd_yX2_checkGun dX2_fatigueOf_2 ⟨Nat.le_of_ble_eq_true rfl, Nat.le_of_ble_eq_true rfl⟩ 0 rfl rfl rfl [0, 4, 5, 6, 7, 8, 9, 10, 11, 12] rfl (by decide) rfl (Nat.le_of_ble_eq_true rfl) ⟨Nat.le_of_ble_eq_true rfl, Nat.le_of_ble_eq_true rfl⟩ [1, 2, 3, 13, 14, 15, 16, 17, 18, 19, 20, 21] rfl rfl (Nat.le_refl _) (Nat.le_refl _)

set_option maxRecDepth 100000 in
set_option maxHeartbeats 4000000 in
theorem kx_X2_wouldHit (l : Launch) (G : va_G) (cI cZ cJ : ClassId) (h : Nat) (ta : Nat → Nat) (sa : Nat → Nat) (ua : Nat → Nat) (T : Nat) (b : Nat → Int32) (r : Nat → Int32) (sw : Nat → Int32) (st : Nat → Int32) (fa : Nat → Int32) (sc : Nat → Int32) (fi : Nat → Int32) (mi : Nat → Int32) (lf : Nat → Bool) (hi : Nat → Bool) (n : Nat) (sw2 : Nat → Int32) (st2 : Nat → Int32) (fa2 : Nat → Int32) (sc2 : Nat → Int32) (fi2 : Nat → Int32) (mi2 : Nat → Int32) (lf2 : Nat → Bool) (hi2 : Nat → Bool) (n2 : Nat) (x : Int32) (hl : l.stackTraces = false) (hn : n ≤ 6) (hT : T < 2 ^ 29) (hb : x < 0 ∨ nI n ≤ x) : MX l yX2_wouldHit cX2_wouldHit 2 7 103 (some .int) G (tY cI cZ cJ) [.ref h, .int x] ((wH h ta sa ua T) ++ (wT ta cI b r) ++ (wS sa cI cZ sw st fa sc fi mi lf hi n) ++ (wS ua cI cZ sw2 st2 fa2 sc2 fi2 mi2 lf2 hi2 n2)) "java/lang/IndexOutOfBoundsException" 1 6 := by
  refine MX_of (by decide) (Nat.le_of_ble_eq_true rfl) [(0, .ref h), (1, .int x)] rfl ?_
  intro p e s m below meth c hC hno hlocks hname
  have hC : Cx p s m _ c cX2_wouldHit 2 RX2 G (tY cI cZ cJ) _ := hC
  refine z_aload_n (n := 1) hC dX2_wouldHit_0 rfl 0 rfl rfl ?_
  refine z_iload_n (n := 2) hC dX2_wouldHit_1 rfl 1 rfl rfl ?_
  exact z_callvx (As := [.int x]) (rest := []) hC hno hlocks (kx_X2_checkGun l G cI cZ cJ h ta sa ua T sw st fa sc fi mi lf hi n x hl hn hb) kg_X2_63 kd_yX2_checkGun dX2_wouldHit_2 ⟨Nat.le_of_ble_eq_true rfl, Nat.le_of_ble_eq_true rfl⟩ 0 rfl rfl rfl [0, 4, 5, 6, 7, 8, 9, 10, 11, 12] rfl (by decide) rfl (Nat.le_of_ble_eq_true rfl) ⟨Nat.le_of_ble_eq_true rfl, Nat.le_of_ble_eq_true rfl⟩ [1, 2, 3, 13, 14, 15, 16, 17, 18, 19, 20, 21] rfl rfl (Nat.le_refl _) (Nat.le_refl _)

set_option maxRecDepth 100000 in
set_option maxHeartbeats 4000000 in
theorem kx_X2_rankOf (l : Launch) (G : va_G) (cI cZ cJ : ClassId) (h : Nat) (ta : Nat → Nat) (sa : Nat → Nat) (ua : Nat → Nat) (T : Nat) (b : Nat → Int32) (r : Nat → Int32) (sw : Nat → Int32) (st : Nat → Int32) (fa : Nat → Int32) (sc : Nat → Int32) (fi : Nat → Int32) (mi : Nat → Int32) (lf : Nat → Bool) (hi : Nat → Bool) (n : Nat) (sw2 : Nat → Int32) (st2 : Nat → Int32) (fa2 : Nat → Int32) (sc2 : Nat → Int32) (fi2 : Nat → Int32) (mi2 : Nat → Int32) (lf2 : Nat → Bool) (hi2 : Nat → Bool) (n2 : Nat) (x : Int32) (hl : l.stackTraces = false) (hn : n ≤ 6) (hT : T < 2 ^ 29) (hb : x < 0 ∨ nI n ≤ x) : MX l yX2_rankOf cX2_rankOf 2 7 103 (some .int) G (tY cI cZ cJ) [.ref h, .int x] ((wH h ta sa ua T) ++ (wT ta cI b r) ++ (wS sa cI cZ sw st fa sc fi mi lf hi n) ++ (wS ua cI cZ sw2 st2 fa2 sc2 fi2 mi2 lf2 hi2 n2)) "java/lang/IndexOutOfBoundsException" 1 6 := by
  refine MX_of (by decide) (Nat.le_of_ble_eq_true rfl) [(0, .ref h), (1, .int x)] rfl ?_
  intro p e s m below meth c hC hno hlocks hname
  have hC : Cx p s m _ c cX2_rankOf 2 RX2 G (tY cI cZ cJ) _ := hC
  refine z_aload_n (n := 1) hC dX2_rankOf_0 rfl 0 rfl rfl ?_
  refine z_iload_n (n := 2) hC dX2_rankOf_1 rfl 1 rfl rfl ?_
  exact z_callvx (As := [.int x]) (rest := []) hC hno hlocks (kx_X2_checkGun l G cI cZ cJ h ta sa ua T sw st fa sc fi mi lf hi n x hl hn hb) kg_X2_63 kd_yX2_checkGun dX2_rankOf_2 ⟨Nat.le_of_ble_eq_true rfl, Nat.le_of_ble_eq_true rfl⟩ 0 rfl rfl rfl [0, 4, 5, 6, 7, 8, 9, 10, 11, 12] rfl (by decide) rfl (Nat.le_of_ble_eq_true rfl) ⟨Nat.le_of_ble_eq_true rfl, Nat.le_of_ble_eq_true rfl⟩ [1, 2, 3, 13, 14, 15, 16, 17, 18, 19, 20, 21] rfl rfl (Nat.le_refl _) (Nat.le_refl _)

set_option maxRecDepth 100000 in
set_option maxHeartbeats 4000000 in
theorem kx_X2_turnsUntilMiss (l : Launch) (G : va_G) (cI cZ cJ : ClassId) (h : Nat) (ta : Nat → Nat) (sa : Nat → Nat) (ua : Nat → Nat) (T : Nat) (b : Nat → Int32) (r : Nat → Int32) (sw : Nat → Int32) (st : Nat → Int32) (fa : Nat → Int32) (sc : Nat → Int32) (fi : Nat → Int32) (mi : Nat → Int32) (lf : Nat → Bool) (hi : Nat → Bool) (n : Nat) (sw2 : Nat → Int32) (st2 : Nat → Int32) (fa2 : Nat → Int32) (sc2 : Nat → Int32) (fi2 : Nat → Int32) (mi2 : Nat → Int32) (lf2 : Nat → Bool) (hi2 : Nat → Bool) (n2 : Nat) (x : Int32) (hl : l.stackTraces = false) (hn : n ≤ 6) (hT : T < 2 ^ 29) (hb : x < 0 ∨ nI n ≤ x) : MX l yX2_turnsUntilMiss cX2_turnsUntilMiss 3 7 103 (some .int) G (tY cI cZ cJ) [.ref h, .int x] ((wH h ta sa ua T) ++ (wT ta cI b r) ++ (wS sa cI cZ sw st fa sc fi mi lf hi n) ++ (wS ua cI cZ sw2 st2 fa2 sc2 fi2 mi2 lf2 hi2 n2)) "java/lang/IndexOutOfBoundsException" 1 6 := by
  refine MX_of (by decide) (Nat.le_of_ble_eq_true rfl) [(0, .ref h), (1, .int x)] rfl ?_
  intro p e s m below meth c hC hno hlocks hname
  have hC : Cx p s m _ c cX2_turnsUntilMiss 3 RX2 G (tY cI cZ cJ) _ := hC
  refine z_aload_n (n := 1) hC dX2_turnsUntilMiss_0 rfl 0 rfl rfl ?_
  refine z_iload_n (n := 2) hC dX2_turnsUntilMiss_1 rfl 1 rfl rfl ?_
  exact z_callvx (As := [.int x]) (rest := []) hC hno hlocks (kx_X2_checkGun l G cI cZ cJ h ta sa ua T sw st fa sc fi mi lf hi n x hl hn hb) kg_X2_63 kd_yX2_checkGun dX2_turnsUntilMiss_2 ⟨Nat.le_of_ble_eq_true rfl, Nat.le_of_ble_eq_true rfl⟩ 0 rfl rfl rfl [0, 4, 5, 6, 7, 8, 9, 10, 11, 12] rfl (by decide) rfl (Nat.le_of_ble_eq_true rfl) ⟨Nat.le_of_ble_eq_true rfl, Nat.le_of_ble_eq_true rfl⟩ [1, 2, 3, 13, 14, 15, 16, 17, 18, 19, 20, 21] rfl rfl (Nat.le_refl _) (Nat.le_refl _)

set_option maxRecDepth 100000 in
set_option maxHeartbeats 4000000 in
theorem kx_X2_bestRest (l : Launch) (G : va_G) (cI cZ cJ : ClassId) (h : Nat) (ta : Nat → Nat) (sa : Nat → Nat) (ua : Nat → Nat) (T : Nat) (b : Nat → Int32) (r : Nat → Int32) (sw : Nat → Int32) (st : Nat → Int32) (fa : Nat → Int32) (sc : Nat → Int32) (fi : Nat → Int32) (mi : Nat → Int32) (lf : Nat → Bool) (hi : Nat → Bool) (n : Nat) (sw2 : Nat → Int32) (st2 : Nat → Int32) (fa2 : Nat → Int32) (sc2 : Nat → Int32) (fi2 : Nat → Int32) (mi2 : Nat → Int32) (lf2 : Nat → Bool) (hi2 : Nat → Bool) (n2 : Nat) (x : Int32) (hl : l.stackTraces = false) (hn : n ≤ 6) (hT : T < 2 ^ 29) (hb : x < 0 ∨ nI n ≤ x) : MX l yX2_bestRest cX2_bestRest 6 7 103 (some .int) G (tY cI cZ cJ) [.ref h, .int x] ((wH h ta sa ua T) ++ (wT ta cI b r) ++ (wS sa cI cZ sw st fa sc fi mi lf hi n) ++ (wS ua cI cZ sw2 st2 fa2 sc2 fi2 mi2 lf2 hi2 n2)) "java/lang/IndexOutOfBoundsException" 1 6 := by
  refine MX_of (by decide) (Nat.le_of_ble_eq_true rfl) [(0, .ref h), (1, .int x)] rfl ?_
  intro p e s m below meth c hC hno hlocks hname
  have hC : Cx p s m _ c cX2_bestRest 6 RX2 G (tY cI cZ cJ) _ := hC
  refine z_aload_n (n := 1) hC dX2_bestRest_0 rfl 0 rfl rfl ?_
  refine z_iload_n (n := 2) hC dX2_bestRest_1 rfl 1 rfl rfl ?_
  exact z_callvx (As := [.int x]) (rest := []) hC hno hlocks (kx_X2_checkGun l G cI cZ cJ h ta sa ua T sw st fa sc fi mi lf hi n x hl hn hb) kg_X2_63 kd_yX2_checkGun dX2_bestRest_2 ⟨Nat.le_of_ble_eq_true rfl, Nat.le_of_ble_eq_true rfl⟩ 0 rfl rfl rfl [0, 4, 5, 6, 7, 8, 9, 10, 11, 12] rfl (by decide) rfl (Nat.le_of_ble_eq_true rfl) ⟨Nat.le_of_ble_eq_true rfl, Nat.le_of_ble_eq_true rfl⟩ [1, 2, 3, 13, 14, 15, 16, 17, 18, 19, 20, 21] rfl rfl (Nat.le_refl _) (Nat.le_refl _)

set_option maxRecDepth 100000 in
set_option maxHeartbeats 4000000 in
theorem kx_X2_swingWanted (l : Launch) (G : va_G) (cI cZ cJ : ClassId) (h : Nat) (ta : Nat → Nat) (sa : Nat → Nat) (ua : Nat → Nat) (T : Nat) (b : Nat → Int32) (r : Nat → Int32) (sw : Nat → Int32) (st : Nat → Int32) (fa : Nat → Int32) (sc : Nat → Int32) (fi : Nat → Int32) (mi : Nat → Int32) (lf : Nat → Bool) (hi : Nat → Bool) (n : Nat) (sw2 : Nat → Int32) (st2 : Nat → Int32) (fa2 : Nat → Int32) (sc2 : Nat → Int32) (fi2 : Nat → Int32) (mi2 : Nat → Int32) (lf2 : Nat → Bool) (hi2 : Nat → Bool) (n2 : Nat) (x : Int32) (hl : l.stackTraces = false) (hn : n ≤ 6) (hT : T < 2 ^ 29) (hb : x < 0 ∨ nI n ≤ x) : MX l yX2_swingWanted cX2_swingWanted 3 7 103 (some .int) G (tY cI cZ cJ) [.ref h, .int x] ((wH h ta sa ua T) ++ (wT ta cI b r) ++ (wS sa cI cZ sw st fa sc fi mi lf hi n) ++ (wS ua cI cZ sw2 st2 fa2 sc2 fi2 mi2 lf2 hi2 n2)) "java/lang/IndexOutOfBoundsException" 1 6 := by
  refine MX_of (by decide) (Nat.le_of_ble_eq_true rfl) [(0, .ref h), (1, .int x)] rfl ?_
  intro p e s m below meth c hC hno hlocks hname
  have hC : Cx p s m _ c cX2_swingWanted 3 RX2 G (tY cI cZ cJ) _ := hC
  refine z_aload_n (n := 1) hC dX2_swingWanted_0 rfl 0 rfl rfl ?_
  refine z_iload_n (n := 2) hC dX2_swingWanted_1 rfl 1 rfl rfl ?_
  exact z_callvx (As := [.int x]) (rest := []) hC hno hlocks (kx_X2_checkGun l G cI cZ cJ h ta sa ua T sw st fa sc fi mi lf hi n x hl hn hb) kg_X2_63 kd_yX2_checkGun dX2_swingWanted_2 ⟨Nat.le_of_ble_eq_true rfl, Nat.le_of_ble_eq_true rfl⟩ 0 rfl rfl rfl [0, 4, 5, 6, 7, 8, 9, 10, 11, 12] rfl (by decide) rfl (Nat.le_of_ble_eq_true rfl) ⟨Nat.le_of_ble_eq_true rfl, Nat.le_of_ble_eq_true rfl⟩ [1, 2, 3, 13, 14, 15, 16, 17, 18, 19, 20, 21] rfl rfl (Nat.le_refl _) (Nat.le_refl _)

set_option maxRecDepth 100000 in
set_option maxHeartbeats 4000000 in
theorem kx_X2_scoreIn_a (l : Launch) (G : va_G) (cI cZ cJ : ClassId) (h : Nat) (ta : Nat → Nat) (sa : Nat → Nat) (ua : Nat → Nat) (T : Nat) (b : Nat → Int32) (r : Nat → Int32) (sw : Nat → Int32) (st : Nat → Int32) (fa : Nat → Int32) (sc : Nat → Int32) (fi : Nat → Int32) (mi : Nat → Int32) (lf : Nat → Bool) (hi : Nat → Bool) (n : Nat) (sw2 : Nat → Int32) (st2 : Nat → Int32) (fa2 : Nat → Int32) (sc2 : Nat → Int32) (fi2 : Nat → Int32) (mi2 : Nat → Int32) (lf2 : Nat → Bool) (hi2 : Nat → Bool) (n2 : Nat) (x : Int32) (y : Int32) (hl : l.stackTraces = false) (hn : n ≤ 6) (hT : T < 2 ^ 29) (hb : x < 0 ∨ nI n ≤ x) : MX l yX2_scoreIn cX2_scoreIn 3 7 103 (some .int) G (tY cI cZ cJ) [.ref h, .int x, .int y] ((wH h ta sa ua T) ++ (wT ta cI b r) ++ (wS sa cI cZ sw st fa sc fi mi lf hi n) ++ (wS ua cI cZ sw2 st2 fa2 sc2 fi2 mi2 lf2 hi2 n2)) "java/lang/IndexOutOfBoundsException" 1 6 := by
  refine MX_of (by decide) (Nat.le_of_ble_eq_true rfl) [(0, .ref h), (1, .int x), (2, .int y)] rfl ?_
  intro p e s m below meth c hC hno hlocks hname
  have hC : Cx p s m _ c cX2_scoreIn 3 RX2 G (tY cI cZ cJ) _ := hC
  refine z_aload_n (n := 1) hC dX2_scoreIn_0 rfl 0 rfl rfl ?_
  refine z_iload_n (n := 2) hC dX2_scoreIn_1 rfl 1 rfl rfl ?_
  exact z_callvx (As := [.int x]) (rest := []) hC hno hlocks (kx_X2_checkGun l G cI cZ cJ h ta sa ua T sw st fa sc fi mi lf hi n x hl hn hb) kg_X2_63 kd_yX2_checkGun dX2_scoreIn_2 ⟨Nat.le_of_ble_eq_true rfl, Nat.le_of_ble_eq_true rfl⟩ 0 rfl rfl rfl [0, 4, 5, 6, 7, 8, 9, 10, 11, 12] rfl (by decide) rfl (Nat.le_of_ble_eq_true rfl) ⟨Nat.le_of_ble_eq_true rfl, Nat.le_of_ble_eq_true rfl⟩ [1, 2, 3, 13, 14, 15, 16, 17, 18, 19, 20, 21] rfl rfl (Nat.le_refl _) (Nat.le_refl _)

set_option maxRecDepth 100000 in
set_option maxHeartbeats 4000000 in
theorem kx_X2_scoreIn_b (l : Launch) (G : va_G) (cI cZ cJ : ClassId) (h : Nat) (ta : Nat → Nat) (sa : Nat → Nat) (ua : Nat → Nat) (T : Nat) (b : Nat → Int32) (r : Nat → Int32) (sw : Nat → Int32) (st : Nat → Int32) (fa : Nat → Int32) (sc : Nat → Int32) (fi : Nat → Int32) (mi : Nat → Int32) (lf : Nat → Bool) (hi : Nat → Bool) (n : Nat) (sw2 : Nat → Int32) (st2 : Nat → Int32) (fa2 : Nat → Int32) (sc2 : Nat → Int32) (fi2 : Nat → Int32) (mi2 : Nat → Int32) (lf2 : Nat → Bool) (hi2 : Nat → Bool) (n2 : Nat) (g : Nat) (x : Int32) (hl : l.stackTraces = false) (hn : n ≤ 6) (hT : T < 2 ^ 29) (hg : g < n) (hb : x < nI 1 ∨ nI 50 < x) : MX l yX2_scoreIn cX2_scoreIn 3 7 102 (some .int) G (tY cI cZ cJ) [.ref h, .int (nI g), .int x] ((wH h ta sa ua T) ++ (wT ta cI b r) ++ (wS sa cI cZ sw st fa sc fi mi lf hi n) ++ (wS ua cI cZ sw2 st2 fa2 sc2 fi2 mi2 lf2 hi2 n2)) "java/lang/IllegalArgumentException" 1 6 := by
  refine MX_of (by decide) (Nat.le_of_ble_eq_true rfl) [(0, .ref h), (1, .int (nI g)), (2, .int x)] rfl ?_
  intro p e s m below meth c hC hno hlocks hname
  have hC : Cx p s m _ c cX2_scoreIn 3 RX2 G (tY cI cZ cJ) _ := hC
  refine z_aload_n (n := 1) hC dX2_scoreIn_0 rfl 0 rfl rfl ?_
  refine z_iload_n (n := 2) hC dX2_scoreIn_1 rfl 1 rfl rfl ?_
  refine z_callv (R := { frames := 7, cells := 1, slots := 6, locals := 102 }) (cells := 0) (slots := 0) (ws := (wH h ta sa ua T) ++ (wT ta cI b r) ++ (wS sa cI cZ sw st fa sc fi mi lf hi n) ++ (wS ua cI cZ sw2 st2 fa2 sc2 fi2 mi2 lf2 hi2 n2)) (n := 5) (As := [.int (nI g)]) (rest := []) hC (k_X2_checkGun l G cI cZ cJ h ta sa ua T sw st fa sc fi mi lf hi n g (by omega) (by omega)) kg_X2_63 kd_yX2_checkGun dX2_scoreIn_2 ⟨Nat.le_of_ble_eq_true rfl, Nat.le_of_ble_eq_true rfl⟩ 0 rfl rfl rfl [0, 4, 5, 6, 7, 8, 9, 10, 11, 12] rfl (by decide) rfl (Nat.le_of_ble_eq_true rfl) ⟨Nat.le_of_ble_eq_true rfl, Nat.le_of_ble_eq_true rfl⟩ (ws2 := fun u1 => (wH h ta sa ua T) ++ (wT ta cI b r) ++ (wS sa cI cZ sw st fa sc fi mi lf hi n) ++ (wS ua cI cZ sw2 st2 fa2 sc2 fi2 mi2 lf2 hi2 n2)) [1, 2, 3, 13, 14, 15, 16, 17, 18, 19, 20, 21] (fun _ => rfl) ((wT ta cI b r) ++ (wS ua cI cZ sw2 st2 fa2 sc2 fi2 mi2 lf2 hi2 n2)) (fun _ => rfl) rfl (fun _ => rfl) [h, sa 0, sa 1, sa 2, sa 3, sa 4, sa 5, sa 6, sa 7, sa 8] (fun _ => rfl) rfl rfl rfl (fun u1 h3 => ?_)
  refine z_iload_n (n := 6) hC dX2_scoreIn_5 rfl 2 rfl rfl ?_
  exact z_callsx (As := [.int x]) (rest := []) hC hno hlocks (kx_X2_checkTurns l G cI cZ cJ x hl hb) kg_X2_69 kd_yX2_checkTurns dX2_scoreIn_6 ⟨Nat.le_of_ble_eq_true rfl, Nat.le_of_ble_eq_true rfl⟩ rfl (Nat.le_of_ble_eq_true rfl) ⟨Nat.le_of_ble_eq_true rfl, Nat.le_of_ble_eq_true rfl⟩ rfl (Nat.le_refl _) (Nat.le_refl _)
