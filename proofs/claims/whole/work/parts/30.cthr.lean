set_option maxRecDepth 100000 in
set_option maxHeartbeats 4000000 in
theorem kx_X2_checkStand (l : Launch) (G : va_G) (cI cZ cJ : ClassId) (x : Int32) (hl : l.stackTraces = false) (hb : x < 0 ∨ nI 5 ≤ x) : MX l yX2_checkStand cX2_checkStand 1 6 82 none G (tY cI cZ cJ) [.int x] ([]) "java/lang/IndexOutOfBoundsException" 1 6 := by
  refine MX_of (by decide) (Nat.le_of_ble_eq_true rfl) [(0, .int x)] rfl ?_
  intro p e s m below meth c hC hno hlocks hname
  have hC : Cx p s m _ c cX2_checkStand 1 RX2 G (tY cI cZ cJ) _ := hC
  refine z_iload_n (n := 1) hC dX2_checkStand_0 rfl 0 rfl rfl ?_
  refine z_if_lt (tgt := 9) (n := 4) hC dX2_checkStand_1 (by decide) rfl (fun c1 => ?_) (fun c1 => ?_)
  · exact z_thr_o 211 "stand is not 0 to 4" hC hno hlocks hl (by decide) dX2_checkStand_9 dX2_checkStand_12 dX2_checkStand_13 dX2_checkStand_15 dX2_checkStand_18 (Nat.le_of_ble_eq_true rfl) (Nat.le_of_ble_eq_true rfl) (Nat.le_refl _) (Nat.le_refl _) (Nat.le_refl _) (Nat.le_refl _)
  · refine z_iload_n (n := 5) hC dX2_checkStand_4 rfl 0 rfl rfl ?_
    refine z_iconst (v := nI 5) (n := 6) hC dX2_checkStand_5 (by decide) rfl ?_
    refine z_icmp_lt (tgt := 19) (n := 9) hC dX2_checkStand_6 (by decide) rfl (fun c2 => (absurd hb (not_or.mpr ⟨by assumption, Int32.not_le.mpr c2⟩))) (fun c2 => ?_)
    exact z_thr_o 211 "stand is not 0 to 4" hC hno hlocks hl (by decide) dX2_checkStand_9 dX2_checkStand_12 dX2_checkStand_13 dX2_checkStand_15 dX2_checkStand_18 (Nat.le_of_ble_eq_true rfl) (Nat.le_of_ble_eq_true rfl) (Nat.le_refl _) (Nat.le_refl _) (Nat.le_refl _) (Nat.le_refl _)

set_option maxRecDepth 100000 in
set_option maxHeartbeats 4000000 in
theorem kx_X2_checkTurns (l : Launch) (G : va_G) (cI cZ cJ : ClassId) (x : Int32) (hl : l.stackTraces = false) (hb : x < nI 1 ∨ nI 50 < x) : MX l yX2_checkTurns cX2_checkTurns 1 6 82 none G (tY cI cZ cJ) [.int x] ([]) "java/lang/IllegalArgumentException" 1 6 := by
  refine MX_of (by decide) (Nat.le_of_ble_eq_true rfl) [(0, .int x)] rfl ?_
  intro p e s m below meth c hC hno hlocks hname
  have hC : Cx p s m _ c cX2_checkTurns 1 RX2 G (tY cI cZ cJ) _ := hC
  refine z_iload_n (n := 1) hC dX2_checkTurns_0 rfl 0 rfl rfl ?_
  refine z_iconst (v := nI 1) (n := 2) hC dX2_checkTurns_1 (by decide) rfl ?_
  refine z_icmp_lt (tgt := 11) (n := 5) hC dX2_checkTurns_2 (by decide) rfl (fun c1 => ?_) (fun c1 => ?_)
  · exact z_thr_a 215 "turns is not 1 to 50" hC hno hlocks hl (by decide) dX2_checkTurns_11 dX2_checkTurns_14 dX2_checkTurns_15 dX2_checkTurns_17 dX2_checkTurns_20 (Nat.le_of_ble_eq_true rfl) (Nat.le_of_ble_eq_true rfl) (Nat.le_refl _) (Nat.le_refl _) (Nat.le_refl _) (Nat.le_refl _)
  · refine z_iload_n (n := 6) hC dX2_checkTurns_5 rfl 0 rfl rfl ?_
    refine z_bipush (v := nI 50) (n := 8) hC dX2_checkTurns_6 (by decide) rfl ?_
    refine z_icmp_le (tgt := 21) (n := 11) hC dX2_checkTurns_8 (by decide) rfl (fun c2 => (absurd hb (not_or.mpr ⟨by assumption, Int32.not_lt.mpr c2⟩))) (fun c2 => ?_)
    exact z_thr_a 215 "turns is not 1 to 50" hC hno hlocks hl (by decide) dX2_checkTurns_11 dX2_checkTurns_14 dX2_checkTurns_15 dX2_checkTurns_17 dX2_checkTurns_20 (Nat.le_of_ble_eq_true rfl) (Nat.le_of_ble_eq_true rfl) (Nat.le_refl _) (Nat.le_refl _) (Nat.le_refl _) (Nat.le_refl _)

set_option maxRecDepth 100000 in
set_option maxHeartbeats 4000000 in
theorem kx_X2_checkGun (l : Launch) (G : va_G) (cI cZ cJ : ClassId) (h : Nat) (ta : Nat → Nat) (sa : Nat → Nat) (ua : Nat → Nat) (T : Nat) (sw : Nat → Int32) (st : Nat → Int32) (fa : Nat → Int32) (sc : Nat → Int32) (fi : Nat → Int32) (mi : Nat → Int32) (lf : Nat → Bool) (hi : Nat → Bool) (n : Nat) (x : Int32) (hl : l.stackTraces = false) (hn : n ≤ 6) (hb : x < 0 ∨ nI n ≤ x) : MX l yX2_checkGun cX2_checkGun 2 6 82 none G (tY cI cZ cJ) [.ref h, .int x] ((wH h ta sa ua T) ++ (wS sa cI cZ sw st fa sc fi mi lf hi n)) "java/lang/IndexOutOfBoundsException" 1 6 := by
  refine MX_of (by decide) (Nat.le_of_ble_eq_true rfl) [(0, .ref h), (1, .int x)] rfl ?_
  intro p e s m below meth c hC hno hlocks hname
  have hC : Cx p s m _ c cX2_checkGun 2 RX2 G (tY cI cZ cJ) _ := hC
  refine z_iload_n (n := 1) hC dX2_checkGun_0 rfl 1 rfl rfl ?_
  refine z_if_lt (tgt := 15) (n := 4) hC dX2_checkGun_1 (by decide) rfl (fun c1 => ?_) (fun c1 => ?_)
  · exact z_thr_o 213 "there is no such gun" hC hno hlocks hl (by decide) dX2_checkGun_15 dX2_checkGun_18 dX2_checkGun_19 dX2_checkGun_21 dX2_checkGun_24 (Nat.le_of_ble_eq_true rfl) (Nat.le_of_ble_eq_true rfl) (Nat.le_refl _) (Nat.le_refl _) (Nat.le_refl _) (Nat.le_refl _)
  · refine z_iload_n (n := 5) hC dX2_checkGun_4 rfl 1 rfl rfl ?_
    refine z_aload_n (n := 6) hC dX2_checkGun_5 rfl 0 rfl rfl ?_
    refine gf_X2_19 (v := .ref (sa 0)) (n := 9) hC 0 rfl rfl dX2_checkGun_6 rfl ?_
    refine gf_X2_35 (v := .int (nI n)) (n := 12) hC 1 rfl rfl dX2_checkGun_9 rfl ?_
    refine z_icmp_lt (tgt := 25) (n := 15) hC dX2_checkGun_12 (by decide) rfl (fun c2 => (absurd hb (not_or.mpr ⟨by assumption, Int32.not_le.mpr c2⟩))) (fun c2 => ?_)
    exact z_thr_o 213 "there is no such gun" hC hno hlocks hl (by decide) dX2_checkGun_15 dX2_checkGun_18 dX2_checkGun_19 dX2_checkGun_21 dX2_checkGun_24 (Nat.le_of_ble_eq_true rfl) (Nat.le_of_ble_eq_true rfl) (Nat.le_refl _) (Nat.le_refl _) (Nat.le_refl _) (Nat.le_refl _)

set_option maxRecDepth 100000 in
set_option maxHeartbeats 4000000 in
theorem kx_X2_addGun_a (l : Launch) (G : va_G) (cI cZ cJ : ClassId) (h : Nat) (ta : Nat → Nat) (sa : Nat → Nat) (ua : Nat → Nat) (T : Nat) (b : Nat → Int32) (r : Nat → Int32) (sw : Nat → Int32) (st : Nat → Int32) (fa : Nat → Int32) (sc : Nat → Int32) (fi : Nat → Int32) (mi : Nat → Int32) (lf : Nat → Bool) (hi : Nat → Bool) (n : Nat) (sw2 : Nat → Int32) (st2 : Nat → Int32) (fa2 : Nat → Int32) (sc2 : Nat → Int32) (fi2 : Nat → Int32) (mi2 : Nat → Int32) (lf2 : Nat → Bool) (hi2 : Nat → Bool) (n2 : Nat) (x : Int32) (y : Int32) (hl : l.stackTraces = false) (hn : n ≤ 6) (hT : T < 2 ^ 29) (hb : x < nI 5 ∨ nI 60 < x) : MX l yX2_addGun cX2_addGun 3 6 82 (some .int) G (tY cI cZ cJ) [.ref h, .int x, .int y] ((wH h ta sa ua T) ++ (wT ta cI b r) ++ (wS sa cI cZ sw st fa sc fi mi lf hi n) ++ (wS ua cI cZ sw2 st2 fa2 sc2 fi2 mi2 lf2 hi2 n2)) "java/lang/IllegalArgumentException" 1 6 := by
  refine MX_of (by decide) (Nat.le_of_ble_eq_true rfl) [(0, .ref h), (1, .int x), (2, .int y)] rfl ?_
  intro p e s m below meth c hC hno hlocks hname
  have hC : Cx p s m _ c cX2_addGun 3 RX2 G (tY cI cZ cJ) _ := hC
  refine z_iload_n (n := 1) hC dX2_addGun_0 rfl 1 rfl rfl ?_
  refine z_iconst (v := nI 5) (n := 2) hC dX2_addGun_1 (by decide) rfl ?_
  refine z_icmp_lt (tgt := 11) (n := 5) hC dX2_addGun_2 (by decide) rfl (fun c1 => ?_) (fun c1 => ?_)
  · exact z_thr_a 28 "swing is not 5 to 60" hC hno hlocks hl (by decide) dX2_addGun_11 dX2_addGun_14 dX2_addGun_15 dX2_addGun_17 dX2_addGun_20 (Nat.le_of_ble_eq_true rfl) (Nat.le_of_ble_eq_true rfl) (Nat.le_refl _) (Nat.le_refl _) (Nat.le_refl _) (Nat.le_refl _)
  · refine z_iload_n (n := 6) hC dX2_addGun_5 rfl 1 rfl rfl ?_
    refine z_bipush (v := nI 60) (n := 8) hC dX2_addGun_6 (by decide) rfl ?_
    refine z_icmp_le (tgt := 21) (n := 11) hC dX2_addGun_8 (by decide) rfl (fun c2 => (absurd hb (not_or.mpr ⟨by assumption, Int32.not_lt.mpr c2⟩))) (fun c2 => ?_)
    exact z_thr_a 28 "swing is not 5 to 60" hC hno hlocks hl (by decide) dX2_addGun_11 dX2_addGun_14 dX2_addGun_15 dX2_addGun_17 dX2_addGun_20 (Nat.le_of_ble_eq_true rfl) (Nat.le_of_ble_eq_true rfl) (Nat.le_refl _) (Nat.le_refl _) (Nat.le_refl _) (Nat.le_refl _)

set_option maxRecDepth 100000 in
set_option maxHeartbeats 4000000 in
theorem kx_X2_addGun_b (l : Launch) (G : va_G) (cI cZ cJ : ClassId) (h : Nat) (ta : Nat → Nat) (sa : Nat → Nat) (ua : Nat → Nat) (T : Nat) (b : Nat → Int32) (r : Nat → Int32) (sw : Nat → Int32) (st : Nat → Int32) (fa : Nat → Int32) (sc : Nat → Int32) (fi : Nat → Int32) (mi : Nat → Int32) (lf : Nat → Bool) (hi : Nat → Bool) (n : Nat) (sw2 : Nat → Int32) (st2 : Nat → Int32) (fa2 : Nat → Int32) (sc2 : Nat → Int32) (fi2 : Nat → Int32) (mi2 : Nat → Int32) (lf2 : Nat → Bool) (hi2 : Nat → Bool) (n2 : Nat) (x : Int32) (y : Int32) (hl : l.stackTraces = false) (hn : n ≤ 6) (hT : T < 2 ^ 29) (hx1 : ¬ x < nI 5) (hx2 : x ≤ nI 60) (hb : y < nI 1 ∨ nI 9 < y) : MX l yX2_addGun cX2_addGun 3 6 82 (some .int) G (tY cI cZ cJ) [.ref h, .int x, .int y] ((wH h ta sa ua T) ++ (wT ta cI b r) ++ (wS sa cI cZ sw st fa sc fi mi lf hi n) ++ (wS ua cI cZ sw2 st2 fa2 sc2 fi2 mi2 lf2 hi2 n2)) "java/lang/IllegalArgumentException" 1 6 := by
  refine MX_of (by decide) (Nat.le_of_ble_eq_true rfl) [(0, .ref h), (1, .int x), (2, .int y)] rfl ?_
  intro p e s m below meth c hC hno hlocks hname
  have hC : Cx p s m _ c cX2_addGun 3 RX2 G (tY cI cZ cJ) _ := hC
  refine z_iload_n (n := 1) hC dX2_addGun_0 rfl 1 rfl rfl ?_
  refine z_iconst (v := nI 5) (n := 2) hC dX2_addGun_1 (by decide) rfl ?_
  refine z_icmp_lt (tgt := 11) (n := 5) hC dX2_addGun_2 (by decide) rfl (fun c1 => absurd c1 hx1) (fun c1 => ?_)
  refine z_iload_n (n := 6) hC dX2_addGun_5 rfl 1 rfl rfl ?_
  refine z_bipush (v := nI 60) (n := 8) hC dX2_addGun_6 (by decide) rfl ?_
  refine z_icmp_le (tgt := 21) (n := 11) hC dX2_addGun_8 (by decide) rfl (fun c2 => ?_) (fun c2 => absurd hx2 c2)
  refine z_iload_n (n := 22) hC dX2_addGun_21 rfl 2 rfl rfl ?_
  refine z_iconst (v := nI 1) (n := 23) hC dX2_addGun_22 (by decide) rfl ?_
  refine z_icmp_lt (tgt := 32) (n := 26) hC dX2_addGun_23 (by decide) rfl (fun c3 => ?_) (fun c3 => ?_)
  · exact z_thr_a 33 "steadiness is not 1 to 9" hC hno hlocks hl (by decide) dX2_addGun_32 dX2_addGun_35 dX2_addGun_36 dX2_addGun_38 dX2_addGun_41 (Nat.le_of_ble_eq_true rfl) (Nat.le_of_ble_eq_true rfl) (Nat.le_refl _) (Nat.le_refl _) (Nat.le_refl _) (Nat.le_refl _)
  · refine z_iload_n (n := 27) hC dX2_addGun_26 rfl 2 rfl rfl ?_
    refine z_bipush (v := nI 9) (n := 29) hC dX2_addGun_27 (by decide) rfl ?_
    refine z_icmp_le (tgt := 42) (n := 32) hC dX2_addGun_29 (by decide) rfl (fun c4 => (absurd hb (not_or.mpr ⟨by assumption, Int32.not_lt.mpr c4⟩))) (fun c4 => ?_)
    exact z_thr_a 33 "steadiness is not 1 to 9" hC hno hlocks hl (by decide) dX2_addGun_32 dX2_addGun_35 dX2_addGun_36 dX2_addGun_38 dX2_addGun_41 (Nat.le_of_ble_eq_true rfl) (Nat.le_of_ble_eq_true rfl) (Nat.le_refl _) (Nat.le_refl _) (Nat.le_refl _) (Nat.le_refl _)

set_option maxRecDepth 100000 in
set_option maxHeartbeats 4000000 in
theorem kx_X2_addGun_c (l : Launch) (G : va_G) (cI cZ cJ : ClassId) (h : Nat) (ta : Nat → Nat) (sa : Nat → Nat) (ua : Nat → Nat) (T : Nat) (b : Nat → Int32) (r : Nat → Int32) (sw : Nat → Int32) (st : Nat → Int32) (fa : Nat → Int32) (sc : Nat → Int32) (fi : Nat → Int32) (mi : Nat → Int32) (lf : Nat → Bool) (hi : Nat → Bool) (n : Nat) (sw2 : Nat → Int32) (st2 : Nat → Int32) (fa2 : Nat → Int32) (sc2 : Nat → Int32) (fi2 : Nat → Int32) (mi2 : Nat → Int32) (lf2 : Nat → Bool) (hi2 : Nat → Bool) (n2 : Nat) (x : Int32) (y : Int32) (hl : l.stackTraces = false) (hn : n ≤ 6) (hT : T < 2 ^ 29) (hn6 : n = 6) (hx1 : ¬ x < nI 5) (hx2 : x ≤ nI 60) (hy1 : ¬ y < nI 1) (hy2 : y ≤ nI 9) : MX l yX2_addGun cX2_addGun 3 6 82 (some .int) G (tY cI cZ cJ) [.ref h, .int x, .int y] ((wH h ta sa ua T) ++ (wT ta cI b r) ++ (wS sa cI cZ sw st fa sc fi mi lf hi n) ++ (wS ua cI cZ sw2 st2 fa2 sc2 fi2 mi2 lf2 hi2 n2)) "java/lang/IllegalStateException" 1 6 := by
  refine MX_of (by decide) (Nat.le_of_ble_eq_true rfl) [(0, .ref h), (1, .int x), (2, .int y)] rfl ?_
  intro p e s m below meth c hC hno hlocks hname
  have hC : Cx p s m _ c cX2_addGun 3 RX2 G (tY cI cZ cJ) _ := hC
  refine z_iload_n (n := 1) hC dX2_addGun_0 rfl 1 rfl rfl ?_
  refine z_iconst (v := nI 5) (n := 2) hC dX2_addGun_1 (by decide) rfl ?_
  refine z_icmp_lt (tgt := 11) (n := 5) hC dX2_addGun_2 (by decide) rfl (fun c1 => absurd c1 hx1) (fun c1 => ?_)
  refine z_iload_n (n := 6) hC dX2_addGun_5 rfl 1 rfl rfl ?_
  refine z_bipush (v := nI 60) (n := 8) hC dX2_addGun_6 (by decide) rfl ?_
  refine z_icmp_le (tgt := 21) (n := 11) hC dX2_addGun_8 (by decide) rfl (fun c2 => ?_) (fun c2 => absurd hx2 c2)
  refine z_iload_n (n := 22) hC dX2_addGun_21 rfl 2 rfl rfl ?_
  refine z_iconst (v := nI 1) (n := 23) hC dX2_addGun_22 (by decide) rfl ?_
  refine z_icmp_lt (tgt := 32) (n := 26) hC dX2_addGun_23 (by decide) rfl (fun c3 => absurd c3 hy1) (fun c3 => ?_)
  refine z_iload_n (n := 27) hC dX2_addGun_26 rfl 2 rfl rfl ?_
  refine z_bipush (v := nI 9) (n := 29) hC dX2_addGun_27 (by decide) rfl ?_
  refine z_icmp_le (tgt := 42) (n := 32) hC dX2_addGun_29 (by decide) rfl (fun c4 => ?_) (fun c4 => absurd hy2 c4)
  refine z_aload_n (n := 43) hC dX2_addGun_42 rfl 0 rfl rfl ?_
  refine gf_X2_19 (v := .ref (sa 0)) (n := 46) hC 0 rfl rfl dX2_addGun_43 rfl ?_
  refine gf_X2_35 (v := .int (nI n)) (n := 49) hC 4 rfl rfl dX2_addGun_46 rfl ?_
  refine z_bipush (v := nI 6) (n := 51) hC dX2_addGun_49 (by decide) rfl ?_
  refine z_icmp_lt_n (tgt := 64) (n := 54) hC n 6 rfl rfl (by omega) (by omega) dX2_addGun_51 (by decide) rfl (fun c5 => absurd c5 (by omega)) (fun c5 => ?_)
  exact z_thr_s 41 "there are 6 guns" hC hno hlocks hl (by decide) dX2_addGun_54 dX2_addGun_57 dX2_addGun_58 dX2_addGun_60 dX2_addGun_63 (Nat.le_of_ble_eq_true rfl) (Nat.le_of_ble_eq_true rfl) (Nat.le_refl _) (Nat.le_refl _) (Nat.le_refl _) (Nat.le_refl _)

set_option maxRecDepth 100000 in
set_option maxHeartbeats 4000000 in
theorem kx_X2_setTrap_b (l : Launch) (G : va_G) (cI cZ cJ : ClassId) (h : Nat) (ta : Nat → Nat) (sa : Nat → Nat) (ua : Nat → Nat) (T : Nat) (b : Nat → Int32) (r : Nat → Int32) (sw : Nat → Int32) (st : Nat → Int32) (fa : Nat → Int32) (sc : Nat → Int32) (fi : Nat → Int32) (mi : Nat → Int32) (lf : Nat → Bool) (hi : Nat → Bool) (n : Nat) (sw2 : Nat → Int32) (st2 : Nat → Int32) (fa2 : Nat → Int32) (sc2 : Nat → Int32) (fi2 : Nat → Int32) (mi2 : Nat → Int32) (lf2 : Nat → Bool) (hi2 : Nat → Bool) (n2 : Nat) (s0 : Nat) (x : Int32) (y : Int32) (hl : l.stackTraces = false) (hn : n ≤ 6) (hT : T < 2 ^ 29) (hs : s0 < 5) (hb : x < (-45) ∨ nI 45 < x) : MX l yX2_setTrap cX2_setTrap 5 6 82 (some .int) G (tY cI cZ cJ) [.ref h, .int (nI s0), .int x, .int y] ((wH h ta sa ua T) ++ (wT ta cI b r) ++ (wS sa cI cZ sw st fa sc fi mi lf hi n) ++ (wS ua cI cZ sw2 st2 fa2 sc2 fi2 mi2 lf2 hi2 n2)) "java/lang/IllegalArgumentException" 1 6 := by
  refine MX_of (by decide) (Nat.le_of_ble_eq_true rfl) [(0, .ref h), (1, .int (nI s0)), (2, .int x), (3, .int y)] rfl ?_
  intro p e s m below meth c hC hno hlocks hname
  have hC : Cx p s m _ c cX2_setTrap 5 RX2 G (tY cI cZ cJ) _ := hC
  refine z_iload_n (n := 1) hC dX2_setTrap_0 rfl 1 rfl rfl ?_
  refine z_callsv (R := { frames := 6, cells := 1, slots := 6, locals := 82 }) (cells := 0) (slots := 0) (ws := (wH h ta sa ua T) ++ (wT ta cI b r) ++ (wS sa cI cZ sw st fa sc fi mi lf hi n) ++ (wS ua cI cZ sw2 st2 fa2 sc2 fi2 mi2 lf2 hi2 n2)) (n := 4) (As := [.int (nI s0)]) (rest := []) hC (k_X2_checkStand l G cI cZ cJ s0 (by omega)) kg_X2_48 kd_yX2_checkStand dX2_setTrap_1 ⟨Nat.le_of_ble_eq_true rfl, Nat.le_of_ble_eq_true rfl⟩ [] rfl (by decide) rfl (Nat.le_of_ble_eq_true rfl) ⟨Nat.le_of_ble_eq_true rfl, Nat.le_of_ble_eq_true rfl⟩ (ws2 := fun u1 => (wH h ta sa ua T) ++ (wT ta cI b r) ++ (wS sa cI cZ sw st fa sc fi mi lf hi n) ++ (wS ua cI cZ sw2 st2 fa2 sc2 fi2 mi2 lf2 hi2 n2)) [0, 1, 2, 3, 4, 5, 6, 7, 8, 9, 10, 11, 12, 13, 14, 15, 16, 17, 18, 19, 20, 21] (fun _ => rfl) ((wH h ta sa ua T) ++ (wT ta cI b r) ++ (wS sa cI cZ sw st fa sc fi mi lf hi n) ++ (wS ua cI cZ sw2 st2 fa2 sc2 fi2 mi2 lf2 hi2 n2)) (fun _ => rfl) rfl (fun _ => rfl) [] (fun _ => rfl) rfl rfl rfl (fun u1 h3 => ?_)
  refine z_iload_n (n := 5) hC dX2_setTrap_4 rfl 2 rfl rfl ?_
  refine z_bipush (v := (-45)) (n := 7) hC dX2_setTrap_5 (by decide) rfl ?_
  refine z_icmp_lt (tgt := 16) (n := 10) hC dX2_setTrap_7 (by decide) rfl (fun c4 => ?_) (fun c4 => ?_)
  · exact z_thr_a 52 "base is not -45 to 45" hC hno hlocks hl (by decide) dX2_setTrap_16 dX2_setTrap_19 dX2_setTrap_20 dX2_setTrap_22 dX2_setTrap_25 (Nat.le_of_ble_eq_true rfl) (Nat.le_of_ble_eq_true rfl) (Nat.le_refl _) (Nat.le_refl _) (Nat.le_refl _) (Nat.le_refl _)
  · refine z_iload_n (n := 11) hC dX2_setTrap_10 rfl 2 rfl rfl ?_
    refine z_bipush (v := nI 45) (n := 13) hC dX2_setTrap_11 (by decide) rfl ?_
    refine z_icmp_le (tgt := 26) (n := 16) hC dX2_setTrap_13 (by decide) rfl (fun c5 => (absurd hb (not_or.mpr ⟨by assumption, Int32.not_lt.mpr c5⟩))) (fun c5 => ?_)
    exact z_thr_a 52 "base is not -45 to 45" hC hno hlocks hl (by decide) dX2_setTrap_16 dX2_setTrap_19 dX2_setTrap_20 dX2_setTrap_22 dX2_setTrap_25 (Nat.le_of_ble_eq_true rfl) (Nat.le_of_ble_eq_true rfl) (Nat.le_refl _) (Nat.le_refl _) (Nat.le_refl _) (Nat.le_refl _)

set_option maxRecDepth 100000 in
set_option maxHeartbeats 4000000 in
theorem kx_X2_setTrap_c (l : Launch) (G : va_G) (cI cZ cJ : ClassId) (h : Nat) (ta : Nat → Nat) (sa : Nat → Nat) (ua : Nat → Nat) (T : Nat) (b : Nat → Int32) (r : Nat → Int32) (sw : Nat → Int32) (st : Nat → Int32) (fa : Nat → Int32) (sc : Nat → Int32) (fi : Nat → Int32) (mi : Nat → Int32) (lf : Nat → Bool) (hi : Nat → Bool) (n : Nat) (sw2 : Nat → Int32) (st2 : Nat → Int32) (fa2 : Nat → Int32) (sc2 : Nat → Int32) (fi2 : Nat → Int32) (mi2 : Nat → Int32) (lf2 : Nat → Bool) (hi2 : Nat → Bool) (n2 : Nat) (s0 : Nat) (x : Int32) (y : Int32) (hl : l.stackTraces = false) (hn : n ≤ 6) (hT : T < 2 ^ 29) (hs : s0 < 5) (hx1 : ¬ x < (-45)) (hx2 : x ≤ nI 45) (hb : y < 0 ∨ nI 45 < y) : MX l yX2_setTrap cX2_setTrap 5 6 82 (some .int) G (tY cI cZ cJ) [.ref h, .int (nI s0), .int x, .int y] ((wH h ta sa ua T) ++ (wT ta cI b r) ++ (wS sa cI cZ sw st fa sc fi mi lf hi n) ++ (wS ua cI cZ sw2 st2 fa2 sc2 fi2 mi2 lf2 hi2 n2)) "java/lang/IllegalArgumentException" 1 6 := by
  refine MX_of (by decide) (Nat.le_of_ble_eq_true rfl) [(0, .ref h), (1, .int (nI s0)), (2, .int x), (3, .int y)] rfl ?_
  intro p e s m below meth c hC hno hlocks hname
  have hC : Cx p s m _ c cX2_setTrap 5 RX2 G (tY cI cZ cJ) _ := hC
  refine z_iload_n (n := 1) hC dX2_setTrap_0 rfl 1 rfl rfl ?_
  refine z_callsv (R := { frames := 6, cells := 1, slots := 6, locals := 82 }) (cells := 0) (slots := 0) (ws := (wH h ta sa ua T) ++ (wT ta cI b r) ++ (wS sa cI cZ sw st fa sc fi mi lf hi n) ++ (wS ua cI cZ sw2 st2 fa2 sc2 fi2 mi2 lf2 hi2 n2)) (n := 4) (As := [.int (nI s0)]) (rest := []) hC (k_X2_checkStand l G cI cZ cJ s0 (by omega)) kg_X2_48 kd_yX2_checkStand dX2_setTrap_1 ⟨Nat.le_of_ble_eq_true rfl, Nat.le_of_ble_eq_true rfl⟩ [] rfl (by decide) rfl (Nat.le_of_ble_eq_true rfl) ⟨Nat.le_of_ble_eq_true rfl, Nat.le_of_ble_eq_true rfl⟩ (ws2 := fun u1 => (wH h ta sa ua T) ++ (wT ta cI b r) ++ (wS sa cI cZ sw st fa sc fi mi lf hi n) ++ (wS ua cI cZ sw2 st2 fa2 sc2 fi2 mi2 lf2 hi2 n2)) [0, 1, 2, 3, 4, 5, 6, 7, 8, 9, 10, 11, 12, 13, 14, 15, 16, 17, 18, 19, 20, 21] (fun _ => rfl) ((wH h ta sa ua T) ++ (wT ta cI b r) ++ (wS sa cI cZ sw st fa sc fi mi lf hi n) ++ (wS ua cI cZ sw2 st2 fa2 sc2 fi2 mi2 lf2 hi2 n2)) (fun _ => rfl) rfl (fun _ => rfl) [] (fun _ => rfl) rfl rfl rfl (fun u1 h3 => ?_)
  refine z_iload_n (n := 5) hC dX2_setTrap_4 rfl 2 rfl rfl ?_
  refine z_bipush (v := (-45)) (n := 7) hC dX2_setTrap_5 (by decide) rfl ?_
  refine z_icmp_lt (tgt := 16) (n := 10) hC dX2_setTrap_7 (by decide) rfl (fun c4 => absurd c4 hx1) (fun c4 => ?_)
  refine z_iload_n (n := 11) hC dX2_setTrap_10 rfl 2 rfl rfl ?_
  refine z_bipush (v := nI 45) (n := 13) hC dX2_setTrap_11 (by decide) rfl ?_
  refine z_icmp_le (tgt := 26) (n := 16) hC dX2_setTrap_13 (by decide) rfl (fun c5 => ?_) (fun c5 => absurd hx2 c5)
  refine z_iload_n (n := 27) hC dX2_setTrap_26 rfl 3 rfl rfl ?_
  refine z_if_lt (tgt := 36) (n := 30) hC dX2_setTrap_27 (by decide) rfl (fun c6 => ?_) (fun c6 => ?_)
  · exact z_thr_a 54 "spread is not 0 to 45" hC hno hlocks hl (by decide) dX2_setTrap_36 dX2_setTrap_39 dX2_setTrap_40 dX2_setTrap_42 dX2_setTrap_45 (Nat.le_of_ble_eq_true rfl) (Nat.le_of_ble_eq_true rfl) (Nat.le_refl _) (Nat.le_refl _) (Nat.le_refl _) (Nat.le_refl _)
  · refine z_iload_n (n := 31) hC dX2_setTrap_30 rfl 3 rfl rfl ?_
    refine z_bipush (v := nI 45) (n := 33) hC dX2_setTrap_31 (by decide) rfl ?_
    refine z_icmp_le (tgt := 46) (n := 36) hC dX2_setTrap_33 (by decide) rfl (fun c7 => (absurd hb (not_or.mpr ⟨by assumption, Int32.not_lt.mpr c7⟩))) (fun c7 => ?_)
    exact z_thr_a 54 "spread is not 0 to 45" hC hno hlocks hl (by decide) dX2_setTrap_36 dX2_setTrap_39 dX2_setTrap_40 dX2_setTrap_42 dX2_setTrap_45 (Nat.le_of_ble_eq_true rfl) (Nat.le_of_ble_eq_true rfl) (Nat.le_refl _) (Nat.le_refl _) (Nat.le_refl _) (Nat.le_refl _)

set_option maxRecDepth 100000 in
set_option maxHeartbeats 4000000 in
theorem kx_X2_shootOff (l : Launch) (G : va_G) (cI cZ cJ : ClassId) (h : Nat) (ta : Nat → Nat) (sa : Nat → Nat) (ua : Nat → Nat) (T : Nat) (b : Nat → Int32) (r : Nat → Int32) (sw : Nat → Int32) (st : Nat → Int32) (fa : Nat → Int32) (sc : Nat → Int32) (fi : Nat → Int32) (mi : Nat → Int32) (lf : Nat → Bool) (hi : Nat → Bool) (n : Nat) (sw2 : Nat → Int32) (st2 : Nat → Int32) (fa2 : Nat → Int32) (sc2 : Nat → Int32) (fi2 : Nat → Int32) (mi2 : Nat → Int32) (lf2 : Nat → Bool) (hi2 : Nat → Bool) (n2 : Nat) (hl : l.stackTraces = false) (hn : n ≤ 6) (hT : T < 2 ^ 29) (hn0 : n = 0) : MX l yX2_shootOff cX2_shootOff 1 6 82 (some .int) G (tY cI cZ cJ) [.ref h] ((wH h ta sa ua T) ++ (wT ta cI b r) ++ (wS sa cI cZ sw st fa sc fi mi lf hi n) ++ (wS ua cI cZ sw2 st2 fa2 sc2 fi2 mi2 lf2 hi2 n2)) "java/lang/IllegalStateException" 1 6 := by
  refine MX_of (by decide) (Nat.le_of_ble_eq_true rfl) [(0, .ref h)] rfl ?_
  intro p e s m below meth c hC hno hlocks hname
  have hC : Cx p s m _ c cX2_shootOff 1 RX2 G (tY cI cZ cJ) _ := hC
  refine z_aload_n (n := 1) hC dX2_shootOff_0 rfl 0 rfl rfl ?_
  refine gf_X2_19 (v := .ref (sa 0)) (n := 4) hC 0 rfl rfl dX2_shootOff_1 rfl ?_
  refine gf_X2_35 (v := .int (nI n)) (n := 7) hC 4 rfl rfl dX2_shootOff_4 rfl ?_
  refine z_if_ne (tgt := 20) (n := 10) hC dX2_shootOff_7 (by decide) rfl (fun c1 => absurd (hn0 ▸ rfl) c1) (fun c1 => ?_)
  exact z_thr_s 79 "there are no guns" hC hno hlocks hl (by decide) dX2_shootOff_10 dX2_shootOff_13 dX2_shootOff_14 dX2_shootOff_16 dX2_shootOff_19 (Nat.le_of_ble_eq_true rfl) (Nat.le_of_ble_eq_true rfl) (Nat.le_refl _) (Nat.le_refl _) (Nat.le_refl _) (Nat.le_refl _)

set_option maxRecDepth 100000 in
set_option maxHeartbeats 4000000 in
theorem kx_X2_angle_b (l : Launch) (G : va_G) (cI cZ cJ : ClassId) (h : Nat) (ta : Nat → Nat) (sa : Nat → Nat) (ua : Nat → Nat) (T : Nat) (b : Nat → Int32) (r : Nat → Int32) (sw : Nat → Int32) (st : Nat → Int32) (fa : Nat → Int32) (sc : Nat → Int32) (fi : Nat → Int32) (mi : Nat → Int32) (lf : Nat → Bool) (hi : Nat → Bool) (n : Nat) (sw2 : Nat → Int32) (st2 : Nat → Int32) (fa2 : Nat → Int32) (sc2 : Nat → Int32) (fi2 : Nat → Int32) (mi2 : Nat → Int32) (lf2 : Nat → Bool) (hi2 : Nat → Bool) (n2 : Nat) (s0 : Nat) (x : Int32) (hl : l.stackTraces = false) (hn : n ≤ 6) (hT : T < 2 ^ 29) (hs : s0 < 5) (hb : x < 0 ∨ nI 5 ≤ x) : MX l yX2_angle cX2_angle 3 6 82 (some .int) G (tY cI cZ cJ) [.ref h, .int (nI s0), .int x] ((wH h ta sa ua T) ++ (wT ta cI b r) ++ (wS sa cI cZ sw st fa sc fi mi lf hi n) ++ (wS ua cI cZ sw2 st2 fa2 sc2 fi2 mi2 lf2 hi2 n2)) "java/lang/IndexOutOfBoundsException" 1 6 := by
  refine MX_of (by decide) (Nat.le_of_ble_eq_true rfl) [(0, .ref h), (1, .int (nI s0)), (2, .int x)] rfl ?_
  intro p e s m below meth c hC hno hlocks hname
  have hC : Cx p s m _ c cX2_angle 3 RX2 G (tY cI cZ cJ) _ := hC
  refine z_iload_n (n := 1) hC dX2_angle_0 rfl 1 rfl rfl ?_
  refine z_callsv (R := { frames := 6, cells := 1, slots := 6, locals := 82 }) (cells := 0) (slots := 0) (ws := (wH h ta sa ua T) ++ (wT ta cI b r) ++ (wS sa cI cZ sw st fa sc fi mi lf hi n) ++ (wS ua cI cZ sw2 st2 fa2 sc2 fi2 mi2 lf2 hi2 n2)) (n := 4) (As := [.int (nI s0)]) (rest := []) hC (k_X2_checkStand l G cI cZ cJ s0 (by omega)) kg_X2_48 kd_yX2_checkStand dX2_angle_1 ⟨Nat.le_of_ble_eq_true rfl, Nat.le_of_ble_eq_true rfl⟩ [] rfl (by decide) rfl (Nat.le_of_ble_eq_true rfl) ⟨Nat.le_of_ble_eq_true rfl, Nat.le_of_ble_eq_true rfl⟩ (ws2 := fun u1 => (wH h ta sa ua T) ++ (wT ta cI b r) ++ (wS sa cI cZ sw st fa sc fi mi lf hi n) ++ (wS ua cI cZ sw2 st2 fa2 sc2 fi2 mi2 lf2 hi2 n2)) [0, 1, 2, 3, 4, 5, 6, 7, 8, 9, 10, 11, 12, 13, 14, 15, 16, 17, 18, 19, 20, 21] (fun _ => rfl) ((wH h ta sa ua T) ++ (wT ta cI b r) ++ (wS sa cI cZ sw st fa sc fi mi lf hi n) ++ (wS ua cI cZ sw2 st2 fa2 sc2 fi2 mi2 lf2 hi2 n2)) (fun _ => rfl) rfl (fun _ => rfl) [] (fun _ => rfl) rfl rfl rfl (fun u1 h3 => ?_)
  refine z_iload_n (n := 5) hC dX2_angle_4 rfl 2 rfl rfl ?_
  refine z_if_lt (tgt := 13) (n := 8) hC dX2_angle_5 (by decide) rfl (fun c4 => ?_) (fun c4 => ?_)
  · exact z_thr_o 87 "clay is not 0 to 4" hC hno hlocks hl (by decide) dX2_angle_13 dX2_angle_16 dX2_angle_17 dX2_angle_19 dX2_angle_22 (Nat.le_of_ble_eq_true rfl) (Nat.le_of_ble_eq_true rfl) (Nat.le_refl _) (Nat.le_refl _) (Nat.le_refl _) (Nat.le_refl _)
  · refine z_iload_n (n := 9) hC dX2_angle_8 rfl 2 rfl rfl ?_
    refine z_iconst (v := nI 5) (n := 10) hC dX2_angle_9 (by decide) rfl ?_
    refine z_icmp_lt (tgt := 23) (n := 13) hC dX2_angle_10 (by decide) rfl (fun c5 => (absurd hb (not_or.mpr ⟨by assumption, Int32.not_le.mpr c5⟩))) (fun c5 => ?_)
    exact z_thr_o 87 "clay is not 0 to 4" hC hno hlocks hl (by decide) dX2_angle_13 dX2_angle_16 dX2_angle_17 dX2_angle_19 dX2_angle_22 (Nat.le_of_ble_eq_true rfl) (Nat.le_of_ble_eq_true rfl) (Nat.le_refl _) (Nat.le_refl _) (Nat.le_refl _) (Nat.le_refl _)
