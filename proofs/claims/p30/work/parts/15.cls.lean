set_option maxRecDepth 100000 in
set_option maxHeartbeats 4000000 in
theorem k_X2_checkStand (l : Launch) (G : va_G) (cI cZ cJ : ClassId) (s0 : Nat) (hs : s0 < 5) : MV (Unit) l yX2_checkStand cX2_checkStand 1 0 0 G (tY cI cZ cJ) [.int (nI s0)] ([]) (fun _ => True) (fun _ => []) 0 0 := by
  refine MV_of (by decide) (Nat.le_of_ble_eq_true rfl) [(0, .int (nI s0))] rfl ?_
  intro p e s m below meth c hC hr hlocks hname
  have hC : Cx p s m _ c cX2_checkStand 1 RX2 G (tY cI cZ cJ) _ := hC
  refine z_iload_n (n := 1) hC dX2_checkStand_0 rfl 0 rfl rfl ?_
  refine z_if_lt (tgt := 9) (n := 4) hC dX2_checkStand_1 (by decide) rfl (fun c1 => absurd c1 (nI_pos (by omega))) (fun c1 => ?_)
  refine z_iload_n (n := 5) hC dX2_checkStand_4 rfl 0 rfl rfl ?_
  refine z_iconst (v := nI 5) (n := 6) hC dX2_checkStand_5 (by decide) rfl ?_
  refine z_icmp_lt_n (tgt := 19) (n := 9) hC s0 5 rfl rfl (by omega) (by omega) dX2_checkStand_6 (by decide) rfl (fun c2 => ?_) (fun c2 => absurd c2 (by omega))
  refine z_vret hC hr hlocks () ?_ rfl dX2_checkStand_19 (by omega) (by omega)
  trivial

set_option maxRecDepth 100000 in
set_option maxHeartbeats 4000000 in
theorem k_X2_checkGun (l : Launch) (G : va_G) (cI cZ cJ : ClassId) (h : Nat) (ta : Nat → Nat) (sa : Nat → Nat) (ua : Nat → Nat) (T : Nat) (sw : Nat → Int32) (st : Nat → Int32) (fa : Nat → Int32) (sc : Nat → Int32) (fi : Nat → Int32) (mi : Nat → Int32) (lf : Nat → Bool) (hi : Nat → Bool) (n : Nat) (g : Nat) (hg : g < n) (hn : n ≤ 6) : MV (Unit) l yX2_checkGun cX2_checkGun 2 0 0 G (tY cI cZ cJ) [.ref h, .int (nI g)] ((wH h ta sa ua T) ++ (wS sa cI cZ sw st fa sc fi mi lf hi n)) (fun _ => True) (fun _ => (wH h ta sa ua T) ++ (wS sa cI cZ sw st fa sc fi mi lf hi n)) 0 0 := by
  refine MV_of (by decide) (Nat.le_of_ble_eq_true rfl) [(0, .ref h), (1, .int (nI g))] rfl ?_
  intro p e s m below meth c hC hr hlocks hname
  have hC : Cx p s m _ c cX2_checkGun 2 RX2 G (tY cI cZ cJ) _ := hC
  refine z_iload_n (n := 1) hC dX2_checkGun_0 rfl 1 rfl rfl ?_
  refine z_if_lt (tgt := 15) (n := 4) hC dX2_checkGun_1 (by decide) rfl (fun c1 => absurd c1 (nI_pos (by omega))) (fun c1 => ?_)
  refine z_iload_n (n := 5) hC dX2_checkGun_4 rfl 1 rfl rfl ?_
  refine z_aload_n (n := 6) hC dX2_checkGun_5 rfl 0 rfl rfl ?_
  refine gf_X2_19 (v := .ref (sa 0)) (n := 9) hC 0 rfl rfl dX2_checkGun_6 rfl ?_
  refine gf_X2_35 (v := .int (nI n)) (n := 12) hC 1 rfl rfl dX2_checkGun_9 rfl ?_
  refine z_icmp_lt_n (tgt := 25) (n := 15) hC g n rfl rfl (by omega) (by omega) dX2_checkGun_12 (by decide) rfl (fun c2 => ?_) (fun c2 => absurd c2 (by omega))
  refine z_vret hC hr hlocks () ?_ rfl dX2_checkGun_25 (by omega) (by omega)
  trivial

set_option maxRecDepth 100000 in
set_option maxHeartbeats 4000000 in
theorem k_X2_checkTurns (l : Launch) (G : va_G) (cI cZ cJ : ClassId) (k : Nat) (hk1 : 1 ≤ k) (hk2 : k ≤ 50) : MV (Unit) l yX2_checkTurns cX2_checkTurns 1 0 0 G (tY cI cZ cJ) [.int (nI k)] ([]) (fun _ => True) (fun _ => []) 0 0 := by
  refine MV_of (by decide) (Nat.le_of_ble_eq_true rfl) [(0, .int (nI k))] rfl ?_
  intro p e s m below meth c hC hr hlocks hname
  have hC : Cx p s m _ c cX2_checkTurns 1 RX2 G (tY cI cZ cJ) _ := hC
  refine z_iload_n (n := 1) hC dX2_checkTurns_0 rfl 0 rfl rfl ?_
  refine z_iconst (v := nI 1) (n := 2) hC dX2_checkTurns_1 (by decide) rfl ?_
  refine z_icmp_lt_n (tgt := 11) (n := 5) hC k 1 rfl rfl (by omega) (by omega) dX2_checkTurns_2 (by decide) rfl (fun c1 => absurd c1 (by omega)) (fun c1 => ?_)
  refine z_iload_n (n := 6) hC dX2_checkTurns_5 rfl 0 rfl rfl ?_
  refine z_bipush (v := nI 50) (n := 8) hC dX2_checkTurns_6 (by decide) rfl ?_
  refine z_icmp_le_n (tgt := 21) (n := 11) hC k 50 rfl rfl (by omega) (by omega) dX2_checkTurns_8 (by decide) rfl (fun c2 => ?_) (fun c2 => absurd c2 (by omega))
  refine z_vret hC hr hlocks () ?_ rfl dX2_checkTurns_21 (by omega) (by omega)
  trivial

set_option maxRecDepth 100000 in
set_option maxHeartbeats 4000000 in
theorem k_X2_addGun (l : Launch) (G : va_G) (cI cZ cJ : ClassId) (h : Nat) (ta : Nat → Nat) (sa : Nat → Nat) (ua : Nat → Nat) (T : Nat) (b : Nat → Int32) (r : Nat → Int32) (sw : Nat → Int32) (st : Nat → Int32) (fa : Nat → Int32) (sc : Nat → Int32) (fi : Nat → Int32) (mi : Nat → Int32) (lf : Nat → Bool) (hi : Nat → Bool) (n : Nat) (sw2 : Nat → Int32) (st2 : Nat → Int32) (fa2 : Nat → Int32) (sc2 : Nat → Int32) (fi2 : Nat → Int32) (mi2 : Nat → Int32) (lf2 : Nat → Bool) (hi2 : Nat → Bool) (n2 : Nat) (x : Int32) (y : Int32) (hn : n ≤ 6) (hT : T < 2 ^ 29) (hn6 : n < 6) (hx1 : ¬ x < nI 5) (hx2 : x ≤ nI 60) (hy1 : ¬ y < nI 1) (hy2 : y ≤ nI 9) : MI (Unit) l yX2_addGun cX2_addGun 3 1 23 G (tY cI cZ cJ) [.ref h, .int x, .int y] ((wH h ta sa ua T) ++ (wT ta cI b r) ++ (wS sa cI cZ sw st fa sc fi mi lf hi n) ++ (wS ua cI cZ sw2 st2 fa2 sc2 fi2 mi2 lf2 hi2 n2)) (fun zr _ => zr = nI n) (fun _ => (wH h ta sa ua T) ++ (wT ta cI b r) ++ (wS sa cI cZ (upd sw n x) (upd st n y) fa sc fi mi lf hi (n + 1)) ++ (wS ua cI cZ sw2 st2 fa2 sc2 fi2 mi2 lf2 hi2 n2)) 0 0 := by
  refine MI_of (by decide) (Nat.le_of_ble_eq_true rfl) [(0, .ref h), (1, .int x), (2, .int y)] rfl ?_
  intro p e s m below meth c hC hr hlocks hname
  have hC : Cx p s m _ c cX2_addGun 3 RX2 G (tY cI cZ cJ) _ := hC
  refine z_iload_n (n := 1) hC dX2_addGun_0 rfl 1 rfl rfl ?_
  refine z_iconst (v := nI 5) (n := 2) hC dX2_addGun_1 (by decide) rfl ?_
  refine z_icmp_lt (tgt := 11) (n := 5) hC dX2_addGun_2 (by decide) rfl (fun c1 => absurd c1 hx1) (fun c1 => ?_)
  refine z_iload_n (n := 6) hC dX2_addGun_5 rfl 1 rfl rfl ?_
  refine z_bipush (v := nI 60) (n := 8) hC dX2_addGun_6 (by decide) rfl ?_
  refine z_icmp_le (tgt := 21) (n := 11) hC dX2_addGun_8 (by decide) rfl (fun c2 => ?_) (fun c2 => absurd hx2 c2)
  refine z_iload_n (n := 22) hC dX2_addGun_21 rfl 2 rfl rfl ?_
  refine z_iconst (v := nI 1) (n := 23) hC dX2_addGun_22 (by decide) rfl ?_
  refine z_icmp_lt (tgt := 32) (n := 26) hC dX2_addGun_23 (by decide) rfl (fun c3 => absurd c3 hy1) (fun c3 => ?_)
  refine z_iload_n (n := 27) hC dX2_addGun_26 rfl 2 rfl rfl ?_
  refine z_bipush (v := nI 9) (n := 29) hC dX2_addGun_27 (by decide) rfl ?_
  refine z_icmp_le (tgt := 42) (n := 32) hC dX2_addGun_29 (by decide) rfl (fun c4 => ?_) (fun c4 => absurd hy2 c4)
  refine z_aload_n (n := 43) hC dX2_addGun_42 rfl 0 rfl rfl ?_
  refine gf_X2_19 (v := .ref (sa 0)) (n := 46) hC 0 rfl rfl dX2_addGun_43 rfl ?_
  refine gf_X2_35 (v := .int (nI n)) (n := 49) hC 4 rfl rfl dX2_addGun_46 rfl ?_
  refine z_bipush (v := nI 6) (n := 51) hC dX2_addGun_49 (by decide) rfl ?_
  refine z_icmp_lt_n (tgt := 64) (n := 54) hC n 6 rfl rfl (by omega) (by omega) dX2_addGun_51 (by decide) rfl (fun c5 => ?_) (fun c5 => absurd c5 (by omega))
  refine z_aload_n (n := 65) hC dX2_addGun_64 rfl 0 rfl rfl ?_
  refine gf_X2_19 (v := .ref (sa 0)) (n := 68) hC 0 rfl rfl dX2_addGun_65 rfl ?_
  refine z_iload_n (n := 69) hC dX2_addGun_68 rfl 1 rfl rfl ?_
  refine z_iload_n (n := 70) hC dX2_addGun_69 rfl 2 rfl rfl ?_
  refine z_calli (R := { frames := 1, cells := 0, slots := 0, locals := 23 }) (cells := 0) (slots := 0) (ws := (wH h ta sa ua T) ++ (wT ta cI b r) ++ (wS sa cI cZ sw st fa sc fi mi lf hi n) ++ (wS ua cI cZ sw2 st2 fa2 sc2 fi2 mi2 lf2 hi2 n2)) (n := 73) (As := [.int x, .int y]) (rest := []) hC (k_X0_enter l G cI cZ cJ sa sw st fa sc fi mi lf hi n x y (by omega)) kg_X2_44 kd_yX0_enter dX2_addGun_70 ⟨Nat.le_of_ble_eq_true rfl, Nat.le_of_ble_eq_true rfl⟩ 0 rfl rfl rfl [4, 5, 6, 7, 8, 9, 10, 11, 12] rfl (by decide) rfl (Nat.le_of_ble_eq_true rfl) ⟨Nat.le_of_ble_eq_true rfl, Nat.le_of_ble_eq_true rfl⟩ (ws2 := fun u6 => (wH h ta sa ua T) ++ (wT ta cI b r) ++ (wS sa cI cZ (upd sw n x) (upd st n y) fa sc fi mi lf hi (n + 1)) ++ (wS ua cI cZ sw2 st2 fa2 sc2 fi2 mi2 lf2 hi2 n2)) [0, 1, 2, 3, 13, 14, 15, 16, 17, 18, 19, 20, 21] (fun _ => rfl) ((wH h ta sa ua T) ++ (wT ta cI b r) ++ (wS ua cI cZ sw2 st2 fa2 sc2 fi2 mi2 lf2 hi2 n2)) (fun _ => rfl) rfl (fun _ => rfl) [sa 0, sa 1, sa 2, sa 3, sa 4, sa 5, sa 6, sa 7, sa 8] (fun _ => rfl) rfl rfl rfl (fun r7 u6 h8 => ?_)
  subst h8
  refine z_iret hC hr hlocks () ?_ rfl dX2_addGun_73 (by omega) (by omega)
  rfl

set_option maxRecDepth 100000 in
set_option maxHeartbeats 4000000 in
theorem k_X2_setTrap (l : Launch) (G : va_G) (cI cZ cJ : ClassId) (h : Nat) (ta : Nat → Nat) (sa : Nat → Nat) (ua : Nat → Nat) (T : Nat) (b : Nat → Int32) (r : Nat → Int32) (sw : Nat → Int32) (st : Nat → Int32) (fa : Nat → Int32) (sc : Nat → Int32) (fi : Nat → Int32) (mi : Nat → Int32) (lf : Nat → Bool) (hi : Nat → Bool) (n : Nat) (sw2 : Nat → Int32) (st2 : Nat → Int32) (fa2 : Nat → Int32) (sc2 : Nat → Int32) (fi2 : Nat → Int32) (mi2 : Nat → Int32) (lf2 : Nat → Bool) (hi2 : Nat → Bool) (n2 : Nat) (s0 : Nat) (x : Int32) (y : Int32) (hn : n ≤ 6) (hT : T < 2 ^ 29) (hs : s0 < 5) (hx1 : ¬ x < (-45)) (hx2 : x ≤ nI 45) (hy1 : ¬ y < 0) (hy2 : y ≤ nI 45) : MI (Unit) l yX2_setTrap cX2_setTrap 5 1 20 G (tY cI cZ cJ) [.ref h, .int (nI s0), .int x, .int y] ((wH h ta sa ua T) ++ (wT ta cI b r) ++ (wS sa cI cZ sw st fa sc fi mi lf hi n) ++ (wS ua cI cZ sw2 st2 fa2 sc2 fi2 mi2 lf2 hi2 n2)) (fun zr _ => zr = b s0) (fun _ => (wH h ta sa ua T) ++ (wT ta cI (upd b s0 x) (upd r s0 y)) ++ (wS sa cI cZ sw st fa sc fi mi lf hi n) ++ (wS ua cI cZ sw2 st2 fa2 sc2 fi2 mi2 lf2 hi2 n2)) 0 0 := by
  refine MI_of (by decide) (Nat.le_of_ble_eq_true rfl) [(0, .ref h), (1, .int (nI s0)), (2, .int x), (3, .int y)] rfl ?_
  intro p e s m below meth c hC hr hlocks hname
  have hC : Cx p s m _ c cX2_setTrap 5 RX2 G (tY cI cZ cJ) _ := hC
  refine z_iload_n (n := 1) hC dX2_setTrap_0 rfl 1 rfl rfl ?_
  refine z_callsv (R := { frames := 1, cells := 0, slots := 0, locals := 20 }) (cells := 0) (slots := 0) (ws := (wH h ta sa ua T) ++ (wT ta cI b r) ++ (wS sa cI cZ sw st fa sc fi mi lf hi n) ++ (wS ua cI cZ sw2 st2 fa2 sc2 fi2 mi2 lf2 hi2 n2)) (n := 4) (As := [.int (nI s0)]) (rest := []) hC (k_X2_checkStand l G cI cZ cJ s0 (by omega)) kg_X2_48 kd_yX2_checkStand dX2_setTrap_1 ⟨Nat.le_of_ble_eq_true rfl, Nat.le_of_ble_eq_true rfl⟩ [] rfl (by decide) rfl (Nat.le_of_ble_eq_true rfl) ⟨Nat.le_of_ble_eq_true rfl, Nat.le_of_ble_eq_true rfl⟩ (ws2 := fun u1 => (wH h ta sa ua T) ++ (wT ta cI b r) ++ (wS sa cI cZ sw st fa sc fi mi lf hi n) ++ (wS ua cI cZ sw2 st2 fa2 sc2 fi2 mi2 lf2 hi2 n2)) [0, 1, 2, 3, 4, 5, 6, 7, 8, 9, 10, 11, 12, 13, 14, 15, 16, 17, 18, 19, 20, 21] (fun _ => rfl) ((wH h ta sa ua T) ++ (wT ta cI b r) ++ (wS sa cI cZ sw st fa sc fi mi lf hi n) ++ (wS ua cI cZ sw2 st2 fa2 sc2 fi2 mi2 lf2 hi2 n2)) (fun _ => rfl) rfl (fun _ => rfl) [] (fun _ => rfl) rfl rfl rfl (fun u1 h3 => ?_)
  refine z_iload_n (n := 5) hC dX2_setTrap_4 rfl 2 rfl rfl ?_
  refine z_bipush (v := (-45)) (n := 7) hC dX2_setTrap_5 (by decide) rfl ?_
  refine z_icmp_lt (tgt := 16) (n := 10) hC dX2_setTrap_7 (by decide) rfl (fun c4 => absurd c4 hx1) (fun c4 => ?_)
  refine z_iload_n (n := 11) hC dX2_setTrap_10 rfl 2 rfl rfl ?_
  refine z_bipush (v := nI 45) (n := 13) hC dX2_setTrap_11 (by decide) rfl ?_
  refine z_icmp_le (tgt := 26) (n := 16) hC dX2_setTrap_13 (by decide) rfl (fun c5 => ?_) (fun c5 => absurd hx2 c5)
  refine z_iload_n (n := 27) hC dX2_setTrap_26 rfl 3 rfl rfl ?_
  refine z_if_lt (tgt := 36) (n := 30) hC dX2_setTrap_27 (by decide) rfl (fun c6 => absurd c6 hy1) (fun c6 => ?_)
  refine z_iload_n (n := 31) hC dX2_setTrap_30 rfl 3 rfl rfl ?_
  refine z_bipush (v := nI 45) (n := 33) hC dX2_setTrap_31 (by decide) rfl ?_
  refine z_icmp_le (tgt := 46) (n := 36) hC dX2_setTrap_33 (by decide) rfl (fun c7 => ?_) (fun c7 => absurd hy2 c7)
  refine z_aload_n (n := 47) hC dX2_setTrap_46 rfl 0 rfl rfl ?_
  refine gf_X2_10 (v := .ref (ta 0)) (n := 50) hC 0 rfl rfl dX2_setTrap_47 rfl ?_
  refine gf_X2_56 (v := .ref (ta 1)) (n := 53) hC 1 rfl rfl dX2_setTrap_50 rfl ?_
  refine z_iload_n (n := 54) hC dX2_setTrap_53 rfl 1 rfl rfl ?_
  refine z_iald (v := b s0) (n := 55) hC 2 0 s0 rfl rfl rfl (by omega) (by decide) dX2_setTrap_54 rfl rfl ?_
  refine z_istore (lv' := [(4, .int (b s0)), (0, .ref h), (1, .int (nI s0)), (2, .int x), (3, .int y)]) (n := 57) hC dX2_setTrap_55 (by decide) rfl rfl ?_
  refine z_aload_n (n := 58) hC dX2_setTrap_57 rfl 1 rfl rfl ?_
  refine gf_X2_10 (v := .ref (ta 0)) (n := 61) hC 0 rfl rfl dX2_setTrap_58 rfl ?_
  refine gf_X2_56 (v := .ref (ta 1)) (n := 64) hC 1 rfl rfl dX2_setTrap_61 rfl ?_
  refine z_iload_n (n := 65) hC dX2_setTrap_64 rfl 2 rfl rfl ?_
  refine z_iload_n (n := 66) hC dX2_setTrap_65 rfl 3 rfl rfl ?_
  refine z_iast (ws' := (wH h ta sa ua T) ++ (wT ta cI (upd b s0 x) r) ++ (wS sa cI cZ sw st fa sc fi mi lf hi n) ++ (wS ua cI cZ sw2 st2 fa2 sc2 fi2 mi2 lf2 hi2 n2)) (n := 67) hC 2 0 s0 rfl rfl rfl (by omega) (by decide) dX2_setTrap_66 rfl rfl rfl ?_
  refine z_aload_n (n := 68) hC dX2_setTrap_67 rfl 1 rfl rfl ?_
  refine gf_X2_10 (v := .ref (ta 0)) (n := 71) hC 0 rfl rfl dX2_setTrap_68 rfl ?_
  refine gf_X2_60 (v := .ref (ta 2)) (n := 74) hC 1 rfl rfl dX2_setTrap_71 rfl ?_
  refine z_iload_n (n := 75) hC dX2_setTrap_74 rfl 2 rfl rfl ?_
  refine z_iload_n (n := 76) hC dX2_setTrap_75 rfl 4 rfl rfl ?_
  refine z_iast (ws' := (wH h ta sa ua T) ++ (wT ta cI (upd b s0 x) (upd r s0 y)) ++ (wS sa cI cZ sw st fa sc fi mi lf hi n) ++ (wS ua cI cZ sw2 st2 fa2 sc2 fi2 mi2 lf2 hi2 n2)) (n := 77) hC 3 0 s0 rfl rfl rfl (by omega) (by decide) dX2_setTrap_76 rfl rfl rfl ?_
  refine z_iload (n := 79) hC dX2_setTrap_77 0 rfl rfl ?_
  refine z_iret hC hr hlocks () ?_ rfl dX2_setTrap_79 (by omega) (by omega)
  rfl

set_option maxRecDepth 100000 in
set_option maxHeartbeats 4000000 in
theorem k_X2_rest (l : Launch) (G : va_G) (cI cZ cJ : ClassId) (h : Nat) (ta : Nat → Nat) (sa : Nat → Nat) (ua : Nat → Nat) (T : Nat) (b : Nat → Int32) (r : Nat → Int32) (sw : Nat → Int32) (st : Nat → Int32) (fa : Nat → Int32) (sc : Nat → Int32) (fi : Nat → Int32) (mi : Nat → Int32) (lf : Nat → Bool) (hi : Nat → Bool) (n : Nat) (sw2 : Nat → Int32) (st2 : Nat → Int32) (fa2 : Nat → Int32) (sc2 : Nat → Int32) (fi2 : Nat → Int32) (mi2 : Nat → Int32) (lf2 : Nat → Bool) (hi2 : Nat → Bool) (n2 : Nat) (g : Nat) (hn : n ≤ 6) (hT : T < 2 ^ 29) (hg : g < n) : MI (Unit) l yX2_rest cX2_rest 3 1 21 G (tY cI cZ cJ) [.ref h, .int (nI g)] ((wH h ta sa ua T) ++ (wT ta cI b r) ++ (wS sa cI cZ sw st fa sc fi mi lf hi n) ++ (wS ua cI cZ sw2 st2 fa2 sc2 fi2 mi2 lf2 hi2 n2)) (fun zr _ => zr = fa g) (fun _ => (wH h ta sa ua T) ++ (wT ta cI b r) ++ (wS sa cI cZ sw st (upd fa g (nI 0)) sc fi mi lf hi n) ++ (wS ua cI cZ sw2 st2 fa2 sc2 fi2 mi2 lf2 hi2 n2)) 0 0 := by
  refine MI_of (by decide) (Nat.le_of_ble_eq_true rfl) [(0, .ref h), (1, .int (nI g))] rfl ?_
  intro p e s m below meth c hC hr hlocks hname
  have hC : Cx p s m _ c cX2_rest 3 RX2 G (tY cI cZ cJ) _ := hC
  refine z_aload_n (n := 1) hC dX2_rest_0 rfl 0 rfl rfl ?_
  refine z_iload_n (n := 2) hC dX2_rest_1 rfl 1 rfl rfl ?_
  refine z_callv (R := { frames := 1, cells := 0, slots := 0, locals := 21 }) (cells := 0) (slots := 0) (ws := (wH h ta sa ua T) ++ (wT ta cI b r) ++ (wS sa cI cZ sw st fa sc fi mi lf hi n) ++ (wS ua cI cZ sw2 st2 fa2 sc2 fi2 mi2 lf2 hi2 n2)) (n := 5) (As := [.int (nI g)]) (rest := []) hC (k_X2_checkGun l G cI cZ cJ h ta sa ua T sw st fa sc fi mi lf hi n g (by omega) (by omega)) kg_X2_63 kd_yX2_checkGun dX2_rest_2 ⟨Nat.le_of_ble_eq_true rfl, Nat.le_of_ble_eq_true rfl⟩ 0 rfl rfl rfl [0, 4, 5, 6, 7, 8, 9, 10, 11, 12] rfl (by decide) rfl (Nat.le_of_ble_eq_true rfl) ⟨Nat.le_of_ble_eq_true rfl, Nat.le_of_ble_eq_true rfl⟩ (ws2 := fun u1 => (wH h ta sa ua T) ++ (wT ta cI b r) ++ (wS sa cI cZ sw st fa sc fi mi lf hi n) ++ (wS ua cI cZ sw2 st2 fa2 sc2 fi2 mi2 lf2 hi2 n2)) [1, 2, 3, 13, 14, 15, 16, 17, 18, 19, 20, 21] (fun _ => rfl) ((wT ta cI b r) ++ (wS ua cI cZ sw2 st2 fa2 sc2 fi2 mi2 lf2 hi2 n2)) (fun _ => rfl) rfl (fun _ => rfl) [h, sa 0, sa 1, sa 2, sa 3, sa 4, sa 5, sa 6, sa 7, sa 8] (fun _ => rfl) rfl rfl rfl (fun u1 h3 => ?_)
  refine z_aload_n (n := 6) hC dX2_rest_5 rfl 0 rfl rfl ?_
  refine gf_X2_19 (v := .ref (sa 0)) (n := 9) hC 0 rfl rfl dX2_rest_6 rfl ?_
  refine gf_X2_66 (v := .ref (sa 3)) (n := 12) hC 4 rfl rfl dX2_rest_9 rfl ?_
  refine z_iload_n (n := 13) hC dX2_rest_12 rfl 1 rfl rfl ?_
  refine z_iald (v := fa g) (n := 14) hC 7 0 g rfl rfl rfl (by omega) (by decide) dX2_rest_13 rfl rfl ?_
  refine z_istore_n (lv' := [(2, .int (fa g)), (0, .ref h), (1, .int (nI g))]) (n := 15) hC dX2_rest_14 rfl (by decide) rfl rfl ?_
  refine z_aload_n (n := 16) hC dX2_rest_15 rfl 1 rfl rfl ?_
  refine gf_X2_19 (v := .ref (sa 0)) (n := 19) hC 0 rfl rfl dX2_rest_16 rfl ?_
  refine gf_X2_66 (v := .ref (sa 3)) (n := 22) hC 4 rfl rfl dX2_rest_19 rfl ?_
  refine z_iload_n (n := 23) hC dX2_rest_22 rfl 2 rfl rfl ?_
  refine z_iconst (v := nI 0) (n := 24) hC dX2_rest_23 (by decide) rfl ?_
  refine z_iast (ws' := (wH h ta sa ua T) ++ (wT ta cI b r) ++ (wS sa cI cZ sw st (upd fa g (nI 0)) sc fi mi lf hi n) ++ (wS ua cI cZ sw2 st2 fa2 sc2 fi2 mi2 lf2 hi2 n2)) (n := 25) hC 7 0 g rfl rfl rfl (by omega) (by decide) dX2_rest_24 rfl rfl rfl ?_
  refine z_iload_n (n := 26) hC dX2_rest_25 rfl 0 rfl rfl ?_
  refine z_iret hC hr hlocks () ?_ rfl dX2_rest_26 (by omega) (by omega)
  rfl

set_option maxRecDepth 100000 in
set_option maxHeartbeats 4000000 in
theorem k_X2_pass (l : Launch) (G : va_G) (cI cZ cJ : ClassId) (h : Nat) (ta : Nat → Nat) (sa : Nat → Nat) (ua : Nat → Nat) (T : Nat) (b : Nat → Int32) (r : Nat → Int32) (sw : Nat → Int32) (st : Nat → Int32) (fa : Nat → Int32) (sc : Nat → Int32) (fi : Nat → Int32) (mi : Nat → Int32) (lf : Nat → Bool) (hi : Nat → Bool) (n : Nat) (sw2 : Nat → Int32) (st2 : Nat → Int32) (fa2 : Nat → Int32) (sc2 : Nat → Int32) (fi2 : Nat → Int32) (mi2 : Nat → Int32) (lf2 : Nat → Bool) (hi2 : Nat → Bool) (n2 : Nat) (k : Nat) (hn : n ≤ 6) (hT : T < 2 ^ 29) (hk1 : 1 ≤ k) (hk2 : k ≤ 50) : MI (Unit) l yX2_pass cX2_pass 3 6 139 G (tY cI cZ cJ) [.ref h, .int (nI k)] ((wH h ta sa ua T) ++ (wT ta cI b r) ++ (wS sa cI cZ sw st fa sc fi mi lf hi n) ++ (wS ua cI cZ sw2 st2 fa2 sc2 fi2 mi2 lf2 hi2 n2)) (fun zr _ => zr = smF (fun zj => plM sw st b r sc fi mi fa T k zj - mi zj) n) (fun _ => (wH h ta sa ua (T + k)) ++ (wT ta cI b r) ++ (wS sa cI cZ sw st (pwF fa (plA sw st b r sc fi mi fa T k) n) (pwF sc (plS sw st b r sc fi mi fa T k) n) (pwF fi (plF sw st b r sc fi mi fa T k) n) (pwF mi (plM sw st b r sc fi mi fa T k) n) lf hi n) ++ (wS ua cI cZ sw2 st2 fa2 sc2 fi2 mi2 lf2 hi2 n2)) 0 0 := by
  refine MI_of (by decide) (Nat.le_of_ble_eq_true rfl) [(0, .ref h), (1, .int (nI k))] rfl ?_
  intro p e s m below meth c hC hr hlocks hname
  have hC : Cx p s m _ c cX2_pass 3 RX2 G (tY cI cZ cJ) _ := hC
  refine z_iload_n (n := 1) hC dX2_pass_0 rfl 1 rfl rfl ?_
  refine z_callsv (R := { frames := 6, cells := 0, slots := 0, locals := 139 }) (cells := 0) (slots := 0) (ws := (wH h ta sa ua T) ++ (wT ta cI b r) ++ (wS sa cI cZ sw st fa sc fi mi lf hi n) ++ (wS ua cI cZ sw2 st2 fa2 sc2 fi2 mi2 lf2 hi2 n2)) (n := 4) (As := [.int (nI k)]) (rest := []) hC (k_X2_checkTurns l G cI cZ cJ k (by omega) (by omega)) kg_X2_69 kd_yX2_checkTurns dX2_pass_1 ⟨Nat.le_of_ble_eq_true rfl, Nat.le_of_ble_eq_true rfl⟩ [] rfl (by decide) rfl (Nat.le_of_ble_eq_true rfl) ⟨Nat.le_of_ble_eq_true rfl, Nat.le_of_ble_eq_true rfl⟩ (ws2 := fun u1 => (wH h ta sa ua T) ++ (wT ta cI b r) ++ (wS sa cI cZ sw st fa sc fi mi lf hi n) ++ (wS ua cI cZ sw2 st2 fa2 sc2 fi2 mi2 lf2 hi2 n2)) [0, 1, 2, 3, 4, 5, 6, 7, 8, 9, 10, 11, 12, 13, 14, 15, 16, 17, 18, 19, 20, 21] (fun _ => rfl) ((wH h ta sa ua T) ++ (wT ta cI b r) ++ (wS sa cI cZ sw st fa sc fi mi lf hi n) ++ (wS ua cI cZ sw2 st2 fa2 sc2 fi2 mi2 lf2 hi2 n2)) (fun _ => rfl) rfl (fun _ => rfl) [] (fun _ => rfl) rfl rfl rfl (fun u1 h3 => ?_)
  refine z_aload_n (n := 5) hC dX2_pass_4 rfl 0 rfl rfl ?_
  refine gf_X2_19 (v := .ref (sa 0)) (n := 8) hC 0 rfl rfl dX2_pass_5 rfl ?_
  refine z_aload_n (n := 9) hC dX2_pass_8 rfl 0 rfl rfl ?_
  refine gf_X2_10 (v := .ref (ta 0)) (n := 12) hC 0 rfl rfl dX2_pass_9 rfl ?_
  refine z_aload_n (n := 13) hC dX2_pass_12 rfl 0 rfl rfl ?_
  refine gf_X2_72 (v := .int (nI T)) (n := 16) hC 0 rfl rfl dX2_pass_13 rfl ?_
  refine z_iload_n (n := 17) hC dX2_pass_16 rfl 1 rfl rfl ?_
  refine z_calli (R := { frames := 6, cells := 0, slots := 0, locals := 139 }) (cells := 0) (slots := 0) (ws := (wH h ta sa ua T) ++ (wT ta cI b r) ++ (wS sa cI cZ sw st fa sc fi mi lf hi n) ++ (wS ua cI cZ sw2 st2 fa2 sc2 fi2 mi2 lf2 hi2 n2)) (n := 20) (As := [.ref (ta 0), .int (nI T), .int (nI k)]) (rest := []) hC (k_X0_play l G cI cZ cJ sa sw st fa sc fi mi lf hi n ta b r T k (by omega) (by omega)) kg_X2_75 kd_yX0_play dX2_pass_17 ⟨Nat.le_of_ble_eq_true rfl, Nat.le_of_ble_eq_true rfl⟩ 0 rfl rfl rfl [4, 5, 6, 7, 8, 9, 10, 11, 12, 1, 2, 3] rfl (by decide) rfl (Nat.le_of_ble_eq_true rfl) ⟨Nat.le_of_ble_eq_true rfl, Nat.le_of_ble_eq_true rfl⟩ (ws2 := fun u4 => (wH h ta sa ua T) ++ (wT ta cI b r) ++ (wS sa cI cZ sw st (pwF fa (plA sw st b r sc fi mi fa T k) n) (pwF sc (plS sw st b r sc fi mi fa T k) n) (pwF fi (plF sw st b r sc fi mi fa T k) n) (pwF mi (plM sw st b r sc fi mi fa T k) n) lf hi n) ++ (wS ua cI cZ sw2 st2 fa2 sc2 fi2 mi2 lf2 hi2 n2)) [0, 13, 14, 15, 16, 17, 18, 19, 20, 21] (fun _ => rfl) ((wH h ta sa ua T) ++ (wS ua cI cZ sw2 st2 fa2 sc2 fi2 mi2 lf2 hi2 n2)) (fun _ => rfl) rfl (fun _ => rfl) [sa 0, sa 1, sa 2, sa 3, sa 4, sa 5, sa 6, sa 7, sa 8, ta 0, ta 1, ta 2] (fun _ => rfl) rfl rfl rfl (fun r5 u4 h6 => ?_)
  subst h6
  refine z_istore_n (lv' := [(2, .int (smF (fun zj => plM sw st b r sc fi mi fa T k zj - mi zj) n)), (0, .ref h), (1, .int (nI k))]) (n := 21) hC dX2_pass_20 rfl (by decide) rfl rfl ?_
  refine z_aload_n (n := 22) hC dX2_pass_21 rfl 1 rfl rfl ?_
  refine z_dup (n := 23) hC dX2_pass_22 rfl rfl ?_
  refine gf_X2_72 (v := .int (nI T)) (n := 26) hC 0 rfl rfl dX2_pass_23 rfl ?_
  refine z_iload_n (n := 27) hC dX2_pass_26 rfl 2 rfl rfl ?_
  refine z_iadd (v := nI (T + k)) (n := 28) hC dX2_pass_27 (nI_add T k) rfl ?_
  refine pf_X2_72 (ws' := (wH h ta sa ua (T + k)) ++ (wT ta cI b r) ++ (wS sa cI cZ sw st (pwF fa (plA sw st b r sc fi mi fa T k) n) (pwF sc (plS sw st b r sc fi mi fa T k) n) (pwF fi (plF sw st b r sc fi mi fa T k) n) (pwF mi (plM sw st b r sc fi mi fa T k) n) lf hi n) ++ (wS ua cI cZ sw2 st2 fa2 sc2 fi2 mi2 lf2 hi2 n2)) (n := 31) hC 0 rfl (Nat.le_of_ble_eq_true rfl) dX2_pass_28 rfl rfl ?_
  refine z_iload_n (n := 32) hC dX2_pass_31 rfl 0 rfl rfl ?_
  refine z_iret hC hr hlocks () ?_ rfl dX2_pass_32 (by omega) (by omega)
  rfl

set_option maxRecDepth 100000 in
set_option maxHeartbeats 4000000 in
theorem k_X2_shootOff (l : Launch) (G : va_G) (cI cZ cJ : ClassId) (h : Nat) (ta : Nat → Nat) (sa : Nat → Nat) (ua : Nat → Nat) (T : Nat) (b : Nat → Int32) (r : Nat → Int32) (sw : Nat → Int32) (st : Nat → Int32) (fa : Nat → Int32) (sc : Nat → Int32) (fi : Nat → Int32) (mi : Nat → Int32) (lf : Nat → Bool) (hi : Nat → Bool) (n : Nat) (sw2 : Nat → Int32) (st2 : Nat → Int32) (fa2 : Nat → Int32) (sc2 : Nat → Int32) (fi2 : Nat → Int32) (mi2 : Nat → Int32) (lf2 : Nat → Bool) (hi2 : Nat → Bool) (n2 : Nat) (hn : n ≤ 6) (hT : T < 2 ^ 29) (hn0 : 0 < n) : MI ((Nat → Bool) × (Nat → Bool)) l yX2_shootOff cX2_shootOff 1 3 68 G (tY cI cZ cJ) [.ref h] ((wH h ta sa ua T) ++ (wT ta cI b r) ++ (wS sa cI cZ sw st fa sc fi mi lf hi n) ++ (wS ua cI cZ sw2 st2 fa2 sc2 fi2 mi2 lf2 hi2 n2)) (fun zr _ => zr = nI (wnF sw st sc fa n)) (fun zu => (wH h ta sa ua T) ++ (wT ta cI b r) ++ (wS sa cI cZ sw st (waF sw st sc fa n) (upd sc (wnF sw st sc fa n) (sc (wnF sw st sc fa n) + nI 1)) fi mi zu.1 zu.2 n) ++ (wS ua cI cZ sw2 st2 fa2 sc2 fi2 mi2 lf2 hi2 n2)) 0 0 := by
  refine MI_of (by decide) (Nat.le_of_ble_eq_true rfl) [(0, .ref h)] rfl ?_
  intro p e s m below meth c hC hr hlocks hname
  have hC : Cx p s m _ c cX2_shootOff 1 RX2 G (tY cI cZ cJ) _ := hC
  refine z_aload_n (n := 1) hC dX2_shootOff_0 rfl 0 rfl rfl ?_
  refine gf_X2_19 (v := .ref (sa 0)) (n := 4) hC 0 rfl rfl dX2_shootOff_1 rfl ?_
  refine gf_X2_35 (v := .int (nI n)) (n := 7) hC 4 rfl rfl dX2_shootOff_4 rfl ?_
  refine z_if_ne (tgt := 20) (n := 10) hC dX2_shootOff_7 (by decide) rfl (fun c1 => ?_) (fun c1 => absurd c1 (nI_ne0 hn0 (by omega)))
  refine z_aload_n (n := 21) hC dX2_shootOff_20 rfl 0 rfl rfl ?_
  refine gf_X2_19 (v := .ref (sa 0)) (n := 24) hC 0 rfl rfl dX2_shootOff_21 rfl ?_
  refine z_calli (R := { frames := 3, cells := 0, slots := 0, locals := 68 }) (cells := 0) (slots := 0) (ws := (wH h ta sa ua T) ++ (wT ta cI b r) ++ (wS sa cI cZ sw st fa sc fi mi lf hi n) ++ (wS ua cI cZ sw2 st2 fa2 sc2 fi2 mi2 lf2 hi2 n2)) (n := 27) (As := []) (rest := []) hC (k_X0_settleTie l G cI cZ cJ sa sw st fa sc fi mi lf hi n (by omega) (by omega)) kg_X2_81 kd_yX0_settleTie dX2_shootOff_24 ⟨Nat.le_of_ble_eq_true rfl, Nat.le_of_ble_eq_true rfl⟩ 0 rfl rfl rfl [4, 5, 6, 7, 8, 9, 10, 11, 12] rfl (by decide) rfl (Nat.le_of_ble_eq_true rfl) ⟨Nat.le_of_ble_eq_true rfl, Nat.le_of_ble_eq_true rfl⟩ (ws2 := fun u2 => (wH h ta sa ua T) ++ (wT ta cI b r) ++ (wS sa cI cZ sw st (waF sw st sc fa n) (upd sc (wnF sw st sc fa n) (sc (wnF sw st sc fa n) + nI 1)) fi mi u2.1 u2.2 n) ++ (wS ua cI cZ sw2 st2 fa2 sc2 fi2 mi2 lf2 hi2 n2)) [0, 1, 2, 3, 13, 14, 15, 16, 17, 18, 19, 20, 21] (fun _ => rfl) ((wH h ta sa ua T) ++ (wT ta cI b r) ++ (wS ua cI cZ sw2 st2 fa2 sc2 fi2 mi2 lf2 hi2 n2)) (fun _ => rfl) rfl (fun _ => rfl) [sa 0, sa 1, sa 2, sa 3, sa 4, sa 5, sa 6, sa 7, sa 8] (fun _ => rfl) rfl rfl rfl (fun r3 u2 h4 => ?_)
  subst h4
  refine z_iret hC hr hlocks (u2.1, u2.2) ?_ rfl dX2_shootOff_27 (by omega) (by omega)
  rfl

set_option maxRecDepth 100000 in
set_option maxHeartbeats 4000000 in
theorem k_X2_turn (l : Launch) (G : va_G) (cI cZ cJ : ClassId) (h : Nat) (ta : Nat → Nat) (sa : Nat → Nat) (ua : Nat → Nat) (T : Nat) (b : Nat → Int32) (r : Nat → Int32) (sw : Nat → Int32) (st : Nat → Int32) (fa : Nat → Int32) (sc : Nat → Int32) (fi : Nat → Int32) (mi : Nat → Int32) (lf : Nat → Bool) (hi : Nat → Bool) (n : Nat) (sw2 : Nat → Int32) (st2 : Nat → Int32) (fa2 : Nat → Int32) (sc2 : Nat → Int32) (fi2 : Nat → Int32) (mi2 : Nat → Int32) (lf2 : Nat → Bool) (hi2 : Nat → Bool) (n2 : Nat) (hn : n ≤ 6) (hT : T < 2 ^ 29) : MI (Unit) l yX2_turn cX2_turn 1 0 0 G (tY cI cZ cJ) [.ref h] ((wH h ta sa ua T) ++ (wT ta cI b r) ++ (wS sa cI cZ sw st fa sc fi mi lf hi n) ++ (wS ua cI cZ sw2 st2 fa2 sc2 fi2 mi2 lf2 hi2 n2)) (fun zr _ => zr = nI T) (fun _ => (wH h ta sa ua T) ++ (wT ta cI b r) ++ (wS sa cI cZ sw st fa sc fi mi lf hi n) ++ (wS ua cI cZ sw2 st2 fa2 sc2 fi2 mi2 lf2 hi2 n2)) 0 0 := by
  refine MI_of (by decide) (Nat.le_of_ble_eq_true rfl) [(0, .ref h)] rfl ?_
  intro p e s m below meth c hC hr hlocks hname
  have hC : Cx p s m _ c cX2_turn 1 RX2 G (tY cI cZ cJ) _ := hC
  refine z_aload_n (n := 1) hC dX2_turn_0 rfl 0 rfl rfl ?_
  refine gf_X2_72 (v := .int (nI T)) (n := 4) hC 0 rfl rfl dX2_turn_1 rfl ?_
  refine z_iret hC hr hlocks () ?_ rfl dX2_turn_4 (by omega) (by omega)
  rfl

set_option maxRecDepth 100000 in
set_option maxHeartbeats 4000000 in
theorem k_X2_angle (l : Launch) (G : va_G) (cI cZ cJ : ClassId) (h : Nat) (ta : Nat → Nat) (sa : Nat → Nat) (ua : Nat → Nat) (T : Nat) (b : Nat → Int32) (r : Nat → Int32) (sw : Nat → Int32) (st : Nat → Int32) (fa : Nat → Int32) (sc : Nat → Int32) (fi : Nat → Int32) (mi : Nat → Int32) (lf : Nat → Bool) (hi : Nat → Bool) (n : Nat) (sw2 : Nat → Int32) (st2 : Nat → Int32) (fa2 : Nat → Int32) (sc2 : Nat → Int32) (fi2 : Nat → Int32) (mi2 : Nat → Int32) (lf2 : Nat → Bool) (hi2 : Nat → Bool) (n2 : Nat) (s0 : Nat) (c0 : Nat) (hn : n ≤ 6) (hT : T < 2 ^ 29) (hs : s0 < 5) (hc0 : c0 < 5) : MI (Unit) l yX2_angle cX2_angle 3 1 22 G (tY cI cZ cJ) [.ref h, .int (nI s0), .int (nI c0)] ((wH h ta sa ua T) ++ (wT ta cI b r) ++ (wS sa cI cZ sw st fa sc fi mi lf hi n) ++ (wS ua cI cZ sw2 st2 fa2 sc2 fi2 mi2 lf2 hi2 n2)) (fun zr _ => zr = angF b r s0 c0) (fun _ => (wH h ta sa ua T) ++ (wT ta cI b r) ++ (wS sa cI cZ sw st fa sc fi mi lf hi n) ++ (wS ua cI cZ sw2 st2 fa2 sc2 fi2 mi2 lf2 hi2 n2)) 0 0 := by
  refine MI_of (by decide) (Nat.le_of_ble_eq_true rfl) [(0, .ref h), (1, .int (nI s0)), (2, .int (nI c0))] rfl ?_
  intro p e s m below meth c hC hr hlocks hname
  have hC : Cx p s m _ c cX2_angle 3 RX2 G (tY cI cZ cJ) _ := hC
  refine z_iload_n (n := 1) hC dX2_angle_0 rfl 1 rfl rfl ?_
  refine z_callsv (R := { frames := 1, cells := 0, slots := 0, locals := 22 }) (cells := 0) (slots := 0) (ws := (wH h ta sa ua T) ++ (wT ta cI b r) ++ (wS sa cI cZ sw st fa sc fi mi lf hi n) ++ (wS ua cI cZ sw2 st2 fa2 sc2 fi2 mi2 lf2 hi2 n2)) (n := 4) (As := [.int (nI s0)]) (rest := []) hC (k_X2_checkStand l G cI cZ cJ s0 (by omega)) kg_X2_48 kd_yX2_checkStand dX2_angle_1 ⟨Nat.le_of_ble_eq_true rfl, Nat.le_of_ble_eq_true rfl⟩ [] rfl (by decide) rfl (Nat.le_of_ble_eq_true rfl) ⟨Nat.le_of_ble_eq_true rfl, Nat.le_of_ble_eq_true rfl⟩ (ws2 := fun u1 => (wH h ta sa ua T) ++ (wT ta cI b r) ++ (wS sa cI cZ sw st fa sc fi mi lf hi n) ++ (wS ua cI cZ sw2 st2 fa2 sc2 fi2 mi2 lf2 hi2 n2)) [0, 1, 2, 3, 4, 5, 6, 7, 8, 9, 10, 11, 12, 13, 14, 15, 16, 17, 18, 19, 20, 21] (fun _ => rfl) ((wH h ta sa ua T) ++ (wT ta cI b r) ++ (wS sa cI cZ sw st fa sc fi mi lf hi n) ++ (wS ua cI cZ sw2 st2 fa2 sc2 fi2 mi2 lf2 hi2 n2)) (fun _ => rfl) rfl (fun _ => rfl) [] (fun _ => rfl) rfl rfl rfl (fun u1 h3 => ?_)
  refine z_iload_n (n := 5) hC dX2_angle_4 rfl 2 rfl rfl ?_
  refine z_if_lt (tgt := 13) (n := 8) hC dX2_angle_5 (by decide) rfl (fun c4 => absurd c4 (nI_pos (by omega))) (fun c4 => ?_)
  refine z_iload_n (n := 9) hC dX2_angle_8 rfl 2 rfl rfl ?_
  refine z_iconst (v := nI 5) (n := 10) hC dX2_angle_9 (by decide) rfl ?_
  refine z_icmp_lt_n (tgt := 23) (n := 13) hC c0 5 rfl rfl (by omega) (by omega) dX2_angle_10 (by decide) rfl (fun c5 => ?_) (fun c5 => absurd c5 (by omega))
  refine z_aload_n (n := 24) hC dX2_angle_23 rfl 0 rfl rfl ?_
  refine gf_X2_10 (v := .ref (ta 0)) (n := 27) hC 0 rfl rfl dX2_angle_24 rfl ?_
  refine z_iload_n (n := 28) hC dX2_angle_27 rfl 1 rfl rfl ?_
  refine z_iload_n (n := 29) hC dX2_angle_28 rfl 2 rfl rfl ?_
  refine z_calli (R := { frames := 1, cells := 0, slots := 0, locals := 22 }) (cells := 0) (slots := 0) (ws := (wH h ta sa ua T) ++ (wT ta cI b r) ++ (wS sa cI cZ sw st fa sc fi mi lf hi n) ++ (wS ua cI cZ sw2 st2 fa2 sc2 fi2 mi2 lf2 hi2 n2)) (n := 32) (As := [.int (nI s0), .int (nI c0)]) (rest := []) hC (k_X1_angleAt l G cI cZ cJ ta b r s0 c0 (by omega)) kg_X2_90 kd_yX1_angleAt dX2_angle_29 ⟨Nat.le_of_ble_eq_true rfl, Nat.le_of_ble_eq_true rfl⟩ 0 rfl rfl rfl [1, 2, 3] rfl (by decide) rfl (Nat.le_of_ble_eq_true rfl) ⟨Nat.le_of_ble_eq_true rfl, Nat.le_of_ble_eq_true rfl⟩ (ws2 := fun u6 => (wH h ta sa ua T) ++ (wT ta cI b r) ++ (wS sa cI cZ sw st fa sc fi mi lf hi n) ++ (wS ua cI cZ sw2 st2 fa2 sc2 fi2 mi2 lf2 hi2 n2)) [0, 4, 5, 6, 7, 8, 9, 10, 11, 12, 13, 14, 15, 16, 17, 18, 19, 20, 21] (fun _ => rfl) ((wH h ta sa ua T) ++ (wS sa cI cZ sw st fa sc fi mi lf hi n) ++ (wS ua cI cZ sw2 st2 fa2 sc2 fi2 mi2 lf2 hi2 n2)) (fun _ => rfl) rfl (fun _ => rfl) [ta 0, ta 1, ta 2] (fun _ => rfl) rfl rfl rfl (fun r7 u6 h8 => ?_)
  subst h8
  refine z_iret hC hr hlocks () ?_ rfl dX2_angle_32 (by omega) (by omega)
  rfl

set_option maxRecDepth 100000 in
set_option maxHeartbeats 4000000 in
theorem k_X2_hardestClay (l : Launch) (G : va_G) (cI cZ cJ : ClassId) (h : Nat) (ta : Nat → Nat) (sa : Nat → Nat) (ua : Nat → Nat) (T : Nat) (b : Nat → Int32) (r : Nat → Int32) (sw : Nat → Int32) (st : Nat → Int32) (fa : Nat → Int32) (sc : Nat → Int32) (fi : Nat → Int32) (mi : Nat → Int32) (lf : Nat → Bool) (hi : Nat → Bool) (n : Nat) (sw2 : Nat → Int32) (st2 : Nat → Int32) (fa2 : Nat → Int32) (sc2 : Nat → Int32) (fi2 : Nat → Int32) (mi2 : Nat → Int32) (lf2 : Nat → Bool) (hi2 : Nat → Bool) (n2 : Nat) (s0 : Nat) (hn : n ≤ 6) (hT : T < 2 ^ 29) (hs : s0 < 5) : MI (Unit) l yX2_hardestClay cX2_hardestClay 2 3 67 G (tY cI cZ cJ) [.ref h, .int (nI s0)] ((wH h ta sa ua T) ++ (wT ta cI b r) ++ (wS sa cI cZ sw st fa sc fi mi lf hi n) ++ (wS ua cI cZ sw2 st2 fa2 sc2 fi2 mi2 lf2 hi2 n2)) (fun zr _ => zr = nI (haF b r s0 4)) (fun _ => (wH h ta sa ua T) ++ (wT ta cI b r) ++ (wS sa cI cZ sw st fa sc fi mi lf hi n) ++ (wS ua cI cZ sw2 st2 fa2 sc2 fi2 mi2 lf2 hi2 n2)) 0 0 := by
  refine MI_of (by decide) (Nat.le_of_ble_eq_true rfl) [(0, .ref h), (1, .int (nI s0))] rfl ?_
  intro p e s m below meth c hC hr hlocks hname
  have hC : Cx p s m _ c cX2_hardestClay 2 RX2 G (tY cI cZ cJ) _ := hC
  refine z_iload_n (n := 1) hC dX2_hardestClay_0 rfl 1 rfl rfl ?_
  refine z_callsv (R := { frames := 3, cells := 0, slots := 0, locals := 67 }) (cells := 0) (slots := 0) (ws := (wH h ta sa ua T) ++ (wT ta cI b r) ++ (wS sa cI cZ sw st fa sc fi mi lf hi n) ++ (wS ua cI cZ sw2 st2 fa2 sc2 fi2 mi2 lf2 hi2 n2)) (n := 4) (As := [.int (nI s0)]) (rest := []) hC (k_X2_checkStand l G cI cZ cJ s0 (by omega)) kg_X2_48 kd_yX2_checkStand dX2_hardestClay_1 ⟨Nat.le_of_ble_eq_true rfl, Nat.le_of_ble_eq_true rfl⟩ [] rfl (by decide) rfl (Nat.le_of_ble_eq_true rfl) ⟨Nat.le_of_ble_eq_true rfl, Nat.le_of_ble_eq_true rfl⟩ (ws2 := fun u1 => (wH h ta sa ua T) ++ (wT ta cI b r) ++ (wS sa cI cZ sw st fa sc fi mi lf hi n) ++ (wS ua cI cZ sw2 st2 fa2 sc2 fi2 mi2 lf2 hi2 n2)) [0, 1, 2, 3, 4, 5, 6, 7, 8, 9, 10, 11, 12, 13, 14, 15, 16, 17, 18, 19, 20, 21] (fun _ => rfl) ((wH h ta sa ua T) ++ (wT ta cI b r) ++ (wS sa cI cZ sw st fa sc fi mi lf hi n) ++ (wS ua cI cZ sw2 st2 fa2 sc2 fi2 mi2 lf2 hi2 n2)) (fun _ => rfl) rfl (fun _ => rfl) [] (fun _ => rfl) rfl rfl rfl (fun u1 h3 => ?_)
  refine z_aload_n (n := 5) hC dX2_hardestClay_4 rfl 0 rfl rfl ?_
  refine gf_X2_10 (v := .ref (ta 0)) (n := 8) hC 0 rfl rfl dX2_hardestClay_5 rfl ?_
  refine z_iload_n (n := 9) hC dX2_hardestClay_8 rfl 1 rfl rfl ?_
  refine z_calli (R := { frames := 3, cells := 0, slots := 0, locals := 67 }) (cells := 0) (slots := 0) (ws := (wH h ta sa ua T) ++ (wT ta cI b r) ++ (wS sa cI cZ sw st fa sc fi mi lf hi n) ++ (wS ua cI cZ sw2 st2 fa2 sc2 fi2 mi2 lf2 hi2 n2)) (n := 12) (As := [.int (nI s0)]) (rest := []) hC (k_X1_hardestAt l G cI cZ cJ ta b r s0 (by omega)) kg_X2_93 kd_yX1_hardestAt dX2_hardestClay_9 ⟨Nat.le_of_ble_eq_true rfl, Nat.le_of_ble_eq_true rfl⟩ 0 rfl rfl rfl [1, 2, 3] rfl (by decide) rfl (Nat.le_of_ble_eq_true rfl) ⟨Nat.le_of_ble_eq_true rfl, Nat.le_of_ble_eq_true rfl⟩ (ws2 := fun u4 => (wH h ta sa ua T) ++ (wT ta cI b r) ++ (wS sa cI cZ sw st fa sc fi mi lf hi n) ++ (wS ua cI cZ sw2 st2 fa2 sc2 fi2 mi2 lf2 hi2 n2)) [0, 4, 5, 6, 7, 8, 9, 10, 11, 12, 13, 14, 15, 16, 17, 18, 19, 20, 21] (fun _ => rfl) ((wH h ta sa ua T) ++ (wS sa cI cZ sw st fa sc fi mi lf hi n) ++ (wS ua cI cZ sw2 st2 fa2 sc2 fi2 mi2 lf2 hi2 n2)) (fun _ => rfl) rfl (fun _ => rfl) [ta 0, ta 1, ta 2] (fun _ => rfl) rfl rfl rfl (fun r5 u4 h6 => ?_)
  subst h6
  refine z_iret hC hr hlocks () ?_ rfl dX2_hardestClay_12 (by omega) (by omega)
  rfl

set_option maxRecDepth 100000 in
set_option maxHeartbeats 4000000 in
theorem k_X2_standOf (l : Launch) (G : va_G) (cI cZ cJ : ClassId) (h : Nat) (ta : Nat → Nat) (sa : Nat → Nat) (ua : Nat → Nat) (T : Nat) (b : Nat → Int32) (r : Nat → Int32) (sw : Nat → Int32) (st : Nat → Int32) (fa : Nat → Int32) (sc : Nat → Int32) (fi : Nat → Int32) (mi : Nat → Int32) (lf : Nat → Bool) (hi : Nat → Bool) (n : Nat) (sw2 : Nat → Int32) (st2 : Nat → Int32) (fa2 : Nat → Int32) (sc2 : Nat → Int32) (fi2 : Nat → Int32) (mi2 : Nat → Int32) (lf2 : Nat → Bool) (hi2 : Nat → Bool) (n2 : Nat) (g : Nat) (hn : n ≤ 6) (hT : T < 2 ^ 29) (hg : g < n) : MI (Unit) l yX2_standOf cX2_standOf 2 2 43 G (tY cI cZ cJ) [.ref h, .int (nI g)] ((wH h ta sa ua T) ++ (wT ta cI b r) ++ (wS sa cI cZ sw st fa sc fi mi lf hi n) ++ (wS ua cI cZ sw2 st2 fa2 sc2 fi2 mi2 lf2 hi2 n2)) (fun zr _ => zr = nI (stF T g)) (fun _ => (wH h ta sa ua T) ++ (wT ta cI b r) ++ (wS sa cI cZ sw st fa sc fi mi lf hi n) ++ (wS ua cI cZ sw2 st2 fa2 sc2 fi2 mi2 lf2 hi2 n2)) 0 0 := by
  refine MI_of (by decide) (Nat.le_of_ble_eq_true rfl) [(0, .ref h), (1, .int (nI g))] rfl ?_
  intro p e s m below meth c hC hr hlocks hname
  have hC : Cx p s m _ c cX2_standOf 2 RX2 G (tY cI cZ cJ) _ := hC
  refine z_aload_n (n := 1) hC dX2_standOf_0 rfl 0 rfl rfl ?_
  refine z_iload_n (n := 2) hC dX2_standOf_1 rfl 1 rfl rfl ?_
  refine z_callv (R := { frames := 2, cells := 0, slots := 0, locals := 43 }) (cells := 0) (slots := 0) (ws := (wH h ta sa ua T) ++ (wT ta cI b r) ++ (wS sa cI cZ sw st fa sc fi mi lf hi n) ++ (wS ua cI cZ sw2 st2 fa2 sc2 fi2 mi2 lf2 hi2 n2)) (n := 5) (As := [.int (nI g)]) (rest := []) hC (k_X2_checkGun l G cI cZ cJ h ta sa ua T sw st fa sc fi mi lf hi n g (by omega) (by omega)) kg_X2_63 kd_yX2_checkGun dX2_standOf_2 ⟨Nat.le_of_ble_eq_true rfl, Nat.le_of_ble_eq_true rfl⟩ 0 rfl rfl rfl [0, 4, 5, 6, 7, 8, 9, 10, 11, 12] rfl (by decide) rfl (Nat.le_of_ble_eq_true rfl) ⟨Nat.le_of_ble_eq_true rfl, Nat.le_of_ble_eq_true rfl⟩ (ws2 := fun u1 => (wH h ta sa ua T) ++ (wT ta cI b r) ++ (wS sa cI cZ sw st fa sc fi mi lf hi n) ++ (wS ua cI cZ sw2 st2 fa2 sc2 fi2 mi2 lf2 hi2 n2)) [1, 2, 3, 13, 14, 15, 16, 17, 18, 19, 20, 21] (fun _ => rfl) ((wT ta cI b r) ++ (wS ua cI cZ sw2 st2 fa2 sc2 fi2 mi2 lf2 hi2 n2)) (fun _ => rfl) rfl (fun _ => rfl) [h, sa 0, sa 1, sa 2, sa 3, sa 4, sa 5, sa 6, sa 7, sa 8] (fun _ => rfl) rfl rfl rfl (fun u1 h3 => ?_)
  refine z_aload_n (n := 6) hC dX2_standOf_5 rfl 0 rfl rfl ?_
  refine gf_X2_72 (v := .int (nI T)) (n := 9) hC 0 rfl rfl dX2_standOf_6 rfl ?_
  refine z_iload_n (n := 10) hC dX2_standOf_9 rfl 1 rfl rfl ?_
  refine z_callsi (R := { frames := 2, cells := 0, slots := 0, locals := 43 }) (cells := 0) (slots := 0) (ws := (wH h ta sa ua T) ++ (wT ta cI b r) ++ (wS sa cI cZ sw st fa sc fi mi lf hi n) ++ (wS ua cI cZ sw2 st2 fa2 sc2 fi2 mi2 lf2 hi2 n2)) (n := 13) (As := [.int (nI T), .int (nI g)]) (rest := []) hC (k_X2_standIn l G cI cZ cJ T g (by omega) (by omega)) kg_X2_97 kd_yX2_standIn dX2_standOf_10 ⟨Nat.le_of_ble_eq_true rfl, Nat.le_of_ble_eq_true rfl⟩ [] rfl (by decide) rfl (Nat.le_of_ble_eq_true rfl) ⟨Nat.le_of_ble_eq_true rfl, Nat.le_of_ble_eq_true rfl⟩ (ws2 := fun u4 => (wH h ta sa ua T) ++ (wT ta cI b r) ++ (wS sa cI cZ sw st fa sc fi mi lf hi n) ++ (wS ua cI cZ sw2 st2 fa2 sc2 fi2 mi2 lf2 hi2 n2)) [0, 1, 2, 3, 4, 5, 6, 7, 8, 9, 10, 11, 12, 13, 14, 15, 16, 17, 18, 19, 20, 21] (fun _ => rfl) ((wH h ta sa ua T) ++ (wT ta cI b r) ++ (wS sa cI cZ sw st fa sc fi mi lf hi n) ++ (wS ua cI cZ sw2 st2 fa2 sc2 fi2 mi2 lf2 hi2 n2)) (fun _ => rfl) rfl (fun _ => rfl) [] (fun _ => rfl) rfl rfl rfl (fun r5 u4 h6 => ?_)
  subst h6
  refine z_iret hC hr hlocks () ?_ rfl dX2_standOf_13 (by omega) (by omega)
  rfl

set_option maxRecDepth 100000 in
set_option maxHeartbeats 4000000 in
theorem k_X2_angleFor (l : Launch) (G : va_G) (cI cZ cJ : ClassId) (h : Nat) (ta : Nat → Nat) (sa : Nat → Nat) (ua : Nat → Nat) (T : Nat) (b : Nat → Int32) (r : Nat → Int32) (sw : Nat → Int32) (st : Nat → Int32) (fa : Nat → Int32) (sc : Nat → Int32) (fi : Nat → Int32) (mi : Nat → Int32) (lf : Nat → Bool) (hi : Nat → Bool) (n : Nat) (sw2 : Nat → Int32) (st2 : Nat → Int32) (fa2 : Nat → Int32) (sc2 : Nat → Int32) (fi2 : Nat → Int32) (mi2 : Nat → Int32) (lf2 : Nat → Bool) (hi2 : Nat → Bool) (n2 : Nat) (g : Nat) (hn : n ≤ 6) (hT : T < 2 ^ 29) (hg : g < n) : MI (Unit) l yX2_angleFor cX2_angleFor 2 3 65 G (tY cI cZ cJ) [.ref h, .int (nI g)] ((wH h ta sa ua T) ++ (wT ta cI b r) ++ (wS sa cI cZ sw st fa sc fi mi lf hi n) ++ (wS ua cI cZ sw2 st2 fa2 sc2 fi2 mi2 lf2 hi2 n2)) (fun zr _ => zr = angF b r (stF T g) (T % 5)) (fun _ => (wH h ta sa ua T) ++ (wT ta cI b r) ++ (wS sa cI cZ sw st fa sc fi mi lf hi n) ++ (wS ua cI cZ sw2 st2 fa2 sc2 fi2 mi2 lf2 hi2 n2)) 0 0 := by
  refine MI_of (by decide) (Nat.le_of_ble_eq_true rfl) [(0, .ref h), (1, .int (nI g))] rfl ?_
  intro p e s m below meth c hC hr hlocks hname
  have hC : Cx p s m _ c cX2_angleFor 2 RX2 G (tY cI cZ cJ) _ := hC
  refine z_aload_n (n := 1) hC dX2_angleFor_0 rfl 0 rfl rfl ?_
  refine z_iload_n (n := 2) hC dX2_angleFor_1 rfl 1 rfl rfl ?_
  refine z_callv (R := { frames := 3, cells := 0, slots := 0, locals := 65 }) (cells := 0) (slots := 0) (ws := (wH h ta sa ua T) ++ (wT ta cI b r) ++ (wS sa cI cZ sw st fa sc fi mi lf hi n) ++ (wS ua cI cZ sw2 st2 fa2 sc2 fi2 mi2 lf2 hi2 n2)) (n := 5) (As := [.int (nI g)]) (rest := []) hC (k_X2_checkGun l G cI cZ cJ h ta sa ua T sw st fa sc fi mi lf hi n g (by omega) (by omega)) kg_X2_63 kd_yX2_checkGun dX2_angleFor_2 ⟨Nat.le_of_ble_eq_true rfl, Nat.le_of_ble_eq_true rfl⟩ 0 rfl rfl rfl [0, 4, 5, 6, 7, 8, 9, 10, 11, 12] rfl (by decide) rfl (Nat.le_of_ble_eq_true rfl) ⟨Nat.le_of_ble_eq_true rfl, Nat.le_of_ble_eq_true rfl⟩ (ws2 := fun u1 => (wH h ta sa ua T) ++ (wT ta cI b r) ++ (wS sa cI cZ sw st fa sc fi mi lf hi n) ++ (wS ua cI cZ sw2 st2 fa2 sc2 fi2 mi2 lf2 hi2 n2)) [1, 2, 3, 13, 14, 15, 16, 17, 18, 19, 20, 21] (fun _ => rfl) ((wT ta cI b r) ++ (wS ua cI cZ sw2 st2 fa2 sc2 fi2 mi2 lf2 hi2 n2)) (fun _ => rfl) rfl (fun _ => rfl) [h, sa 0, sa 1, sa 2, sa 3, sa 4, sa 5, sa 6, sa 7, sa 8] (fun _ => rfl) rfl rfl rfl (fun u1 h3 => ?_)
  refine z_aload_n (n := 6) hC dX2_angleFor_5 rfl 0 rfl rfl ?_
  refine gf_X2_10 (v := .ref (ta 0)) (n := 9) hC 0 rfl rfl dX2_angleFor_6 rfl ?_
  refine z_aload_n (n := 10) hC dX2_angleFor_9 rfl 0 rfl rfl ?_
  refine gf_X2_72 (v := .int (nI T)) (n := 13) hC 0 rfl rfl dX2_angleFor_10 rfl ?_
  refine z_iload_n (n := 14) hC dX2_angleFor_13 rfl 1 rfl rfl ?_
  refine z_calli (R := { frames := 3, cells := 0, slots := 0, locals := 65 }) (cells := 0) (slots := 0) (ws := (wH h ta sa ua T) ++ (wT ta cI b r) ++ (wS sa cI cZ sw st fa sc fi mi lf hi n) ++ (wS ua cI cZ sw2 st2 fa2 sc2 fi2 mi2 lf2 hi2 n2)) (n := 17) (As := [.int (nI T), .int (nI g)]) (rest := []) hC (k_X1_angleIn l G cI cZ cJ ta b r T g (by omega) (by omega)) kg_X2_100 kd_yX1_angleIn dX2_angleFor_14 ⟨Nat.le_of_ble_eq_true rfl, Nat.le_of_ble_eq_true rfl⟩ 0 rfl rfl rfl [1, 2, 3] rfl (by decide) rfl (Nat.le_of_ble_eq_true rfl) ⟨Nat.le_of_ble_eq_true rfl, Nat.le_of_ble_eq_true rfl⟩ (ws2 := fun u4 => (wH h ta sa ua T) ++ (wT ta cI b r) ++ (wS sa cI cZ sw st fa sc fi mi lf hi n) ++ (wS ua cI cZ sw2 st2 fa2 sc2 fi2 mi2 lf2 hi2 n2)) [0, 4, 5, 6, 7, 8, 9, 10, 11, 12, 13, 14, 15, 16, 17, 18, 19, 20, 21] (fun _ => rfl) ((wH h ta sa ua T) ++ (wS sa cI cZ sw st fa sc fi mi lf hi n) ++ (wS ua cI cZ sw2 st2 fa2 sc2 fi2 mi2 lf2 hi2 n2)) (fun _ => rfl) rfl (fun _ => rfl) [ta 0, ta 1, ta 2] (fun _ => rfl) rfl rfl rfl (fun r5 u4 h6 => ?_)
  subst h6
  refine z_iret hC hr hlocks () ?_ rfl dX2_angleFor_17 (by omega) (by omega)
  rfl

set_option maxRecDepth 100000 in
set_option maxHeartbeats 4000000 in
theorem k_X2_guns (l : Launch) (G : va_G) (cI cZ cJ : ClassId) (h : Nat) (ta : Nat → Nat) (sa : Nat → Nat) (ua : Nat → Nat) (T : Nat) (b : Nat → Int32) (r : Nat → Int32) (sw : Nat → Int32) (st : Nat → Int32) (fa : Nat → Int32) (sc : Nat → Int32) (fi : Nat → Int32) (mi : Nat → Int32) (lf : Nat → Bool) (hi : Nat → Bool) (n : Nat) (sw2 : Nat → Int32) (st2 : Nat → Int32) (fa2 : Nat → Int32) (sc2 : Nat → Int32) (fi2 : Nat → Int32) (mi2 : Nat → Int32) (lf2 : Nat → Bool) (hi2 : Nat → Bool) (n2 : Nat) (hn : n ≤ 6) (hT : T < 2 ^ 29) : MI (Unit) l yX2_guns cX2_guns 1 0 0 G (tY cI cZ cJ) [.ref h] ((wH h ta sa ua T) ++ (wT ta cI b r) ++ (wS sa cI cZ sw st fa sc fi mi lf hi n) ++ (wS ua cI cZ sw2 st2 fa2 sc2 fi2 mi2 lf2 hi2 n2)) (fun zr _ => zr = nI n) (fun _ => (wH h ta sa ua T) ++ (wT ta cI b r) ++ (wS sa cI cZ sw st fa sc fi mi lf hi n) ++ (wS ua cI cZ sw2 st2 fa2 sc2 fi2 mi2 lf2 hi2 n2)) 0 0 := by
  refine MI_of (by decide) (Nat.le_of_ble_eq_true rfl) [(0, .ref h)] rfl ?_
  intro p e s m below meth c hC hr hlocks hname
  have hC : Cx p s m _ c cX2_guns 1 RX2 G (tY cI cZ cJ) _ := hC
  refine z_aload_n (n := 1) hC dX2_guns_0 rfl 0 rfl rfl ?_
  refine gf_X2_19 (v := .ref (sa 0)) (n := 4) hC 0 rfl rfl dX2_guns_1 rfl ?_
  refine gf_X2_35 (v := .int (nI n)) (n := 7) hC 4 rfl rfl dX2_guns_4 rfl ?_
  refine z_iret hC hr hlocks () ?_ rfl dX2_guns_7 (by omega) (by omega)
  rfl

set_option maxRecDepth 100000 in
set_option maxHeartbeats 4000000 in
theorem k_X2_scoreOf (l : Launch) (G : va_G) (cI cZ cJ : ClassId) (h : Nat) (ta : Nat → Nat) (sa : Nat → Nat) (ua : Nat → Nat) (T : Nat) (b : Nat → Int32) (r : Nat → Int32) (sw : Nat → Int32) (st : Nat → Int32) (fa : Nat → Int32) (sc : Nat → Int32) (fi : Nat → Int32) (mi : Nat → Int32) (lf : Nat → Bool) (hi : Nat → Bool) (n : Nat) (sw2 : Nat → Int32) (st2 : Nat → Int32) (fa2 : Nat → Int32) (sc2 : Nat → Int32) (fi2 : Nat → Int32) (mi2 : Nat → Int32) (lf2 : Nat → Bool) (hi2 : Nat → Bool) (n2 : Nat) (g : Nat) (hn : n ≤ 6) (hT : T < 2 ^ 29) (hg : g < n) : MI (Unit) l yX2_scoreOf cX2_scoreOf 2 1 21 G (tY cI cZ cJ) [.ref h, .int (nI g)] ((wH h ta sa ua T) ++ (wT ta cI b r) ++ (wS sa cI cZ sw st fa sc fi mi lf hi n) ++ (wS ua cI cZ sw2 st2 fa2 sc2 fi2 mi2 lf2 hi2 n2)) (fun zr _ => zr = sc g) (fun _ => (wH h ta sa ua T) ++ (wT ta cI b r) ++ (wS sa cI cZ sw st fa sc fi mi lf hi n) ++ (wS ua cI cZ sw2 st2 fa2 sc2 fi2 mi2 lf2 hi2 n2)) 0 0 := by
  refine MI_of (by decide) (Nat.le_of_ble_eq_true rfl) [(0, .ref h), (1, .int (nI g))] rfl ?_
  intro p e s m below meth c hC hr hlocks hname
  have hC : Cx p s m _ c cX2_scoreOf 2 RX2 G (tY cI cZ cJ) _ := hC
  refine z_aload_n (n := 1) hC dX2_scoreOf_0 rfl 0 rfl rfl ?_
  refine z_iload_n (n := 2) hC dX2_scoreOf_1 rfl 1 rfl rfl ?_
  refine z_callv (R := { frames := 1, cells := 0, slots := 0, locals := 21 }) (cells := 0) (slots := 0) (ws := (wH h ta sa ua T) ++ (wT ta cI b r) ++ (wS sa cI cZ sw st fa sc fi mi lf hi n) ++ (wS ua cI cZ sw2 st2 fa2 sc2 fi2 mi2 lf2 hi2 n2)) (n := 5) (As := [.int (nI g)]) (rest := []) hC (k_X2_checkGun l G cI cZ cJ h ta sa ua T sw st fa sc fi mi lf hi n g (by omega) (by omega)) kg_X2_63 kd_yX2_checkGun dX2_scoreOf_2 ⟨Nat.le_of_ble_eq_true rfl, Nat.le_of_ble_eq_true rfl⟩ 0 rfl rfl rfl [0, 4, 5, 6, 7, 8, 9, 10, 11, 12] rfl (by decide) rfl (Nat.le_of_ble_eq_true rfl) ⟨Nat.le_of_ble_eq_true rfl, Nat.le_of_ble_eq_true rfl⟩ (ws2 := fun u1 => (wH h ta sa ua T) ++ (wT ta cI b r) ++ (wS sa cI cZ sw st fa sc fi mi lf hi n) ++ (wS ua cI cZ sw2 st2 fa2 sc2 fi2 mi2 lf2 hi2 n2)) [1, 2, 3, 13, 14, 15, 16, 17, 18, 19, 20, 21] (fun _ => rfl) ((wT ta cI b r) ++ (wS ua cI cZ sw2 st2 fa2 sc2 fi2 mi2 lf2 hi2 n2)) (fun _ => rfl) rfl (fun _ => rfl) [h, sa 0, sa 1, sa 2, sa 3, sa 4, sa 5, sa 6, sa 7, sa 8] (fun _ => rfl) rfl rfl rfl (fun u1 h3 => ?_)
  refine z_aload_n (n := 6) hC dX2_scoreOf_5 rfl 0 rfl rfl ?_
  refine gf_X2_19 (v := .ref (sa 0)) (n := 9) hC 0 rfl rfl dX2_scoreOf_6 rfl ?_
  refine gf_X2_103 (v := .ref (sa 4)) (n := 12) hC 4 rfl rfl dX2_scoreOf_9 rfl ?_
  refine z_iload_n (n := 13) hC dX2_scoreOf_12 rfl 1 rfl rfl ?_
  refine z_iald (v := sc g) (n := 14) hC 8 0 g rfl rfl rfl (by omega) (by decide) dX2_scoreOf_13 rfl rfl ?_
  refine z_iret hC hr hlocks () ?_ rfl dX2_scoreOf_14 (by omega) (by omega)
  rfl

set_option maxRecDepth 100000 in
set_option maxHeartbeats 4000000 in
theorem k_X2_firstsOf (l : Launch) (G : va_G) (cI cZ cJ : ClassId) (h : Nat) (ta : Nat → Nat) (sa : Nat → Nat) (ua : Nat → Nat) (T : Nat) (b : Nat → Int32) (r : Nat → Int32) (sw : Nat → Int32) (st : Nat → Int32) (fa : Nat → Int32) (sc : Nat → Int32) (fi : Nat → Int32) (mi : Nat → Int32) (lf : Nat → Bool) (hi : Nat → Bool) (n : Nat) (sw2 : Nat → Int32) (st2 : Nat → Int32) (fa2 : Nat → Int32) (sc2 : Nat → Int32) (fi2 : Nat → Int32) (mi2 : Nat → Int32) (lf2 : Nat → Bool) (hi2 : Nat → Bool) (n2 : Nat) (g : Nat) (hn : n ≤ 6) (hT : T < 2 ^ 29) (hg : g < n) : MI (Unit) l yX2_firstsOf cX2_firstsOf 2 1 21 G (tY cI cZ cJ) [.ref h, .int (nI g)] ((wH h ta sa ua T) ++ (wT ta cI b r) ++ (wS sa cI cZ sw st fa sc fi mi lf hi n) ++ (wS ua cI cZ sw2 st2 fa2 sc2 fi2 mi2 lf2 hi2 n2)) (fun zr _ => zr = fi g) (fun _ => (wH h ta sa ua T) ++ (wT ta cI b r) ++ (wS sa cI cZ sw st fa sc fi mi lf hi n) ++ (wS ua cI cZ sw2 st2 fa2 sc2 fi2 mi2 lf2 hi2 n2)) 0 0 := by
  refine MI_of (by decide) (Nat.le_of_ble_eq_true rfl) [(0, .ref h), (1, .int (nI g))] rfl ?_
  intro p e s m below meth c hC hr hlocks hname
  have hC : Cx p s m _ c cX2_firstsOf 2 RX2 G (tY cI cZ cJ) _ := hC
  refine z_aload_n (n := 1) hC dX2_firstsOf_0 rfl 0 rfl rfl ?_
  refine z_iload_n (n := 2) hC dX2_firstsOf_1 rfl 1 rfl rfl ?_
  refine z_callv (R := { frames := 1, cells := 0, slots := 0, locals := 21 }) (cells := 0) (slots := 0) (ws := (wH h ta sa ua T) ++ (wT ta cI b r) ++ (wS sa cI cZ sw st fa sc fi mi lf hi n) ++ (wS ua cI cZ sw2 st2 fa2 sc2 fi2 mi2 lf2 hi2 n2)) (n := 5) (As := [.int (nI g)]) (rest := []) hC (k_X2_checkGun l G cI cZ cJ h ta sa ua T sw st fa sc fi mi lf hi n g (by omega) (by omega)) kg_X2_63 kd_yX2_checkGun dX2_firstsOf_2 ⟨Nat.le_of_ble_eq_true rfl, Nat.le_of_ble_eq_true rfl⟩ 0 rfl rfl rfl [0, 4, 5, 6, 7, 8, 9, 10, 11, 12] rfl (by decide) rfl (Nat.le_of_ble_eq_true rfl) ⟨Nat.le_of_ble_eq_true rfl, Nat.le_of_ble_eq_true rfl⟩ (ws2 := fun u1 => (wH h ta sa ua T) ++ (wT ta cI b r) ++ (wS sa cI cZ sw st fa sc fi mi lf hi n) ++ (wS ua cI cZ sw2 st2 fa2 sc2 fi2 mi2 lf2 hi2 n2)) [1, 2, 3, 13, 14, 15, 16, 17, 18, 19, 20, 21] (fun _ => rfl) ((wT ta cI b r) ++ (wS ua cI cZ sw2 st2 fa2 sc2 fi2 mi2 lf2 hi2 n2)) (fun _ => rfl) rfl (fun _ => rfl) [h, sa 0, sa 1, sa 2, sa 3, sa 4, sa 5, sa 6, sa 7, sa 8] (fun _ => rfl) rfl rfl rfl (fun u1 h3 => ?_)
  refine z_aload_n (n := 6) hC dX2_firstsOf_5 rfl 0 rfl rfl ?_
  refine gf_X2_19 (v := .ref (sa 0)) (n := 9) hC 0 rfl rfl dX2_firstsOf_6 rfl ?_
  refine gf_X2_106 (v := .ref (sa 5)) (n := 12) hC 4 rfl rfl dX2_firstsOf_9 rfl ?_
  refine z_iload_n (n := 13) hC dX2_firstsOf_12 rfl 1 rfl rfl ?_
  refine z_iald (v := fi g) (n := 14) hC 9 0 g rfl rfl rfl (by omega) (by decide) dX2_firstsOf_13 rfl rfl ?_
  refine z_iret hC hr hlocks () ?_ rfl dX2_firstsOf_14 (by omega) (by omega)
  rfl

set_option maxRecDepth 100000 in
set_option maxHeartbeats 4000000 in
theorem k_X2_missesOf (l : Launch) (G : va_G) (cI cZ cJ : ClassId) (h : Nat) (ta : Nat → Nat) (sa : Nat → Nat) (ua : Nat → Nat) (T : Nat) (b : Nat → Int32) (r : Nat → Int32) (sw : Nat → Int32) (st : Nat → Int32) (fa : Nat → Int32) (sc : Nat → Int32) (fi : Nat → Int32) (mi : Nat → Int32) (lf : Nat → Bool) (hi : Nat → Bool) (n : Nat) (sw2 : Nat → Int32) (st2 : Nat → Int32) (fa2 : Nat → Int32) (sc2 : Nat → Int32) (fi2 : Nat → Int32) (mi2 : Nat → Int32) (lf2 : Nat → Bool) (hi2 : Nat → Bool) (n2 : Nat) (g : Nat) (hn : n ≤ 6) (hT : T < 2 ^ 29) (hg : g < n) : MI (Unit) l yX2_missesOf cX2_missesOf 2 1 21 G (tY cI cZ cJ) [.ref h, .int (nI g)] ((wH h ta sa ua T) ++ (wT ta cI b r) ++ (wS sa cI cZ sw st fa sc fi mi lf hi n) ++ (wS ua cI cZ sw2 st2 fa2 sc2 fi2 mi2 lf2 hi2 n2)) (fun zr _ => zr = mi g) (fun _ => (wH h ta sa ua T) ++ (wT ta cI b r) ++ (wS sa cI cZ sw st fa sc fi mi lf hi n) ++ (wS ua cI cZ sw2 st2 fa2 sc2 fi2 mi2 lf2 hi2 n2)) 0 0 := by
  refine MI_of (by decide) (Nat.le_of_ble_eq_true rfl) [(0, .ref h), (1, .int (nI g))] rfl ?_
  intro p e s m below meth c hC hr hlocks hname
  have hC : Cx p s m _ c cX2_missesOf 2 RX2 G (tY cI cZ cJ) _ := hC
  refine z_aload_n (n := 1) hC dX2_missesOf_0 rfl 0 rfl rfl ?_
  refine z_iload_n (n := 2) hC dX2_missesOf_1 rfl 1 rfl rfl ?_
  refine z_callv (R := { frames := 1, cells := 0, slots := 0, locals := 21 }) (cells := 0) (slots := 0) (ws := (wH h ta sa ua T) ++ (wT ta cI b r) ++ (wS sa cI cZ sw st fa sc fi mi lf hi n) ++ (wS ua cI cZ sw2 st2 fa2 sc2 fi2 mi2 lf2 hi2 n2)) (n := 5) (As := [.int (nI g)]) (rest := []) hC (k_X2_checkGun l G cI cZ cJ h ta sa ua T sw st fa sc fi mi lf hi n g (by omega) (by omega)) kg_X2_63 kd_yX2_checkGun dX2_missesOf_2 ⟨Nat.le_of_ble_eq_true rfl, Nat.le_of_ble_eq_true rfl⟩ 0 rfl rfl rfl [0, 4, 5, 6, 7, 8, 9, 10, 11, 12] rfl (by decide) rfl (Nat.le_of_ble_eq_true rfl) ⟨Nat.le_of_ble_eq_true rfl, Nat.le_of_ble_eq_true rfl⟩ (ws2 := fun u1 => (wH h ta sa ua T) ++ (wT ta cI b r) ++ (wS sa cI cZ sw st fa sc fi mi lf hi n) ++ (wS ua cI cZ sw2 st2 fa2 sc2 fi2 mi2 lf2 hi2 n2)) [1, 2, 3, 13, 14, 15, 16, 17, 18, 19, 20, 21] (fun _ => rfl) ((wT ta cI b r) ++ (wS ua cI cZ sw2 st2 fa2 sc2 fi2 mi2 lf2 hi2 n2)) (fun _ => rfl) rfl (fun _ => rfl) [h, sa 0, sa 1, sa 2, sa 3, sa 4, sa 5, sa 6, sa 7, sa 8] (fun _ => rfl) rfl rfl rfl (fun u1 h3 => ?_)
  refine z_aload_n (n := 6) hC dX2_missesOf_5 rfl 0 rfl rfl ?_
  refine gf_X2_19 (v := .ref (sa 0)) (n := 9) hC 0 rfl rfl dX2_missesOf_6 rfl ?_
  refine gf_X2_109 (v := .ref (sa 6)) (n := 12) hC 4 rfl rfl dX2_missesOf_9 rfl ?_
  refine z_iload_n (n := 13) hC dX2_missesOf_12 rfl 1 rfl rfl ?_
  refine z_iald (v := mi g) (n := 14) hC 10 0 g rfl rfl rfl (by omega) (by decide) dX2_missesOf_13 rfl rfl ?_
  refine z_iret hC hr hlocks () ?_ rfl dX2_missesOf_14 (by omega) (by omega)
  rfl

set_option maxRecDepth 100000 in
set_option maxHeartbeats 4000000 in
theorem k_X2_fatigueOf (l : Launch) (G : va_G) (cI cZ cJ : ClassId) (h : Nat) (ta : Nat → Nat) (sa : Nat → Nat) (ua : Nat → Nat) (T : Nat) (b : Nat → Int32) (r : Nat → Int32) (sw : Nat → Int32) (st : Nat → Int32) (fa : Nat → Int32) (sc : Nat → Int32) (fi : Nat → Int32) (mi : Nat → Int32) (lf : Nat → Bool) (hi : Nat → Bool) (n : Nat) (sw2 : Nat → Int32) (st2 : Nat → Int32) (fa2 : Nat → Int32) (sc2 : Nat → Int32) (fi2 : Nat → Int32) (mi2 : Nat → Int32) (lf2 : Nat → Bool) (hi2 : Nat → Bool) (n2 : Nat) (g : Nat) (hn : n ≤ 6) (hT : T < 2 ^ 29) (hg : g < n) : MI (Unit) l yX2_fatigueOf cX2_fatigueOf 2 1 21 G (tY cI cZ cJ) [.ref h, .int (nI g)] ((wH h ta sa ua T) ++ (wT ta cI b r) ++ (wS sa cI cZ sw st fa sc fi mi lf hi n) ++ (wS ua cI cZ sw2 st2 fa2 sc2 fi2 mi2 lf2 hi2 n2)) (fun zr _ => zr = fa g) (fun _ => (wH h ta sa ua T) ++ (wT ta cI b r) ++ (wS sa cI cZ sw st fa sc fi mi lf hi n) ++ (wS ua cI cZ sw2 st2 fa2 sc2 fi2 mi2 lf2 hi2 n2)) 0 0 := by
  refine MI_of (by decide) (Nat.le_of_ble_eq_true rfl) [(0, .ref h), (1, .int (nI g))] rfl ?_
  intro p e s m below meth c hC hr hlocks hname
  have hC : Cx p s m _ c cX2_fatigueOf 2 RX2 G (tY cI cZ cJ) _ := hC
  refine z_aload_n (n := 1) hC dX2_fatigueOf_0 rfl 0 rfl rfl ?_
  refine z_iload_n (n := 2) hC dX2_fatigueOf_1 rfl 1 rfl rfl ?_
  refine z_callv (R := { frames := 1, cells := 0, slots := 0, locals := 21 }) (cells := 0) (slots := 0) (ws := (wH h ta sa ua T) ++ (wT ta cI b r) ++ (wS sa cI cZ sw st fa sc fi mi lf hi n) ++ (wS ua cI cZ sw2 st2 fa2 sc2 fi2 mi2 lf2 hi2 n2)) (n := 5) (As := [.int (nI g)]) (rest := []) hC (k_X2_checkGun l G cI cZ cJ h ta sa ua T sw st fa sc fi mi lf hi n g (by omega) (by omega)) kg_X2_63 kd_yX2_checkGun dX2_fatigueOf_2 ⟨Nat.le_of_ble_eq_true rfl, Nat.le_of_ble_eq_true rfl⟩ 0 rfl rfl rfl [0, 4, 5, 6, 7, 8, 9, 10, 11, 12] rfl (by decide) rfl (Nat.le_of_ble_eq_true rfl) ⟨Nat.le_of_ble_eq_true rfl, Nat.le_of_ble_eq_true rfl⟩ (ws2 := fun u1 => (wH h ta sa ua T) ++ (wT ta cI b r) ++ (wS sa cI cZ sw st fa sc fi mi lf hi n) ++ (wS ua cI cZ sw2 st2 fa2 sc2 fi2 mi2 lf2 hi2 n2)) [1, 2, 3, 13, 14, 15, 16, 17, 18, 19, 20, 21] (fun _ => rfl) ((wT ta cI b r) ++ (wS ua cI cZ sw2 st2 fa2 sc2 fi2 mi2 lf2 hi2 n2)) (fun _ => rfl) rfl (fun _ => rfl) [h, sa 0, sa 1, sa 2, sa 3, sa 4, sa 5, sa 6, sa 7, sa 8] (fun _ => rfl) rfl rfl rfl (fun u1 h3 => ?_)
  refine z_aload_n (n := 6) hC dX2_fatigueOf_5 rfl 0 rfl rfl ?_
  refine gf_X2_19 (v := .ref (sa 0)) (n := 9) hC 0 rfl rfl dX2_fatigueOf_6 rfl ?_
  refine gf_X2_66 (v := .ref (sa 3)) (n := 12) hC 4 rfl rfl dX2_fatigueOf_9 rfl ?_
  refine z_iload_n (n := 13) hC dX2_fatigueOf_12 rfl 1 rfl rfl ?_
  refine z_iald (v := fa g) (n := 14) hC 7 0 g rfl rfl rfl (by omega) (by decide) dX2_fatigueOf_13 rfl rfl ?_
  refine z_iret hC hr hlocks () ?_ rfl dX2_fatigueOf_14 (by omega) (by omega)
  rfl

set_option maxRecDepth 100000 in
set_option maxHeartbeats 4000000 in
theorem k_X2_wouldHit (l : Launch) (G : va_G) (cI cZ cJ : ClassId) (h : Nat) (ta : Nat → Nat) (sa : Nat → Nat) (ua : Nat → Nat) (T : Nat) (b : Nat → Int32) (r : Nat → Int32) (sw : Nat → Int32) (st : Nat → Int32) (fa : Nat → Int32) (sc : Nat → Int32) (fi : Nat → Int32) (mi : Nat → Int32) (lf : Nat → Bool) (hi : Nat → Bool) (n : Nat) (sw2 : Nat → Int32) (st2 : Nat → Int32) (fa2 : Nat → Int32) (sc2 : Nat → Int32) (fi2 : Nat → Int32) (mi2 : Nat → Int32) (lf2 : Nat → Bool) (hi2 : Nat → Bool) (n2 : Nat) (g : Nat) (hn : n ≤ 6) (hT : T < 2 ^ 29) (hg : g < n) : MI (Unit) l yX2_wouldHit cX2_wouldHit 2 4 87 G (tY cI cZ cJ) [.ref h, .int (nI g)] ((wH h ta sa ua T) ++ (wT ta cI b r) ++ (wS sa cI cZ sw st fa sc fi mi lf hi n) ++ (wS ua cI cZ sw2 st2 fa2 sc2 fi2 mi2 lf2 hi2 n2)) (fun zr _ => zr = ouF (sw g) (st g) (fa g) (amF b r T g)) (fun _ => (wH h ta sa ua T) ++ (wT ta cI b r) ++ (wS sa cI cZ sw st fa sc fi mi lf hi n) ++ (wS ua cI cZ sw2 st2 fa2 sc2 fi2 mi2 lf2 hi2 n2)) 0 0 := by
  refine MI_of (by decide) (Nat.le_of_ble_eq_true rfl) [(0, .ref h), (1, .int (nI g))] rfl ?_
  intro p e s m below meth c hC hr hlocks hname
  have hC : Cx p s m _ c cX2_wouldHit 2 RX2 G (tY cI cZ cJ) _ := hC
  refine z_aload_n (n := 1) hC dX2_wouldHit_0 rfl 0 rfl rfl ?_
  refine z_iload_n (n := 2) hC dX2_wouldHit_1 rfl 1 rfl rfl ?_
  refine z_callv (R := { frames := 4, cells := 0, slots := 0, locals := 87 }) (cells := 0) (slots := 0) (ws := (wH h ta sa ua T) ++ (wT ta cI b r) ++ (wS sa cI cZ sw st fa sc fi mi lf hi n) ++ (wS ua cI cZ sw2 st2 fa2 sc2 fi2 mi2 lf2 hi2 n2)) (n := 5) (As := [.int (nI g)]) (rest := []) hC (k_X2_checkGun l G cI cZ cJ h ta sa ua T sw st fa sc fi mi lf hi n g (by omega) (by omega)) kg_X2_63 kd_yX2_checkGun dX2_wouldHit_2 ⟨Nat.le_of_ble_eq_true rfl, Nat.le_of_ble_eq_true rfl⟩ 0 rfl rfl rfl [0, 4, 5, 6, 7, 8, 9, 10, 11, 12] rfl (by decide) rfl (Nat.le_of_ble_eq_true rfl) ⟨Nat.le_of_ble_eq_true rfl, Nat.le_of_ble_eq_true rfl⟩ (ws2 := fun u1 => (wH h ta sa ua T) ++ (wT ta cI b r) ++ (wS sa cI cZ sw st fa sc fi mi lf hi n) ++ (wS ua cI cZ sw2 st2 fa2 sc2 fi2 mi2 lf2 hi2 n2)) [1, 2, 3, 13, 14, 15, 16, 17, 18, 19, 20, 21] (fun _ => rfl) ((wT ta cI b r) ++ (wS ua cI cZ sw2 st2 fa2 sc2 fi2 mi2 lf2 hi2 n2)) (fun _ => rfl) rfl (fun _ => rfl) [h, sa 0, sa 1, sa 2, sa 3, sa 4, sa 5, sa 6, sa 7, sa 8] (fun _ => rfl) rfl rfl rfl (fun u1 h3 => ?_)
  refine z_aload_n (n := 6) hC dX2_wouldHit_5 rfl 0 rfl rfl ?_
  refine gf_X2_19 (v := .ref (sa 0)) (n := 9) hC 0 rfl rfl dX2_wouldHit_6 rfl ?_
  refine z_iload_n (n := 10) hC dX2_wouldHit_9 rfl 1 rfl rfl ?_
  refine z_aload_n (n := 11) hC dX2_wouldHit_10 rfl 0 rfl rfl ?_
  refine gf_X2_10 (v := .ref (ta 0)) (n := 14) hC 0 rfl rfl dX2_wouldHit_11 rfl ?_
  refine z_aload_n (n := 15) hC dX2_wouldHit_14 rfl 0 rfl rfl ?_
  refine gf_X2_72 (v := .int (nI T)) (n := 18) hC 0 rfl rfl dX2_wouldHit_15 rfl ?_
  refine z_iload_n (n := 19) hC dX2_wouldHit_18 rfl 1 rfl rfl ?_
  refine z_calli (R := { frames := 4, cells := 0, slots := 0, locals := 87 }) (cells := 0) (slots := 0) (ws := (wH h ta sa ua T) ++ (wT ta cI b r) ++ (wS sa cI cZ sw st fa sc fi mi lf hi n) ++ (wS ua cI cZ sw2 st2 fa2 sc2 fi2 mi2 lf2 hi2 n2)) (n := 22) (As := [.int (nI T), .int (nI g)]) (rest := [.int (nI g), .ref (sa 0)]) hC (k_X1_amountIn l G cI cZ cJ ta b r T g (by omega) (by omega)) kg_X2_112 kd_yX1_amountIn dX2_wouldHit_19 ⟨Nat.le_of_ble_eq_true rfl, Nat.le_of_ble_eq_true rfl⟩ 0 rfl rfl rfl [1, 2, 3] rfl (by decide) rfl (Nat.le_of_ble_eq_true rfl) ⟨Nat.le_of_ble_eq_true rfl, Nat.le_of_ble_eq_true rfl⟩ (ws2 := fun u4 => (wH h ta sa ua T) ++ (wT ta cI b r) ++ (wS sa cI cZ sw st fa sc fi mi lf hi n) ++ (wS ua cI cZ sw2 st2 fa2 sc2 fi2 mi2 lf2 hi2 n2)) [0, 4, 5, 6, 7, 8, 9, 10, 11, 12, 13, 14, 15, 16, 17, 18, 19, 20, 21] (fun _ => rfl) ((wH h ta sa ua T) ++ (wS sa cI cZ sw st fa sc fi mi lf hi n) ++ (wS ua cI cZ sw2 st2 fa2 sc2 fi2 mi2 lf2 hi2 n2)) (fun _ => rfl) rfl (fun _ => rfl) [ta 0, ta 1, ta 2] (fun _ => rfl) rfl rfl rfl (fun r5 u4 h6 => ?_)
  subst h6
  refine z_calli (R := { frames := 4, cells := 0, slots := 0, locals := 87 }) (cells := 0) (slots := 0) (ws := (wH h ta sa ua T) ++ (wT ta cI b r) ++ (wS sa cI cZ sw st fa sc fi mi lf hi n) ++ (wS ua cI cZ sw2 st2 fa2 sc2 fi2 mi2 lf2 hi2 n2)) (n := 25) (As := [.int (nI g), .int (amF b r T g)]) (rest := []) hC (k_X0_outcome l G cI cZ cJ sa sw st fa sc fi mi lf hi n g (amF b r T g) (by omega)) kg_X2_115 kd_yX0_outcome dX2_wouldHit_22 ⟨Nat.le_of_ble_eq_true rfl, Nat.le_of_ble_eq_true rfl⟩ 0 rfl rfl rfl [4, 5, 6, 7, 8, 9, 10, 11, 12] rfl (by decide) rfl (Nat.le_of_ble_eq_true rfl) ⟨Nat.le_of_ble_eq_true rfl, Nat.le_of_ble_eq_true rfl⟩ (ws2 := fun u7 => (wH h ta sa ua T) ++ (wT ta cI b r) ++ (wS sa cI cZ sw st fa sc fi mi lf hi n) ++ (wS ua cI cZ sw2 st2 fa2 sc2 fi2 mi2 lf2 hi2 n2)) [0, 1, 2, 3, 13, 14, 15, 16, 17, 18, 19, 20, 21] (fun _ => rfl) ((wH h ta sa ua T) ++ (wT ta cI b r) ++ (wS ua cI cZ sw2 st2 fa2 sc2 fi2 mi2 lf2 hi2 n2)) (fun _ => rfl) rfl (fun _ => rfl) [sa 0, sa 1, sa 2, sa 3, sa 4, sa 5, sa 6, sa 7, sa 8] (fun _ => rfl) rfl rfl rfl (fun r8 u7 h9 => ?_)
  subst h9
  refine z_iret hC hr hlocks () ?_ rfl dX2_wouldHit_25 (by omega) (by omega)
  rfl

set_option maxRecDepth 100000 in
set_option maxHeartbeats 4000000 in
theorem k_X2_leader (l : Launch) (G : va_G) (cI cZ cJ : ClassId) (h : Nat) (ta : Nat → Nat) (sa : Nat → Nat) (ua : Nat → Nat) (T : Nat) (b : Nat → Int32) (r : Nat → Int32) (sw : Nat → Int32) (st : Nat → Int32) (fa : Nat → Int32) (sc : Nat → Int32) (fi : Nat → Int32) (mi : Nat → Int32) (lf : Nat → Bool) (hi : Nat → Bool) (n : Nat) (sw2 : Nat → Int32) (st2 : Nat → Int32) (fa2 : Nat → Int32) (sc2 : Nat → Int32) (fi2 : Nat → Int32) (mi2 : Nat → Int32) (lf2 : Nat → Bool) (hi2 : Nat → Bool) (n2 : Nat) (hn : n ≤ 6) (hT : T < 2 ^ 29) : MI (Unit) l yX2_leader cX2_leader 1 1 22 G (tY cI cZ cJ) [.ref h] ((wH h ta sa ua T) ++ (wT ta cI b r) ++ (wS sa cI cZ sw st fa sc fi mi lf hi n) ++ (wS ua cI cZ sw2 st2 fa2 sc2 fi2 mi2 lf2 hi2 n2)) (fun zr _ => zr = ldF sc n) (fun _ => (wH h ta sa ua T) ++ (wT ta cI b r) ++ (wS sa cI cZ sw st fa sc fi mi lf hi n) ++ (wS ua cI cZ sw2 st2 fa2 sc2 fi2 mi2 lf2 hi2 n2)) 0 0 := by
  refine MI_of (by decide) (Nat.le_of_ble_eq_true rfl) [(0, .ref h)] rfl ?_
  intro p e s m below meth c hC hr hlocks hname
  have hC : Cx p s m _ c cX2_leader 1 RX2 G (tY cI cZ cJ) _ := hC
  refine z_aload_n (n := 1) hC dX2_leader_0 rfl 0 rfl rfl ?_
  refine gf_X2_19 (v := .ref (sa 0)) (n := 4) hC 0 rfl rfl dX2_leader_1 rfl ?_
  refine z_calli (R := { frames := 1, cells := 0, slots := 0, locals := 22 }) (cells := 0) (slots := 0) (ws := (wH h ta sa ua T) ++ (wT ta cI b r) ++ (wS sa cI cZ sw st fa sc fi mi lf hi n) ++ (wS ua cI cZ sw2 st2 fa2 sc2 fi2 mi2 lf2 hi2 n2)) (n := 7) (As := []) (rest := []) hC (k_X0_leading l G cI cZ cJ sa sw st fa sc fi mi lf hi n (by omega)) kg_X2_118 kd_yX0_leading dX2_leader_4 ⟨Nat.le_of_ble_eq_true rfl, Nat.le_of_ble_eq_true rfl⟩ 0 rfl rfl rfl [4, 5, 6, 7, 8, 9, 10, 11, 12] rfl (by decide) rfl (Nat.le_of_ble_eq_true rfl) ⟨Nat.le_of_ble_eq_true rfl, Nat.le_of_ble_eq_true rfl⟩ (ws2 := fun u1 => (wH h ta sa ua T) ++ (wT ta cI b r) ++ (wS sa cI cZ sw st fa sc fi mi lf hi n) ++ (wS ua cI cZ sw2 st2 fa2 sc2 fi2 mi2 lf2 hi2 n2)) [0, 1, 2, 3, 13, 14, 15, 16, 17, 18, 19, 20, 21] (fun _ => rfl) ((wH h ta sa ua T) ++ (wT ta cI b r) ++ (wS ua cI cZ sw2 st2 fa2 sc2 fi2 mi2 lf2 hi2 n2)) (fun _ => rfl) rfl (fun _ => rfl) [sa 0, sa 1, sa 2, sa 3, sa 4, sa 5, sa 6, sa 7, sa 8] (fun _ => rfl) rfl rfl rfl (fun r2 u1 h3 => ?_)
  subst h3
  refine z_iret hC hr hlocks () ?_ rfl dX2_leader_7 (by omega) (by omega)
  rfl

set_option maxRecDepth 100000 in
set_option maxHeartbeats 4000000 in
theorem k_X2_tied (l : Launch) (G : va_G) (cI cZ cJ : ClassId) (h : Nat) (ta : Nat → Nat) (sa : Nat → Nat) (ua : Nat → Nat) (T : Nat) (b : Nat → Int32) (r : Nat → Int32) (sw : Nat → Int32) (st : Nat → Int32) (fa : Nat → Int32) (sc : Nat → Int32) (fi : Nat → Int32) (mi : Nat → Int32) (lf : Nat → Bool) (hi : Nat → Bool) (n : Nat) (sw2 : Nat → Int32) (st2 : Nat → Int32) (fa2 : Nat → Int32) (sc2 : Nat → Int32) (fi2 : Nat → Int32) (mi2 : Nat → Int32) (lf2 : Nat → Bool) (hi2 : Nat → Bool) (n2 : Nat) (hn : n ≤ 6) (hT : T < 2 ^ 29) : MI (Unit) l yX2_tied cX2_tied 1 2 45 G (tY cI cZ cJ) [.ref h] ((wH h ta sa ua T) ++ (wT ta cI b r) ++ (wS sa cI cZ sw st fa sc fi mi lf hi n) ++ (wS ua cI cZ sw2 st2 fa2 sc2 fi2 mi2 lf2 hi2 n2)) (fun zr _ => zr = nI (ctF (fun zj => decide (sc zj = sc (leF sc (n - 1)))) n)) (fun _ => (wH h ta sa ua T) ++ (wT ta cI b r) ++ (wS sa cI cZ sw st fa sc fi mi lf hi n) ++ (wS ua cI cZ sw2 st2 fa2 sc2 fi2 mi2 lf2 hi2 n2)) 0 0 := by
  refine MI_of (by decide) (Nat.le_of_ble_eq_true rfl) [(0, .ref h)] rfl ?_
  intro p e s m below meth c hC hr hlocks hname
  have hC : Cx p s m _ c cX2_tied 1 RX2 G (tY cI cZ cJ) _ := hC
  refine z_aload_n (n := 1) hC dX2_tied_0 rfl 0 rfl rfl ?_
  refine gf_X2_19 (v := .ref (sa 0)) (n := 4) hC 0 rfl rfl dX2_tied_1 rfl ?_
  refine z_calli (R := { frames := 2, cells := 0, slots := 0, locals := 45 }) (cells := 0) (slots := 0) (ws := (wH h ta sa ua T) ++ (wT ta cI b r) ++ (wS sa cI cZ sw st fa sc fi mi lf hi n) ++ (wS ua cI cZ sw2 st2 fa2 sc2 fi2 mi2 lf2 hi2 n2)) (n := 7) (As := []) (rest := []) hC (k_X0_countTied l G cI cZ cJ sa sw st fa sc fi mi lf hi n (by omega)) kg_X2_121 kd_yX0_countTied dX2_tied_4 ⟨Nat.le_of_ble_eq_true rfl, Nat.le_of_ble_eq_true rfl⟩ 0 rfl rfl rfl [4, 5, 6, 7, 8, 9, 10, 11, 12] rfl (by decide) rfl (Nat.le_of_ble_eq_true rfl) ⟨Nat.le_of_ble_eq_true rfl, Nat.le_of_ble_eq_true rfl⟩ (ws2 := fun u1 => (wH h ta sa ua T) ++ (wT ta cI b r) ++ (wS sa cI cZ sw st fa sc fi mi lf hi n) ++ (wS ua cI cZ sw2 st2 fa2 sc2 fi2 mi2 lf2 hi2 n2)) [0, 1, 2, 3, 13, 14, 15, 16, 17, 18, 19, 20, 21] (fun _ => rfl) ((wH h ta sa ua T) ++ (wT ta cI b r) ++ (wS ua cI cZ sw2 st2 fa2 sc2 fi2 mi2 lf2 hi2 n2)) (fun _ => rfl) rfl (fun _ => rfl) [sa 0, sa 1, sa 2, sa 3, sa 4, sa 5, sa 6, sa 7, sa 8] (fun _ => rfl) rfl rfl rfl (fun r2 u1 h3 => ?_)
  subst h3
  refine z_iret hC hr hlocks () ?_ rfl dX2_tied_7 (by omega) (by omega)
  rfl

set_option maxRecDepth 100000 in
set_option maxHeartbeats 4000000 in
theorem k_X2_rankOf (l : Launch) (G : va_G) (cI cZ cJ : ClassId) (h : Nat) (ta : Nat → Nat) (sa : Nat → Nat) (ua : Nat → Nat) (T : Nat) (b : Nat → Int32) (r : Nat → Int32) (sw : Nat → Int32) (st : Nat → Int32) (fa : Nat → Int32) (sc : Nat → Int32) (fi : Nat → Int32) (mi : Nat → Int32) (lf : Nat → Bool) (hi : Nat → Bool) (n : Nat) (sw2 : Nat → Int32) (st2 : Nat → Int32) (fa2 : Nat → Int32) (sc2 : Nat → Int32) (fi2 : Nat → Int32) (mi2 : Nat → Int32) (lf2 : Nat → Bool) (hi2 : Nat → Bool) (n2 : Nat) (g : Nat) (hn : n ≤ 6) (hT : T < 2 ^ 29) (hg : g < n) : MI (Unit) l yX2_rankOf cX2_rankOf 2 1 23 G (tY cI cZ cJ) [.ref h, .int (nI g)] ((wH h ta sa ua T) ++ (wT ta cI b r) ++ (wS sa cI cZ sw st fa sc fi mi lf hi n) ++ (wS ua cI cZ sw2 st2 fa2 sc2 fi2 mi2 lf2 hi2 n2)) (fun zr _ => zr = nI (1 + ctF (fun zj => decide (¬ sc zj ≤ sc g)) n)) (fun _ => (wH h ta sa ua T) ++ (wT ta cI b r) ++ (wS sa cI cZ sw st fa sc fi mi lf hi n) ++ (wS ua cI cZ sw2 st2 fa2 sc2 fi2 mi2 lf2 hi2 n2)) 0 0 := by
  refine MI_of (by decide) (Nat.le_of_ble_eq_true rfl) [(0, .ref h), (1, .int (nI g))] rfl ?_
  intro p e s m below meth c hC hr hlocks hname
  have hC : Cx p s m _ c cX2_rankOf 2 RX2 G (tY cI cZ cJ) _ := hC
  refine z_aload_n (n := 1) hC dX2_rankOf_0 rfl 0 rfl rfl ?_
  refine z_iload_n (n := 2) hC dX2_rankOf_1 rfl 1 rfl rfl ?_
  refine z_callv (R := { frames := 1, cells := 0, slots := 0, locals := 23 }) (cells := 0) (slots := 0) (ws := (wH h ta sa ua T) ++ (wT ta cI b r) ++ (wS sa cI cZ sw st fa sc fi mi lf hi n) ++ (wS ua cI cZ sw2 st2 fa2 sc2 fi2 mi2 lf2 hi2 n2)) (n := 5) (As := [.int (nI g)]) (rest := []) hC (k_X2_checkGun l G cI cZ cJ h ta sa ua T sw st fa sc fi mi lf hi n g (by omega) (by omega)) kg_X2_63 kd_yX2_checkGun dX2_rankOf_2 ⟨Nat.le_of_ble_eq_true rfl, Nat.le_of_ble_eq_true rfl⟩ 0 rfl rfl rfl [0, 4, 5, 6, 7, 8, 9, 10, 11, 12] rfl (by decide) rfl (Nat.le_of_ble_eq_true rfl) ⟨Nat.le_of_ble_eq_true rfl, Nat.le_of_ble_eq_true rfl⟩ (ws2 := fun u1 => (wH h ta sa ua T) ++ (wT ta cI b r) ++ (wS sa cI cZ sw st fa sc fi mi lf hi n) ++ (wS ua cI cZ sw2 st2 fa2 sc2 fi2 mi2 lf2 hi2 n2)) [1, 2, 3, 13, 14, 15, 16, 17, 18, 19, 20, 21] (fun _ => rfl) ((wT ta cI b r) ++ (wS ua cI cZ sw2 st2 fa2 sc2 fi2 mi2 lf2 hi2 n2)) (fun _ => rfl) rfl (fun _ => rfl) [h, sa 0, sa 1, sa 2, sa 3, sa 4, sa 5, sa 6, sa 7, sa 8] (fun _ => rfl) rfl rfl rfl (fun u1 h3 => ?_)
  refine z_iconst (v := nI 1) (n := 6) hC dX2_rankOf_5 (by decide) rfl ?_
  refine z_aload_n (n := 7) hC dX2_rankOf_6 rfl 0 rfl rfl ?_
  refine gf_X2_19 (v := .ref (sa 0)) (n := 10) hC 0 rfl rfl dX2_rankOf_7 rfl ?_
  refine z_aload_n (n := 11) hC dX2_rankOf_10 rfl 0 rfl rfl ?_
  refine gf_X2_19 (v := .ref (sa 0)) (n := 14) hC 0 rfl rfl dX2_rankOf_11 rfl ?_
  refine gf_X2_103 (v := .ref (sa 4)) (n := 17) hC 4 rfl rfl dX2_rankOf_14 rfl ?_
  refine z_iload_n (n := 18) hC dX2_rankOf_17 rfl 1 rfl rfl ?_
  refine z_iald (v := sc g) (n := 19) hC 8 0 g rfl rfl rfl (by omega) (by decide) dX2_rankOf_18 rfl rfl ?_
  refine z_calli (R := { frames := 1, cells := 0, slots := 0, locals := 23 }) (cells := 0) (slots := 0) (ws := (wH h ta sa ua T) ++ (wT ta cI b r) ++ (wS sa cI cZ sw st fa sc fi mi lf hi n) ++ (wS ua cI cZ sw2 st2 fa2 sc2 fi2 mi2 lf2 hi2 n2)) (n := 22) (As := [.int (sc g)]) (rest := [.int (nI 1)]) hC (k_X0_countAbove l G cI cZ cJ sa sw st fa sc fi mi lf hi n (sc g) (by omega)) kg_X2_124 kd_yX0_countAbove dX2_rankOf_19 ⟨Nat.le_of_ble_eq_true rfl, Nat.le_of_ble_eq_true rfl⟩ 0 rfl rfl rfl [4, 5, 6, 7, 8, 9, 10, 11, 12] rfl (by decide) rfl (Nat.le_of_ble_eq_true rfl) ⟨Nat.le_of_ble_eq_true rfl, Nat.le_of_ble_eq_true rfl⟩ (ws2 := fun u4 => (wH h ta sa ua T) ++ (wT ta cI b r) ++ (wS sa cI cZ sw st fa sc fi mi lf hi n) ++ (wS ua cI cZ sw2 st2 fa2 sc2 fi2 mi2 lf2 hi2 n2)) [0, 1, 2, 3, 13, 14, 15, 16, 17, 18, 19, 20, 21] (fun _ => rfl) ((wH h ta sa ua T) ++ (wT ta cI b r) ++ (wS ua cI cZ sw2 st2 fa2 sc2 fi2 mi2 lf2 hi2 n2)) (fun _ => rfl) rfl (fun _ => rfl) [sa 0, sa 1, sa 2, sa 3, sa 4, sa 5, sa 6, sa 7, sa 8] (fun _ => rfl) rfl rfl rfl (fun r5 u4 h6 => ?_)
  subst h6
  refine z_iadd (v := nI (1 + ctF (fun zj => decide (¬ sc zj ≤ (sc g))) n)) (n := 23) hC dX2_rankOf_22 (nI_add 1 (ctF (fun zj => decide (¬ sc zj ≤ (sc g))) n)) rfl ?_
  refine z_iret hC hr hlocks () ?_ rfl dX2_rankOf_23 (by omega) (by omega)
  rfl

set_option maxRecDepth 100000 in
set_option maxHeartbeats 4000000 in
theorem k_X2_scoreIn (l : Launch) (G : va_G) (cI cZ cJ : ClassId) (h : Nat) (ta : Nat → Nat) (sa : Nat → Nat) (ua : Nat → Nat) (T : Nat) (b : Nat → Int32) (r : Nat → Int32) (sw : Nat → Int32) (st : Nat → Int32) (fa : Nat → Int32) (sc : Nat → Int32) (fi : Nat → Int32) (mi : Nat → Int32) (lf : Nat → Bool) (hi : Nat → Bool) (n : Nat) (sw2 : Nat → Int32) (st2 : Nat → Int32) (fa2 : Nat → Int32) (sc2 : Nat → Int32) (fi2 : Nat → Int32) (mi2 : Nat → Int32) (lf2 : Nat → Bool) (hi2 : Nat → Bool) (n2 : Nat) (g : Nat) (k : Nat) (hn : n ≤ 6) (hT : T < 2 ^ 29) (hg : g < n) (hk1 : 1 ≤ k) (hk2 : k ≤ 50) : MI ((Nat → Int32) × (Nat → Int32) × (Nat → Int32) × (Nat → Int32) × (Nat → Int32) × (Nat → Int32) × (Nat → Bool) × (Nat → Bool)) l yX2_scoreIn cX2_scoreIn 3 5 113 G (tY cI cZ cJ) [.ref h, .int (nI g), .int (nI k)] ((wH h ta sa ua T) ++ (wT ta cI b r) ++ (wS sa cI cZ sw st fa sc fi mi lf hi n) ++ (wS ua cI cZ sw2 st2 fa2 sc2 fi2 mi2 lf2 hi2 n2)) (fun zr _ => zr = plS sw st b r sc fi mi fa T k g) (fun zu => (wH h ta sa ua T) ++ (wT ta cI b r) ++ (wS sa cI cZ sw st fa sc fi mi lf hi n) ++ (wS ua cI cZ zu.1 zu.2.1 zu.2.2.1 zu.2.2.2.1 zu.2.2.2.2.1 zu.2.2.2.2.2.1 zu.2.2.2.2.2.2.1 zu.2.2.2.2.2.2.2 n)) 0 0 := by
  refine MI_of (by decide) (Nat.le_of_ble_eq_true rfl) [(0, .ref h), (1, .int (nI g)), (2, .int (nI k))] rfl ?_
  intro p e s m below meth c hC hr hlocks hname
  have hC : Cx p s m _ c cX2_scoreIn 3 RX2 G (tY cI cZ cJ) _ := hC
  refine z_aload_n (n := 1) hC dX2_scoreIn_0 rfl 0 rfl rfl ?_
  refine z_iload_n (n := 2) hC dX2_scoreIn_1 rfl 1 rfl rfl ?_
  refine z_callv (R := { frames := 5, cells := 0, slots := 0, locals := 113 }) (cells := 0) (slots := 0) (ws := (wH h ta sa ua T) ++ (wT ta cI b r) ++ (wS sa cI cZ sw st fa sc fi mi lf hi n) ++ (wS ua cI cZ sw2 st2 fa2 sc2 fi2 mi2 lf2 hi2 n2)) (n := 5) (As := [.int (nI g)]) (rest := []) hC (k_X2_checkGun l G cI cZ cJ h ta sa ua T sw st fa sc fi mi lf hi n g (by omega) (by omega)) kg_X2_63 kd_yX2_checkGun dX2_scoreIn_2 ⟨Nat.le_of_ble_eq_true rfl, Nat.le_of_ble_eq_true rfl⟩ 0 rfl rfl rfl [0, 4, 5, 6, 7, 8, 9, 10, 11, 12] rfl (by decide) rfl (Nat.le_of_ble_eq_true rfl) ⟨Nat.le_of_ble_eq_true rfl, Nat.le_of_ble_eq_true rfl⟩ (ws2 := fun u1 => (wH h ta sa ua T) ++ (wT ta cI b r) ++ (wS sa cI cZ sw st fa sc fi mi lf hi n) ++ (wS ua cI cZ sw2 st2 fa2 sc2 fi2 mi2 lf2 hi2 n2)) [1, 2, 3, 13, 14, 15, 16, 17, 18, 19, 20, 21] (fun _ => rfl) ((wT ta cI b r) ++ (wS ua cI cZ sw2 st2 fa2 sc2 fi2 mi2 lf2 hi2 n2)) (fun _ => rfl) rfl (fun _ => rfl) [h, sa 0, sa 1, sa 2, sa 3, sa 4, sa 5, sa 6, sa 7, sa 8] (fun _ => rfl) rfl rfl rfl (fun u1 h3 => ?_)
  refine z_iload_n (n := 6) hC dX2_scoreIn_5 rfl 2 rfl rfl ?_
  refine z_callsv (R := { frames := 5, cells := 0, slots := 0, locals := 113 }) (cells := 0) (slots := 0) (ws := (wH h ta sa ua T) ++ (wT ta cI b r) ++ (wS sa cI cZ sw st fa sc fi mi lf hi n) ++ (wS ua cI cZ sw2 st2 fa2 sc2 fi2 mi2 lf2 hi2 n2)) (n := 9) (As := [.int (nI k)]) (rest := []) hC (k_X2_checkTurns l G cI cZ cJ k (by omega) (by omega)) kg_X2_69 kd_yX2_checkTurns dX2_scoreIn_6 ⟨Nat.le_of_ble_eq_true rfl, Nat.le_of_ble_eq_true rfl⟩ [] rfl (by decide) rfl (Nat.le_of_ble_eq_true rfl) ⟨Nat.le_of_ble_eq_true rfl, Nat.le_of_ble_eq_true rfl⟩ (ws2 := fun u4 => (wH h ta sa ua T) ++ (wT ta cI b r) ++ (wS sa cI cZ sw st fa sc fi mi lf hi n) ++ (wS ua cI cZ sw2 st2 fa2 sc2 fi2 mi2 lf2 hi2 n2)) [0, 1, 2, 3, 4, 5, 6, 7, 8, 9, 10, 11, 12, 13, 14, 15, 16, 17, 18, 19, 20, 21] (fun _ => rfl) ((wH h ta sa ua T) ++ (wT ta cI b r) ++ (wS sa cI cZ sw st fa sc fi mi lf hi n) ++ (wS ua cI cZ sw2 st2 fa2 sc2 fi2 mi2 lf2 hi2 n2)) (fun _ => rfl) rfl (fun _ => rfl) [] (fun _ => rfl) rfl rfl rfl (fun u4 h6 => ?_)
  refine z_aload_n (n := 10) hC dX2_scoreIn_9 rfl 0 rfl rfl ?_
  refine gf_X2_23 (v := .ref (ua 0)) (n := 13) hC 0 rfl rfl dX2_scoreIn_10 rfl ?_
  refine z_aload_n (n := 14) hC dX2_scoreIn_13 rfl 0 rfl rfl ?_
  refine gf_X2_19 (v := .ref (sa 0)) (n := 17) hC 0 rfl rfl dX2_scoreIn_14 rfl ?_
  refine z_callv (R := { frames := 5, cells := 0, slots := 0, locals := 113 }) (cells := 0) (slots := 0) (ws := (wH h ta sa ua T) ++ (wT ta cI b r) ++ (wS sa cI cZ sw st fa sc fi mi lf hi n) ++ (wS ua cI cZ sw2 st2 fa2 sc2 fi2 mi2 lf2 hi2 n2)) (n := 20) (As := [.ref (sa 0)]) (rest := []) hC (k_X0_takeOver l G cI cZ cJ ua sw2 st2 fa2 sc2 fi2 mi2 lf2 hi2 n2 sa sw st fa sc fi mi lf hi n (by omega)) kg_X2_127 kd_yX0_takeOver dX2_scoreIn_17 ⟨Nat.le_of_ble_eq_true rfl, Nat.le_of_ble_eq_true rfl⟩ 0 rfl rfl rfl [13, 14, 15, 16, 17, 18, 19, 20, 21, 4, 5, 6, 7, 8, 9, 10, 11, 12] rfl (by decide) rfl (Nat.le_of_ble_eq_true rfl) ⟨Nat.le_of_ble_eq_true rfl, Nat.le_of_ble_eq_true rfl⟩ (ws2 := fun u7 => (wH h ta sa ua T) ++ (wT ta cI b r) ++ (wS sa cI cZ sw st fa sc fi mi lf hi n) ++ (wS ua cI cZ (pwF sw2 sw n) (pwF st2 st n) (pwF fa2 fa n) (pwF sc2 sc n) (pwF fi2 fi n) (pwF mi2 mi n) lf2 hi2 n)) [0, 1, 2, 3] (fun _ => rfl) ((wH h ta sa ua T) ++ (wT ta cI b r)) (fun _ => rfl) rfl (fun _ => rfl) [ua 0, ua 1, ua 2, ua 3, ua 4, ua 5, ua 6, ua 7, ua 8, sa 0, sa 1, sa 2, sa 3, sa 4, sa 5, sa 6, sa 7, sa 8] (fun _ => rfl) rfl rfl rfl (fun u7 h9 => ?_)
  refine z_aload_n (n := 21) hC dX2_scoreIn_20 rfl 0 rfl rfl ?_
  refine gf_X2_23 (v := .ref (ua 0)) (n := 24) hC 0 rfl rfl dX2_scoreIn_21 rfl ?_
  refine z_aload_n (n := 25) hC dX2_scoreIn_24 rfl 0 rfl rfl ?_
  refine gf_X2_10 (v := .ref (ta 0)) (n := 28) hC 0 rfl rfl dX2_scoreIn_25 rfl ?_
  refine z_iload_n (n := 29) hC dX2_scoreIn_28 rfl 1 rfl rfl ?_
  refine z_aload_n (n := 30) hC dX2_scoreIn_29 rfl 0 rfl rfl ?_
  refine gf_X2_72 (v := .int (nI T)) (n := 33) hC 0 rfl rfl dX2_scoreIn_30 rfl ?_
  refine z_iload_n (n := 34) hC dX2_scoreIn_33 rfl 2 rfl rfl ?_
  refine z_callv (R := { frames := 5, cells := 0, slots := 0, locals := 113 }) (cells := 0) (slots := 0) (ws := (wH h ta sa ua T) ++ (wT ta cI b r) ++ (wS sa cI cZ sw st fa sc fi mi lf hi n) ++ (wS ua cI cZ (pwF sw2 sw n) (pwF st2 st n) (pwF fa2 fa n) (pwF sc2 sc n) (pwF fi2 fi n) (pwF mi2 mi n) lf2 hi2 n)) (n := 37) (As := [.ref (ta 0), .int (nI g), .int (nI T), .int (nI k)]) (rest := []) hC (k_X0_playAlone l G cI cZ cJ ua (pwF sw2 sw n) (pwF st2 st n) (pwF fa2 fa n) (pwF sc2 sc n) (pwF fi2 fi n) (pwF mi2 mi n) lf2 hi2 n ta b r g T k (by omega) (by omega)) kg_X2_131 kd_yX0_playAlone dX2_scoreIn_34 ⟨Nat.le_of_ble_eq_true rfl, Nat.le_of_ble_eq_true rfl⟩ 0 rfl rfl rfl [13, 14, 15, 16, 17, 18, 19, 20, 21, 1, 2, 3] rfl (by decide) rfl (Nat.le_of_ble_eq_true rfl) ⟨Nat.le_of_ble_eq_true rfl, Nat.le_of_ble_eq_true rfl⟩ (ws2 := fun u10 => (wH h ta sa ua T) ++ (wT ta cI b r) ++ (wS sa cI cZ sw st fa sc fi mi lf hi n) ++ (wS ua cI cZ (pwF sw2 sw n) (pwF st2 st n) (upd (pwF fa2 fa n) g (ruQ ((pwF sw2 sw n) g) ((pwF st2 st n) g) b r T g ((pwF sc2 sc n) g, (pwF fi2 fi n) g, (pwF mi2 mi n) g, (pwF fa2 fa n) g) k).2.2.2) (upd (pwF sc2 sc n) g (ruQ ((pwF sw2 sw n) g) ((pwF st2 st n) g) b r T g ((pwF sc2 sc n) g, (pwF fi2 fi n) g, (pwF mi2 mi n) g, (pwF fa2 fa n) g) k).1) (upd (pwF fi2 fi n) g (ruQ ((pwF sw2 sw n) g) ((pwF st2 st n) g) b r T g ((pwF sc2 sc n) g, (pwF fi2 fi n) g, (pwF mi2 mi n) g, (pwF fa2 fa n) g) k).2.1) (upd (pwF mi2 mi n) g (ruQ ((pwF sw2 sw n) g) ((pwF st2 st n) g) b r T g ((pwF sc2 sc n) g, (pwF fi2 fi n) g, (pwF mi2 mi n) g, (pwF fa2 fa n) g) k).2.2.1) lf2 hi2 n)) [0, 4, 5, 6, 7, 8, 9, 10, 11, 12] (fun _ => rfl) ((wH h ta sa ua T) ++ (wS sa cI cZ sw st fa sc fi mi lf hi n)) (fun _ => rfl) rfl (fun _ => rfl) [ua 0, ua 1, ua 2, ua 3, ua 4, ua 5, ua 6, ua 7, ua 8, ta 0, ta 1, ta 2] (fun _ => rfl) rfl rfl rfl (fun u10 h12 => ?_)
  refine z_aload_n (n := 38) hC dX2_scoreIn_37 rfl 0 rfl rfl ?_
  refine gf_X2_23 (v := .ref (ua 0)) (n := 41) hC 0 rfl rfl dX2_scoreIn_38 rfl ?_
  refine gf_X2_103 (v := .ref (ua 4)) (n := 44) hC 13 rfl rfl dX2_scoreIn_41 rfl ?_
  refine z_iload_n (n := 45) hC dX2_scoreIn_44 rfl 1 rfl rfl ?_
  refine z_iald (v := (ruQ ((pwF sw2 sw n) g) ((pwF st2 st n) g) b r T g ((pwF sc2 sc n) g, (pwF fi2 fi n) g, (pwF mi2 mi n) g, (pwF fa2 fa n) g) k).1) (n := 46) hC 17 0 g rfl rfl rfl (by omega) (by decide) dX2_scoreIn_45 pk_us rfl ?_
  refine z_iret hC hr hlocks (pwF sw2 sw n, pwF st2 st n, upd (pwF fa2 fa n) g (ruQ ((pwF sw2 sw n) g) ((pwF st2 st n) g) b r T g ((pwF sc2 sc n) g, (pwF fi2 fi n) g, (pwF mi2 mi n) g, (pwF fa2 fa n) g) k).2.2.2, upd (pwF sc2 sc n) g (ruQ ((pwF sw2 sw n) g) ((pwF st2 st n) g) b r T g ((pwF sc2 sc n) g, (pwF fi2 fi n) g, (pwF mi2 mi n) g, (pwF fa2 fa n) g) k).1, upd (pwF fi2 fi n) g (ruQ ((pwF sw2 sw n) g) ((pwF st2 st n) g) b r T g ((pwF sc2 sc n) g, (pwF fi2 fi n) g, (pwF mi2 mi n) g, (pwF fa2 fa n) g) k).2.1, upd (pwF mi2 mi n) g (ruQ ((pwF sw2 sw n) g) ((pwF st2 st n) g) b r T g ((pwF sc2 sc n) g, (pwF fi2 fi n) g, (pwF mi2 mi n) g, (pwF fa2 fa n) g) k).2.2.1, lf2, hi2) ?_ rfl dX2_scoreIn_46 (by omega) (by omega)
  simp only [pwF_lt hg]; rfl

set_option maxRecDepth 100000 in
set_option maxHeartbeats 4000000 in
theorem k_X2_turnsUntilMiss (l : Launch) (G : va_G) (cI cZ cJ : ClassId) (h : Nat) (ta : Nat → Nat) (sa : Nat → Nat) (ua : Nat → Nat) (T : Nat) (b : Nat → Int32) (r : Nat → Int32) (sw : Nat → Int32) (st : Nat → Int32) (fa : Nat → Int32) (sc : Nat → Int32) (fi : Nat → Int32) (mi : Nat → Int32) (lf : Nat → Bool) (hi : Nat → Bool) (n : Nat) (sw2 : Nat → Int32) (st2 : Nat → Int32) (fa2 : Nat → Int32) (sc2 : Nat → Int32) (fi2 : Nat → Int32) (mi2 : Nat → Int32) (lf2 : Nat → Bool) (hi2 : Nat → Bool) (n2 : Nat) (g : Nat) (hn : n ≤ 6) (hT : T < 2 ^ 29) (hg : g < n) : MI (Unit) l yX2_turnsUntilMiss cX2_turnsUntilMiss 3 4 87 G (tY cI cZ cJ) [.ref h, .int (nI g)] ((wH h ta sa ua T) ++ (wT ta cI b r) ++ (wS sa cI cZ sw st fa sc fi mi lf hi n) ++ (wS ua cI cZ sw2 st2 fa2 sc2 fi2 mi2 lf2 hi2 n2)) (fun zr _ => zr = umF (miB sw b r T g) 100) (fun _ => (wH h ta sa ua T) ++ (wT ta cI b r) ++ (wS sa cI cZ sw st fa sc fi mi lf hi n) ++ (wS ua cI cZ sw2 st2 fa2 sc2 fi2 mi2 lf2 hi2 n2)) 0 0 := by
  refine MI_of (by decide) (Nat.le_of_ble_eq_true rfl) [(0, .ref h), (1, .int (nI g))] rfl ?_
  intro p e s m below meth c hC hr hlocks hname
  have hC : Cx p s m _ c cX2_turnsUntilMiss 3 RX2 G (tY cI cZ cJ) _ := hC
  refine z_aload_n (n := 1) hC dX2_turnsUntilMiss_0 rfl 0 rfl rfl ?_
  refine z_iload_n (n := 2) hC dX2_turnsUntilMiss_1 rfl 1 rfl rfl ?_
  refine z_callv (R := { frames := 4, cells := 0, slots := 0, locals := 87 }) (cells := 0) (slots := 0) (ws := (wH h ta sa ua T) ++ (wT ta cI b r) ++ (wS sa cI cZ sw st fa sc fi mi lf hi n) ++ (wS ua cI cZ sw2 st2 fa2 sc2 fi2 mi2 lf2 hi2 n2)) (n := 5) (As := [.int (nI g)]) (rest := []) hC (k_X2_checkGun l G cI cZ cJ h ta sa ua T sw st fa sc fi mi lf hi n g (by omega) (by omega)) kg_X2_63 kd_yX2_checkGun dX2_turnsUntilMiss_2 ⟨Nat.le_of_ble_eq_true rfl, Nat.le_of_ble_eq_true rfl⟩ 0 rfl rfl rfl [0, 4, 5, 6, 7, 8, 9, 10, 11, 12] rfl (by decide) rfl (Nat.le_of_ble_eq_true rfl) ⟨Nat.le_of_ble_eq_true rfl, Nat.le_of_ble_eq_true rfl⟩ (ws2 := fun u1 => (wH h ta sa ua T) ++ (wT ta cI b r) ++ (wS sa cI cZ sw st fa sc fi mi lf hi n) ++ (wS ua cI cZ sw2 st2 fa2 sc2 fi2 mi2 lf2 hi2 n2)) [1, 2, 3, 13, 14, 15, 16, 17, 18, 19, 20, 21] (fun _ => rfl) ((wT ta cI b r) ++ (wS ua cI cZ sw2 st2 fa2 sc2 fi2 mi2 lf2 hi2 n2)) (fun _ => rfl) rfl (fun _ => rfl) [h, sa 0, sa 1, sa 2, sa 3, sa 4, sa 5, sa 6, sa 7, sa 8] (fun _ => rfl) rfl rfl rfl (fun u1 h3 => ?_)
  refine z_iconst (v := nI 0) (n := 6) hC dX2_turnsUntilMiss_5 (by decide) rfl ?_
  refine z_istore_n (lv' := [(2, .int (nI 0)), (0, .ref h), (1, .int (nI g))]) (n := 7) hC dX2_turnsUntilMiss_6 rfl (by decide) rfl rfl ?_
  refine z_lv [1, 2, 0] (lv' := [(0, .ref h), (1, .int (nI g)), (2, .int (nI 0))]) rfl ?_
  refine z_loopS (σ := Unit) 100 0 (fun i u => ∀ j, j < i → miB sw b r T g j = false) (fun i u => (wH h ta sa ua T) ++ (wT ta cI b r) ++ (wS sa cI cZ sw st fa sc fi mi lf hi n) ++ (wS ua cI cZ sw2 st2 fa2 sc2 fi2 mi2 lf2 hi2 n2)) (fun i u => [(0, .ref h), (1, .int (nI g)), (2, .int (nI i))]) (fun _ => 0) (fun _ => 0) () (by omega) (fun j hj => absurd hj (Nat.not_lt_zero j)) rfl rfl (Nat.le_refl _) (Nat.le_refl _) (fun i u hi0 hi1 hu ih => ?_)
  refine z_iload_n (n := 8) hC dX2_turnsUntilMiss_7 rfl 2 rfl rfl ?_
  refine z_bipush (v := nI 100) (n := 10) hC dX2_turnsUntilMiss_8 (by decide) rfl ?_
  refine z_icmp_ge_n (tgt := 49) (n := 13) hC i 100 rfl rfl (by omega) (by omega) dX2_turnsUntilMiss_10 (by decide) rfl (fun c4 => ?_) (fun c4 => ?_)
  · obtain rfl : 100 = i := by omega
    refine z_iconst (v := (-1)) (n := 50) hC dX2_turnsUntilMiss_49 (by decide) rfl ?_
    refine z_iret hC hr hlocks () ?_ rfl dX2_turnsUntilMiss_50 (by omega) (by omega)
    unfold umF; rw [fiN_no hu, if_neg (by omega)]
  · refine z_aload_n (n := 14) hC dX2_turnsUntilMiss_13 rfl 0 rfl rfl ?_
    refine gf_X2_10 (v := .ref (ta 0)) (n := 17) hC 0 rfl rfl dX2_turnsUntilMiss_14 rfl ?_
    refine z_aload_n (n := 18) hC dX2_turnsUntilMiss_17 rfl 0 rfl rfl ?_
    refine gf_X2_72 (v := .int (nI T)) (n := 21) hC 0 rfl rfl dX2_turnsUntilMiss_18 rfl ?_
    refine z_iload_n (n := 22) hC dX2_turnsUntilMiss_21 rfl 2 rfl rfl ?_
    refine z_iadd (v := nI (T + i)) (n := 23) hC dX2_turnsUntilMiss_22 (nI_add T i) rfl ?_
    refine z_iload_n (n := 24) hC dX2_turnsUntilMiss_23 rfl 1 rfl rfl ?_
    refine z_calli (R := { frames := 4, cells := 0, slots := 0, locals := 87 }) (cells := 0) (slots := 0) (ws := (wH h ta sa ua T) ++ (wT ta cI b r) ++ (wS sa cI cZ sw st fa sc fi mi lf hi n) ++ (wS ua cI cZ sw2 st2 fa2 sc2 fi2 mi2 lf2 hi2 n2)) (n := 27) (As := [.int (nI (T + i)), .int (nI g)]) (rest := []) hC (k_X1_amountIn l G cI cZ cJ ta b r (T + i) g (by omega) (by omega)) kg_X2_112 kd_yX1_amountIn dX2_turnsUntilMiss_24 ⟨Nat.le_of_ble_eq_true rfl, Nat.le_of_ble_eq_true rfl⟩ 0 rfl rfl rfl [1, 2, 3] rfl (by decide) rfl (Nat.le_of_ble_eq_true rfl) ⟨Nat.le_of_ble_eq_true rfl, Nat.le_of_ble_eq_true rfl⟩ (ws2 := fun u5 => (wH h ta sa ua T) ++ (wT ta cI b r) ++ (wS sa cI cZ sw st fa sc fi mi lf hi n) ++ (wS ua cI cZ sw2 st2 fa2 sc2 fi2 mi2 lf2 hi2 n2)) [0, 4, 5, 6, 7, 8, 9, 10, 11, 12, 13, 14, 15, 16, 17, 18, 19, 20, 21] (fun _ => rfl) ((wH h ta sa ua T) ++ (wS sa cI cZ sw st fa sc fi mi lf hi n) ++ (wS ua cI cZ sw2 st2 fa2 sc2 fi2 mi2 lf2 hi2 n2)) (fun _ => rfl) rfl (fun _ => rfl) [ta 0, ta 1, ta 2] (fun _ => rfl) rfl rfl rfl (fun r6 u5 h7 => ?_)
    subst h7
    refine z_aload_n (n := 28) hC dX2_turnsUntilMiss_27 rfl 0 rfl rfl ?_
    refine gf_X2_19 (v := .ref (sa 0)) (n := 31) hC 0 rfl rfl dX2_turnsUntilMiss_28 rfl ?_
    refine gf_X2_135 (v := .ref (sa 1)) (n := 34) hC 4 rfl rfl dX2_turnsUntilMiss_31 rfl ?_
    refine z_iload_n (n := 35) hC dX2_turnsUntilMiss_34 rfl 1 rfl rfl ?_
    refine z_iald (v := sw g) (n := 36) hC 5 0 g rfl rfl rfl (by omega) (by decide) dX2_turnsUntilMiss_35 rfl rfl ?_
    refine z_icmp_le (tgt := 43) (n := 39) hC dX2_turnsUntilMiss_36 (by decide) rfl (fun c8 => ?_) (fun c8 => ?_)
    · refine z_iinc (k0 := 2) (v := nI (i + 1)) (lv' := [(2, .int (nI (i + 1))), (0, .ref h), (1, .int (nI g))]) (n := 46) hC dX2_turnsUntilMiss_43 rfl (nI_add i 1) (by decide) rfl rfl ?_
      refine z_goto (n := 7) hC dX2_turnsUntilMiss_46 (by decide) ?_
      refine z_lv [1, 2, 0] (lv' := [(0, .ref h), (1, .int (nI g)), (2, .int (nI (i + 1)))]) rfl ?_
      exact ih (i + 1) () (by omega) (by omega) (no_step hu (by simp [miB, c8]))
    · refine z_iload_n (n := 40) hC dX2_turnsUntilMiss_39 rfl 2 rfl rfl ?_
      refine z_iconst (v := nI 1) (n := 41) hC dX2_turnsUntilMiss_40 (by decide) rfl ?_
      refine z_iadd (v := nI (i + 1)) (n := 42) hC dX2_turnsUntilMiss_41 (nI_add i 1) rfl ?_
      refine z_iret hC hr hlocks () ?_ rfl dX2_turnsUntilMiss_42 (by omega) (by omega)
      unfold umF; rw [fiN_yes hu (by simp [miB, c8]) (by omega), if_pos (by omega)]

set_option maxRecDepth 100000 in
set_option maxHeartbeats 4000000 in
theorem k_X2_leaderIn (l : Launch) (G : va_G) (cI cZ cJ : ClassId) (h : Nat) (ta : Nat → Nat) (sa : Nat → Nat) (ua : Nat → Nat) (T : Nat) (b : Nat → Int32) (r : Nat → Int32) (sw : Nat → Int32) (st : Nat → Int32) (fa : Nat → Int32) (sc : Nat → Int32) (fi : Nat → Int32) (mi : Nat → Int32) (lf : Nat → Bool) (hi : Nat → Bool) (n : Nat) (sw2 : Nat → Int32) (st2 : Nat → Int32) (fa2 : Nat → Int32) (sc2 : Nat → Int32) (fi2 : Nat → Int32) (mi2 : Nat → Int32) (lf2 : Nat → Bool) (hi2 : Nat → Bool) (n2 : Nat) (k : Nat) (hn : n ≤ 6) (hT : T < 2 ^ 29) (hk1 : 1 ≤ k) (hk2 : k ≤ 50) : MI ((Nat → Int32) × (Nat → Int32) × (Nat → Int32) × (Nat → Int32) × (Nat → Int32) × (Nat → Int32) × (Nat → Bool) × (Nat → Bool)) l yX2_leaderIn cX2_leaderIn 2 6 139 G (tY cI cZ cJ) [.ref h, .int (nI k)] ((wH h ta sa ua T) ++ (wT ta cI b r) ++ (wS sa cI cZ sw st fa sc fi mi lf hi n) ++ (wS ua cI cZ sw2 st2 fa2 sc2 fi2 mi2 lf2 hi2 n2)) (fun zr _ => zr = ldF (plS sw st b r sc fi mi fa T k) n) (fun zu => (wH h ta sa ua T) ++ (wT ta cI b r) ++ (wS sa cI cZ sw st fa sc fi mi lf hi n) ++ (wS ua cI cZ zu.1 zu.2.1 zu.2.2.1 zu.2.2.2.1 zu.2.2.2.2.1 zu.2.2.2.2.2.1 zu.2.2.2.2.2.2.1 zu.2.2.2.2.2.2.2 n)) 0 0 := by
  refine MI_of (by decide) (Nat.le_of_ble_eq_true rfl) [(0, .ref h), (1, .int (nI k))] rfl ?_
  intro p e s m below meth c hC hr hlocks hname
  have hC : Cx p s m _ c cX2_leaderIn 2 RX2 G (tY cI cZ cJ) _ := hC
  refine z_iload_n (n := 1) hC dX2_leaderIn_0 rfl 1 rfl rfl ?_
  refine z_callsv (R := { frames := 6, cells := 0, slots := 0, locals := 139 }) (cells := 0) (slots := 0) (ws := (wH h ta sa ua T) ++ (wT ta cI b r) ++ (wS sa cI cZ sw st fa sc fi mi lf hi n) ++ (wS ua cI cZ sw2 st2 fa2 sc2 fi2 mi2 lf2 hi2 n2)) (n := 4) (As := [.int (nI k)]) (rest := []) hC (k_X2_checkTurns l G cI cZ cJ k (by omega) (by omega)) kg_X2_69 kd_yX2_checkTurns dX2_leaderIn_1 ⟨Nat.le_of_ble_eq_true rfl, Nat.le_of_ble_eq_true rfl⟩ [] rfl (by decide) rfl (Nat.le_of_ble_eq_true rfl) ⟨Nat.le_of_ble_eq_true rfl, Nat.le_of_ble_eq_true rfl⟩ (ws2 := fun u1 => (wH h ta sa ua T) ++ (wT ta cI b r) ++ (wS sa cI cZ sw st fa sc fi mi lf hi n) ++ (wS ua cI cZ sw2 st2 fa2 sc2 fi2 mi2 lf2 hi2 n2)) [0, 1, 2, 3, 4, 5, 6, 7, 8, 9, 10, 11, 12, 13, 14, 15, 16, 17, 18, 19, 20, 21] (fun _ => rfl) ((wH h ta sa ua T) ++ (wT ta cI b r) ++ (wS sa cI cZ sw st fa sc fi mi lf hi n) ++ (wS ua cI cZ sw2 st2 fa2 sc2 fi2 mi2 lf2 hi2 n2)) (fun _ => rfl) rfl (fun _ => rfl) [] (fun _ => rfl) rfl rfl rfl (fun u1 h3 => ?_)
  refine z_aload_n (n := 5) hC dX2_leaderIn_4 rfl 0 rfl rfl ?_
  refine gf_X2_23 (v := .ref (ua 0)) (n := 8) hC 0 rfl rfl dX2_leaderIn_5 rfl ?_
  refine z_aload_n (n := 9) hC dX2_leaderIn_8 rfl 0 rfl rfl ?_
  refine gf_X2_19 (v := .ref (sa 0)) (n := 12) hC 0 rfl rfl dX2_leaderIn_9 rfl ?_
  refine z_callv (R := { frames := 6, cells := 0, slots := 0, locals := 139 }) (cells := 0) (slots := 0) (ws := (wH h ta sa ua T) ++ (wT ta cI b r) ++ (wS sa cI cZ sw st fa sc fi mi lf hi n) ++ (wS ua cI cZ sw2 st2 fa2 sc2 fi2 mi2 lf2 hi2 n2)) (n := 15) (As := [.ref (sa 0)]) (rest := []) hC (k_X0_takeOver l G cI cZ cJ ua sw2 st2 fa2 sc2 fi2 mi2 lf2 hi2 n2 sa sw st fa sc fi mi lf hi n (by omega)) kg_X2_127 kd_yX0_takeOver dX2_leaderIn_12 ⟨Nat.le_of_ble_eq_true rfl, Nat.le_of_ble_eq_true rfl⟩ 0 rfl rfl rfl [13, 14, 15, 16, 17, 18, 19, 20, 21, 4, 5, 6, 7, 8, 9, 10, 11, 12] rfl (by decide) rfl (Nat.le_of_ble_eq_true rfl) ⟨Nat.le_of_ble_eq_true rfl, Nat.le_of_ble_eq_true rfl⟩ (ws2 := fun u4 => (wH h ta sa ua T) ++ (wT ta cI b r) ++ (wS sa cI cZ sw st fa sc fi mi lf hi n) ++ (wS ua cI cZ (pwF sw2 sw n) (pwF st2 st n) (pwF fa2 fa n) (pwF sc2 sc n) (pwF fi2 fi n) (pwF mi2 mi n) lf2 hi2 n)) [0, 1, 2, 3] (fun _ => rfl) ((wH h ta sa ua T) ++ (wT ta cI b r)) (fun _ => rfl) rfl (fun _ => rfl) [ua 0, ua 1, ua 2, ua 3, ua 4, ua 5, ua 6, ua 7, ua 8, sa 0, sa 1, sa 2, sa 3, sa 4, sa 5, sa 6, sa 7, sa 8] (fun _ => rfl) rfl rfl rfl (fun u4 h6 => ?_)
  refine z_aload_n (n := 16) hC dX2_leaderIn_15 rfl 0 rfl rfl ?_
  refine gf_X2_23 (v := .ref (ua 0)) (n := 19) hC 0 rfl rfl dX2_leaderIn_16 rfl ?_
  refine z_aload_n (n := 20) hC dX2_leaderIn_19 rfl 0 rfl rfl ?_
  refine gf_X2_10 (v := .ref (ta 0)) (n := 23) hC 0 rfl rfl dX2_leaderIn_20 rfl ?_
  refine z_aload_n (n := 24) hC dX2_leaderIn_23 rfl 0 rfl rfl ?_
  refine gf_X2_72 (v := .int (nI T)) (n := 27) hC 0 rfl rfl dX2_leaderIn_24 rfl ?_
  refine z_iload_n (n := 28) hC dX2_leaderIn_27 rfl 1 rfl rfl ?_
  refine z_calli (R := { frames := 6, cells := 0, slots := 0, locals := 139 }) (cells := 0) (slots := 0) (ws := (wH h ta sa ua T) ++ (wT ta cI b r) ++ (wS sa cI cZ sw st fa sc fi mi lf hi n) ++ (wS ua cI cZ (pwF sw2 sw n) (pwF st2 st n) (pwF fa2 fa n) (pwF sc2 sc n) (pwF fi2 fi n) (pwF mi2 mi n) lf2 hi2 n)) (n := 31) (As := [.ref (ta 0), .int (nI T), .int (nI k)]) (rest := []) hC (k_X0_play l G cI cZ cJ ua (pwF sw2 sw n) (pwF st2 st n) (pwF fa2 fa n) (pwF sc2 sc n) (pwF fi2 fi n) (pwF mi2 mi n) lf2 hi2 n ta b r T k (by omega) (by omega)) kg_X2_75 kd_yX0_play dX2_leaderIn_28 ⟨Nat.le_of_ble_eq_true rfl, Nat.le_of_ble_eq_true rfl⟩ 0 rfl rfl rfl [13, 14, 15, 16, 17, 18, 19, 20, 21, 1, 2, 3] rfl (by decide) rfl (Nat.le_of_ble_eq_true rfl) ⟨Nat.le_of_ble_eq_true rfl, Nat.le_of_ble_eq_true rfl⟩ (ws2 := fun u7 => (wH h ta sa ua T) ++ (wT ta cI b r) ++ (wS sa cI cZ sw st fa sc fi mi lf hi n) ++ (wS ua cI cZ (pwF sw2 sw n) (pwF st2 st n) (pwF (pwF fa2 fa n) (plA (pwF sw2 sw n) (pwF st2 st n) b r (pwF sc2 sc n) (pwF fi2 fi n) (pwF mi2 mi n) (pwF fa2 fa n) T k) n) (pwF (pwF sc2 sc n) (plS (pwF sw2 sw n) (pwF st2 st n) b r (pwF sc2 sc n) (pwF fi2 fi n) (pwF mi2 mi n) (pwF fa2 fa n) T k) n) (pwF (pwF fi2 fi n) (plF (pwF sw2 sw n) (pwF st2 st n) b r (pwF sc2 sc n) (pwF fi2 fi n) (pwF mi2 mi n) (pwF fa2 fa n) T k) n) (pwF (pwF mi2 mi n) (plM (pwF sw2 sw n) (pwF st2 st n) b r (pwF sc2 sc n) (pwF fi2 fi n) (pwF mi2 mi n) (pwF fa2 fa n) T k) n) lf2 hi2 n)) [0, 4, 5, 6, 7, 8, 9, 10, 11, 12] (fun _ => rfl) ((wH h ta sa ua T) ++ (wS sa cI cZ sw st fa sc fi mi lf hi n)) (fun _ => rfl) rfl (fun _ => rfl) [ua 0, ua 1, ua 2, ua 3, ua 4, ua 5, ua 6, ua 7, ua 8, ta 0, ta 1, ta 2] (fun _ => rfl) rfl rfl rfl (fun r8 u7 h9 => ?_)
  subst h9
  refine z_pop (n := 32) hC dX2_leaderIn_31 rfl rfl ?_
  refine z_aload_n (n := 33) hC dX2_leaderIn_32 rfl 0 rfl rfl ?_
  refine gf_X2_23 (v := .ref (ua 0)) (n := 36) hC 0 rfl rfl dX2_leaderIn_33 rfl ?_
  refine z_calli (R := { frames := 6, cells := 0, slots := 0, locals := 139 }) (cells := 0) (slots := 0) (ws := (wH h ta sa ua T) ++ (wT ta cI b r) ++ (wS sa cI cZ sw st fa sc fi mi lf hi n) ++ (wS ua cI cZ (pwF sw2 sw n) (pwF st2 st n) (pwF (pwF fa2 fa n) (plA (pwF sw2 sw n) (pwF st2 st n) b r (pwF sc2 sc n) (pwF fi2 fi n) (pwF mi2 mi n) (pwF fa2 fa n) T k) n) (pwF (pwF sc2 sc n) (plS (pwF sw2 sw n) (pwF st2 st n) b r (pwF sc2 sc n) (pwF fi2 fi n) (pwF mi2 mi n) (pwF fa2 fa n) T k) n) (pwF (pwF fi2 fi n) (plF (pwF sw2 sw n) (pwF st2 st n) b r (pwF sc2 sc n) (pwF fi2 fi n) (pwF mi2 mi n) (pwF fa2 fa n) T k) n) (pwF (pwF mi2 mi n) (plM (pwF sw2 sw n) (pwF st2 st n) b r (pwF sc2 sc n) (pwF fi2 fi n) (pwF mi2 mi n) (pwF fa2 fa n) T k) n) lf2 hi2 n)) (n := 39) (As := []) (rest := []) hC (k_X0_leading l G cI cZ cJ ua (pwF sw2 sw n) (pwF st2 st n) (pwF (pwF fa2 fa n) (plA (pwF sw2 sw n) (pwF st2 st n) b r (pwF sc2 sc n) (pwF fi2 fi n) (pwF mi2 mi n) (pwF fa2 fa n) T k) n) (pwF (pwF sc2 sc n) (plS (pwF sw2 sw n) (pwF st2 st n) b r (pwF sc2 sc n) (pwF fi2 fi n) (pwF mi2 mi n) (pwF fa2 fa n) T k) n) (pwF (pwF fi2 fi n) (plF (pwF sw2 sw n) (pwF st2 st n) b r (pwF sc2 sc n) (pwF fi2 fi n) (pwF mi2 mi n) (pwF fa2 fa n) T k) n) (pwF (pwF mi2 mi n) (plM (pwF sw2 sw n) (pwF st2 st n) b r (pwF sc2 sc n) (pwF fi2 fi n) (pwF mi2 mi n) (pwF fa2 fa n) T k) n) lf2 hi2 n (by omega)) kg_X2_118 kd_yX0_leading dX2_leaderIn_36 ⟨Nat.le_of_ble_eq_true rfl, Nat.le_of_ble_eq_true rfl⟩ 0 rfl rfl rfl [13, 14, 15, 16, 17, 18, 19, 20, 21] rfl (by decide) rfl (Nat.le_of_ble_eq_true rfl) ⟨Nat.le_of_ble_eq_true rfl, Nat.le_of_ble_eq_true rfl⟩ (ws2 := fun u10 => (wH h ta sa ua T) ++ (wT ta cI b r) ++ (wS sa cI cZ sw st fa sc fi mi lf hi n) ++ (wS ua cI cZ (pwF sw2 sw n) (pwF st2 st n) (pwF (pwF fa2 fa n) (plA (pwF sw2 sw n) (pwF st2 st n) b r (pwF sc2 sc n) (pwF fi2 fi n) (pwF mi2 mi n) (pwF fa2 fa n) T k) n) (pwF (pwF sc2 sc n) (plS (pwF sw2 sw n) (pwF st2 st n) b r (pwF sc2 sc n) (pwF fi2 fi n) (pwF mi2 mi n) (pwF fa2 fa n) T k) n) (pwF (pwF fi2 fi n) (plF (pwF sw2 sw n) (pwF st2 st n) b r (pwF sc2 sc n) (pwF fi2 fi n) (pwF mi2 mi n) (pwF fa2 fa n) T k) n) (pwF (pwF mi2 mi n) (plM (pwF sw2 sw n) (pwF st2 st n) b r (pwF sc2 sc n) (pwF fi2 fi n) (pwF mi2 mi n) (pwF fa2 fa n) T k) n) lf2 hi2 n)) [0, 1, 2, 3, 4, 5, 6, 7, 8, 9, 10, 11, 12] (fun _ => rfl) ((wH h ta sa ua T) ++ (wT ta cI b r) ++ (wS sa cI cZ sw st fa sc fi mi lf hi n)) (fun _ => rfl) rfl (fun _ => rfl) [ua 0, ua 1, ua 2, ua 3, ua 4, ua 5, ua 6, ua 7, ua 8] (fun _ => rfl) rfl rfl rfl (fun r11 u10 h12 => ?_)
  subst h12
  refine z_iret hC hr hlocks (pwF sw2 sw n, pwF st2 st n, pwF (pwF fa2 fa n) (plA (pwF sw2 sw n) (pwF st2 st n) b r (pwF sc2 sc n) (pwF fi2 fi n) (pwF mi2 mi n) (pwF fa2 fa n) T k) n, pwF (pwF sc2 sc n) (plS (pwF sw2 sw n) (pwF st2 st n) b r (pwF sc2 sc n) (pwF fi2 fi n) (pwF mi2 mi n) (pwF fa2 fa n) T k) n, pwF (pwF fi2 fi n) (plF (pwF sw2 sw n) (pwF st2 st n) b r (pwF sc2 sc n) (pwF fi2 fi n) (pwF mi2 mi n) (pwF fa2 fa n) T k) n, pwF (pwF mi2 mi n) (plM (pwF sw2 sw n) (pwF st2 st n) b r (pwF sc2 sc n) (pwF fi2 fi n) (pwF mi2 mi n) (pwF fa2 fa n) T k) n, lf2, hi2) ?_ rfl dX2_leaderIn_39 (by omega) (by omega)
  refine ldF_cong (fun g hg => ?_)
  simp only [pwF_lt hg, plS]

set_option maxRecDepth 100000 in
set_option maxHeartbeats 4000000 in
theorem k_X2_wouldWin (l : Launch) (G : va_G) (cI cZ cJ : ClassId) (h : Nat) (ta : Nat → Nat) (sa : Nat → Nat) (ua : Nat → Nat) (T : Nat) (b : Nat → Int32) (r : Nat → Int32) (sw : Nat → Int32) (st : Nat → Int32) (fa : Nat → Int32) (sc : Nat → Int32) (fi : Nat → Int32) (mi : Nat → Int32) (lf : Nat → Bool) (hi : Nat → Bool) (n : Nat) (sw2 : Nat → Int32) (st2 : Nat → Int32) (fa2 : Nat → Int32) (sc2 : Nat → Int32) (fi2 : Nat → Int32) (mi2 : Nat → Int32) (lf2 : Nat → Bool) (hi2 : Nat → Bool) (n2 : Nat) (hn : n ≤ 6) (hT : T < 2 ^ 29) (hn0 : 0 < n) : MI ((Nat → Int32) × (Nat → Int32) × (Nat → Int32) × (Nat → Int32) × (Nat → Int32) × (Nat → Int32) × (Nat → Bool) × (Nat → Bool)) l yX2_wouldWin cX2_wouldWin 1 3 68 G (tY cI cZ cJ) [.ref h] ((wH h ta sa ua T) ++ (wT ta cI b r) ++ (wS sa cI cZ sw st fa sc fi mi lf hi n) ++ (wS ua cI cZ sw2 st2 fa2 sc2 fi2 mi2 lf2 hi2 n2)) (fun zr _ => zr = wwF sw st sc fa n) (fun zu => (wH h ta sa ua T) ++ (wT ta cI b r) ++ (wS sa cI cZ sw st fa sc fi mi lf hi n) ++ (wS ua cI cZ zu.1 zu.2.1 zu.2.2.1 zu.2.2.2.1 zu.2.2.2.2.1 zu.2.2.2.2.2.1 zu.2.2.2.2.2.2.1 zu.2.2.2.2.2.2.2 n)) 0 0 := by
  refine MI_of (by decide) (Nat.le_of_ble_eq_true rfl) [(0, .ref h)] rfl ?_
  intro p e s m below meth c hC hr hlocks hname
  have hC : Cx p s m _ c cX2_wouldWin 1 RX2 G (tY cI cZ cJ) _ := hC
  refine z_aload_n (n := 1) hC dX2_wouldWin_0 rfl 0 rfl rfl ?_
  refine gf_X2_23 (v := .ref (ua 0)) (n := 4) hC 0 rfl rfl dX2_wouldWin_1 rfl ?_
  refine z_aload_n (n := 5) hC dX2_wouldWin_4 rfl 0 rfl rfl ?_
  refine gf_X2_19 (v := .ref (sa 0)) (n := 8) hC 0 rfl rfl dX2_wouldWin_5 rfl ?_
  refine z_callv (R := { frames := 3, cells := 0, slots := 0, locals := 68 }) (cells := 0) (slots := 0) (ws := (wH h ta sa ua T) ++ (wT ta cI b r) ++ (wS sa cI cZ sw st fa sc fi mi lf hi n) ++ (wS ua cI cZ sw2 st2 fa2 sc2 fi2 mi2 lf2 hi2 n2)) (n := 11) (As := [.ref (sa 0)]) (rest := []) hC (k_X0_takeOver l G cI cZ cJ ua sw2 st2 fa2 sc2 fi2 mi2 lf2 hi2 n2 sa sw st fa sc fi mi lf hi n (by omega)) kg_X2_127 kd_yX0_takeOver dX2_wouldWin_8 ⟨Nat.le_of_ble_eq_true rfl, Nat.le_of_ble_eq_true rfl⟩ 0 rfl rfl rfl [13, 14, 15, 16, 17, 18, 19, 20, 21, 4, 5, 6, 7, 8, 9, 10, 11, 12] rfl (by decide) rfl (Nat.le_of_ble_eq_true rfl) ⟨Nat.le_of_ble_eq_true rfl, Nat.le_of_ble_eq_true rfl⟩ (ws2 := fun u1 => (wH h ta sa ua T) ++ (wT ta cI b r) ++ (wS sa cI cZ sw st fa sc fi mi lf hi n) ++ (wS ua cI cZ (pwF sw2 sw n) (pwF st2 st n) (pwF fa2 fa n) (pwF sc2 sc n) (pwF fi2 fi n) (pwF mi2 mi n) lf2 hi2 n)) [0, 1, 2, 3] (fun _ => rfl) ((wH h ta sa ua T) ++ (wT ta cI b r)) (fun _ => rfl) rfl (fun _ => rfl) [ua 0, ua 1, ua 2, ua 3, ua 4, ua 5, ua 6, ua 7, ua 8, sa 0, sa 1, sa 2, sa 3, sa 4, sa 5, sa 6, sa 7, sa 8] (fun _ => rfl) rfl rfl rfl (fun u1 h3 => ?_)
  refine z_aload_n (n := 12) hC dX2_wouldWin_11 rfl 0 rfl rfl ?_
  refine gf_X2_23 (v := .ref (ua 0)) (n := 15) hC 0 rfl rfl dX2_wouldWin_12 rfl ?_
  refine z_calli (R := { frames := 3, cells := 0, slots := 0, locals := 68 }) (cells := 0) (slots := 0) (ws := (wH h ta sa ua T) ++ (wT ta cI b r) ++ (wS sa cI cZ sw st fa sc fi mi lf hi n) ++ (wS ua cI cZ (pwF sw2 sw n) (pwF st2 st n) (pwF fa2 fa n) (pwF sc2 sc n) (pwF fi2 fi n) (pwF mi2 mi n) lf2 hi2 n)) (n := 18) (As := []) (rest := []) hC (k_X0_settleTie l G cI cZ cJ ua (pwF sw2 sw n) (pwF st2 st n) (pwF fa2 fa n) (pwF sc2 sc n) (pwF fi2 fi n) (pwF mi2 mi n) lf2 hi2 n (by omega) (by omega)) kg_X2_81 kd_yX0_settleTie dX2_wouldWin_15 ⟨Nat.le_of_ble_eq_true rfl, Nat.le_of_ble_eq_true rfl⟩ 0 rfl rfl rfl [13, 14, 15, 16, 17, 18, 19, 20, 21] rfl (by decide) rfl (Nat.le_of_ble_eq_true rfl) ⟨Nat.le_of_ble_eq_true rfl, Nat.le_of_ble_eq_true rfl⟩ (ws2 := fun u4 => (wH h ta sa ua T) ++ (wT ta cI b r) ++ (wS sa cI cZ sw st fa sc fi mi lf hi n) ++ (wS ua cI cZ (pwF sw2 sw n) (pwF st2 st n) (waF (pwF sw2 sw n) (pwF st2 st n) (pwF sc2 sc n) (pwF fa2 fa n) n) (upd (pwF sc2 sc n) (wnF (pwF sw2 sw n) (pwF st2 st n) (pwF sc2 sc n) (pwF fa2 fa n) n) ((pwF sc2 sc n) (wnF (pwF sw2 sw n) (pwF st2 st n) (pwF sc2 sc n) (pwF fa2 fa n) n) + nI 1)) (pwF fi2 fi n) (pwF mi2 mi n) u4.1 u4.2 n)) [0, 1, 2, 3, 4, 5, 6, 7, 8, 9, 10, 11, 12] (fun _ => rfl) ((wH h ta sa ua T) ++ (wT ta cI b r) ++ (wS sa cI cZ sw st fa sc fi mi lf hi n)) (fun _ => rfl) rfl (fun _ => rfl) [ua 0, ua 1, ua 2, ua 3, ua 4, ua 5, ua 6, ua 7, ua 8] (fun _ => rfl) rfl rfl rfl (fun r5 u4 h6 => ?_)
  subst h6
  refine z_iret hC hr hlocks (pwF sw2 sw n, pwF st2 st n, waF (pwF sw2 sw n) (pwF st2 st n) (pwF sc2 sc n) (pwF fa2 fa n) n, upd (pwF sc2 sc n) (wnF (pwF sw2 sw n) (pwF st2 st n) (pwF sc2 sc n) (pwF fa2 fa n) n) ((pwF sc2 sc n) (wnF (pwF sw2 sw n) (pwF st2 st n) (pwF sc2 sc n) (pwF fa2 fa n) n) + nI 1), pwF fi2 fi n, pwF mi2 mi n, u4.1, u4.2) ?_ rfl dX2_wouldWin_18 (by omega) (by omega)
  unfold wwF; rw [if_neg (by omega)]
  exact congrArg nI (wnF_cong (fun g hg => pwF_lt hg) (fun g hg => pwF_lt hg) (fun g hg => pwF_lt hg) (fun g hg => pwF_lt hg))

set_option maxRecDepth 100000 in
set_option maxHeartbeats 4000000 in
theorem k_X2_wouldWin_0 (l : Launch) (G : va_G) (cI cZ cJ : ClassId) (h : Nat) (ta : Nat → Nat) (sa : Nat → Nat) (ua : Nat → Nat) (T : Nat) (b : Nat → Int32) (r : Nat → Int32) (sw : Nat → Int32) (st : Nat → Int32) (fa : Nat → Int32) (sc : Nat → Int32) (fi : Nat → Int32) (mi : Nat → Int32) (lf : Nat → Bool) (hi : Nat → Bool) (n : Nat) (sw2 : Nat → Int32) (st2 : Nat → Int32) (fa2 : Nat → Int32) (sc2 : Nat → Int32) (fi2 : Nat → Int32) (mi2 : Nat → Int32) (lf2 : Nat → Bool) (hi2 : Nat → Bool) (n2 : Nat) (hn : n ≤ 6) (hT : T < 2 ^ 29) (hn0 : n = 0) : MI ((Nat → Int32) × (Nat → Int32) × (Nat → Int32) × (Nat → Int32) × (Nat → Int32) × (Nat → Int32) × (Nat → Bool) × (Nat → Bool)) l yX2_wouldWin cX2_wouldWin 1 2 44 G (tY cI cZ cJ) [.ref h] ((wH h ta sa ua T) ++ (wT ta cI b r) ++ (wS sa cI cZ sw st fa sc fi mi lf hi n) ++ (wS ua cI cZ sw2 st2 fa2 sc2 fi2 mi2 lf2 hi2 n2)) (fun zr _ => zr = wwF sw st sc fa n) (fun zu => (wH h ta sa ua T) ++ (wT ta cI b r) ++ (wS sa cI cZ sw st fa sc fi mi lf hi n) ++ (wS ua cI cZ zu.1 zu.2.1 zu.2.2.1 zu.2.2.2.1 zu.2.2.2.2.1 zu.2.2.2.2.2.1 zu.2.2.2.2.2.2.1 zu.2.2.2.2.2.2.2 n)) 0 0 := by
  refine MI_of (by decide) (Nat.le_of_ble_eq_true rfl) [(0, .ref h)] rfl ?_
  intro p e s m below meth c hC hr hlocks hname
  have hC : Cx p s m _ c cX2_wouldWin 1 RX2 G (tY cI cZ cJ) _ := hC
  refine z_aload_n (n := 1) hC dX2_wouldWin_0 rfl 0 rfl rfl ?_
  refine gf_X2_23 (v := .ref (ua 0)) (n := 4) hC 0 rfl rfl dX2_wouldWin_1 rfl ?_
  refine z_aload_n (n := 5) hC dX2_wouldWin_4 rfl 0 rfl rfl ?_
  refine gf_X2_19 (v := .ref (sa 0)) (n := 8) hC 0 rfl rfl dX2_wouldWin_5 rfl ?_
  refine z_callv (R := { frames := 2, cells := 0, slots := 0, locals := 44 }) (cells := 0) (slots := 0) (ws := (wH h ta sa ua T) ++ (wT ta cI b r) ++ (wS sa cI cZ sw st fa sc fi mi lf hi n) ++ (wS ua cI cZ sw2 st2 fa2 sc2 fi2 mi2 lf2 hi2 n2)) (n := 11) (As := [.ref (sa 0)]) (rest := []) hC (k_X0_takeOver l G cI cZ cJ ua sw2 st2 fa2 sc2 fi2 mi2 lf2 hi2 n2 sa sw st fa sc fi mi lf hi n (by omega)) kg_X2_127 kd_yX0_takeOver dX2_wouldWin_8 ⟨Nat.le_of_ble_eq_true rfl, Nat.le_of_ble_eq_true rfl⟩ 0 rfl rfl rfl [13, 14, 15, 16, 17, 18, 19, 20, 21, 4, 5, 6, 7, 8, 9, 10, 11, 12] rfl (by decide) rfl (Nat.le_of_ble_eq_true rfl) ⟨Nat.le_of_ble_eq_true rfl, Nat.le_of_ble_eq_true rfl⟩ (ws2 := fun u1 => (wH h ta sa ua T) ++ (wT ta cI b r) ++ (wS sa cI cZ sw st fa sc fi mi lf hi n) ++ (wS ua cI cZ (pwF sw2 sw n) (pwF st2 st n) (pwF fa2 fa n) (pwF sc2 sc n) (pwF fi2 fi n) (pwF mi2 mi n) lf2 hi2 n)) [0, 1, 2, 3] (fun _ => rfl) ((wH h ta sa ua T) ++ (wT ta cI b r)) (fun _ => rfl) rfl (fun _ => rfl) [ua 0, ua 1, ua 2, ua 3, ua 4, ua 5, ua 6, ua 7, ua 8, sa 0, sa 1, sa 2, sa 3, sa 4, sa 5, sa 6, sa 7, sa 8] (fun _ => rfl) rfl rfl rfl (fun u1 h3 => ?_)
  refine z_aload_n (n := 12) hC dX2_wouldWin_11 rfl 0 rfl rfl ?_
  refine gf_X2_23 (v := .ref (ua 0)) (n := 15) hC 0 rfl rfl dX2_wouldWin_12 rfl ?_
  refine z_calli (R := { frames := 2, cells := 0, slots := 0, locals := 44 }) (cells := 0) (slots := 0) (ws := (wH h ta sa ua T) ++ (wT ta cI b r) ++ (wS sa cI cZ sw st fa sc fi mi lf hi n) ++ (wS ua cI cZ (pwF sw2 sw n) (pwF st2 st n) (pwF fa2 fa n) (pwF sc2 sc n) (pwF fi2 fi n) (pwF mi2 mi n) lf2 hi2 n)) (n := 18) (As := []) (rest := []) hC (k_X0_settleTie_0 l G cI cZ cJ ua (pwF sw2 sw n) (pwF st2 st n) (pwF fa2 fa n) (pwF sc2 sc n) (pwF fi2 fi n) (pwF mi2 mi n) lf2 hi2 n (by omega)) kg_X2_81 kd_yX0_settleTie dX2_wouldWin_15 ⟨Nat.le_of_ble_eq_true rfl, Nat.le_of_ble_eq_true rfl⟩ 0 rfl rfl rfl [13, 14, 15, 16, 17, 18, 19, 20, 21] rfl (by decide) rfl (Nat.le_of_ble_eq_true rfl) ⟨Nat.le_of_ble_eq_true rfl, Nat.le_of_ble_eq_true rfl⟩ (ws2 := fun u4 => (wH h ta sa ua T) ++ (wT ta cI b r) ++ (wS sa cI cZ sw st fa sc fi mi lf hi n) ++ (wS ua cI cZ (pwF sw2 sw n) (pwF st2 st n) (pwF fa2 fa n) (pwF sc2 sc n) (pwF fi2 fi n) (pwF mi2 mi n) lf2 hi2 n)) [0, 1, 2, 3, 4, 5, 6, 7, 8, 9, 10, 11, 12] (fun _ => rfl) ((wH h ta sa ua T) ++ (wT ta cI b r) ++ (wS sa cI cZ sw st fa sc fi mi lf hi n)) (fun _ => rfl) rfl (fun _ => rfl) [ua 0, ua 1, ua 2, ua 3, ua 4, ua 5, ua 6, ua 7, ua 8] (fun _ => rfl) rfl rfl rfl (fun r5 u4 h6 => ?_)
  subst h6
  refine z_iret hC hr hlocks (pwF sw2 sw n, pwF st2 st n, pwF fa2 fa n, pwF sc2 sc n, pwF fi2 fi n, pwF mi2 mi n, lf2, hi2) ?_ rfl dX2_wouldWin_18 (by omega) (by omega)
  unfold wwF; rw [if_pos hn0]

set_option maxRecDepth 100000 in
set_option maxHeartbeats 4000000 in
theorem k_X2_scoreWithRest (l : Launch) (G : va_G) (cI cZ cJ : ClassId) (h : Nat) (ta : Nat → Nat) (sa : Nat → Nat) (ua : Nat → Nat) (T : Nat) (b : Nat → Int32) (r : Nat → Int32) (sw : Nat → Int32) (st : Nat → Int32) (fa : Nat → Int32) (sc : Nat → Int32) (fi : Nat → Int32) (mi : Nat → Int32) (lf : Nat → Bool) (hi : Nat → Bool) (n : Nat) (sw2 : Nat → Int32) (st2 : Nat → Int32) (fa2 : Nat → Int32) (sc2 : Nat → Int32) (fi2 : Nat → Int32) (mi2 : Nat → Int32) (lf2 : Nat → Bool) (hi2 : Nat → Bool) (n2 : Nat) (g : Nat) (j : Nat) (hn : n ≤ 6) (hT : T < 2 ^ 29) (hg : g < n) (hj : j ≤ 20) : MI ((Nat → Int32) × (Nat → Int32) × (Nat → Int32) × (Nat → Int32) × (Nat → Int32) × (Nat → Int32) × (Nat → Bool) × (Nat → Bool)) l yX2_scoreWithRest cX2_scoreWithRest 3 5 113 G (tY cI cZ cJ) [.ref h, .int (nI g), .int (nI j)] ((wH h ta sa ua T) ++ (wT ta cI b r) ++ (wS sa cI cZ sw st fa sc fi mi lf hi n) ++ (wS ua cI cZ sw2 st2 fa2 sc2 fi2 mi2 lf2 hi2 n2)) (fun zr _ => zr = reF sw st b r sc fi mi fa T g j) (fun zu => (wH h ta sa ua T) ++ (wT ta cI b r) ++ (wS sa cI cZ sw st fa sc fi mi lf hi n) ++ (wS ua cI cZ zu.1 zu.2.1 zu.2.2.1 zu.2.2.2.1 zu.2.2.2.2.1 zu.2.2.2.2.2.1 zu.2.2.2.2.2.2.1 zu.2.2.2.2.2.2.2 n)) 0 0 := by
  refine MI_of (by decide) (Nat.le_of_ble_eq_true rfl) [(0, .ref h), (1, .int (nI g)), (2, .int (nI j))] rfl ?_
  intro p e s m below meth c hC hr hlocks hname
  have hC : Cx p s m _ c cX2_scoreWithRest 3 RX2 G (tY cI cZ cJ) _ := hC
  refine z_aload_n (n := 1) hC dX2_scoreWithRest_0 rfl 0 rfl rfl ?_
  refine gf_X2_23 (v := .ref (ua 0)) (n := 4) hC 0 rfl rfl dX2_scoreWithRest_1 rfl ?_
  refine z_aload_n (n := 5) hC dX2_scoreWithRest_4 rfl 0 rfl rfl ?_
  refine gf_X2_19 (v := .ref (sa 0)) (n := 8) hC 0 rfl rfl dX2_scoreWithRest_5 rfl ?_
  refine z_callv (R := { frames := 5, cells := 0, slots := 0, locals := 113 }) (cells := 0) (slots := 0) (ws := (wH h ta sa ua T) ++ (wT ta cI b r) ++ (wS sa cI cZ sw st fa sc fi mi lf hi n) ++ (wS ua cI cZ sw2 st2 fa2 sc2 fi2 mi2 lf2 hi2 n2)) (n := 11) (As := [.ref (sa 0)]) (rest := []) hC (k_X0_takeOver l G cI cZ cJ ua sw2 st2 fa2 sc2 fi2 mi2 lf2 hi2 n2 sa sw st fa sc fi mi lf hi n (by omega)) kg_X2_127 kd_yX0_takeOver dX2_scoreWithRest_8 ⟨Nat.le_of_ble_eq_true rfl, Nat.le_of_ble_eq_true rfl⟩ 0 rfl rfl rfl [13, 14, 15, 16, 17, 18, 19, 20, 21, 4, 5, 6, 7, 8, 9, 10, 11, 12] rfl (by decide) rfl (Nat.le_of_ble_eq_true rfl) ⟨Nat.le_of_ble_eq_true rfl, Nat.le_of_ble_eq_true rfl⟩ (ws2 := fun u1 => (wH h ta sa ua T) ++ (wT ta cI b r) ++ (wS sa cI cZ sw st fa sc fi mi lf hi n) ++ (wS ua cI cZ (pwF sw2 sw n) (pwF st2 st n) (pwF fa2 fa n) (pwF sc2 sc n) (pwF fi2 fi n) (pwF mi2 mi n) lf2 hi2 n)) [0, 1, 2, 3] (fun _ => rfl) ((wH h ta sa ua T) ++ (wT ta cI b r)) (fun _ => rfl) rfl (fun _ => rfl) [ua 0, ua 1, ua 2, ua 3, ua 4, ua 5, ua 6, ua 7, ua 8, sa 0, sa 1, sa 2, sa 3, sa 4, sa 5, sa 6, sa 7, sa 8] (fun _ => rfl) rfl rfl rfl (fun u1 h3 => ?_)
  refine z_aload_n (n := 12) hC dX2_scoreWithRest_11 rfl 0 rfl rfl ?_
  refine gf_X2_23 (v := .ref (ua 0)) (n := 15) hC 0 rfl rfl dX2_scoreWithRest_12 rfl ?_
  refine z_aload_n (n := 16) hC dX2_scoreWithRest_15 rfl 0 rfl rfl ?_
  refine gf_X2_10 (v := .ref (ta 0)) (n := 19) hC 0 rfl rfl dX2_scoreWithRest_16 rfl ?_
  refine z_iload_n (n := 20) hC dX2_scoreWithRest_19 rfl 1 rfl rfl ?_
  refine z_aload_n (n := 21) hC dX2_scoreWithRest_20 rfl 0 rfl rfl ?_
  refine gf_X2_72 (v := .int (nI T)) (n := 24) hC 0 rfl rfl dX2_scoreWithRest_21 rfl ?_
  refine z_iload_n (n := 25) hC dX2_scoreWithRest_24 rfl 2 rfl rfl ?_
  refine z_callv (R := { frames := 5, cells := 0, slots := 0, locals := 113 }) (cells := 0) (slots := 0) (ws := (wH h ta sa ua T) ++ (wT ta cI b r) ++ (wS sa cI cZ sw st fa sc fi mi lf hi n) ++ (wS ua cI cZ (pwF sw2 sw n) (pwF st2 st n) (pwF fa2 fa n) (pwF sc2 sc n) (pwF fi2 fi n) (pwF mi2 mi n) lf2 hi2 n)) (n := 28) (As := [.ref (ta 0), .int (nI g), .int (nI T), .int (nI j)]) (rest := []) hC (k_X0_playAlone l G cI cZ cJ ua (pwF sw2 sw n) (pwF st2 st n) (pwF fa2 fa n) (pwF sc2 sc n) (pwF fi2 fi n) (pwF mi2 mi n) lf2 hi2 n ta b r g T j (by omega) (by omega)) kg_X2_131 kd_yX0_playAlone dX2_scoreWithRest_25 ⟨Nat.le_of_ble_eq_true rfl, Nat.le_of_ble_eq_true rfl⟩ 0 rfl rfl rfl [13, 14, 15, 16, 17, 18, 19, 20, 21, 1, 2, 3] rfl (by decide) rfl (Nat.le_of_ble_eq_true rfl) ⟨Nat.le_of_ble_eq_true rfl, Nat.le_of_ble_eq_true rfl⟩ (ws2 := fun u4 => (wH h ta sa ua T) ++ (wT ta cI b r) ++ (wS sa cI cZ sw st fa sc fi mi lf hi n) ++ (wS ua cI cZ (pwF sw2 sw n) (pwF st2 st n) (upd (pwF fa2 fa n) g (ruQ ((pwF sw2 sw n) g) ((pwF st2 st n) g) b r T g ((pwF sc2 sc n) g, (pwF fi2 fi n) g, (pwF mi2 mi n) g, (pwF fa2 fa n) g) j).2.2.2) (upd (pwF sc2 sc n) g (ruQ ((pwF sw2 sw n) g) ((pwF st2 st n) g) b r T g ((pwF sc2 sc n) g, (pwF fi2 fi n) g, (pwF mi2 mi n) g, (pwF fa2 fa n) g) j).1) (upd (pwF fi2 fi n) g (ruQ ((pwF sw2 sw n) g) ((pwF st2 st n) g) b r T g ((pwF sc2 sc n) g, (pwF fi2 fi n) g, (pwF mi2 mi n) g, (pwF fa2 fa n) g) j).2.1) (upd (pwF mi2 mi n) g (ruQ ((pwF sw2 sw n) g) ((pwF st2 st n) g) b r T g ((pwF sc2 sc n) g, (pwF fi2 fi n) g, (pwF mi2 mi n) g, (pwF fa2 fa n) g) j).2.2.1) lf2 hi2 n)) [0, 4, 5, 6, 7, 8, 9, 10, 11, 12] (fun _ => rfl) ((wH h ta sa ua T) ++ (wS sa cI cZ sw st fa sc fi mi lf hi n)) (fun _ => rfl) rfl (fun _ => rfl) [ua 0, ua 1, ua 2, ua 3, ua 4, ua 5, ua 6, ua 7, ua 8, ta 0, ta 1, ta 2] (fun _ => rfl) rfl rfl rfl (fun u4 h6 => ?_)
  refine z_aload_n (n := 29) hC dX2_scoreWithRest_28 rfl 0 rfl rfl ?_
  refine gf_X2_23 (v := .ref (ua 0)) (n := 32) hC 0 rfl rfl dX2_scoreWithRest_29 rfl ?_
  refine gf_X2_66 (v := .ref (ua 3)) (n := 35) hC 13 rfl rfl dX2_scoreWithRest_32 rfl ?_
  refine z_iload_n (n := 36) hC dX2_scoreWithRest_35 rfl 1 rfl rfl ?_
  refine z_iconst (v := nI 0) (n := 37) hC dX2_scoreWithRest_36 (by decide) rfl ?_
  refine z_iast (ws' := (wH h ta sa ua T) ++ (wT ta cI b r) ++ (wS sa cI cZ sw st fa sc fi mi lf hi n) ++ (wS ua cI cZ (pwF sw2 sw n) (pwF st2 st n) (upd (pwF fa2 fa n) g (nI 0)) (upd (pwF sc2 sc n) g (ruQ ((pwF sw2 sw n) g) ((pwF st2 st n) g) b r T g ((pwF sc2 sc n) g, (pwF fi2 fi n) g, (pwF mi2 mi n) g, (pwF fa2 fa n) g) j).1) (upd (pwF fi2 fi n) g (ruQ ((pwF sw2 sw n) g) ((pwF st2 st n) g) b r T g ((pwF sc2 sc n) g, (pwF fi2 fi n) g, (pwF mi2 mi n) g, (pwF fa2 fa n) g) j).2.1) (upd (pwF mi2 mi n) g (ruQ ((pwF sw2 sw n) g) ((pwF st2 st n) g) b r T g ((pwF sc2 sc n) g, (pwF fi2 fi n) g, (pwF mi2 mi n) g, (pwF fa2 fa n) g) j).2.2.1) lf2 hi2 n)) (n := 38) hC 16 0 g rfl rfl rfl (by omega) (by decide) dX2_scoreWithRest_37 upd_upd rfl rfl ?_
  refine z_aload_n (n := 39) hC dX2_scoreWithRest_38 rfl 0 rfl rfl ?_
  refine gf_X2_23 (v := .ref (ua 0)) (n := 42) hC 0 rfl rfl dX2_scoreWithRest_39 rfl ?_
  refine z_aload_n (n := 43) hC dX2_scoreWithRest_42 rfl 0 rfl rfl ?_
  refine gf_X2_10 (v := .ref (ta 0)) (n := 46) hC 0 rfl rfl dX2_scoreWithRest_43 rfl ?_
  refine z_iload_n (n := 47) hC dX2_scoreWithRest_46 rfl 1 rfl rfl ?_
  refine z_aload_n (n := 48) hC dX2_scoreWithRest_47 rfl 0 rfl rfl ?_
  refine gf_X2_72 (v := .int (nI T)) (n := 51) hC 0 rfl rfl dX2_scoreWithRest_48 rfl ?_
  refine z_iload_n (n := 52) hC dX2_scoreWithRest_51 rfl 2 rfl rfl ?_
  refine z_iadd (v := nI (T + j)) (n := 53) hC dX2_scoreWithRest_52 (nI_add T j) rfl ?_
  refine z_bipush (v := nI 25) (n := 55) hC dX2_scoreWithRest_53 (by decide) rfl ?_
  refine z_iload_n (n := 56) hC dX2_scoreWithRest_55 rfl 2 rfl rfl ?_
  refine z_isub (v := nI (25 - j)) (n := 57) hC dX2_scoreWithRest_56 (pk_sub (by omega)) rfl ?_
  refine z_callv (R := { frames := 5, cells := 0, slots := 0, locals := 113 }) (cells := 0) (slots := 0) (ws := (wH h ta sa ua T) ++ (wT ta cI b r) ++ (wS sa cI cZ sw st fa sc fi mi lf hi n) ++ (wS ua cI cZ (pwF sw2 sw n) (pwF st2 st n) (upd (pwF fa2 fa n) g (nI 0)) (upd (pwF sc2 sc n) g (ruQ ((pwF sw2 sw n) g) ((pwF st2 st n) g) b r T g ((pwF sc2 sc n) g, (pwF fi2 fi n) g, (pwF mi2 mi n) g, (pwF fa2 fa n) g) j).1) (upd (pwF fi2 fi n) g (ruQ ((pwF sw2 sw n) g) ((pwF st2 st n) g) b r T g ((pwF sc2 sc n) g, (pwF fi2 fi n) g, (pwF mi2 mi n) g, (pwF fa2 fa n) g) j).2.1) (upd (pwF mi2 mi n) g (ruQ ((pwF sw2 sw n) g) ((pwF st2 st n) g) b r T g ((pwF sc2 sc n) g, (pwF fi2 fi n) g, (pwF mi2 mi n) g, (pwF fa2 fa n) g) j).2.2.1) lf2 hi2 n)) (n := 60) (As := [.ref (ta 0), .int (nI g), .int (nI (T + j)), .int (nI (25 - j))]) (rest := []) hC (k_X0_playAlone l G cI cZ cJ ua (pwF sw2 sw n) (pwF st2 st n) (upd (pwF fa2 fa n) g (nI 0)) (upd (pwF sc2 sc n) g (ruQ ((pwF sw2 sw n) g) ((pwF st2 st n) g) b r T g ((pwF sc2 sc n) g, (pwF fi2 fi n) g, (pwF mi2 mi n) g, (pwF fa2 fa n) g) j).1) (upd (pwF fi2 fi n) g (ruQ ((pwF sw2 sw n) g) ((pwF st2 st n) g) b r T g ((pwF sc2 sc n) g, (pwF fi2 fi n) g, (pwF mi2 mi n) g, (pwF fa2 fa n) g) j).2.1) (upd (pwF mi2 mi n) g (ruQ ((pwF sw2 sw n) g) ((pwF st2 st n) g) b r T g ((pwF sc2 sc n) g, (pwF fi2 fi n) g, (pwF mi2 mi n) g, (pwF fa2 fa n) g) j).2.2.1) lf2 hi2 n ta b r g (T + j) (25 - j) (by omega) (by omega)) kg_X2_131 kd_yX0_playAlone dX2_scoreWithRest_57 ⟨Nat.le_of_ble_eq_true rfl, Nat.le_of_ble_eq_true rfl⟩ 0 rfl rfl rfl [13, 14, 15, 16, 17, 18, 19, 20, 21, 1, 2, 3] rfl (by decide) rfl (Nat.le_of_ble_eq_true rfl) ⟨Nat.le_of_ble_eq_true rfl, Nat.le_of_ble_eq_true rfl⟩ (ws2 := fun u7 => (wH h ta sa ua T) ++ (wT ta cI b r) ++ (wS sa cI cZ sw st fa sc fi mi lf hi n) ++ (wS ua cI cZ (pwF sw2 sw n) (pwF st2 st n) (upd (upd (pwF fa2 fa n) g (nI 0)) g (ruQ ((pwF sw2 sw n) g) ((pwF st2 st n) g) b r (T + j) g ((upd (pwF sc2 sc n) g (ruQ ((pwF sw2 sw n) g) ((pwF st2 st n) g) b r T g ((pwF sc2 sc n) g, (pwF fi2 fi n) g, (pwF mi2 mi n) g, (pwF fa2 fa n) g) j).1) g, (upd (pwF fi2 fi n) g (ruQ ((pwF sw2 sw n) g) ((pwF st2 st n) g) b r T g ((pwF sc2 sc n) g, (pwF fi2 fi n) g, (pwF mi2 mi n) g, (pwF fa2 fa n) g) j).2.1) g, (upd (pwF mi2 mi n) g (ruQ ((pwF sw2 sw n) g) ((pwF st2 st n) g) b r T g ((pwF sc2 sc n) g, (pwF fi2 fi n) g, (pwF mi2 mi n) g, (pwF fa2 fa n) g) j).2.2.1) g, (upd (pwF fa2 fa n) g (nI 0)) g) (25 - j)).2.2.2) (upd (upd (pwF sc2 sc n) g (ruQ ((pwF sw2 sw n) g) ((pwF st2 st n) g) b r T g ((pwF sc2 sc n) g, (pwF fi2 fi n) g, (pwF mi2 mi n) g, (pwF fa2 fa n) g) j).1) g (ruQ ((pwF sw2 sw n) g) ((pwF st2 st n) g) b r (T + j) g ((upd (pwF sc2 sc n) g (ruQ ((pwF sw2 sw n) g) ((pwF st2 st n) g) b r T g ((pwF sc2 sc n) g, (pwF fi2 fi n) g, (pwF mi2 mi n) g, (pwF fa2 fa n) g) j).1) g, (upd (pwF fi2 fi n) g (ruQ ((pwF sw2 sw n) g) ((pwF st2 st n) g) b r T g ((pwF sc2 sc n) g, (pwF fi2 fi n) g, (pwF mi2 mi n) g, (pwF fa2 fa n) g) j).2.1) g, (upd (pwF mi2 mi n) g (ruQ ((pwF sw2 sw n) g) ((pwF st2 st n) g) b r T g ((pwF sc2 sc n) g, (pwF fi2 fi n) g, (pwF mi2 mi n) g, (pwF fa2 fa n) g) j).2.2.1) g, (upd (pwF fa2 fa n) g (nI 0)) g) (25 - j)).1) (upd (upd (pwF fi2 fi n) g (ruQ ((pwF sw2 sw n) g) ((pwF st2 st n) g) b r T g ((pwF sc2 sc n) g, (pwF fi2 fi n) g, (pwF mi2 mi n) g, (pwF fa2 fa n) g) j).2.1) g (ruQ ((pwF sw2 sw n) g) ((pwF st2 st n) g) b r (T + j) g ((upd (pwF sc2 sc n) g (ruQ ((pwF sw2 sw n) g) ((pwF st2 st n) g) b r T g ((pwF sc2 sc n) g, (pwF fi2 fi n) g, (pwF mi2 mi n) g, (pwF fa2 fa n) g) j).1) g, (upd (pwF fi2 fi n) g (ruQ ((pwF sw2 sw n) g) ((pwF st2 st n) g) b r T g ((pwF sc2 sc n) g, (pwF fi2 fi n) g, (pwF mi2 mi n) g, (pwF fa2 fa n) g) j).2.1) g, (upd (pwF mi2 mi n) g (ruQ ((pwF sw2 sw n) g) ((pwF st2 st n) g) b r T g ((pwF sc2 sc n) g, (pwF fi2 fi n) g, (pwF mi2 mi n) g, (pwF fa2 fa n) g) j).2.2.1) g, (upd (pwF fa2 fa n) g (nI 0)) g) (25 - j)).2.1) (upd (upd (pwF mi2 mi n) g (ruQ ((pwF sw2 sw n) g) ((pwF st2 st n) g) b r T g ((pwF sc2 sc n) g, (pwF fi2 fi n) g, (pwF mi2 mi n) g, (pwF fa2 fa n) g) j).2.2.1) g (ruQ ((pwF sw2 sw n) g) ((pwF st2 st n) g) b r (T + j) g ((upd (pwF sc2 sc n) g (ruQ ((pwF sw2 sw n) g) ((pwF st2 st n) g) b r T g ((pwF sc2 sc n) g, (pwF fi2 fi n) g, (pwF mi2 mi n) g, (pwF fa2 fa n) g) j).1) g, (upd (pwF fi2 fi n) g (ruQ ((pwF sw2 sw n) g) ((pwF st2 st n) g) b r T g ((pwF sc2 sc n) g, (pwF fi2 fi n) g, (pwF mi2 mi n) g, (pwF fa2 fa n) g) j).2.1) g, (upd (pwF mi2 mi n) g (ruQ ((pwF sw2 sw n) g) ((pwF st2 st n) g) b r T g ((pwF sc2 sc n) g, (pwF fi2 fi n) g, (pwF mi2 mi n) g, (pwF fa2 fa n) g) j).2.2.1) g, (upd (pwF fa2 fa n) g (nI 0)) g) (25 - j)).2.2.1) lf2 hi2 n)) [0, 4, 5, 6, 7, 8, 9, 10, 11, 12] (fun _ => rfl) ((wH h ta sa ua T) ++ (wS sa cI cZ sw st fa sc fi mi lf hi n)) (fun _ => rfl) rfl (fun _ => rfl) [ua 0, ua 1, ua 2, ua 3, ua 4, ua 5, ua 6, ua 7, ua 8, ta 0, ta 1, ta 2] (fun _ => rfl) rfl rfl rfl (fun u7 h9 => ?_)
  refine z_aload_n (n := 61) hC dX2_scoreWithRest_60 rfl 0 rfl rfl ?_
  refine gf_X2_23 (v := .ref (ua 0)) (n := 64) hC 0 rfl rfl dX2_scoreWithRest_61 rfl ?_
  refine gf_X2_103 (v := .ref (ua 4)) (n := 67) hC 13 rfl rfl dX2_scoreWithRest_64 rfl ?_
  refine z_iload_n (n := 68) hC dX2_scoreWithRest_67 rfl 1 rfl rfl ?_
  refine z_iald (v := (ruQ ((pwF sw2 sw n) g) ((pwF st2 st n) g) b r (T + j) g ((upd (pwF sc2 sc n) g (ruQ ((pwF sw2 sw n) g) ((pwF st2 st n) g) b r T g ((pwF sc2 sc n) g, (pwF fi2 fi n) g, (pwF mi2 mi n) g, (pwF fa2 fa n) g) j).1) g, (upd (pwF fi2 fi n) g (ruQ ((pwF sw2 sw n) g) ((pwF st2 st n) g) b r T g ((pwF sc2 sc n) g, (pwF fi2 fi n) g, (pwF mi2 mi n) g, (pwF fa2 fa n) g) j).2.1) g, (upd (pwF mi2 mi n) g (ruQ ((pwF sw2 sw n) g) ((pwF st2 st n) g) b r T g ((pwF sc2 sc n) g, (pwF fi2 fi n) g, (pwF mi2 mi n) g, (pwF fa2 fa n) g) j).2.2.1) g, (upd (pwF fa2 fa n) g (nI 0)) g) (25 - j)).1) (n := 69) hC 17 0 g rfl rfl rfl (by omega) (by decide) dX2_scoreWithRest_68 pk_us rfl ?_
  refine z_iret hC hr hlocks (pwF sw2 sw n, pwF st2 st n, upd (upd (pwF fa2 fa n) g (nI 0)) g (ruQ ((pwF sw2 sw n) g) ((pwF st2 st n) g) b r (T + j) g ((upd (pwF sc2 sc n) g (ruQ ((pwF sw2 sw n) g) ((pwF st2 st n) g) b r T g ((pwF sc2 sc n) g, (pwF fi2 fi n) g, (pwF mi2 mi n) g, (pwF fa2 fa n) g) j).1) g, (upd (pwF fi2 fi n) g (ruQ ((pwF sw2 sw n) g) ((pwF st2 st n) g) b r T g ((pwF sc2 sc n) g, (pwF fi2 fi n) g, (pwF mi2 mi n) g, (pwF fa2 fa n) g) j).2.1) g, (upd (pwF mi2 mi n) g (ruQ ((pwF sw2 sw n) g) ((pwF st2 st n) g) b r T g ((pwF sc2 sc n) g, (pwF fi2 fi n) g, (pwF mi2 mi n) g, (pwF fa2 fa n) g) j).2.2.1) g, (upd (pwF fa2 fa n) g (nI 0)) g) (25 - j)).2.2.2, upd (upd (pwF sc2 sc n) g (ruQ ((pwF sw2 sw n) g) ((pwF st2 st n) g) b r T g ((pwF sc2 sc n) g, (pwF fi2 fi n) g, (pwF mi2 mi n) g, (pwF fa2 fa n) g) j).1) g (ruQ ((pwF sw2 sw n) g) ((pwF st2 st n) g) b r (T + j) g ((upd (pwF sc2 sc n) g (ruQ ((pwF sw2 sw n) g) ((pwF st2 st n) g) b r T g ((pwF sc2 sc n) g, (pwF fi2 fi n) g, (pwF mi2 mi n) g, (pwF fa2 fa n) g) j).1) g, (upd (pwF fi2 fi n) g (ruQ ((pwF sw2 sw n) g) ((pwF st2 st n) g) b r T g ((pwF sc2 sc n) g, (pwF fi2 fi n) g, (pwF mi2 mi n) g, (pwF fa2 fa n) g) j).2.1) g, (upd (pwF mi2 mi n) g (ruQ ((pwF sw2 sw n) g) ((pwF st2 st n) g) b r T g ((pwF sc2 sc n) g, (pwF fi2 fi n) g, (pwF mi2 mi n) g, (pwF fa2 fa n) g) j).2.2.1) g, (upd (pwF fa2 fa n) g (nI 0)) g) (25 - j)).1, upd (upd (pwF fi2 fi n) g (ruQ ((pwF sw2 sw n) g) ((pwF st2 st n) g) b r T g ((pwF sc2 sc n) g, (pwF fi2 fi n) g, (pwF mi2 mi n) g, (pwF fa2 fa n) g) j).2.1) g (ruQ ((pwF sw2 sw n) g) ((pwF st2 st n) g) b r (T + j) g ((upd (pwF sc2 sc n) g (ruQ ((pwF sw2 sw n) g) ((pwF st2 st n) g) b r T g ((pwF sc2 sc n) g, (pwF fi2 fi n) g, (pwF mi2 mi n) g, (pwF fa2 fa n) g) j).1) g, (upd (pwF fi2 fi n) g (ruQ ((pwF sw2 sw n) g) ((pwF st2 st n) g) b r T g ((pwF sc2 sc n) g, (pwF fi2 fi n) g, (pwF mi2 mi n) g, (pwF fa2 fa n) g) j).2.1) g, (upd (pwF mi2 mi n) g (ruQ ((pwF sw2 sw n) g) ((pwF st2 st n) g) b r T g ((pwF sc2 sc n) g, (pwF fi2 fi n) g, (pwF mi2 mi n) g, (pwF fa2 fa n) g) j).2.2.1) g, (upd (pwF fa2 fa n) g (nI 0)) g) (25 - j)).2.1, upd (upd (pwF mi2 mi n) g (ruQ ((pwF sw2 sw n) g) ((pwF st2 st n) g) b r T g ((pwF sc2 sc n) g, (pwF fi2 fi n) g, (pwF mi2 mi n) g, (pwF fa2 fa n) g) j).2.2.1) g (ruQ ((pwF sw2 sw n) g) ((pwF st2 st n) g) b r (T + j) g ((upd (pwF sc2 sc n) g (ruQ ((pwF sw2 sw n) g) ((pwF st2 st n) g) b r T g ((pwF sc2 sc n) g, (pwF fi2 fi n) g, (pwF mi2 mi n) g, (pwF fa2 fa n) g) j).1) g, (upd (pwF fi2 fi n) g (ruQ ((pwF sw2 sw n) g) ((pwF st2 st n) g) b r T g ((pwF sc2 sc n) g, (pwF fi2 fi n) g, (pwF mi2 mi n) g, (pwF fa2 fa n) g) j).2.1) g, (upd (pwF mi2 mi n) g (ruQ ((pwF sw2 sw n) g) ((pwF st2 st n) g) b r T g ((pwF sc2 sc n) g, (pwF fi2 fi n) g, (pwF mi2 mi n) g, (pwF fa2 fa n) g) j).2.2.1) g, (upd (pwF fa2 fa n) g (nI 0)) g) (25 - j)).2.2.1, lf2, hi2) ?_ rfl dX2_scoreWithRest_69 (by omega) (by omega)
  simp only [pwF_lt hg, pk_us]; rfl

set_option maxRecDepth 100000 in
set_option maxHeartbeats 4000000 in
theorem k_X2_bestRest (l : Launch) (G : va_G) (cI cZ cJ : ClassId) (h : Nat) (ta : Nat → Nat) (sa : Nat → Nat) (ua : Nat → Nat) (T : Nat) (b : Nat → Int32) (r : Nat → Int32) (sw : Nat → Int32) (st : Nat → Int32) (fa : Nat → Int32) (sc : Nat → Int32) (fi : Nat → Int32) (mi : Nat → Int32) (lf : Nat → Bool) (hi : Nat → Bool) (n : Nat) (sw2 : Nat → Int32) (st2 : Nat → Int32) (fa2 : Nat → Int32) (sc2 : Nat → Int32) (fi2 : Nat → Int32) (mi2 : Nat → Int32) (lf2 : Nat → Bool) (hi2 : Nat → Bool) (n2 : Nat) (g : Nat) (hn : n ≤ 6) (hT : T < 2 ^ 29) (hg : g < n) : MI ((Nat → Int32) × (Nat → Int32) × (Nat → Int32) × (Nat → Int32) × (Nat → Int32) × (Nat → Int32) × (Nat → Bool) × (Nat → Bool)) l yX2_bestRest cX2_bestRest 6 6 135 G (tY cI cZ cJ) [.ref h, .int (nI g)] ((wH h ta sa ua T) ++ (wT ta cI b r) ++ (wS sa cI cZ sw st fa sc fi mi lf hi n) ++ (wS ua cI cZ sw2 st2 fa2 sc2 fi2 mi2 lf2 hi2 n2)) (fun zr _ => zr = nI (brF (reF sw st b r sc fi mi fa T g) 20)) (fun zu => (wH h ta sa ua T) ++ (wT ta cI b r) ++ (wS sa cI cZ sw st fa sc fi mi lf hi n) ++ (wS ua cI cZ zu.1 zu.2.1 zu.2.2.1 zu.2.2.2.1 zu.2.2.2.2.1 zu.2.2.2.2.2.1 zu.2.2.2.2.2.2.1 zu.2.2.2.2.2.2.2 n)) 0 0 := by
  refine MI_of (by decide) (Nat.le_of_ble_eq_true rfl) [(0, .ref h), (1, .int (nI g))] rfl ?_
  intro p e s m below meth c hC hr hlocks hname
  have hC : Cx p s m _ c cX2_bestRest 6 RX2 G (tY cI cZ cJ) _ := hC
  refine z_aload_n (n := 1) hC dX2_bestRest_0 rfl 0 rfl rfl ?_
  refine z_iload_n (n := 2) hC dX2_bestRest_1 rfl 1 rfl rfl ?_
  refine z_callv (R := { frames := 6, cells := 0, slots := 0, locals := 135 }) (cells := 0) (slots := 0) (ws := (wH h ta sa ua T) ++ (wT ta cI b r) ++ (wS sa cI cZ sw st fa sc fi mi lf hi n) ++ (wS ua cI cZ sw2 st2 fa2 sc2 fi2 mi2 lf2 hi2 n2)) (n := 5) (As := [.int (nI g)]) (rest := []) hC (k_X2_checkGun l G cI cZ cJ h ta sa ua T sw st fa sc fi mi lf hi n g (by omega) (by omega)) kg_X2_63 kd_yX2_checkGun dX2_bestRest_2 ⟨Nat.le_of_ble_eq_true rfl, Nat.le_of_ble_eq_true rfl⟩ 0 rfl rfl rfl [0, 4, 5, 6, 7, 8, 9, 10, 11, 12] rfl (by decide) rfl (Nat.le_of_ble_eq_true rfl) ⟨Nat.le_of_ble_eq_true rfl, Nat.le_of_ble_eq_true rfl⟩ (ws2 := fun u1 => (wH h ta sa ua T) ++ (wT ta cI b r) ++ (wS sa cI cZ sw st fa sc fi mi lf hi n) ++ (wS ua cI cZ sw2 st2 fa2 sc2 fi2 mi2 lf2 hi2 n2)) [1, 2, 3, 13, 14, 15, 16, 17, 18, 19, 20, 21] (fun _ => rfl) ((wT ta cI b r) ++ (wS ua cI cZ sw2 st2 fa2 sc2 fi2 mi2 lf2 hi2 n2)) (fun _ => rfl) rfl (fun _ => rfl) [h, sa 0, sa 1, sa 2, sa 3, sa 4, sa 5, sa 6, sa 7, sa 8] (fun _ => rfl) rfl rfl rfl (fun u1 h3 => ?_)
  refine z_iconst (v := nI 0) (n := 6) hC dX2_bestRest_5 (by decide) rfl ?_
  refine z_istore_n (lv' := [(2, .int (nI 0)), (0, .ref h), (1, .int (nI g))]) (n := 7) hC dX2_bestRest_6 rfl (by decide) rfl rfl ?_
  refine z_aload_n (n := 8) hC dX2_bestRest_7 rfl 1 rfl rfl ?_
  refine z_iload_n (n := 9) hC dX2_bestRest_8 rfl 2 rfl rfl ?_
  refine z_iconst (v := nI 0) (n := 10) hC dX2_bestRest_9 (by decide) rfl ?_
  refine z_calli (R := { frames := 6, cells := 0, slots := 0, locals := 135 }) (cells := 0) (slots := 0) (ws := (wH h ta sa ua T) ++ (wT ta cI b r) ++ (wS sa cI cZ sw st fa sc fi mi lf hi n) ++ (wS ua cI cZ sw2 st2 fa2 sc2 fi2 mi2 lf2 hi2 n2)) (n := 13) (As := [.int (nI g), .int (nI 0)]) (rest := []) hC (k_X2_scoreWithRest l G cI cZ cJ h ta sa ua T b r sw st fa sc fi mi lf hi n sw2 st2 fa2 sc2 fi2 mi2 lf2 hi2 n2 g 0 (by omega) (by omega) (by omega) (by omega)) kg_X2_138 kd_yX2_scoreWithRest dX2_bestRest_10 ⟨Nat.le_of_ble_eq_true rfl, Nat.le_of_ble_eq_true rfl⟩ 0 rfl rfl rfl [0, 1, 2, 3, 4, 5, 6, 7, 8, 9, 10, 11, 12, 13, 14, 15, 16, 17, 18, 19, 20, 21] rfl (by decide) rfl (Nat.le_of_ble_eq_true rfl) ⟨Nat.le_of_ble_eq_true rfl, Nat.le_of_ble_eq_true rfl⟩ (ws2 := fun u4 => (wH h ta sa ua T) ++ (wT ta cI b r) ++ (wS sa cI cZ sw st fa sc fi mi lf hi n) ++ (wS ua cI cZ u4.1 u4.2.1 u4.2.2.1 u4.2.2.2.1 u4.2.2.2.2.1 u4.2.2.2.2.2.1 u4.2.2.2.2.2.2.1 u4.2.2.2.2.2.2.2 n)) [] (fun _ => rfl) ([]) (fun _ => rfl) rfl (fun _ => rfl) [h, ta 0, ta 1, ta 2, sa 0, sa 1, sa 2, sa 3, sa 4, sa 5, sa 6, sa 7, sa 8, ua 0, ua 1, ua 2, ua 3, ua 4, ua 5, ua 6, ua 7, ua 8] (fun _ => rfl) rfl rfl rfl (fun r5 u4 h6 => ?_)
  subst h6
  refine z_istore_n (lv' := [(3, .int (reF sw st b r sc fi mi fa T g 0)), (2, .int (nI 0)), (0, .ref h), (1, .int (nI g))]) (n := 14) hC dX2_bestRest_13 rfl (by decide) rfl rfl ?_
  refine z_iconst (v := nI 1) (n := 15) hC dX2_bestRest_14 (by decide) rfl ?_
  refine z_istore (lv' := [(4, .int (nI 1)), (3, .int (reF sw st b r sc fi mi fa T g 0)), (2, .int (nI 0)), (0, .ref h), (1, .int (nI g))]) (n := 17) hC dX2_bestRest_15 (by decide) rfl rfl ?_
  refine z_lv [3, 4, 2, 1, 0] (lv' := [(0, .ref h), (1, .int (nI g)), (2, .int (nI 0)), (3, .int (reF sw st b r sc fi mi fa T g 0)), (4, .int (nI 1))]) rfl ?_
  refine z_loopS (σ := (Nat → Int32) × (Nat → Int32) × (Nat → Int32) × (Nat → Int32) × (Nat → Int32) × (Nat → Int32) × (Nat → Bool) × (Nat → Bool)) 20 0 (fun i u => True) (fun i u => (wH h ta sa ua T) ++ (wT ta cI b r) ++ (wS sa cI cZ sw st fa sc fi mi lf hi n) ++ (wS ua cI cZ u.1 u.2.1 u.2.2.1 u.2.2.2.1 u.2.2.2.2.1 u.2.2.2.2.2.1 u.2.2.2.2.2.2.1 u.2.2.2.2.2.2.2 n)) (fun i u => [(0, .ref h), (1, .int (nI g)), (2, .int (nI (brF (reF sw st b r sc fi mi fa T g) i))), (3, .int (reF sw st b r sc fi mi fa T g (brF (reF sw st b r sc fi mi fa T g) i))), (4, .int (nI (i + 1)))]) (fun _ => 0) (fun _ => 0) (u4.1, u4.2.1, u4.2.2.1, u4.2.2.2.1, u4.2.2.2.2.1, u4.2.2.2.2.2.1, u4.2.2.2.2.2.2.1, u4.2.2.2.2.2.2.2) (by omega) (trivial) rfl rfl (Nat.le_refl _) (Nat.le_refl _) (fun i u hi0 hi1 hu ih => ?_)
  refine z_iload (n := 19) hC dX2_bestRest_17 4 rfl rfl ?_
  refine z_bipush (v := nI 20) (n := 21) hC dX2_bestRest_19 (by decide) rfl ?_
  refine z_icmp_gt_n (tgt := 51) (n := 24) hC (i + 1) 20 rfl rfl (by omega) (by omega) dX2_bestRest_21 (by decide) rfl (fun c7 => ?_) (fun c7 => ?_)
  · obtain rfl : 20 = i := by omega
    refine z_iload_n (n := 52) hC dX2_bestRest_51 rfl 2 rfl rfl ?_
    refine z_iret hC hr hlocks (u.1, u.2.1, u.2.2.1, u.2.2.2.1, u.2.2.2.2.1, u.2.2.2.2.2.1, u.2.2.2.2.2.2.1, u.2.2.2.2.2.2.2) ?_ rfl dX2_bestRest_52 (by omega) (by omega)
    rfl
  · refine z_aload_n (n := 25) hC dX2_bestRest_24 rfl 0 rfl rfl ?_
    refine z_iload_n (n := 26) hC dX2_bestRest_25 rfl 1 rfl rfl ?_
    refine z_iload (n := 28) hC dX2_bestRest_26 4 rfl rfl ?_
    refine z_calli (R := { frames := 6, cells := 0, slots := 0, locals := 135 }) (cells := 0) (slots := 0) (ws := (wH h ta sa ua T) ++ (wT ta cI b r) ++ (wS sa cI cZ sw st fa sc fi mi lf hi n) ++ (wS ua cI cZ u.1 u.2.1 u.2.2.1 u.2.2.2.1 u.2.2.2.2.1 u.2.2.2.2.2.1 u.2.2.2.2.2.2.1 u.2.2.2.2.2.2.2 n)) (n := 31) (As := [.int (nI g), .int (nI (i + 1))]) (rest := []) hC (k_X2_scoreWithRest l G cI cZ cJ h ta sa ua T b r sw st fa sc fi mi lf hi n u.1 u.2.1 u.2.2.1 u.2.2.2.1 u.2.2.2.2.1 u.2.2.2.2.2.1 u.2.2.2.2.2.2.1 u.2.2.2.2.2.2.2 n g (i + 1) (by omega) (by omega) (by omega) (by omega)) kg_X2_138 kd_yX2_scoreWithRest dX2_bestRest_28 ⟨Nat.le_of_ble_eq_true rfl, Nat.le_of_ble_eq_true rfl⟩ 0 rfl rfl rfl [0, 1, 2, 3, 4, 5, 6, 7, 8, 9, 10, 11, 12, 13, 14, 15, 16, 17, 18, 19, 20, 21] rfl (by decide) rfl (Nat.le_of_ble_eq_true rfl) ⟨Nat.le_of_ble_eq_true rfl, Nat.le_of_ble_eq_true rfl⟩ (ws2 := fun u8 => (wH h ta sa ua T) ++ (wT ta cI b r) ++ (wS sa cI cZ sw st fa sc fi mi lf hi n) ++ (wS ua cI cZ u8.1 u8.2.1 u8.2.2.1 u8.2.2.2.1 u8.2.2.2.2.1 u8.2.2.2.2.2.1 u8.2.2.2.2.2.2.1 u8.2.2.2.2.2.2.2 n)) [] (fun _ => rfl) ([]) (fun _ => rfl) rfl (fun _ => rfl) [h, ta 0, ta 1, ta 2, sa 0, sa 1, sa 2, sa 3, sa 4, sa 5, sa 6, sa 7, sa 8, ua 0, ua 1, ua 2, ua 3, ua 4, ua 5, ua 6, ua 7, ua 8] (fun _ => rfl) rfl rfl rfl (fun r9 u8 h10 => ?_)
    subst h10
    refine z_istore (lv' := [(5, .int (reF sw st b r sc fi mi fa T g (i + 1))), (0, .ref h), (1, .int (nI g)), (2, .int (nI (brF (reF sw st b r sc fi mi fa T g) i))), (3, .int (reF sw st b r sc fi mi fa T g (brF (reF sw st b r sc fi mi fa T g) i))), (4, .int (nI (i + 1)))]) (n := 33) hC dX2_bestRest_31 (by decide) rfl rfl ?_
    refine z_iload (n := 35) hC dX2_bestRest_33 0 rfl rfl ?_
    refine z_iload_n (n := 36) hC dX2_bestRest_35 rfl 4 rfl rfl ?_
    refine z_icmp_le (tgt := 45) (n := 39) hC dX2_bestRest_36 (by decide) rfl (fun c11 => ?_) (fun c11 => ?_)
    · refine z_iinc (k0 := 5) (v := nI (i + 1 + 1)) (lv' := [(4, .int (nI (i + 1 + 1))), (5, .int (reF sw st b r sc fi mi fa T g (i + 1))), (0, .ref h), (1, .int (nI g)), (2, .int (nI (brF (reF sw st b r sc fi mi fa T g) i))), (3, .int (reF sw st b r sc fi mi fa T g (brF (reF sw st b r sc fi mi fa T g) i)))]) (n := 48) hC dX2_bestRest_45 rfl (nI_add (i + 1) 1) (by decide) rfl rfl ?_
      refine z_goto (n := 17) hC dX2_bestRest_48 (by decide) ?_
      refine z_lv [2, 3, 4, 5, 0] (lv' := [(0, .ref h), (1, .int (nI g)), (2, .int (nI (brF (reF sw st b r sc fi mi fa T g) i))), (3, .int (reF sw st b r sc fi mi fa T g (brF (reF sw st b r sc fi mi fa T g) i))), (4, .int (nI (i + 1 + 1)))]) rfl ?_
      refine z_leq (lv' := [(0, .ref h), (1, .int (nI g)), (2, .int (nI (brF (reF sw st b r sc fi mi fa T g) (i + 1)))), (3, .int (reF sw st b r sc fi mi fa T g (brF (reF sw st b r sc fi mi fa T g) (i + 1)))), (4, .int (nI (i + 1 + 1)))]) (by simp only [brF, if_pos c7, if_pos c11]) ?_
      refine z_weq (ws' := (wH h ta sa ua T) ++ (wT ta cI b r) ++ (wS sa cI cZ sw st fa sc fi mi lf hi n) ++ (wS ua cI cZ ((u8.1, u8.2.1, u8.2.2.1, u8.2.2.2.1, u8.2.2.2.2.1, u8.2.2.2.2.2.1, u8.2.2.2.2.2.2.1, u8.2.2.2.2.2.2.2).1) ((u8.1, u8.2.1, u8.2.2.1, u8.2.2.2.1, u8.2.2.2.2.1, u8.2.2.2.2.2.1, u8.2.2.2.2.2.2.1, u8.2.2.2.2.2.2.2).2.1) ((u8.1, u8.2.1, u8.2.2.1, u8.2.2.2.1, u8.2.2.2.2.1, u8.2.2.2.2.2.1, u8.2.2.2.2.2.2.1, u8.2.2.2.2.2.2.2).2.2.1) ((u8.1, u8.2.1, u8.2.2.1, u8.2.2.2.1, u8.2.2.2.2.1, u8.2.2.2.2.2.1, u8.2.2.2.2.2.2.1, u8.2.2.2.2.2.2.2).2.2.2.1) ((u8.1, u8.2.1, u8.2.2.1, u8.2.2.2.1, u8.2.2.2.2.1, u8.2.2.2.2.2.1, u8.2.2.2.2.2.2.1, u8.2.2.2.2.2.2.2).2.2.2.2.1) ((u8.1, u8.2.1, u8.2.2.1, u8.2.2.2.1, u8.2.2.2.2.1, u8.2.2.2.2.2.1, u8.2.2.2.2.2.2.1, u8.2.2.2.2.2.2.2).2.2.2.2.2.1) ((u8.1, u8.2.1, u8.2.2.1, u8.2.2.2.1, u8.2.2.2.2.1, u8.2.2.2.2.2.1, u8.2.2.2.2.2.2.1, u8.2.2.2.2.2.2.2).2.2.2.2.2.2.1) ((u8.1, u8.2.1, u8.2.2.1, u8.2.2.2.1, u8.2.2.2.2.1, u8.2.2.2.2.2.1, u8.2.2.2.2.2.2.1, u8.2.2.2.2.2.2.2).2.2.2.2.2.2.2) n)) (rfl) ?_
      exact ih (i + 1) (u8.1, u8.2.1, u8.2.2.1, u8.2.2.2.1, u8.2.2.2.2.1, u8.2.2.2.2.2.1, u8.2.2.2.2.2.2.1, u8.2.2.2.2.2.2.2) (by omega) (by omega) trivial
    · refine z_iload (n := 41) hC dX2_bestRest_39 5 rfl rfl ?_
      refine z_istore_n (lv' := [(2, .int (nI (i + 1))), (5, .int (reF sw st b r sc fi mi fa T g (i + 1))), (0, .ref h), (1, .int (nI g)), (3, .int (reF sw st b r sc fi mi fa T g (brF (reF sw st b r sc fi mi fa T g) i))), (4, .int (nI (i + 1)))]) (n := 42) hC dX2_bestRest_41 rfl (by decide) rfl rfl ?_
      refine z_iload (n := 44) hC dX2_bestRest_42 1 rfl rfl ?_
      refine z_istore_n (lv' := [(3, .int (reF sw st b r sc fi mi fa T g (i + 1))), (2, .int (nI (i + 1))), (5, .int (reF sw st b r sc fi mi fa T g (i + 1))), (0, .ref h), (1, .int (nI g)), (4, .int (nI (i + 1)))]) (n := 45) hC dX2_bestRest_44 rfl (by decide) rfl rfl ?_
      refine z_iinc (k0 := 5) (v := nI (i + 1 + 1)) (lv' := [(4, .int (nI (i + 1 + 1))), (3, .int (reF sw st b r sc fi mi fa T g (i + 1))), (2, .int (nI (i + 1))), (5, .int (reF sw st b r sc fi mi fa T g (i + 1))), (0, .ref h), (1, .int (nI g))]) (n := 48) hC dX2_bestRest_45 rfl (nI_add (i + 1) 1) (by decide) rfl rfl ?_
      refine z_goto (n := 17) hC dX2_bestRest_48 (by decide) ?_
      refine z_lv [4, 5, 2, 1, 0] (lv' := [(0, .ref h), (1, .int (nI g)), (2, .int (nI (i + 1))), (3, .int (reF sw st b r sc fi mi fa T g (i + 1))), (4, .int (nI (i + 1 + 1)))]) rfl ?_
      refine z_leq (lv' := [(0, .ref h), (1, .int (nI g)), (2, .int (nI (brF (reF sw st b r sc fi mi fa T g) (i + 1)))), (3, .int (reF sw st b r sc fi mi fa T g (brF (reF sw st b r sc fi mi fa T g) (i + 1)))), (4, .int (nI (i + 1 + 1)))]) (by simp only [brF, if_pos c7, if_neg c11]) ?_
      refine z_weq (ws' := (wH h ta sa ua T) ++ (wT ta cI b r) ++ (wS sa cI cZ sw st fa sc fi mi lf hi n) ++ (wS ua cI cZ ((u8.1, u8.2.1, u8.2.2.1, u8.2.2.2.1, u8.2.2.2.2.1, u8.2.2.2.2.2.1, u8.2.2.2.2.2.2.1, u8.2.2.2.2.2.2.2).1) ((u8.1, u8.2.1, u8.2.2.1, u8.2.2.2.1, u8.2.2.2.2.1, u8.2.2.2.2.2.1, u8.2.2.2.2.2.2.1, u8.2.2.2.2.2.2.2).2.1) ((u8.1, u8.2.1, u8.2.2.1, u8.2.2.2.1, u8.2.2.2.2.1, u8.2.2.2.2.2.1, u8.2.2.2.2.2.2.1, u8.2.2.2.2.2.2.2).2.2.1) ((u8.1, u8.2.1, u8.2.2.1, u8.2.2.2.1, u8.2.2.2.2.1, u8.2.2.2.2.2.1, u8.2.2.2.2.2.2.1, u8.2.2.2.2.2.2.2).2.2.2.1) ((u8.1, u8.2.1, u8.2.2.1, u8.2.2.2.1, u8.2.2.2.2.1, u8.2.2.2.2.2.1, u8.2.2.2.2.2.2.1, u8.2.2.2.2.2.2.2).2.2.2.2.1) ((u8.1, u8.2.1, u8.2.2.1, u8.2.2.2.1, u8.2.2.2.2.1, u8.2.2.2.2.2.1, u8.2.2.2.2.2.2.1, u8.2.2.2.2.2.2.2).2.2.2.2.2.1) ((u8.1, u8.2.1, u8.2.2.1, u8.2.2.2.1, u8.2.2.2.2.1, u8.2.2.2.2.2.1, u8.2.2.2.2.2.2.1, u8.2.2.2.2.2.2.2).2.2.2.2.2.2.1) ((u8.1, u8.2.1, u8.2.2.1, u8.2.2.2.1, u8.2.2.2.2.1, u8.2.2.2.2.2.1, u8.2.2.2.2.2.2.1, u8.2.2.2.2.2.2.2).2.2.2.2.2.2.2) n)) (rfl) ?_
      exact ih (i + 1) (u8.1, u8.2.1, u8.2.2.1, u8.2.2.2.1, u8.2.2.2.2.1, u8.2.2.2.2.2.1, u8.2.2.2.2.2.2.1, u8.2.2.2.2.2.2.2) (by omega) (by omega) trivial

set_option maxRecDepth 100000 in
set_option maxHeartbeats 4000000 in
theorem k_X2_swingWanted (l : Launch) (G : va_G) (cI cZ cJ : ClassId) (h : Nat) (ta : Nat → Nat) (sa : Nat → Nat) (ua : Nat → Nat) (T : Nat) (b : Nat → Int32) (r : Nat → Int32) (sw : Nat → Int32) (st : Nat → Int32) (fa : Nat → Int32) (sc : Nat → Int32) (fi : Nat → Int32) (mi : Nat → Int32) (lf : Nat → Bool) (hi : Nat → Bool) (n : Nat) (sw2 : Nat → Int32) (st2 : Nat → Int32) (fa2 : Nat → Int32) (sc2 : Nat → Int32) (fi2 : Nat → Int32) (mi2 : Nat → Int32) (lf2 : Nat → Bool) (hi2 : Nat → Bool) (n2 : Nat) (g : Nat) (hn : n ≤ 6) (hT : T < 2 ^ 29) (hg : g < n) : MI (Unit) l yX2_swingWanted cX2_swingWanted 3 4 89 G (tY cI cZ cJ) [.ref h, .int (nI g)] ((wH h ta sa ua T) ++ (wT ta cI b r) ++ (wS sa cI cZ sw st fa sc fi mi lf hi n) ++ (wS ua cI cZ sw2 st2 fa2 sc2 fi2 mi2 lf2 hi2 n2)) (fun zr _ => zr = swF b r) (fun _ => (wH h ta sa ua T) ++ (wT ta cI b r) ++ (wS sa cI cZ sw st fa sc fi mi lf hi n) ++ (wS ua cI cZ sw2 st2 fa2 sc2 fi2 mi2 lf2 hi2 n2)) 0 0 := by
  refine MI_of (by decide) (Nat.le_of_ble_eq_true rfl) [(0, .ref h), (1, .int (nI g))] rfl ?_
  intro p e s m below meth c hC hr hlocks hname
  have hC : Cx p s m _ c cX2_swingWanted 3 RX2 G (tY cI cZ cJ) _ := hC
  refine z_aload_n (n := 1) hC dX2_swingWanted_0 rfl 0 rfl rfl ?_
  refine z_iload_n (n := 2) hC dX2_swingWanted_1 rfl 1 rfl rfl ?_
  refine z_callv (R := { frames := 4, cells := 0, slots := 0, locals := 89 }) (cells := 0) (slots := 0) (ws := (wH h ta sa ua T) ++ (wT ta cI b r) ++ (wS sa cI cZ sw st fa sc fi mi lf hi n) ++ (wS ua cI cZ sw2 st2 fa2 sc2 fi2 mi2 lf2 hi2 n2)) (n := 5) (As := [.int (nI g)]) (rest := []) hC (k_X2_checkGun l G cI cZ cJ h ta sa ua T sw st fa sc fi mi lf hi n g (by omega) (by omega)) kg_X2_63 kd_yX2_checkGun dX2_swingWanted_2 ⟨Nat.le_of_ble_eq_true rfl, Nat.le_of_ble_eq_true rfl⟩ 0 rfl rfl rfl [0, 4, 5, 6, 7, 8, 9, 10, 11, 12] rfl (by decide) rfl (Nat.le_of_ble_eq_true rfl) ⟨Nat.le_of_ble_eq_true rfl, Nat.le_of_ble_eq_true rfl⟩ (ws2 := fun u1 => (wH h ta sa ua T) ++ (wT ta cI b r) ++ (wS sa cI cZ sw st fa sc fi mi lf hi n) ++ (wS ua cI cZ sw2 st2 fa2 sc2 fi2 mi2 lf2 hi2 n2)) [1, 2, 3, 13, 14, 15, 16, 17, 18, 19, 20, 21] (fun _ => rfl) ((wT ta cI b r) ++ (wS ua cI cZ sw2 st2 fa2 sc2 fi2 mi2 lf2 hi2 n2)) (fun _ => rfl) rfl (fun _ => rfl) [h, sa 0, sa 1, sa 2, sa 3, sa 4, sa 5, sa 6, sa 7, sa 8] (fun _ => rfl) rfl rfl rfl (fun u1 h3 => ?_)
  refine z_iconst (v := nI 5) (n := 6) hC dX2_swingWanted_5 (by decide) rfl ?_
  refine z_aload_n (n := 7) hC dX2_swingWanted_6 rfl 0 rfl rfl ?_
  refine gf_X2_10 (v := .ref (ta 0)) (n := 10) hC 0 rfl rfl dX2_swingWanted_7 rfl ?_
  refine z_calli (R := { frames := 4, cells := 0, slots := 0, locals := 89 }) (cells := 0) (slots := 0) (ws := (wH h ta sa ua T) ++ (wT ta cI b r) ++ (wS sa cI cZ sw st fa sc fi mi lf hi n) ++ (wS ua cI cZ sw2 st2 fa2 sc2 fi2 mi2 lf2 hi2 n2)) (n := 13) (As := []) (rest := [.int (nI 5)]) hC (k_X1_greatestAmount l G cI cZ cJ ta b r ) kg_X2_141 kd_yX1_greatestAmount dX2_swingWanted_10 ⟨Nat.le_of_ble_eq_true rfl, Nat.le_of_ble_eq_true rfl⟩ 0 rfl rfl rfl [1, 2, 3] rfl (by decide) rfl (Nat.le_of_ble_eq_true rfl) ⟨Nat.le_of_ble_eq_true rfl, Nat.le_of_ble_eq_true rfl⟩ (ws2 := fun u4 => (wH h ta sa ua T) ++ (wT ta cI b r) ++ (wS sa cI cZ sw st fa sc fi mi lf hi n) ++ (wS ua cI cZ sw2 st2 fa2 sc2 fi2 mi2 lf2 hi2 n2)) [0, 4, 5, 6, 7, 8, 9, 10, 11, 12, 13, 14, 15, 16, 17, 18, 19, 20, 21] (fun _ => rfl) ((wH h ta sa ua T) ++ (wS sa cI cZ sw st fa sc fi mi lf hi n) ++ (wS ua cI cZ sw2 st2 fa2 sc2 fi2 mi2 lf2 hi2 n2)) (fun _ => rfl) rfl (fun _ => rfl) [ta 0, ta 1, ta 2] (fun _ => rfl) rfl rfl rfl (fun r5 u4 h6 => ?_)
  subst h6
  refine z_mmax (v := maxF (nI 5) (grF b r (nI 0) 5)) (n := 16) hC q254 q420 q88 q422 (by decide) (Nat.le_of_ble_eq_true rfl) (by omega) (by omega) dX2_swingWanted_13 rfl rfl ?_
  refine z_istore_n (lv' := [(2, .int (maxF (nI 5) (grF b r (nI 0) 5))), (0, .ref h), (1, .int (nI g))]) (n := 17) hC dX2_swingWanted_16 rfl (by decide) rfl rfl ?_
  refine z_iload_n (n := 18) hC dX2_swingWanted_17 rfl 0 rfl rfl ?_
  refine z_bipush (v := nI 60) (n := 20) hC dX2_swingWanted_18 (by decide) rfl ?_
  refine z_icmp_le (tgt := 27) (n := 23) hC dX2_swingWanted_20 (by decide) rfl (fun c7 => ?_) (fun c7 => ?_)
  · refine z_iload_n (n := 28) hC dX2_swingWanted_27 rfl 0 rfl rfl ?_
    refine z_iret hC hr hlocks () ?_ rfl dX2_swingWanted_28 (by omega) (by omega)
    unfold swF; simp only [if_pos c7]
  · refine z_iconst (v := (-1)) (n := 24) hC dX2_swingWanted_23 (by decide) rfl ?_
    refine z_goto (n := 28) hC dX2_swingWanted_24 (by decide) ?_
    refine z_iret hC hr hlocks () ?_ rfl dX2_swingWanted_28 (by omega) (by omega)
    unfold swF; simp only [if_neg c7]

set_option maxRecDepth 100000 in
set_option maxHeartbeats 4000000 in
theorem k_X2_meanScore (l : Launch) (G : va_G) (cI cZ cJ : ClassId) (h : Nat) (ta : Nat → Nat) (sa : Nat → Nat) (ua : Nat → Nat) (T : Nat) (b : Nat → Int32) (r : Nat → Int32) (sw : Nat → Int32) (st : Nat → Int32) (fa : Nat → Int32) (sc : Nat → Int32) (fi : Nat → Int32) (mi : Nat → Int32) (lf : Nat → Bool) (hi : Nat → Bool) (n : Nat) (sw2 : Nat → Int32) (st2 : Nat → Int32) (fa2 : Nat → Int32) (sc2 : Nat → Int32) (fi2 : Nat → Int32) (mi2 : Nat → Int32) (lf2 : Nat → Bool) (hi2 : Nat → Bool) (n2 : Nat) (hn : n ≤ 6) (hT : T < 2 ^ 29) (hn0 : 0 < n) : MD (Unit) l yX2_meanScore cX2_meanScore 1 1 22 G (tY cI cZ cJ) [.ref h] ((wH h ta sa ua T) ++ (wT ta cI b r) ++ (wS sa cI cZ sw st fa sc fi mi lf hi n) ++ (wS ua cI cZ sw2 st2 fa2 sc2 fi2 mi2 lf2 hi2 n2)) (fun zr _ => zr = meF sc n) (fun _ => (wH h ta sa ua T) ++ (wT ta cI b r) ++ (wS sa cI cZ sw st fa sc fi mi lf hi n) ++ (wS ua cI cZ sw2 st2 fa2 sc2 fi2 mi2 lf2 hi2 n2)) 0 0 := by
  refine MD_of (by decide) (Nat.le_of_ble_eq_true rfl) [(0, .ref h)] rfl ?_
  intro p e s m below meth c hC hr hlocks hname
  have hC : Cx p s m _ c cX2_meanScore 1 RX2 G (tY cI cZ cJ) _ := hC
  refine z_aload_n (n := 1) hC dX2_meanScore_0 rfl 0 rfl rfl ?_
  refine gf_X2_19 (v := .ref (sa 0)) (n := 4) hC 0 rfl rfl dX2_meanScore_1 rfl ?_
  refine gf_X2_35 (v := .int (nI n)) (n := 7) hC 4 rfl rfl dX2_meanScore_4 rfl ?_
  refine z_if_ne (tgt := 12) (n := 10) hC dX2_meanScore_7 (by decide) rfl (fun c1 => ?_) (fun c1 => absurd c1 (nI_ne0 hn0 (by omega)))
  refine z_aload_n (n := 13) hC dX2_meanScore_12 rfl 0 rfl rfl ?_
  refine gf_X2_19 (v := .ref (sa 0)) (n := 16) hC 0 rfl rfl dX2_meanScore_13 rfl ?_
  refine z_calli (R := { frames := 1, cells := 0, slots := 0, locals := 22 }) (cells := 0) (slots := 0) (ws := (wH h ta sa ua T) ++ (wT ta cI b r) ++ (wS sa cI cZ sw st fa sc fi mi lf hi n) ++ (wS ua cI cZ sw2 st2 fa2 sc2 fi2 mi2 lf2 hi2 n2)) (n := 19) (As := []) (rest := []) hC (k_X0_totalScore l G cI cZ cJ sa sw st fa sc fi mi lf hi n (by omega)) kg_X2_149 kd_yX0_totalScore dX2_meanScore_16 ⟨Nat.le_of_ble_eq_true rfl, Nat.le_of_ble_eq_true rfl⟩ 0 rfl rfl rfl [4, 5, 6, 7, 8, 9, 10, 11, 12] rfl (by decide) rfl (Nat.le_of_ble_eq_true rfl) ⟨Nat.le_of_ble_eq_true rfl, Nat.le_of_ble_eq_true rfl⟩ (ws2 := fun u2 => (wH h ta sa ua T) ++ (wT ta cI b r) ++ (wS sa cI cZ sw st fa sc fi mi lf hi n) ++ (wS ua cI cZ sw2 st2 fa2 sc2 fi2 mi2 lf2 hi2 n2)) [0, 1, 2, 3, 13, 14, 15, 16, 17, 18, 19, 20, 21] (fun _ => rfl) ((wH h ta sa ua T) ++ (wT ta cI b r) ++ (wS ua cI cZ sw2 st2 fa2 sc2 fi2 mi2 lf2 hi2 n2)) (fun _ => rfl) rfl (fun _ => rfl) [sa 0, sa 1, sa 2, sa 3, sa 4, sa 5, sa 6, sa 7, sa 8] (fun _ => rfl) rfl rfl rfl (fun r3 u2 h4 => ?_)
  subst h4
  refine z_i2d (n := 20) hC dX2_meanScore_19 rfl ?_
  refine z_aload_n (n := 21) hC dX2_meanScore_20 rfl 0 rfl rfl ?_
  refine gf_X2_19 (v := .ref (sa 0)) (n := 24) hC 0 rfl rfl dX2_meanScore_21 rfl ?_
  refine gf_X2_35 (v := .int (nI n)) (n := 27) hC 4 rfl rfl dX2_meanScore_24 rfl ?_
  refine z_i2d (n := 28) hC dX2_meanScore_27 rfl ?_
  refine z_ddiv (n := 29) hC dX2_meanScore_28 (nnan _ hn0 hn) rfl ?_
  refine z_dret hC hr hlocks () ?_ rfl dX2_meanScore_29 (by omega) (by omega)
  unfold meF; rw [if_neg (by omega)]

set_option maxRecDepth 100000 in
set_option maxHeartbeats 4000000 in
theorem k_X2_meanScore_0 (l : Launch) (G : va_G) (cI cZ cJ : ClassId) (h : Nat) (ta : Nat → Nat) (sa : Nat → Nat) (ua : Nat → Nat) (T : Nat) (b : Nat → Int32) (r : Nat → Int32) (sw : Nat → Int32) (st : Nat → Int32) (fa : Nat → Int32) (sc : Nat → Int32) (fi : Nat → Int32) (mi : Nat → Int32) (lf : Nat → Bool) (hi : Nat → Bool) (n : Nat) (sw2 : Nat → Int32) (st2 : Nat → Int32) (fa2 : Nat → Int32) (sc2 : Nat → Int32) (fi2 : Nat → Int32) (mi2 : Nat → Int32) (lf2 : Nat → Bool) (hi2 : Nat → Bool) (n2 : Nat) (hn : n ≤ 6) (hT : T < 2 ^ 29) (hn0 : n = 0) : MD (Unit) l yX2_meanScore cX2_meanScore 1 0 0 G (tY cI cZ cJ) [.ref h] ((wH h ta sa ua T) ++ (wT ta cI b r) ++ (wS sa cI cZ sw st fa sc fi mi lf hi n) ++ (wS ua cI cZ sw2 st2 fa2 sc2 fi2 mi2 lf2 hi2 n2)) (fun zr _ => zr = meF sc n) (fun _ => (wH h ta sa ua T) ++ (wT ta cI b r) ++ (wS sa cI cZ sw st fa sc fi mi lf hi n) ++ (wS ua cI cZ sw2 st2 fa2 sc2 fi2 mi2 lf2 hi2 n2)) 0 0 := by
  refine MD_of (by decide) (Nat.le_of_ble_eq_true rfl) [(0, .ref h)] rfl ?_
  intro p e s m below meth c hC hr hlocks hname
  have hC : Cx p s m _ c cX2_meanScore 1 RX2 G (tY cI cZ cJ) _ := hC
  refine z_aload_n (n := 1) hC dX2_meanScore_0 rfl 0 rfl rfl ?_
  refine gf_X2_19 (v := .ref (sa 0)) (n := 4) hC 0 rfl rfl dX2_meanScore_1 rfl ?_
  refine gf_X2_35 (v := .int (nI n)) (n := 7) hC 4 rfl rfl dX2_meanScore_4 rfl ?_
  refine z_if_ne (tgt := 12) (n := 10) hC dX2_meanScore_7 (by decide) rfl (fun c1 => absurd (hn0 ▸ rfl) c1) (fun c1 => ?_)
  refine z_dconst0 (n := 11) hC dX2_meanScore_10 rfl ?_
  refine z_dret hC hr hlocks () ?_ rfl dX2_meanScore_11 (by omega) (by omega)
  unfold meF; rw [if_pos hn0]
