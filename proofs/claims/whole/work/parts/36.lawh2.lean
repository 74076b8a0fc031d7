set_option maxRecDepth 100000 in
set_option maxHeartbeats 4000000 in
theorem k_L_addGun (l : Launch) (G : va_G) (cI cZ cJ : ClassId) (h : Nat) (ta : Nat → Nat) (sa : Nat → Nat) (ua : Nat → Nat) (T : Nat) (b : Nat → Int32) (r : Nat → Int32) (sw : Nat → Int32) (st : Nat → Int32) (fa : Nat → Int32) (sc : Nat → Int32) (fi : Nat → Int32) (mi : Nat → Int32) (lf : Nat → Bool) (hi : Nat → Bool) (n : Nat) (sw2 : Nat → Int32) (st2 : Nat → Int32) (fa2 : Nat → Int32) (sc2 : Nat → Int32) (fi2 : Nat → Int32) (mi2 : Nat → Int32) (lf2 : Nat → Bool) (hi2 : Nat → Bool) (n2 : Nat) (o : Nat) (ov : Nat → Int64) (x : Int32) (y : Int32) (hn : n ≤ 6) (hT : T < 2 ^ 29) (hn6 : n < 6) (hx1 : ¬ x < nI 5) (hx2 : x ≤ nI 60) (hy1 : ¬ y < nI 1) (hy2 : y ≤ nI 9) : MIH (Unit) l yL_addGun cL_addGun 5 2 45 [(0, 10, 13, 13), (0, 10, 17, 15)] G (tY cI cZ cJ) [.ref h, .int x, .int y, .ref o] ((wH h ta sa ua T) ++ (wT ta cI b r) ++ (wS sa cI cZ sw st fa sc fi mi lf hi n) ++ (wS ua cI cZ sw2 st2 fa2 sc2 fi2 mi2 lf2 hi2 n2) ++ (wO o cJ ov)) (fun zr _ => zr = nI 0) (fun _ => (wH h ta sa ua T) ++ (wT ta cI b r) ++ (wS sa cI cZ (upd sw n x) (upd st n y) fa sc fi mi lf hi (n + 1)) ++ (wS ua cI cZ sw2 st2 fa2 sc2 fi2 mi2 lf2 hi2 n2) ++ (wO o cJ (vp_updL ov 0 ((nI n).toInt64)))) 0 0 := by
  refine MIH_of (by decide) (Nat.le_of_ble_eq_true rfl) [(0, .ref h), (1, .int x), (2, .int y), (3, .ref o)] rfl ?_
  intro p e s m below meth c hC hr hlocks hz htab
  have hC : Cx p s m _ c cL_addGun 5 RL G (tY cI cZ cJ) _ := hC
  refine z_aload_n (n := 1) hC dL_addGun_0 rfl 3 rfl rfl ?_
  refine z_iconst (v := nI 0) (n := 2) hC dL_addGun_1 (by decide) rfl ?_
  refine z_aload_n (n := 3) hC dL_addGun_2 rfl 0 rfl rfl ?_
  refine z_iload_n (n := 4) hC dL_addGun_3 rfl 1 rfl rfl ?_
  refine z_iload_n (n := 5) hC dL_addGun_4 rfl 2 rfl rfl ?_
  refine z_calli (R := { frames := 2, cells := 0, slots := 0, locals := 45 }) (cells := 0) (slots := 0) (ws := (wH h ta sa ua T) ++ (wT ta cI b r) ++ (wS sa cI cZ sw st fa sc fi mi lf hi n) ++ (wS ua cI cZ sw2 st2 fa2 sc2 fi2 mi2 lf2 hi2 n2) ++ (wO o cJ ov)) (n := 8) (As := [.int x, .int y]) (rest := [.int (nI 0), .ref o]) hC (k_X2_addGun l G cI cZ cJ h ta sa ua T b r sw st fa sc fi mi lf hi n sw2 st2 fa2 sc2 fi2 mi2 lf2 hi2 n2 x y hn hT hn6 hx1 hx2 hy1 hy2) kg_L_7 kd_yX2_addGun dL_addGun_5 ⟨Nat.le_of_ble_eq_true rfl, Nat.le_of_ble_eq_true rfl⟩ 0 rfl rfl rfl [0, 1, 2, 3, 4, 5, 6, 7, 8, 9, 10, 11, 12, 13, 14, 15, 16, 17, 18, 19, 20, 21] rfl (by decide) rfl (Nat.le_of_ble_eq_true rfl) ⟨Nat.le_of_ble_eq_true rfl, Nat.le_of_ble_eq_true rfl⟩ (ws2 := fun u1 => (wH h ta sa ua T) ++ (wT ta cI b r) ++ (wS sa cI cZ (upd sw n x) (upd st n y) fa sc fi mi lf hi (n + 1)) ++ (wS ua cI cZ sw2 st2 fa2 sc2 fi2 mi2 lf2 hi2 n2) ++ (wO o cJ ov)) [22] (fun _ => rfl) (wO o cJ ov) (fun _ => rfl) rfl (fun _ => rfl) [h, ta 0, ta 1, ta 2, sa 0, sa 1, sa 2, sa 3, sa 4, sa 5, sa 6, sa 7, sa 8, ua 0, ua 1, ua 2, ua 3, ua 4, ua 5, ua 6, ua 7, ua 8] (fun _ => rfl) rfl rfl rfl (fun r2 u1 h3 => ?_)
  subst h3
  refine z_i2l (v := (nI n).toInt64) (n := 9) hC dL_addGun_8 rfl rfl ?_
  refine z_last (ws' := (wH h ta sa ua T) ++ (wT ta cI b r) ++ (wS sa cI cZ (upd sw n x) (upd st n y) fa sc fi mi lf hi (n + 1)) ++ (wS ua cI cZ sw2 st2 fa2 sc2 fi2 mi2 lf2 hi2 n2) ++ (wO o cJ (vp_updL ov 0 ((nI n).toInt64)))) (n := 10) hC 22 2 0 rfl rfl rfl (by omega) (by decide) dL_addGun_9 rfl rfl ?_
  refine z_goto (n := 21) hC dL_addGun_10 (by decide) ?_
  refine z_iconst (v := nI 0) (n := 22) hC dL_addGun_21 (by decide) rfl ?_
  refine z_iret hC hr hlocks () ?_ rfl dL_addGun_22 (by omega) (by omega)
  rfl

set_option maxRecDepth 100000 in
set_option maxHeartbeats 4000000 in
theorem kx_L_addGun_a (l : Launch) (G : va_G) (cI cZ cJ : ClassId) (h : Nat) (ta : Nat → Nat) (sa : Nat → Nat) (ua : Nat → Nat) (T : Nat) (b : Nat → Int32) (r : Nat → Int32) (sw : Nat → Int32) (st : Nat → Int32) (fa : Nat → Int32) (sc : Nat → Int32) (fi : Nat → Int32) (mi : Nat → Int32) (lf : Nat → Bool) (hi : Nat → Bool) (n : Nat) (sw2 : Nat → Int32) (st2 : Nat → Int32) (fa2 : Nat → Int32) (sc2 : Nat → Int32) (fi2 : Nat → Int32) (mi2 : Nat → Int32) (lf2 : Nat → Bool) (hi2 : Nat → Bool) (n2 : Nat) (o : Nat) (ov : Nat → Int64) (x : Int32) (y : Int32) (hl : l.stackTraces = false) (hn : n ≤ 6) (hT : T < 2 ^ 29) (hb : x < nI 5 ∨ nI 60 < x) : MIH (Unit) l yL_addGun cL_addGun 5 7 104 [(0, 10, 13, 13), (0, 10, 17, 15)] G (tY cI cZ cJ) [.ref h, .int x, .int y, .ref o] ((wH h ta sa ua T) ++ (wT ta cI b r) ++ (wS sa cI cZ sw st fa sc fi mi lf hi n) ++ (wS ua cI cZ sw2 st2 fa2 sc2 fi2 mi2 lf2 hi2 n2) ++ (wO o cJ ov)) (fun zr _ => zr = nI 1) (fun _ => (wH h ta sa ua T) ++ (wT ta cI b r) ++ (wS sa cI cZ sw st fa sc fi mi lf hi n) ++ (wS ua cI cZ sw2 st2 fa2 sc2 fi2 mi2 lf2 hi2 n2) ++ (wO o cJ ov)) 1 6 := by
  refine MIH_of (by decide) (Nat.le_of_ble_eq_true rfl) [(0, .ref h), (1, .int x), (2, .int y), (3, .ref o)] rfl ?_
  intro p e s m below meth c hC hr hlocks hz htab
  have hC : Cx p s m _ c cL_addGun 5 RL G (tY cI cZ cJ) _ := hC
  refine z_aload_n (n := 1) hC dL_addGun_0 rfl 3 rfl rfl ?_
  refine z_iconst (v := nI 0) (n := 2) hC dL_addGun_1 (by decide) rfl ?_
  refine z_aload_n (n := 3) hC dL_addGun_2 rfl 0 rfl rfl ?_
  refine z_iload_n (n := 4) hC dL_addGun_3 rfl 1 rfl rfl ?_
  refine z_iload_n (n := 5) hC dL_addGun_4 rfl 2 rfl rfl ?_
  refine z_callvxc (n := 13) (cells := 0) (slots := 0) (As := [.int x, .int y]) (rest := [.int (nI 0), .ref o]) hC (kx_X2_addGun_a l G cI cZ cJ h ta sa ua T b r sw st fa sc fi mi lf hi n sw2 st2 fa2 sc2 fi2 mi2 lf2 hi2 n2 x y hl hn hT hb) kg_L_7 kd_yX2_addGun dL_addGun_5 ⟨Nat.le_of_ble_eq_true rfl, Nat.le_of_ble_eq_true rfl⟩ 0 rfl rfl rfl [0, 1, 2, 3, 4, 5, 6, 7, 8, 9, 10, 11, 12, 13, 14, 15, 16, 17, 18, 19, 20, 21] rfl (by decide) rfl (Nat.le_of_ble_eq_true rfl) ⟨Nat.le_of_ble_eq_true rfl, Nat.le_of_ble_eq_true rfl⟩ [22] rfl rfl [] ⟨0, 10, 13, 13⟩ [⟨0, 10, 17, 15⟩] htab (fun z hz9 => absurd hz9 List.not_mem_nil) rfl (by decide) q629 (by simp [zCW]) rfl (fun q1 => ?_)
  refine z_astore (lv' := [(4, .ref q1), (0, .ref h), (1, .int x), (2, .int y), (3, .ref o)]) (n := 15) hC dL_addGun_13 (by decide) rfl rfl ?_
  refine z_iconst (v := nI 1) (n := 16) hC dL_addGun_15 (by decide) rfl ?_
  refine z_iret hC hr hlocks () ?_ rfl dL_addGun_16 (by omega) (by omega)
  rfl

set_option maxRecDepth 100000 in
set_option maxHeartbeats 4000000 in
theorem kx_L_addGun_b (l : Launch) (G : va_G) (cI cZ cJ : ClassId) (h : Nat) (ta : Nat → Nat) (sa : Nat → Nat) (ua : Nat → Nat) (T : Nat) (b : Nat → Int32) (r : Nat → Int32) (sw : Nat → Int32) (st : Nat → Int32) (fa : Nat → Int32) (sc : Nat → Int32) (fi : Nat → Int32) (mi : Nat → Int32) (lf : Nat → Bool) (hi : Nat → Bool) (n : Nat) (sw2 : Nat → Int32) (st2 : Nat → Int32) (fa2 : Nat → Int32) (sc2 : Nat → Int32) (fi2 : Nat → Int32) (mi2 : Nat → Int32) (lf2 : Nat → Bool) (hi2 : Nat → Bool) (n2 : Nat) (o : Nat) (ov : Nat → Int64) (x : Int32) (y : Int32) (hl : l.stackTraces = false) (hn : n ≤ 6) (hT : T < 2 ^ 29) (hx1 : ¬ x < nI 5) (hx2 : x ≤ nI 60) (hb : y < nI 1 ∨ nI 9 < y) : MIH (Unit) l yL_addGun cL_addGun 5 7 104 [(0, 10, 13, 13), (0, 10, 17, 15)] G (tY cI cZ cJ) [.ref h, .int x, .int y, .ref o] ((wH h ta sa ua T) ++ (wT ta cI b r) ++ (wS sa cI cZ sw st fa sc fi mi lf hi n) ++ (wS ua cI cZ sw2 st2 fa2 sc2 fi2 mi2 lf2 hi2 n2) ++ (wO o cJ ov)) (fun zr _ => zr = nI 1) (fun _ => (wH h ta sa ua T) ++ (wT ta cI b r) ++ (wS sa cI cZ sw st fa sc fi mi lf hi n) ++ (wS ua cI cZ sw2 st2 fa2 sc2 fi2 mi2 lf2 hi2 n2) ++ (wO o cJ ov)) 1 6 := by
  refine MIH_of (by decide) (Nat.le_of_ble_eq_true rfl) [(0, .ref h), (1, .int x), (2, .int y), (3, .ref o)] rfl ?_
  intro p e s m below meth c hC hr hlocks hz htab
  have hC : Cx p s m _ c cL_addGun 5 RL G (tY cI cZ cJ) _ := hC
  refine z_aload_n (n := 1) hC dL_addGun_0 rfl 3 rfl rfl ?_
  refine z_iconst (v := nI 0) (n := 2) hC dL_addGun_1 (by decide) rfl ?_
  refine z_aload_n (n := 3) hC dL_addGun_2 rfl 0 rfl rfl ?_
  refine z_iload_n (n := 4) hC dL_addGun_3 rfl 1 rfl rfl ?_
  refine z_iload_n (n := 5) hC dL_addGun_4 rfl 2 rfl rfl ?_
  refine z_callvxc (n := 13) (cells := 0) (slots := 0) (As := [.int x, .int y]) (rest := [.int (nI 0), .ref o]) hC (kx_X2_addGun_b l G cI cZ cJ h ta sa ua T b r sw st fa sc fi mi lf hi n sw2 st2 fa2 sc2 fi2 mi2 lf2 hi2 n2 x y hl hn hT hx1 hx2 hb) kg_L_7 kd_yX2_addGun dL_addGun_5 ⟨Nat.le_of_ble_eq_true rfl, Nat.le_of_ble_eq_true rfl⟩ 0 rfl rfl rfl [0, 1, 2, 3, 4, 5, 6, 7, 8, 9, 10, 11, 12, 13, 14, 15, 16, 17, 18, 19, 20, 21] rfl (by decide) rfl (Nat.le_of_ble_eq_true rfl) ⟨Nat.le_of_ble_eq_true rfl, Nat.le_of_ble_eq_true rfl⟩ [22] rfl rfl [] ⟨0, 10, 13, 13⟩ [⟨0, 10, 17, 15⟩] htab (fun z hz9 => absurd hz9 List.not_mem_nil) rfl (by decide) q629 (by simp [zCW]) rfl (fun q1 => ?_)
  refine z_astore (lv' := [(4, .ref q1), (0, .ref h), (1, .int x), (2, .int y), (3, .ref o)]) (n := 15) hC dL_addGun_13 (by decide) rfl rfl ?_
  refine z_iconst (v := nI 1) (n := 16) hC dL_addGun_15 (by decide) rfl ?_
  refine z_iret hC hr hlocks () ?_ rfl dL_addGun_16 (by omega) (by omega)
  rfl

set_option maxRecDepth 100000 in
set_option maxHeartbeats 4000000 in
theorem kx_L_addGun_c (l : Launch) (G : va_G) (cI cZ cJ : ClassId) (h : Nat) (ta : Nat → Nat) (sa : Nat → Nat) (ua : Nat → Nat) (T : Nat) (b : Nat → Int32) (r : Nat → Int32) (sw : Nat → Int32) (st : Nat → Int32) (fa : Nat → Int32) (sc : Nat → Int32) (fi : Nat → Int32) (mi : Nat → Int32) (lf : Nat → Bool) (hi : Nat → Bool) (n : Nat) (sw2 : Nat → Int32) (st2 : Nat → Int32) (fa2 : Nat → Int32) (sc2 : Nat → Int32) (fi2 : Nat → Int32) (mi2 : Nat → Int32) (lf2 : Nat → Bool) (hi2 : Nat → Bool) (n2 : Nat) (o : Nat) (ov : Nat → Int64) (x : Int32) (y : Int32) (hl : l.stackTraces = false) (hn : n ≤ 6) (hT : T < 2 ^ 29) (hn6 : n = 6) (hx1 : ¬ x < nI 5) (hx2 : x ≤ nI 60) (hy1 : ¬ y < nI 1) (hy2 : y ≤ nI 9) : MIH (Unit) l yL_addGun cL_addGun 5 7 104 [(0, 10, 13, 13), (0, 10, 17, 15)] G (tY cI cZ cJ) [.ref h, .int x, .int y, .ref o] ((wH h ta sa ua T) ++ (wT ta cI b r) ++ (wS sa cI cZ sw st fa sc fi mi lf hi n) ++ (wS ua cI cZ sw2 st2 fa2 sc2 fi2 mi2 lf2 hi2 n2) ++ (wO o cJ ov)) (fun zr _ => zr = nI 2) (fun _ => (wH h ta sa ua T) ++ (wT ta cI b r) ++ (wS sa cI cZ sw st fa sc fi mi lf hi n) ++ (wS ua cI cZ sw2 st2 fa2 sc2 fi2 mi2 lf2 hi2 n2) ++ (wO o cJ ov)) 1 6 := by
  refine MIH_of (by decide) (Nat.le_of_ble_eq_true rfl) [(0, .ref h), (1, .int x), (2, .int y), (3, .ref o)] rfl ?_
  intro p e s m below meth c hC hr hlocks hz htab
  have hC : Cx p s m _ c cL_addGun 5 RL G (tY cI cZ cJ) _ := hC
  refine z_aload_n (n := 1) hC dL_addGun_0 rfl 3 rfl rfl ?_
  refine z_iconst (v := nI 0) (n := 2) hC dL_addGun_1 (by decide) rfl ?_
  refine z_aload_n (n := 3) hC dL_addGun_2 rfl 0 rfl rfl ?_
  refine z_iload_n (n := 4) hC dL_addGun_3 rfl 1 rfl rfl ?_
  refine z_iload_n (n := 5) hC dL_addGun_4 rfl 2 rfl rfl ?_
  refine z_callvxc (n := 17) (cells := 0) (slots := 0) (As := [.int x, .int y]) (rest := [.int (nI 0), .ref o]) hC (kx_X2_addGun_c l G cI cZ cJ h ta sa ua T b r sw st fa sc fi mi lf hi n sw2 st2 fa2 sc2 fi2 mi2 lf2 hi2 n2 x y hl hn hT hn6 hx1 hx2 hy1 hy2) kg_L_7 kd_yX2_addGun dL_addGun_5 ⟨Nat.le_of_ble_eq_true rfl, Nat.le_of_ble_eq_true rfl⟩ 0 rfl rfl rfl [0, 1, 2, 3, 4, 5, 6, 7, 8, 9, 10, 11, 12, 13, 14, 15, 16, 17, 18, 19, 20, 21] rfl (by decide) rfl (Nat.le_of_ble_eq_true rfl) ⟨Nat.le_of_ble_eq_true rfl, Nat.le_of_ble_eq_true rfl⟩ [22] rfl rfl [⟨0, 10, 13, 13⟩] ⟨0, 10, 17, 15⟩ [] htab (fun z hz9 => by cases List.mem_singleton.mp hz9; exact ⟨by decide, _, q629, hz.1⟩) rfl (by decide) q630 (by simp [zCW]) rfl (fun q1 => ?_)
  refine z_astore (lv' := [(4, .ref q1), (0, .ref h), (1, .int x), (2, .int y), (3, .ref o)]) (n := 19) hC dL_addGun_17 (by decide) rfl rfl ?_
  refine z_iconst (v := nI 2) (n := 20) hC dL_addGun_19 (by decide) rfl ?_
  refine z_iret hC hr hlocks () ?_ rfl dL_addGun_20 (by omega) (by omega)
  rfl

set_option maxRecDepth 100000 in
set_option maxHeartbeats 4000000 in
theorem k_L_setTrap (l : Launch) (G : va_G) (cI cZ cJ : ClassId) (h : Nat) (ta : Nat → Nat) (sa : Nat → Nat) (ua : Nat → Nat) (T : Nat) (b : Nat → Int32) (r : Nat → Int32) (sw : Nat → Int32) (st : Nat → Int32) (fa : Nat → Int32) (sc : Nat → Int32) (fi : Nat → Int32) (mi : Nat → Int32) (lf : Nat → Bool) (hi : Nat → Bool) (n : Nat) (sw2 : Nat → Int32) (st2 : Nat → Int32) (fa2 : Nat → Int32) (sc2 : Nat → Int32) (fi2 : Nat → Int32) (mi2 : Nat → Int32) (lf2 : Nat → Bool) (hi2 : Nat → Bool) (n2 : Nat) (o : Nat) (ov : Nat → Int64) (s0 : Nat) (x : Int32) (y : Int32) (hn : n ≤ 6) (hT : T < 2 ^ 29) (hs : s0 < 5) (hx1 : ¬ x < (-45)) (hx2 : x ≤ nI 45) (hy1 : ¬ y < 0) (hy2 : y ≤ nI 45) : MIH (Unit) l yL_setTrap cL_setTrap 6 2 44 [(0, 12, 15, 21), (0, 12, 19, 13)] G (tY cI cZ cJ) [.ref h, .int (nI s0), .int x, .int y, .ref o] ((wH h ta sa ua T) ++ (wT ta cI b r) ++ (wS sa cI cZ sw st fa sc fi mi lf hi n) ++ (wS ua cI cZ sw2 st2 fa2 sc2 fi2 mi2 lf2 hi2 n2) ++ (wO o cJ ov)) (fun zr _ => zr = nI 0) (fun _ => (wH h ta sa ua T) ++ (wT ta cI (upd b s0 x) (upd r s0 y)) ++ (wS sa cI cZ sw st fa sc fi mi lf hi n) ++ (wS ua cI cZ sw2 st2 fa2 sc2 fi2 mi2 lf2 hi2 n2) ++ (wO o cJ (vp_updL ov 0 ((b s0).toInt64)))) 0 0 := by
  refine MIH_of (by decide) (Nat.le_of_ble_eq_true rfl) [(0, .ref h), (1, .int (nI s0)), (2, .int x), (3, .int y), (4, .ref o)] rfl ?_
  intro p e s m below meth c hC hr hlocks hz htab
  have hC : Cx p s m _ c cL_setTrap 6 RL G (tY cI cZ cJ) _ := hC
  refine z_aload (n := 2) hC dL_setTrap_0 4 rfl rfl ?_
  refine z_iconst (v := nI 0) (n := 3) hC dL_setTrap_2 (by decide) rfl ?_
  refine z_aload_n (n := 4) hC dL_setTrap_3 rfl 0 rfl rfl ?_
  refine z_iload_n (n := 5) hC dL_setTrap_4 rfl 1 rfl rfl ?_
  refine z_iload_n (n := 6) hC dL_setTrap_5 rfl 2 rfl rfl ?_
  refine z_iload_n (n := 7) hC dL_setTrap_6 rfl 3 rfl rfl ?_
  refine z_calli (R := { frames := 2, cells := 0, slots := 0, locals := 44 }) (cells := 0) (slots := 0) (ws := (wH h ta sa ua T) ++ (wT ta cI b r) ++ (wS sa cI cZ sw st fa sc fi mi lf hi n) ++ (wS ua cI cZ sw2 st2 fa2 sc2 fi2 mi2 lf2 hi2 n2) ++ (wO o cJ ov)) (n := 10) (As := [.int (nI s0), .int x, .int y]) (rest := [.int (nI 0), .ref o]) hC (k_X2_setTrap l G cI cZ cJ h ta sa ua T b r sw st fa sc fi mi lf hi n sw2 st2 fa2 sc2 fi2 mi2 lf2 hi2 n2 s0 x y hn hT hs hx1 hx2 hy1 hy2) kg_L_17 kd_yX2_setTrap dL_setTrap_7 ⟨Nat.le_of_ble_eq_true rfl, Nat.le_of_ble_eq_true rfl⟩ 0 rfl rfl rfl [0, 1, 2, 3, 4, 5, 6, 7, 8, 9, 10, 11, 12, 13, 14, 15, 16, 17, 18, 19, 20, 21] rfl (by decide) rfl (Nat.le_of_ble_eq_true rfl) ⟨Nat.le_of_ble_eq_true rfl, Nat.le_of_ble_eq_true rfl⟩ (ws2 := fun u1 => (wH h ta sa ua T) ++ (wT ta cI (upd b s0 x) (upd r s0 y)) ++ (wS sa cI cZ sw st fa sc fi mi lf hi n) ++ (wS ua cI cZ sw2 st2 fa2 sc2 fi2 mi2 lf2 hi2 n2) ++ (wO o cJ ov)) [22] (fun _ => rfl) (wO o cJ ov) (fun _ => rfl) rfl (fun _ => rfl) [h, ta 0, ta 1, ta 2, sa 0, sa 1, sa 2, sa 3, sa 4, sa 5, sa 6, sa 7, sa 8, ua 0, ua 1, ua 2, ua 3, ua 4, ua 5, ua 6, ua 7, ua 8] (fun _ => rfl) rfl rfl rfl (fun r2 u1 h3 => ?_)
  subst h3
  refine z_i2l (v := (b s0).toInt64) (n := 11) hC dL_setTrap_10 rfl rfl ?_
  refine z_last (ws' := (wH h ta sa ua T) ++ (wT ta cI (upd b s0 x) (upd r s0 y)) ++ (wS sa cI cZ sw st fa sc fi mi lf hi n) ++ (wS ua cI cZ sw2 st2 fa2 sc2 fi2 mi2 lf2 hi2 n2) ++ (wO o cJ (vp_updL ov 0 ((b s0).toInt64)))) (n := 12) hC 22 2 0 rfl rfl rfl (by omega) (by decide) dL_setTrap_11 rfl rfl ?_
  refine z_goto (n := 23) hC dL_setTrap_12 (by decide) ?_
  refine z_iconst (v := nI 0) (n := 24) hC dL_setTrap_23 (by decide) rfl ?_
  refine z_iret hC hr hlocks () ?_ rfl dL_setTrap_24 (by omega) (by omega)
  rfl

set_option maxRecDepth 100000 in
set_option maxHeartbeats 4000000 in
theorem kx_L_setTrap_a (l : Launch) (G : va_G) (cI cZ cJ : ClassId) (h : Nat) (ta : Nat → Nat) (sa : Nat → Nat) (ua : Nat → Nat) (T : Nat) (b : Nat → Int32) (r : Nat → Int32) (sw : Nat → Int32) (st : Nat → Int32) (fa : Nat → Int32) (sc : Nat → Int32) (fi : Nat → Int32) (mi : Nat → Int32) (lf : Nat → Bool) (hi : Nat → Bool) (n : Nat) (sw2 : Nat → Int32) (st2 : Nat → Int32) (fa2 : Nat → Int32) (sc2 : Nat → Int32) (fi2 : Nat → Int32) (mi2 : Nat → Int32) (lf2 : Nat → Bool) (hi2 : Nat → Bool) (n2 : Nat) (o : Nat) (ov : Nat → Int64) (x : Int32) (y : Int32) (z : Int32) (hl : l.stackTraces = false) (hn : n ≤ 6) (hT : T < 2 ^ 29) (hb : x < 0 ∨ nI 5 ≤ x) : MIH (Unit) l yL_setTrap cL_setTrap 6 8 126 [(0, 12, 15, 21), (0, 12, 19, 13)] G (tY cI cZ cJ) [.ref h, .int x, .int y, .int z, .ref o] ((wH h ta sa ua T) ++ (wT ta cI b r) ++ (wS sa cI cZ sw st fa sc fi mi lf hi n) ++ (wS ua cI cZ sw2 st2 fa2 sc2 fi2 mi2 lf2 hi2 n2) ++ (wO o cJ ov)) (fun zr _ => zr = nI 1) (fun _ => (wH h ta sa ua T) ++ (wT ta cI b r) ++ (wS sa cI cZ sw st fa sc fi mi lf hi n) ++ (wS ua cI cZ sw2 st2 fa2 sc2 fi2 mi2 lf2 hi2 n2) ++ (wO o cJ ov)) 1 6 := by
  refine MIH_of (by decide) (Nat.le_of_ble_eq_true rfl) [(0, .ref h), (1, .int x), (2, .int y), (3, .int z), (4, .ref o)] rfl ?_
  intro p e s m below meth c hC hr hlocks hz htab
  have hC : Cx p s m _ c cL_setTrap 6 RL G (tY cI cZ cJ) _ := hC
  refine z_aload (n := 2) hC dL_setTrap_0 4 rfl rfl ?_
  refine z_iconst (v := nI 0) (n := 3) hC dL_setTrap_2 (by decide) rfl ?_
  refine z_aload_n (n := 4) hC dL_setTrap_3 rfl 0 rfl rfl ?_
  refine z_iload_n (n := 5) hC dL_setTrap_4 rfl 1 rfl rfl ?_
  refine z_iload_n (n := 6) hC dL_setTrap_5 rfl 2 rfl rfl ?_
  refine z_iload_n (n := 7) hC dL_setTrap_6 rfl 3 rfl rfl ?_
  refine z_callvxc (n := 15) (cells := 0) (slots := 0) (As := [.int x, .int y, .int z]) (rest := [.int (nI 0), .ref o]) hC (kx_X2_setTrap_a l G cI cZ cJ h ta sa ua T b r sw st fa sc fi mi lf hi n sw2 st2 fa2 sc2 fi2 mi2 lf2 hi2 n2 x y z hl hn hT hb) kg_L_17 kd_yX2_setTrap dL_setTrap_7 ⟨Nat.le_of_ble_eq_true rfl, Nat.le_of_ble_eq_true rfl⟩ 0 rfl rfl rfl [0, 1, 2, 3, 4, 5, 6, 7, 8, 9, 10, 11, 12, 13, 14, 15, 16, 17, 18, 19, 20, 21] rfl (by decide) rfl (Nat.le_of_ble_eq_true rfl) ⟨Nat.le_of_ble_eq_true rfl, Nat.le_of_ble_eq_true rfl⟩ [22] rfl rfl [] ⟨0, 12, 15, 21⟩ [⟨0, 12, 19, 13⟩] htab (fun z hz9 => absurd hz9 List.not_mem_nil) rfl (by decide) q633 (by simp [zCW]) rfl (fun q1 => ?_)
  refine z_astore (lv' := [(5, .ref q1), (0, .ref h), (1, .int x), (2, .int y), (3, .int z), (4, .ref o)]) (n := 17) hC dL_setTrap_15 (by decide) rfl rfl ?_
  refine z_iconst (v := nI 1) (n := 18) hC dL_setTrap_17 (by decide) rfl ?_
  refine z_iret hC hr hlocks () ?_ rfl dL_setTrap_18 (by omega) (by omega)
  rfl

set_option maxRecDepth 100000 in
set_option maxHeartbeats 4000000 in
theorem kx_L_setTrap_b (l : Launch) (G : va_G) (cI cZ cJ : ClassId) (h : Nat) (ta : Nat → Nat) (sa : Nat → Nat) (ua : Nat → Nat) (T : Nat) (b : Nat → Int32) (r : Nat → Int32) (sw : Nat → Int32) (st : Nat → Int32) (fa : Nat → Int32) (sc : Nat → Int32) (fi : Nat → Int32) (mi : Nat → Int32) (lf : Nat → Bool) (hi : Nat → Bool) (n : Nat) (sw2 : Nat → Int32) (st2 : Nat → Int32) (fa2 : Nat → Int32) (sc2 : Nat → Int32) (fi2 : Nat → Int32) (mi2 : Nat → Int32) (lf2 : Nat → Bool) (hi2 : Nat → Bool) (n2 : Nat) (o : Nat) (ov : Nat → Int64) (s0 : Nat) (x : Int32) (y : Int32) (hl : l.stackTraces = false) (hn : n ≤ 6) (hT : T < 2 ^ 29) (hs : s0 < 5) (hb : x < (-45) ∨ nI 45 < x) : MIH (Unit) l yL_setTrap cL_setTrap 6 7 106 [(0, 12, 15, 21), (0, 12, 19, 13)] G (tY cI cZ cJ) [.ref h, .int (nI s0), .int x, .int y, .ref o] ((wH h ta sa ua T) ++ (wT ta cI b r) ++ (wS sa cI cZ sw st fa sc fi mi lf hi n) ++ (wS ua cI cZ sw2 st2 fa2 sc2 fi2 mi2 lf2 hi2 n2) ++ (wO o cJ ov)) (fun zr _ => zr = nI 2) (fun _ => (wH h ta sa ua T) ++ (wT ta cI b r) ++ (wS sa cI cZ sw st fa sc fi mi lf hi n) ++ (wS ua cI cZ sw2 st2 fa2 sc2 fi2 mi2 lf2 hi2 n2) ++ (wO o cJ ov)) 1 6 := by
  refine MIH_of (by decide) (Nat.le_of_ble_eq_true rfl) [(0, .ref h), (1, .int (nI s0)), (2, .int x), (3, .int y), (4, .ref o)] rfl ?_
  intro p e s m below meth c hC hr hlocks hz htab
  have hC : Cx p s m _ c cL_setTrap 6 RL G (tY cI cZ cJ) _ := hC
  refine z_aload (n := 2) hC dL_setTrap_0 4 rfl rfl ?_
  refine z_iconst (v := nI 0) (n := 3) hC dL_setTrap_2 (by decide) rfl ?_
  refine z_aload_n (n := 4) hC dL_setTrap_3 rfl 0 rfl rfl ?_
  refine z_iload_n (n := 5) hC dL_setTrap_4 rfl 1 rfl rfl ?_
  refine z_iload_n (n := 6) hC dL_setTrap_5 rfl 2 rfl rfl ?_
  refine z_iload_n (n := 7) hC dL_setTrap_6 rfl 3 rfl rfl ?_
  refine z_callvxc (n := 19) (cells := 0) (slots := 0) (As := [.int (nI s0), .int x, .int y]) (rest := [.int (nI 0), .ref o]) hC (kx_X2_setTrap_b l G cI cZ cJ h ta sa ua T b r sw st fa sc fi mi lf hi n sw2 st2 fa2 sc2 fi2 mi2 lf2 hi2 n2 s0 x y hl hn hT hs hb) kg_L_17 kd_yX2_setTrap dL_setTrap_7 ⟨Nat.le_of_ble_eq_true rfl, Nat.le_of_ble_eq_true rfl⟩ 0 rfl rfl rfl [0, 1, 2, 3, 4, 5, 6, 7, 8, 9, 10, 11, 12, 13, 14, 15, 16, 17, 18, 19, 20, 21] rfl (by decide) rfl (Nat.le_of_ble_eq_true rfl) ⟨Nat.le_of_ble_eq_true rfl, Nat.le_of_ble_eq_true rfl⟩ [22] rfl rfl [⟨0, 12, 15, 21⟩] ⟨0, 12, 19, 13⟩ [] htab (fun z hz9 => by cases List.mem_singleton.mp hz9; exact ⟨by decide, _, q633, hz.2⟩) rfl (by decide) q629 (by simp [zCW]) rfl (fun q1 => ?_)
  refine z_astore (lv' := [(5, .ref q1), (0, .ref h), (1, .int (nI s0)), (2, .int x), (3, .int y), (4, .ref o)]) (n := 21) hC dL_setTrap_19 (by decide) rfl rfl ?_
  refine z_iconst (v := nI 2) (n := 22) hC dL_setTrap_21 (by decide) rfl ?_
  refine z_iret hC hr hlocks () ?_ rfl dL_setTrap_22 (by omega) (by omega)
  rfl

set_option maxRecDepth 100000 in
set_option maxHeartbeats 4000000 in
theorem kx_L_setTrap_c (l : Launch) (G : va_G) (cI cZ cJ : ClassId) (h : Nat) (ta : Nat → Nat) (sa : Nat → Nat) (ua : Nat → Nat) (T : Nat) (b : Nat → Int32) (r : Nat → Int32) (sw : Nat → Int32) (st : Nat → Int32) (fa : Nat → Int32) (sc : Nat → Int32) (fi : Nat → Int32) (mi : Nat → Int32) (lf : Nat → Bool) (hi : Nat → Bool) (n : Nat) (sw2 : Nat → Int32) (st2 : Nat → Int32) (fa2 : Nat → Int32) (sc2 : Nat → Int32) (fi2 : Nat → Int32) (mi2 : Nat → Int32) (lf2 : Nat → Bool) (hi2 : Nat → Bool) (n2 : Nat) (o : Nat) (ov : Nat → Int64) (s0 : Nat) (x : Int32) (y : Int32) (hl : l.stackTraces = false) (hn : n ≤ 6) (hT : T < 2 ^ 29) (hs : s0 < 5) (hx1 : ¬ x < (-45)) (hx2 : x ≤ nI 45) (hb : y < 0 ∨ nI 45 < y) : MIH (Unit) l yL_setTrap cL_setTrap 6 7 106 [(0, 12, 15, 21), (0, 12, 19, 13)] G (tY cI cZ cJ) [.ref h, .int (nI s0), .int x, .int y, .ref o] ((wH h ta sa ua T) ++ (wT ta cI b r) ++ (wS sa cI cZ sw st fa sc fi mi lf hi n) ++ (wS ua cI cZ sw2 st2 fa2 sc2 fi2 mi2 lf2 hi2 n2) ++ (wO o cJ ov)) (fun zr _ => zr = nI 2) (fun _ => (wH h ta sa ua T) ++ (wT ta cI b r) ++ (wS sa cI cZ sw st fa sc fi mi lf hi n) ++ (wS ua cI cZ sw2 st2 fa2 sc2 fi2 mi2 lf2 hi2 n2) ++ (wO o cJ ov)) 1 6 := by
  refine MIH_of (by decide) (Nat.le_of_ble_eq_true rfl) [(0, .ref h), (1, .int (nI s0)), (2, .int x), (3, .int y), (4, .ref o)] rfl ?_
  intro p e s m below meth c hC hr hlocks hz htab
  have hC : Cx p s m _ c cL_setTrap 6 RL G (tY cI cZ cJ) _ := hC
  refine z_aload (n := 2) hC dL_setTrap_0 4 rfl rfl ?_
  refine z_iconst (v := nI 0) (n := 3) hC dL_setTrap_2 (by decide) rfl ?_
  refine z_aload_n (n := 4) hC dL_setTrap_3 rfl 0 rfl rfl ?_
  refine z_iload_n (n := 5) hC dL_setTrap_4 rfl 1 rfl rfl ?_
  refine z_iload_n (n := 6) hC dL_setTrap_5 rfl 2 rfl rfl ?_
  refine z_iload_n (n := 7) hC dL_setTrap_6 rfl 3 rfl rfl ?_
  refine z_callvxc (n := 19) (cells := 0) (slots := 0) (As := [.int (nI s0), .int x, .int y]) (rest := [.int (nI 0), .ref o]) hC (kx_X2_setTrap_c l G cI cZ cJ h ta sa ua T b r sw st fa sc fi mi lf hi n sw2 st2 fa2 sc2 fi2 mi2 lf2 hi2 n2 s0 x y hl hn hT hs hx1 hx2 hb) kg_L_17 kd_yX2_setTrap dL_setTrap_7 ⟨Nat.le_of_ble_eq_true rfl, Nat.le_of_ble_eq_true rfl⟩ 0 rfl rfl rfl [0, 1, 2, 3, 4, 5, 6, 7, 8, 9, 10, 11, 12, 13, 14, 15, 16, 17, 18, 19, 20, 21] rfl (by decide) rfl (Nat.le_of_ble_eq_true rfl) ⟨Nat.le_of_ble_eq_true rfl, Nat.le_of_ble_eq_true rfl⟩ [22] rfl rfl [⟨0, 12, 15, 21⟩] ⟨0, 12, 19, 13⟩ [] htab (fun z hz9 => by cases List.mem_singleton.mp hz9; exact ⟨by decide, _, q633, hz.2⟩) rfl (by decide) q629 (by simp [zCW]) rfl (fun q1 => ?_)
  refine z_astore (lv' := [(5, .ref q1), (0, .ref h), (1, .int (nI s0)), (2, .int x), (3, .int y), (4, .ref o)]) (n := 21) hC dL_setTrap_19 (by decide) rfl rfl ?_
  refine z_iconst (v := nI 2) (n := 22) hC dL_setTrap_21 (by decide) rfl ?_
  refine z_iret hC hr hlocks () ?_ rfl dL_setTrap_22 (by omega) (by omega)
  rfl

set_option maxRecDepth 100000 in
set_option maxHeartbeats 4000000 in
theorem k_L_rest (l : Launch) (G : va_G) (cI cZ cJ : ClassId) (h : Nat) (ta : Nat → Nat) (sa : Nat → Nat) (ua : Nat → Nat) (T : Nat) (b : Nat → Int32) (r : Nat → Int32) (sw : Nat → Int32) (st : Nat → Int32) (fa : Nat → Int32) (sc : Nat → Int32) (fi : Nat → Int32) (mi : Nat → Int32) (lf : Nat → Bool) (hi : Nat → Bool) (n : Nat) (sw2 : Nat → Int32) (st2 : Nat → Int32) (fa2 : Nat → Int32) (sc2 : Nat → Int32) (fi2 : Nat → Int32) (mi2 : Nat → Int32) (lf2 : Nat → Bool) (hi2 : Nat → Bool) (n2 : Nat) (o : Nat) (ov : Nat → Int64) (g : Nat) (hn : n ≤ 6) (hT : T < 2 ^ 29) (hg : g < n) : MIH (Unit) l yL_rest cL_rest 4 2 43 [(0, 9, 12, 21)] G (tY cI cZ cJ) [.ref h, .int (nI g), .ref o] ((wH h ta sa ua T) ++ (wT ta cI b r) ++ (wS sa cI cZ sw st fa sc fi mi lf hi n) ++ (wS ua cI cZ sw2 st2 fa2 sc2 fi2 mi2 lf2 hi2 n2) ++ (wO o cJ ov)) (fun zr _ => zr = nI 0) (fun _ => (wH h ta sa ua T) ++ (wT ta cI b r) ++ (wS sa cI cZ sw st (upd fa g (nI 0)) sc fi mi lf hi n) ++ (wS ua cI cZ sw2 st2 fa2 sc2 fi2 mi2 lf2 hi2 n2) ++ (wO o cJ (vp_updL ov 0 ((fa g).toInt64)))) 0 0 := by
  refine MIH_of (by decide) (Nat.le_of_ble_eq_true rfl) [(0, .ref h), (1, .int (nI g)), (2, .ref o)] rfl ?_
  intro p e s m below meth c hC hr hlocks hz htab
  have hC : Cx p s m _ c cL_rest 4 RL G (tY cI cZ cJ) _ := hC
  refine z_aload_n (n := 1) hC dL_rest_0 rfl 2 rfl rfl ?_
  refine z_iconst (v := nI 0) (n := 2) hC dL_rest_1 (by decide) rfl ?_
  refine z_aload_n (n := 3) hC dL_rest_2 rfl 0 rfl rfl ?_
  refine z_iload_n (n := 4) hC dL_rest_3 rfl 1 rfl rfl ?_
  refine z_calli (R := { frames := 2, cells := 0, slots := 0, locals := 43 }) (cells := 0) (slots := 0) (ws := (wH h ta sa ua T) ++ (wT ta cI b r) ++ (wS sa cI cZ sw st fa sc fi mi lf hi n) ++ (wS ua cI cZ sw2 st2 fa2 sc2 fi2 mi2 lf2 hi2 n2) ++ (wO o cJ ov)) (n := 7) (As := [.int (nI g)]) (rest := [.int (nI 0), .ref o]) hC (k_X2_rest l G cI cZ cJ h ta sa ua T b r sw st fa sc fi mi lf hi n sw2 st2 fa2 sc2 fi2 mi2 lf2 hi2 n2 g hn hT hg) kg_L_23 kd_yX2_rest dL_rest_4 ⟨Nat.le_of_ble_eq_true rfl, Nat.le_of_ble_eq_true rfl⟩ 0 rfl rfl rfl [0, 1, 2, 3, 4, 5, 6, 7, 8, 9, 10, 11, 12, 13, 14, 15, 16, 17, 18, 19, 20, 21] rfl (by decide) rfl (Nat.le_of_ble_eq_true rfl) ⟨Nat.le_of_ble_eq_true rfl, Nat.le_of_ble_eq_true rfl⟩ (ws2 := fun u1 => (wH h ta sa ua T) ++ (wT ta cI b r) ++ (wS sa cI cZ sw st (upd fa g (nI 0)) sc fi mi lf hi n) ++ (wS ua cI cZ sw2 st2 fa2 sc2 fi2 mi2 lf2 hi2 n2) ++ (wO o cJ ov)) [22] (fun _ => rfl) (wO o cJ ov) (fun _ => rfl) rfl (fun _ => rfl) [h, ta 0, ta 1, ta 2, sa 0, sa 1, sa 2, sa 3, sa 4, sa 5, sa 6, sa 7, sa 8, ua 0, ua 1, ua 2, ua 3, ua 4, ua 5, ua 6, ua 7, ua 8] (fun _ => rfl) rfl rfl rfl (fun r2 u1 h3 => ?_)
  subst h3
  refine z_i2l (v := (fa g).toInt64) (n := 8) hC dL_rest_7 rfl rfl ?_
  refine z_last (ws' := (wH h ta sa ua T) ++ (wT ta cI b r) ++ (wS sa cI cZ sw st (upd fa g (nI 0)) sc fi mi lf hi n) ++ (wS ua cI cZ sw2 st2 fa2 sc2 fi2 mi2 lf2 hi2 n2) ++ (wO o cJ (vp_updL ov 0 ((fa g).toInt64)))) (n := 9) hC 22 2 0 rfl rfl rfl (by omega) (by decide) dL_rest_8 rfl rfl ?_
  refine z_goto (n := 15) hC dL_rest_9 (by decide) ?_
  refine z_iconst (v := nI 0) (n := 16) hC dL_rest_15 (by decide) rfl ?_
  refine z_iret hC hr hlocks () ?_ rfl dL_rest_16 (by omega) (by omega)
  rfl

set_option maxRecDepth 100000 in
set_option maxHeartbeats 4000000 in
theorem k_L_pass (l : Launch) (G : va_G) (cI cZ cJ : ClassId) (h : Nat) (ta : Nat → Nat) (sa : Nat → Nat) (ua : Nat → Nat) (T : Nat) (b : Nat → Int32) (r : Nat → Int32) (sw : Nat → Int32) (st : Nat → Int32) (fa : Nat → Int32) (sc : Nat → Int32) (fi : Nat → Int32) (mi : Nat → Int32) (lf : Nat → Bool) (hi : Nat → Bool) (n : Nat) (sw2 : Nat → Int32) (st2 : Nat → Int32) (fa2 : Nat → Int32) (sc2 : Nat → Int32) (fi2 : Nat → Int32) (mi2 : Nat → Int32) (lf2 : Nat → Bool) (hi2 : Nat → Bool) (n2 : Nat) (o : Nat) (ov : Nat → Int64) (k : Nat) (hn : n ≤ 6) (hT : T < 2 ^ 29) (hk1 : 1 ≤ k) (hk2 : k ≤ 50) : MIH (Unit) l yL_pass cL_pass 4 7 161 [(0, 9, 12, 13)] G (tY cI cZ cJ) [.ref h, .int (nI k), .ref o] ((wH h ta sa ua T) ++ (wT ta cI b r) ++ (wS sa cI cZ sw st fa sc fi mi lf hi n) ++ (wS ua cI cZ sw2 st2 fa2 sc2 fi2 mi2 lf2 hi2 n2) ++ (wO o cJ ov)) (fun zr _ => zr = nI 0) (fun _ => (wH h ta sa ua (T + k)) ++ (wT ta cI b r) ++ (wS sa cI cZ sw st (pwF fa (plA sw st b r sc fi mi fa T k) n) (pwF sc (plS sw st b r sc fi mi fa T k) n) (pwF fi (plF sw st b r sc fi mi fa T k) n) (pwF mi (plM sw st b r sc fi mi fa T k) n) lf hi n) ++ (wS ua cI cZ sw2 st2 fa2 sc2 fi2 mi2 lf2 hi2 n2) ++ (wO o cJ (vp_updL ov 0 ((smF (fun zj => plM sw st b r sc fi mi fa T k zj - mi zj) n).toInt64)))) 0 0 := by
  refine MIH_of (by decide) (Nat.le_of_ble_eq_true rfl) [(0, .ref h), (1, .int (nI k)), (2, .ref o)] rfl ?_
  intro p e s m below meth c hC hr hlocks hz htab
  have hC : Cx p s m _ c cL_pass 4 RL G (tY cI cZ cJ) _ := hC
  refine z_aload_n (n := 1) hC dL_pass_0 rfl 2 rfl rfl ?_
  refine z_iconst (v := nI 0) (n := 2) hC dL_pass_1 (by decide) rfl ?_
  refine z_aload_n (n := 3) hC dL_pass_2 rfl 0 rfl rfl ?_
  refine z_iload_n (n := 4) hC dL_pass_3 rfl 1 rfl rfl ?_
  refine z_calli (R := { frames := 7, cells := 0, slots := 0, locals := 161 }) (cells := 0) (slots := 0) (ws := (wH h ta sa ua T) ++ (wT ta cI b r) ++ (wS sa cI cZ sw st fa sc fi mi lf hi n) ++ (wS ua cI cZ sw2 st2 fa2 sc2 fi2 mi2 lf2 hi2 n2) ++ (wO o cJ ov)) (n := 7) (As := [.int (nI k)]) (rest := [.int (nI 0), .ref o]) hC (k_X2_pass l G cI cZ cJ h ta sa ua T b r sw st fa sc fi mi lf hi n sw2 st2 fa2 sc2 fi2 mi2 lf2 hi2 n2 k hn hT hk1 hk2) kg_L_27 kd_yX2_pass dL_pass_4 ⟨Nat.le_of_ble_eq_true rfl, Nat.le_of_ble_eq_true rfl⟩ 0 rfl rfl rfl [0, 1, 2, 3, 4, 5, 6, 7, 8, 9, 10, 11, 12, 13, 14, 15, 16, 17, 18, 19, 20, 21] rfl (by decide) rfl (Nat.le_of_ble_eq_true rfl) ⟨Nat.le_of_ble_eq_true rfl, Nat.le_of_ble_eq_true rfl⟩ (ws2 := fun u1 => (wH h ta sa ua (T + k)) ++ (wT ta cI b r) ++ (wS sa cI cZ sw st (pwF fa (plA sw st b r sc fi mi fa T k) n) (pwF sc (plS sw st b r sc fi mi fa T k) n) (pwF fi (plF sw st b r sc fi mi fa T k) n) (pwF mi (plM sw st b r sc fi mi fa T k) n) lf hi n) ++ (wS ua cI cZ sw2 st2 fa2 sc2 fi2 mi2 lf2 hi2 n2) ++ (wO o cJ ov)) [22] (fun _ => rfl) (wO o cJ ov) (fun _ => rfl) rfl (fun _ => rfl) [h, ta 0, ta 1, ta 2, sa 0, sa 1, sa 2, sa 3, sa 4, sa 5, sa 6, sa 7, sa 8, ua 0, ua 1, ua 2, ua 3, ua 4, ua 5, ua 6, ua 7, ua 8] (fun _ => rfl) rfl rfl rfl (fun r2 u1 h3 => ?_)
  subst h3
  refine z_i2l (v := (smF (fun zj => plM sw st b r sc fi mi fa T k zj - mi zj) n).toInt64) (n := 8) hC dL_pass_7 rfl rfl ?_
  refine z_last (ws' := (wH h ta sa ua (T + k)) ++ (wT ta cI b r) ++ (wS sa cI cZ sw st (pwF fa (plA sw st b r sc fi mi fa T k) n) (pwF sc (plS sw st b r sc fi mi fa T k) n) (pwF fi (plF sw st b r sc fi mi fa T k) n) (pwF mi (plM sw st b r sc fi mi fa T k) n) lf hi n) ++ (wS ua cI cZ sw2 st2 fa2 sc2 fi2 mi2 lf2 hi2 n2) ++ (wO o cJ (vp_updL ov 0 ((smF (fun zj => plM sw st b r sc fi mi fa T k zj - mi zj) n).toInt64)))) (n := 9) hC 22 2 0 rfl rfl rfl (by omega) (by decide) dL_pass_8 rfl rfl ?_
  refine z_goto (n := 15) hC dL_pass_9 (by decide) ?_
  refine z_iconst (v := nI 0) (n := 16) hC dL_pass_15 (by decide) rfl ?_
  refine z_iret hC hr hlocks () ?_ rfl dL_pass_16 (by omega) (by omega)
  rfl

set_option maxRecDepth 100000 in
set_option maxHeartbeats 4000000 in
theorem kx_L_pass_x (l : Launch) (G : va_G) (cI cZ cJ : ClassId) (h : Nat) (ta : Nat → Nat) (sa : Nat → Nat) (ua : Nat → Nat) (T : Nat) (b : Nat → Int32) (r : Nat → Int32) (sw : Nat → Int32) (st : Nat → Int32) (fa : Nat → Int32) (sc : Nat → Int32) (fi : Nat → Int32) (mi : Nat → Int32) (lf : Nat → Bool) (hi : Nat → Bool) (n : Nat) (sw2 : Nat → Int32) (st2 : Nat → Int32) (fa2 : Nat → Int32) (sc2 : Nat → Int32) (fi2 : Nat → Int32) (mi2 : Nat → Int32) (lf2 : Nat → Bool) (hi2 : Nat → Bool) (n2 : Nat) (o : Nat) (ov : Nat → Int64) (x : Int32) (hl : l.stackTraces = false) (hn : n ≤ 6) (hT : T < 2 ^ 29) (hb : x < nI 1 ∨ nI 50 < x) : MIH (Unit) l yL_pass cL_pass 4 8 124 [(0, 9, 12, 13)] G (tY cI cZ cJ) [.ref h, .int x, .ref o] ((wH h ta sa ua T) ++ (wT ta cI b r) ++ (wS sa cI cZ sw st fa sc fi mi lf hi n) ++ (wS ua cI cZ sw2 st2 fa2 sc2 fi2 mi2 lf2 hi2 n2) ++ (wO o cJ ov)) (fun zr _ => zr = nI 1) (fun _ => (wH h ta sa ua T) ++ (wT ta cI b r) ++ (wS sa cI cZ sw st fa sc fi mi lf hi n) ++ (wS ua cI cZ sw2 st2 fa2 sc2 fi2 mi2 lf2 hi2 n2) ++ (wO o cJ ov)) 1 6 := by
  refine MIH_of (by decide) (Nat.le_of_ble_eq_true rfl) [(0, .ref h), (1, .int x), (2, .ref o)] rfl ?_
  intro p e s m below meth c hC hr hlocks hz htab
  have hC : Cx p s m _ c cL_pass 4 RL G (tY cI cZ cJ) _ := hC
  refine z_aload_n (n := 1) hC dL_pass_0 rfl 2 rfl rfl ?_
  refine z_iconst (v := nI 0) (n := 2) hC dL_pass_1 (by decide) rfl ?_
  refine z_aload_n (n := 3) hC dL_pass_2 rfl 0 rfl rfl ?_
  refine z_iload_n (n := 4) hC dL_pass_3 rfl 1 rfl rfl ?_
  refine z_callvxc (n := 12) (cells := 0) (slots := 0) (As := [.int x]) (rest := [.int (nI 0), .ref o]) hC (kx_X2_pass l G cI cZ cJ h ta sa ua T b r sw st fa sc fi mi lf hi n sw2 st2 fa2 sc2 fi2 mi2 lf2 hi2 n2 x hl hn hT hb) kg_L_27 kd_yX2_pass dL_pass_4 ⟨Nat.le_of_ble_eq_true rfl, Nat.le_of_ble_eq_true rfl⟩ 0 rfl rfl rfl [0, 1, 2, 3, 4, 5, 6, 7, 8, 9, 10, 11, 12, 13, 14, 15, 16, 17, 18, 19, 20, 21] rfl (by decide) rfl (Nat.le_of_ble_eq_true rfl) ⟨Nat.le_of_ble_eq_true rfl, Nat.le_of_ble_eq_true rfl⟩ [22] rfl rfl [] ⟨0, 9, 12, 13⟩ [] htab (fun z hz9 => absurd hz9 List.not_mem_nil) rfl (by decide) q629 (by simp [zCW]) rfl (fun q1 => ?_)
  refine z_astore_n (lv' := [(3, .ref q1), (0, .ref h), (1, .int x), (2, .ref o)]) (n := 13) hC dL_pass_12 rfl (by decide) rfl rfl ?_
  refine z_iconst (v := nI 1) (n := 14) hC dL_pass_13 (by decide) rfl ?_
  refine z_iret hC hr hlocks () ?_ rfl dL_pass_14 (by omega) (by omega)
  rfl

set_option maxRecDepth 100000 in
set_option maxHeartbeats 4000000 in
theorem k_L_shootOff (l : Launch) (G : va_G) (cI cZ cJ : ClassId) (h : Nat) (ta : Nat → Nat) (sa : Nat → Nat) (ua : Nat → Nat) (T : Nat) (b : Nat → Int32) (r : Nat → Int32) (sw : Nat → Int32) (st : Nat → Int32) (fa : Nat → Int32) (sc : Nat → Int32) (fi : Nat → Int32) (mi : Nat → Int32) (lf : Nat → Bool) (hi : Nat → Bool) (n : Nat) (sw2 : Nat → Int32) (st2 : Nat → Int32) (fa2 : Nat → Int32) (sc2 : Nat → Int32) (fi2 : Nat → Int32) (mi2 : Nat → Int32) (lf2 : Nat → Bool) (hi2 : Nat → Bool) (n2 : Nat) (o : Nat) (ov : Nat → Int64) (hn : n ≤ 6) (hT : T < 2 ^ 29) (hn0 : 0 < n) : MIH ((Nat → Bool) × (Nat → Bool)) l yL_shootOff cL_shootOff 3 4 88 [(0, 8, 11, 15)] G (tY cI cZ cJ) [.ref h, .ref o] ((wH h ta sa ua T) ++ (wT ta cI b r) ++ (wS sa cI cZ sw st fa sc fi mi lf hi n) ++ (wS ua cI cZ sw2 st2 fa2 sc2 fi2 mi2 lf2 hi2 n2) ++ (wO o cJ ov)) (fun zr _ => zr = nI 0) (fun zu => (wH h ta sa ua T) ++ (wT ta cI b r) ++ (wS sa cI cZ sw st (waF sw st sc fa n) (upd sc (wnF sw st sc fa n) (sc (wnF sw st sc fa n) + nI 1)) fi mi zu.1 zu.2 n) ++ (wS ua cI cZ sw2 st2 fa2 sc2 fi2 mi2 lf2 hi2 n2) ++ (wO o cJ (vp_updL ov 0 ((nI (wnF sw st sc fa n)).toInt64)))) 0 0 := by
  refine MIH_of (by decide) (Nat.le_of_ble_eq_true rfl) [(0, .ref h), (1, .ref o)] rfl ?_
  intro p e s m below meth c hC hr hlocks hz htab
  have hC : Cx p s m _ c cL_shootOff 3 RL G (tY cI cZ cJ) _ := hC
  refine z_aload_n (n := 1) hC dL_shootOff_0 rfl 1 rfl rfl ?_
  refine z_iconst (v := nI 0) (n := 2) hC dL_shootOff_1 (by decide) rfl ?_
  refine z_aload_n (n := 3) hC dL_shootOff_2 rfl 0 rfl rfl ?_
  refine z_calli (R := { frames := 4, cells := 0, slots := 0, locals := 88 }) (cells := 0) (slots := 0) (ws := (wH h ta sa ua T) ++ (wT ta cI b r) ++ (wS sa cI cZ sw st fa sc fi mi lf hi n) ++ (wS ua cI cZ sw2 st2 fa2 sc2 fi2 mi2 lf2 hi2 n2) ++ (wO o cJ ov)) (n := 6) (As := []) (rest := [.int (nI 0), .ref o]) hC (k_X2_shootOff l G cI cZ cJ h ta sa ua T b r sw st fa sc fi mi lf hi n sw2 st2 fa2 sc2 fi2 mi2 lf2 hi2 n2 hn hT hn0) kg_L_30 kd_yX2_shootOff dL_shootOff_3 ⟨Nat.le_of_ble_eq_true rfl, Nat.le_of_ble_eq_true rfl⟩ 0 rfl rfl rfl [0, 1, 2, 3, 4, 5, 6, 7, 8, 9, 10, 11, 12, 13, 14, 15, 16, 17, 18, 19, 20, 21] rfl (by decide) rfl (Nat.le_of_ble_eq_true rfl) ⟨Nat.le_of_ble_eq_true rfl, Nat.le_of_ble_eq_true rfl⟩ (ws2 := fun u1 => (wH h ta sa ua T) ++ (wT ta cI b r) ++ (wS sa cI cZ sw st (waF sw st sc fa n) (upd sc (wnF sw st sc fa n) (sc (wnF sw st sc fa n) + nI 1)) fi mi u1.1 u1.2 n) ++ (wS ua cI cZ sw2 st2 fa2 sc2 fi2 mi2 lf2 hi2 n2) ++ (wO o cJ ov)) [22] (fun _ => rfl) (wO o cJ ov) (fun _ => rfl) rfl (fun _ => rfl) [h, ta 0, ta 1, ta 2, sa 0, sa 1, sa 2, sa 3, sa 4, sa 5, sa 6, sa 7, sa 8, ua 0, ua 1, ua 2, ua 3, ua 4, ua 5, ua 6, ua 7, ua 8] (fun _ => rfl) rfl rfl rfl (fun r2 u1 h3 => ?_)
  subst h3
  refine z_i2l (v := (nI (wnF sw st sc fa n)).toInt64) (n := 7) hC dL_shootOff_6 rfl rfl ?_
  refine z_last (ws' := (wH h ta sa ua T) ++ (wT ta cI b r) ++ (wS sa cI cZ sw st (waF sw st sc fa n) (upd sc (wnF sw st sc fa n) (sc (wnF sw st sc fa n) + nI 1)) fi mi u1.1 u1.2 n) ++ (wS ua cI cZ sw2 st2 fa2 sc2 fi2 mi2 lf2 hi2 n2) ++ (wO o cJ (vp_updL ov 0 ((nI (wnF sw st sc fa n)).toInt64)))) (n := 8) hC 22 2 0 rfl rfl rfl (by omega) (by decide) dL_shootOff_7 rfl rfl ?_
  refine z_goto (n := 14) hC dL_shootOff_8 (by decide) ?_
  refine z_iconst (v := nI 0) (n := 15) hC dL_shootOff_14 (by decide) rfl ?_
  refine z_iret hC hr hlocks (u1.1, u1.2) ?_ rfl dL_shootOff_15 (by omega) (by omega)
  rfl

set_option maxRecDepth 100000 in
set_option maxHeartbeats 4000000 in
theorem kx_L_shootOff_x (l : Launch) (G : va_G) (cI cZ cJ : ClassId) (h : Nat) (ta : Nat → Nat) (sa : Nat → Nat) (ua : Nat → Nat) (T : Nat) (b : Nat → Int32) (r : Nat → Int32) (sw : Nat → Int32) (st : Nat → Int32) (fa : Nat → Int32) (sc : Nat → Int32) (fi : Nat → Int32) (mi : Nat → Int32) (lf : Nat → Bool) (hi : Nat → Bool) (n : Nat) (sw2 : Nat → Int32) (st2 : Nat → Int32) (fa2 : Nat → Int32) (sc2 : Nat → Int32) (fi2 : Nat → Int32) (mi2 : Nat → Int32) (lf2 : Nat → Bool) (hi2 : Nat → Bool) (n2 : Nat) (o : Nat) (ov : Nat → Int64) (hl : l.stackTraces = false) (hn : n ≤ 6) (hT : T < 2 ^ 29) (hn0 : n = 0) : MIH (Unit) l yL_shootOff cL_shootOff 3 7 102 [(0, 8, 11, 15)] G (tY cI cZ cJ) [.ref h, .ref o] ((wH h ta sa ua T) ++ (wT ta cI b r) ++ (wS sa cI cZ sw st fa sc fi mi lf hi n) ++ (wS ua cI cZ sw2 st2 fa2 sc2 fi2 mi2 lf2 hi2 n2) ++ (wO o cJ ov)) (fun zr _ => zr = nI 1) (fun _ => (wH h ta sa ua T) ++ (wT ta cI b r) ++ (wS sa cI cZ sw st fa sc fi mi lf hi n) ++ (wS ua cI cZ sw2 st2 fa2 sc2 fi2 mi2 lf2 hi2 n2) ++ (wO o cJ ov)) 1 6 := by
  refine MIH_of (by decide) (Nat.le_of_ble_eq_true rfl) [(0, .ref h), (1, .ref o)] rfl ?_
  intro p e s m below meth c hC hr hlocks hz htab
  have hC : Cx p s m _ c cL_shootOff 3 RL G (tY cI cZ cJ) _ := hC
  refine z_aload_n (n := 1) hC dL_shootOff_0 rfl 1 rfl rfl ?_
  refine z_iconst (v := nI 0) (n := 2) hC dL_shootOff_1 (by decide) rfl ?_
  refine z_aload_n (n := 3) hC dL_shootOff_2 rfl 0 rfl rfl ?_
  refine z_callvxc (n := 11) (cells := 0) (slots := 0) (As := []) (rest := [.int (nI 0), .ref o]) hC (kx_X2_shootOff l G cI cZ cJ h ta sa ua T b r sw st fa sc fi mi lf hi n sw2 st2 fa2 sc2 fi2 mi2 lf2 hi2 n2 hl hn hT hn0) kg_L_30 kd_yX2_shootOff dL_shootOff_3 ⟨Nat.le_of_ble_eq_true rfl, Nat.le_of_ble_eq_true rfl⟩ 0 rfl rfl rfl [0, 1, 2, 3, 4, 5, 6, 7, 8, 9, 10, 11, 12, 13, 14, 15, 16, 17, 18, 19, 20, 21] rfl (by decide) rfl (Nat.le_of_ble_eq_true rfl) ⟨Nat.le_of_ble_eq_true rfl, Nat.le_of_ble_eq_true rfl⟩ [22] rfl rfl [] ⟨0, 8, 11, 15⟩ [] htab (fun z hz9 => absurd hz9 List.not_mem_nil) rfl (by decide) q630 (by simp [zCW]) rfl (fun q1 => ?_)
  refine z_astore_n (lv' := [(2, .ref q1), (0, .ref h), (1, .ref o)]) (n := 12) hC dL_shootOff_11 rfl (by decide) rfl rfl ?_
  refine z_iconst (v := nI 1) (n := 13) hC dL_shootOff_12 (by decide) rfl ?_
  refine z_iret hC hr hlocks () ?_ rfl dL_shootOff_13 (by omega) (by omega)
  rfl

set_option maxRecDepth 100000 in
set_option maxHeartbeats 4000000 in
theorem k_L_angle (l : Launch) (G : va_G) (cI cZ cJ : ClassId) (h : Nat) (ta : Nat → Nat) (sa : Nat → Nat) (ua : Nat → Nat) (T : Nat) (b : Nat → Int32) (r : Nat → Int32) (sw : Nat → Int32) (st : Nat → Int32) (fa : Nat → Int32) (sc : Nat → Int32) (fi : Nat → Int32) (mi : Nat → Int32) (lf : Nat → Bool) (hi : Nat → Bool) (n : Nat) (sw2 : Nat → Int32) (st2 : Nat → Int32) (fa2 : Nat → Int32) (sc2 : Nat → Int32) (fi2 : Nat → Int32) (mi2 : Nat → Int32) (lf2 : Nat → Bool) (hi2 : Nat → Bool) (n2 : Nat) (o : Nat) (ov : Nat → Int64) (s0 : Nat) (c0 : Nat) (hn : n ≤ 6) (hT : T < 2 ^ 29) (hs : s0 < 5) (hc0 : c0 < 5) : MIH (Unit) l yL_angle cL_angle 5 2 44 [(0, 10, 13, 21)] G (tY cI cZ cJ) [.ref h, .int (nI s0), .int (nI c0), .ref o] ((wH h ta sa ua T) ++ (wT ta cI b r) ++ (wS sa cI cZ sw st fa sc fi mi lf hi n) ++ (wS ua cI cZ sw2 st2 fa2 sc2 fi2 mi2 lf2 hi2 n2) ++ (wO o cJ ov)) (fun zr _ => zr = nI 0) (fun _ => (wH h ta sa ua T) ++ (wT ta cI b r) ++ (wS sa cI cZ sw st fa sc fi mi lf hi n) ++ (wS ua cI cZ sw2 st2 fa2 sc2 fi2 mi2 lf2 hi2 n2) ++ (wO o cJ (vp_updL ov 0 ((angF b r s0 c0).toInt64)))) 0 0 := by
  refine MIH_of (by decide) (Nat.le_of_ble_eq_true rfl) [(0, .ref h), (1, .int (nI s0)), (2, .int (nI c0)), (3, .ref o)] rfl ?_
  intro p e s m below meth c hC hr hlocks hz htab
  have hC : Cx p s m _ c cL_angle 5 RL G (tY cI cZ cJ) _ := hC
  refine z_aload_n (n := 1) hC dL_angle_0 rfl 3 rfl rfl ?_
  refine z_iconst (v := nI 0) (n := 2) hC dL_angle_1 (by decide) rfl ?_
  refine z_aload_n (n := 3) hC dL_angle_2 rfl 0 rfl rfl ?_
  refine z_iload_n (n := 4) hC dL_angle_3 rfl 1 rfl rfl ?_
  refine z_iload_n (n := 5) hC dL_angle_4 rfl 2 rfl rfl ?_
  refine z_calli (R := { frames := 2, cells := 0, slots := 0, locals := 44 }) (cells := 0) (slots := 0) (ws := (wH h ta sa ua T) ++ (wT ta cI b r) ++ (wS sa cI cZ sw st fa sc fi mi lf hi n) ++ (wS ua cI cZ sw2 st2 fa2 sc2 fi2 mi2 lf2 hi2 n2) ++ (wO o cJ ov)) (n := 8) (As := [.int (nI s0), .int (nI c0)]) (rest := [.int (nI 0), .ref o]) hC (k_X2_angle l G cI cZ cJ h ta sa ua T b r sw st fa sc fi mi lf hi n sw2 st2 fa2 sc2 fi2 mi2 lf2 hi2 n2 s0 c0 hn hT hs hc0) kg_L_34 kd_yX2_angle dL_angle_5 ⟨Nat.le_of_ble_eq_true rfl, Nat.le_of_ble_eq_true rfl⟩ 0 rfl rfl rfl [0, 1, 2, 3, 4, 5, 6, 7, 8, 9, 10, 11, 12, 13, 14, 15, 16, 17, 18, 19, 20, 21] rfl (by decide) rfl (Nat.le_of_ble_eq_true rfl) ⟨Nat.le_of_ble_eq_true rfl, Nat.le_of_ble_eq_true rfl⟩ (ws2 := fun u1 => (wH h ta sa ua T) ++ (wT ta cI b r) ++ (wS sa cI cZ sw st fa sc fi mi lf hi n) ++ (wS ua cI cZ sw2 st2 fa2 sc2 fi2 mi2 lf2 hi2 n2) ++ (wO o cJ ov)) [22] (fun _ => rfl) (wO o cJ ov) (fun _ => rfl) rfl (fun _ => rfl) [h, ta 0, ta 1, ta 2, sa 0, sa 1, sa 2, sa 3, sa 4, sa 5, sa 6, sa 7, sa 8, ua 0, ua 1, ua 2, ua 3, ua 4, ua 5, ua 6, ua 7, ua 8] (fun _ => rfl) rfl rfl rfl (fun r2 u1 h3 => ?_)
  subst h3
  refine z_i2l (v := (angF b r s0 c0).toInt64) (n := 9) hC dL_angle_8 rfl rfl ?_
  refine z_last (ws' := (wH h ta sa ua T) ++ (wT ta cI b r) ++ (wS sa cI cZ sw st fa sc fi mi lf hi n) ++ (wS ua cI cZ sw2 st2 fa2 sc2 fi2 mi2 lf2 hi2 n2) ++ (wO o cJ (vp_updL ov 0 ((angF b r s0 c0).toInt64)))) (n := 10) hC 22 2 0 rfl rfl rfl (by omega) (by decide) dL_angle_9 rfl rfl ?_
  refine z_goto (n := 17) hC dL_angle_10 (by decide) ?_
  refine z_iconst (v := nI 0) (n := 18) hC dL_angle_17 (by decide) rfl ?_
  refine z_iret hC hr hlocks () ?_ rfl dL_angle_18 (by omega) (by omega)
  rfl

set_option maxRecDepth 100000 in
set_option maxHeartbeats 4000000 in
theorem kx_L_angle_a (l : Launch) (G : va_G) (cI cZ cJ : ClassId) (h : Nat) (ta : Nat → Nat) (sa : Nat → Nat) (ua : Nat → Nat) (T : Nat) (b : Nat → Int32) (r : Nat → Int32) (sw : Nat → Int32) (st : Nat → Int32) (fa : Nat → Int32) (sc : Nat → Int32) (fi : Nat → Int32) (mi : Nat → Int32) (lf : Nat → Bool) (hi : Nat → Bool) (n : Nat) (sw2 : Nat → Int32) (st2 : Nat → Int32) (fa2 : Nat → Int32) (sc2 : Nat → Int32) (fi2 : Nat → Int32) (mi2 : Nat → Int32) (lf2 : Nat → Bool) (hi2 : Nat → Bool) (n2 : Nat) (o : Nat) (ov : Nat → Int64) (x : Int32) (y : Int32) (hl : l.stackTraces = false) (hn : n ≤ 6) (hT : T < 2 ^ 29) (hb : x < 0 ∨ nI 5 ≤ x) : MIH (Unit) l yL_angle cL_angle 5 8 124 [(0, 10, 13, 21)] G (tY cI cZ cJ) [.ref h, .int x, .int y, .ref o] ((wH h ta sa ua T) ++ (wT ta cI b r) ++ (wS sa cI cZ sw st fa sc fi mi lf hi n) ++ (wS ua cI cZ sw2 st2 fa2 sc2 fi2 mi2 lf2 hi2 n2) ++ (wO o cJ ov)) (fun zr _ => zr = nI 1) (fun _ => (wH h ta sa ua T) ++ (wT ta cI b r) ++ (wS sa cI cZ sw st fa sc fi mi lf hi n) ++ (wS ua cI cZ sw2 st2 fa2 sc2 fi2 mi2 lf2 hi2 n2) ++ (wO o cJ ov)) 1 6 := by
  refine MIH_of (by decide) (Nat.le_of_ble_eq_true rfl) [(0, .ref h), (1, .int x), (2, .int y), (3, .ref o)] rfl ?_
  intro p e s m below meth c hC hr hlocks hz htab
  have hC : Cx p s m _ c cL_angle 5 RL G (tY cI cZ cJ) _ := hC
  refine z_aload_n (n := 1) hC dL_angle_0 rfl 3 rfl rfl ?_
  refine z_iconst (v := nI 0) (n := 2) hC dL_angle_1 (by decide) rfl ?_
  refine z_aload_n (n := 3) hC dL_angle_2 rfl 0 rfl rfl ?_
  refine z_iload_n (n := 4) hC dL_angle_3 rfl 1 rfl rfl ?_
  refine z_iload_n (n := 5) hC dL_angle_4 rfl 2 rfl rfl ?_
  refine z_callvxc (n := 13) (cells := 0) (slots := 0) (As := [.int x, .int y]) (rest := [.int (nI 0), .ref o]) hC (kx_X2_angle_a l G cI cZ cJ h ta sa ua T b r sw st fa sc fi mi lf hi n sw2 st2 fa2 sc2 fi2 mi2 lf2 hi2 n2 x y hl hn hT hb) kg_L_34 kd_yX2_angle dL_angle_5 ⟨Nat.le_of_ble_eq_true rfl, Nat.le_of_ble_eq_true rfl⟩ 0 rfl rfl rfl [0, 1, 2, 3, 4, 5, 6, 7, 8, 9, 10, 11, 12, 13, 14, 15, 16, 17, 18, 19, 20, 21] rfl (by decide) rfl (Nat.le_of_ble_eq_true rfl) ⟨Nat.le_of_ble_eq_true rfl, Nat.le_of_ble_eq_true rfl⟩ [22] rfl rfl [] ⟨0, 10, 13, 21⟩ [] htab (fun z hz9 => absurd hz9 List.not_mem_nil) rfl (by decide) q633 (by simp [zCW]) rfl (fun q1 => ?_)
  refine z_astore (lv' := [(4, .ref q1), (0, .ref h), (1, .int x), (2, .int y), (3, .ref o)]) (n := 15) hC dL_angle_13 (by decide) rfl rfl ?_
  refine z_iconst (v := nI 1) (n := 16) hC dL_angle_15 (by decide) rfl ?_
  refine z_iret hC hr hlocks () ?_ rfl dL_angle_16 (by omega) (by omega)
  rfl

set_option maxRecDepth 100000 in
set_option maxHeartbeats 4000000 in
theorem kx_L_angle_b (l : Launch) (G : va_G) (cI cZ cJ : ClassId) (h : Nat) (ta : Nat → Nat) (sa : Nat → Nat) (ua : Nat → Nat) (T : Nat) (b : Nat → Int32) (r : Nat → Int32) (sw : Nat → Int32) (st : Nat → Int32) (fa : Nat → Int32) (sc : Nat → Int32) (fi : Nat → Int32) (mi : Nat → Int32) (lf : Nat → Bool) (hi : Nat → Bool) (n : Nat) (sw2 : Nat → Int32) (st2 : Nat → Int32) (fa2 : Nat → Int32) (sc2 : Nat → Int32) (fi2 : Nat → Int32) (mi2 : Nat → Int32) (lf2 : Nat → Bool) (hi2 : Nat → Bool) (n2 : Nat) (o : Nat) (ov : Nat → Int64) (s0 : Nat) (x : Int32) (hl : l.stackTraces = false) (hn : n ≤ 6) (hT : T < 2 ^ 29) (hs : s0 < 5) (hb : x < 0 ∨ nI 5 ≤ x) : MIH (Unit) l yL_angle cL_angle 5 7 104 [(0, 10, 13, 21)] G (tY cI cZ cJ) [.ref h, .int (nI s0), .int x, .ref o] ((wH h ta sa ua T) ++ (wT ta cI b r) ++ (wS sa cI cZ sw st fa sc fi mi lf hi n) ++ (wS ua cI cZ sw2 st2 fa2 sc2 fi2 mi2 lf2 hi2 n2) ++ (wO o cJ ov)) (fun zr _ => zr = nI 1) (fun _ => (wH h ta sa ua T) ++ (wT ta cI b r) ++ (wS sa cI cZ sw st fa sc fi mi lf hi n) ++ (wS ua cI cZ sw2 st2 fa2 sc2 fi2 mi2 lf2 hi2 n2) ++ (wO o cJ ov)) 1 6 := by
  refine MIH_of (by decide) (Nat.le_of_ble_eq_true rfl) [(0, .ref h), (1, .int (nI s0)), (2, .int x), (3, .ref o)] rfl ?_
  intro p e s m below meth c hC hr hlocks hz htab
  have hC : Cx p s m _ c cL_angle 5 RL G (tY cI cZ cJ) _ := hC
  refine z_aload_n (n := 1) hC dL_angle_0 rfl 3 rfl rfl ?_
  refine z_iconst (v := nI 0) (n := 2) hC dL_angle_1 (by decide) rfl ?_
  refine z_aload_n (n := 3) hC dL_angle_2 rfl 0 rfl rfl ?_
  refine z_iload_n (n := 4) hC dL_angle_3 rfl 1 rfl rfl ?_
  refine z_iload_n (n := 5) hC dL_angle_4 rfl 2 rfl rfl ?_
  refine z_callvxc (n := 13) (cells := 0) (slots := 0) (As := [.int (nI s0), .int x]) (rest := [.int (nI 0), .ref o]) hC (kx_X2_angle_b l G cI cZ cJ h ta sa ua T b r sw st fa sc fi mi lf hi n sw2 st2 fa2 sc2 fi2 mi2 lf2 hi2 n2 s0 x hl hn hT hs hb) kg_L_34 kd_yX2_angle dL_angle_5 ⟨Nat.le_of_ble_eq_true rfl, Nat.le_of_ble_eq_true rfl⟩ 0 rfl rfl rfl [0, 1, 2, 3, 4, 5, 6, 7, 8, 9, 10, 11, 12, 13, 14, 15, 16, 17, 18, 19, 20, 21] rfl (by decide) rfl (Nat.le_of_ble_eq_true rfl) ⟨Nat.le_of_ble_eq_true rfl, Nat.le_of_ble_eq_true rfl⟩ [22] rfl rfl [] ⟨0, 10, 13, 21⟩ [] htab (fun z hz9 => absurd hz9 List.not_mem_nil) rfl (by decide) q633 (by simp [zCW]) rfl (fun q1 => ?_)
  refine z_astore (lv' := [(4, .ref q1), (0, .ref h), (1, .int (nI s0)), (2, .int x), (3, .ref o)]) (n := 15) hC dL_angle_13 (by decide) rfl rfl ?_
  refine z_iconst (v := nI 1) (n := 16) hC dL_angle_15 (by decide) rfl ?_
  refine z_iret hC hr hlocks () ?_ rfl dL_angle_16 (by omega) (by omega)
  rfl

set_option maxRecDepth 100000 in
set_option maxHeartbeats 4000000 in
theorem k_L_hardestClay (l : Launch) (G : va_G) (cI cZ cJ : ClassId) (h : Nat) (ta : Nat → Nat) (sa : Nat → Nat) (ua : Nat → Nat) (T : Nat) (b : Nat → Int32) (r : Nat → Int32) (sw : Nat → Int32) (st : Nat → Int32) (fa : Nat → Int32) (sc : Nat → Int32) (fi : Nat → Int32) (mi : Nat → Int32) (lf : Nat → Bool) (hi : Nat → Bool) (n : Nat) (sw2 : Nat → Int32) (st2 : Nat → Int32) (fa2 : Nat → Int32) (sc2 : Nat → Int32) (fi2 : Nat → Int32) (mi2 : Nat → Int32) (lf2 : Nat → Bool) (hi2 : Nat → Bool) (n2 : Nat) (o : Nat) (ov : Nat → Int64) (s0 : Nat) (hn : n ≤ 6) (hT : T < 2 ^ 29) (hs : s0 < 5) : MIH (Unit) l yL_hardestClay cL_hardestClay 4 4 88 [(0, 9, 12, 21)] G (tY cI cZ cJ) [.ref h, .int (nI s0), .ref o] ((wH h ta sa ua T) ++ (wT ta cI b r) ++ (wS sa cI cZ sw st fa sc fi mi lf hi n) ++ (wS ua cI cZ sw2 st2 fa2 sc2 fi2 mi2 lf2 hi2 n2) ++ (wO o cJ ov)) (fun zr _ => zr = nI 0) (fun _ => (wH h ta sa ua T) ++ (wT ta cI b r) ++ (wS sa cI cZ sw st fa sc fi mi lf hi n) ++ (wS ua cI cZ sw2 st2 fa2 sc2 fi2 mi2 lf2 hi2 n2) ++ (wO o cJ (vp_updL ov 0 ((nI (haF b r s0 4)).toInt64)))) 0 0 := by
  refine MIH_of (by decide) (Nat.le_of_ble_eq_true rfl) [(0, .ref h), (1, .int (nI s0)), (2, .ref o)] rfl ?_
  intro p e s m below meth c hC hr hlocks hz htab
  have hC : Cx p s m _ c cL_hardestClay 4 RL G (tY cI cZ cJ) _ := hC
  refine z_aload_n (n := 1) hC dL_hardestClay_0 rfl 2 rfl rfl ?_
  refine z_iconst (v := nI 0) (n := 2) hC dL_hardestClay_1 (by decide) rfl ?_
  refine z_aload_n (n := 3) hC dL_hardestClay_2 rfl 0 rfl rfl ?_
  refine z_iload_n (n := 4) hC dL_hardestClay_3 rfl 1 rfl rfl ?_
  refine z_calli (R := { frames := 4, cells := 0, slots := 0, locals := 88 }) (cells := 0) (slots := 0) (ws := (wH h ta sa ua T) ++ (wT ta cI b r) ++ (wS sa cI cZ sw st fa sc fi mi lf hi n) ++ (wS ua cI cZ sw2 st2 fa2 sc2 fi2 mi2 lf2 hi2 n2) ++ (wO o cJ ov)) (n := 7) (As := [.int (nI s0)]) (rest := [.int (nI 0), .ref o]) hC (k_X2_hardestClay l G cI cZ cJ h ta sa ua T b r sw st fa sc fi mi lf hi n sw2 st2 fa2 sc2 fi2 mi2 lf2 hi2 n2 s0 hn hT hs) kg_L_37 kd_yX2_hardestClay dL_hardestClay_4 ⟨Nat.le_of_ble_eq_true rfl, Nat.le_of_ble_eq_true rfl⟩ 0 rfl rfl rfl [0, 1, 2, 3, 4, 5, 6, 7, 8, 9, 10, 11, 12, 13, 14, 15, 16, 17, 18, 19, 20, 21] rfl (by decide) rfl (Nat.le_of_ble_eq_true rfl) ⟨Nat.le_of_ble_eq_true rfl, Nat.le_of_ble_eq_true rfl⟩ (ws2 := fun u1 => (wH h ta sa ua T) ++ (wT ta cI b r) ++ (wS sa cI cZ sw st fa sc fi mi lf hi n) ++ (wS ua cI cZ sw2 st2 fa2 sc2 fi2 mi2 lf2 hi2 n2) ++ (wO o cJ ov)) [22] (fun _ => rfl) (wO o cJ ov) (fun _ => rfl) rfl (fun _ => rfl) [h, ta 0, ta 1, ta 2, sa 0, sa 1, sa 2, sa 3, sa 4, sa 5, sa 6, sa 7, sa 8, ua 0, ua 1, ua 2, ua 3, ua 4, ua 5, ua 6, ua 7, ua 8] (fun _ => rfl) rfl rfl rfl (fun r2 u1 h3 => ?_)
  subst h3
  refine z_i2l (v := (nI (haF b r s0 4)).toInt64) (n := 8) hC dL_hardestClay_7 rfl rfl ?_
  refine z_last (ws' := (wH h ta sa ua T) ++ (wT ta cI b r) ++ (wS sa cI cZ sw st fa sc fi mi lf hi n) ++ (wS ua cI cZ sw2 st2 fa2 sc2 fi2 mi2 lf2 hi2 n2) ++ (wO o cJ (vp_updL ov 0 ((nI (haF b r s0 4)).toInt64)))) (n := 9) hC 22 2 0 rfl rfl rfl (by omega) (by decide) dL_hardestClay_8 rfl rfl ?_
  refine z_goto (n := 15) hC dL_hardestClay_9 (by decide) ?_
  refine z_iconst (v := nI 0) (n := 16) hC dL_hardestClay_15 (by decide) rfl ?_
  refine z_iret hC hr hlocks () ?_ rfl dL_hardestClay_16 (by omega) (by omega)
  rfl

set_option maxRecDepth 100000 in
set_option maxHeartbeats 4000000 in
theorem kx_L_hardestClay_x (l : Launch) (G : va_G) (cI cZ cJ : ClassId) (h : Nat) (ta : Nat → Nat) (sa : Nat → Nat) (ua : Nat → Nat) (T : Nat) (b : Nat → Int32) (r : Nat → Int32) (sw : Nat → Int32) (st : Nat → Int32) (fa : Nat → Int32) (sc : Nat → Int32) (fi : Nat → Int32) (mi : Nat → Int32) (lf : Nat → Bool) (hi : Nat → Bool) (n : Nat) (sw2 : Nat → Int32) (st2 : Nat → Int32) (fa2 : Nat → Int32) (sc2 : Nat → Int32) (fi2 : Nat → Int32) (mi2 : Nat → Int32) (lf2 : Nat → Bool) (hi2 : Nat → Bool) (n2 : Nat) (o : Nat) (ov : Nat → Int64) (x : Int32) (hl : l.stackTraces = false) (hn : n ≤ 6) (hT : T < 2 ^ 29) (hb : x < 0 ∨ nI 5 ≤ x) : MIH (Unit) l yL_hardestClay cL_hardestClay 4 8 123 [(0, 9, 12, 21)] G (tY cI cZ cJ) [.ref h, .int x, .ref o] ((wH h ta sa ua T) ++ (wT ta cI b r) ++ (wS sa cI cZ sw st fa sc fi mi lf hi n) ++ (wS ua cI cZ sw2 st2 fa2 sc2 fi2 mi2 lf2 hi2 n2) ++ (wO o cJ ov)) (fun zr _ => zr = nI 1) (fun _ => (wH h ta sa ua T) ++ (wT ta cI b r) ++ (wS sa cI cZ sw st fa sc fi mi lf hi n) ++ (wS ua cI cZ sw2 st2 fa2 sc2 fi2 mi2 lf2 hi2 n2) ++ (wO o cJ ov)) 1 6 := by
  refine MIH_of (by decide) (Nat.le_of_ble_eq_true rfl) [(0, .ref h), (1, .int x), (2, .ref o)] rfl ?_
  intro p e s m below meth c hC hr hlocks hz htab
  have hC : Cx p s m _ c cL_hardestClay 4 RL G (tY cI cZ cJ) _ := hC
  refine z_aload_n (n := 1) hC dL_hardestClay_0 rfl 2 rfl rfl ?_
  refine z_iconst (v := nI 0) (n := 2) hC dL_hardestClay_1 (by decide) rfl ?_
  refine z_aload_n (n := 3) hC dL_hardestClay_2 rfl 0 rfl rfl ?_
  refine z_iload_n (n := 4) hC dL_hardestClay_3 rfl 1 rfl rfl ?_
  refine z_callvxc (n := 12) (cells := 0) (slots := 0) (As := [.int x]) (rest := [.int (nI 0), .ref o]) hC (kx_X2_hardestClay l G cI cZ cJ h ta sa ua T b r sw st fa sc fi mi lf hi n sw2 st2 fa2 sc2 fi2 mi2 lf2 hi2 n2 x hl hn hT hb) kg_L_37 kd_yX2_hardestClay dL_hardestClay_4 ⟨Nat.le_of_ble_eq_true rfl, Nat.le_of_ble_eq_true rfl⟩ 0 rfl rfl rfl [0, 1, 2, 3, 4, 5, 6, 7, 8, 9, 10, 11, 12, 13, 14, 15, 16, 17, 18, 19, 20, 21] rfl (by decide) rfl (Nat.le_of_ble_eq_true rfl) ⟨Nat.le_of_ble_eq_true rfl, Nat.le_of_ble_eq_true rfl⟩ [22] rfl rfl [] ⟨0, 9, 12, 21⟩ [] htab (fun z hz9 => absurd hz9 List.not_mem_nil) rfl (by decide) q633 (by simp [zCW]) rfl (fun q1 => ?_)
  refine z_astore_n (lv' := [(3, .ref q1), (0, .ref h), (1, .int x), (2, .ref o)]) (n := 13) hC dL_hardestClay_12 rfl (by decide) rfl rfl ?_
  refine z_iconst (v := nI 1) (n := 14) hC dL_hardestClay_13 (by decide) rfl ?_
  refine z_iret hC hr hlocks () ?_ rfl dL_hardestClay_14 (by omega) (by omega)
  rfl

set_option maxRecDepth 100000 in
set_option maxHeartbeats 4000000 in
theorem k_L_standOf (l : Launch) (G : va_G) (cI cZ cJ : ClassId) (h : Nat) (ta : Nat → Nat) (sa : Nat → Nat) (ua : Nat → Nat) (T : Nat) (b : Nat → Int32) (r : Nat → Int32) (sw : Nat → Int32) (st : Nat → Int32) (fa : Nat → Int32) (sc : Nat → Int32) (fi : Nat → Int32) (mi : Nat → Int32) (lf : Nat → Bool) (hi : Nat → Bool) (n : Nat) (sw2 : Nat → Int32) (st2 : Nat → Int32) (fa2 : Nat → Int32) (sc2 : Nat → Int32) (fi2 : Nat → Int32) (mi2 : Nat → Int32) (lf2 : Nat → Bool) (hi2 : Nat → Bool) (n2 : Nat) (o : Nat) (ov : Nat → Int64) (g : Nat) (hn : n ≤ 6) (hT : T < 2 ^ 29) (hg : g < n) : MIH (Unit) l yL_standOf cL_standOf 4 3 64 [(0, 9, 12, 21)] G (tY cI cZ cJ) [.ref h, .int (nI g), .ref o] ((wH h ta sa ua T) ++ (wT ta cI b r) ++ (wS sa cI cZ sw st fa sc fi mi lf hi n) ++ (wS ua cI cZ sw2 st2 fa2 sc2 fi2 mi2 lf2 hi2 n2) ++ (wO o cJ ov)) (fun zr _ => zr = nI 0) (fun _ => (wH h ta sa ua T) ++ (wT ta cI b r) ++ (wS sa cI cZ sw st fa sc fi mi lf hi n) ++ (wS ua cI cZ sw2 st2 fa2 sc2 fi2 mi2 lf2 hi2 n2) ++ (wO o cJ (vp_updL ov 0 ((nI (stF T g)).toInt64)))) 0 0 := by
  refine MIH_of (by decide) (Nat.le_of_ble_eq_true rfl) [(0, .ref h), (1, .int (nI g)), (2, .ref o)] rfl ?_
  intro p e s m below meth c hC hr hlocks hz htab
  have hC : Cx p s m _ c cL_standOf 4 RL G (tY cI cZ cJ) _ := hC
  refine z_aload_n (n := 1) hC dL_standOf_0 rfl 2 rfl rfl ?_
  refine z_iconst (v := nI 0) (n := 2) hC dL_standOf_1 (by decide) rfl ?_
  refine z_aload_n (n := 3) hC dL_standOf_2 rfl 0 rfl rfl ?_
  refine z_iload_n (n := 4) hC dL_standOf_3 rfl 1 rfl rfl ?_
  refine z_calli (R := { frames := 3, cells := 0, slots := 0, locals := 64 }) (cells := 0) (slots := 0) (ws := (wH h ta sa ua T) ++ (wT ta cI b r) ++ (wS sa cI cZ sw st fa sc fi mi lf hi n) ++ (wS ua cI cZ sw2 st2 fa2 sc2 fi2 mi2 lf2 hi2 n2) ++ (wO o cJ ov)) (n := 7) (As := [.int (nI g)]) (rest := [.int (nI 0), .ref o]) hC (k_X2_standOf l G cI cZ cJ h ta sa ua T b r sw st fa sc fi mi lf hi n sw2 st2 fa2 sc2 fi2 mi2 lf2 hi2 n2 g hn hT hg) kg_L_40 kd_yX2_standOf dL_standOf_4 ⟨Nat.le_of_ble_eq_true rfl, Nat.le_of_ble_eq_true rfl⟩ 0 rfl rfl rfl [0, 1, 2, 3, 4, 5, 6, 7, 8, 9, 10, 11, 12, 13, 14, 15, 16, 17, 18, 19, 20, 21] rfl (by decide) rfl (Nat.le_of_ble_eq_true rfl) ⟨Nat.le_of_ble_eq_true rfl, Nat.le_of_ble_eq_true rfl⟩ (ws2 := fun u1 => (wH h ta sa ua T) ++ (wT ta cI b r) ++ (wS sa cI cZ sw st fa sc fi mi lf hi n) ++ (wS ua cI cZ sw2 st2 fa2 sc2 fi2 mi2 lf2 hi2 n2) ++ (wO o cJ ov)) [22] (fun _ => rfl) (wO o cJ ov) (fun _ => rfl) rfl (fun _ => rfl) [h, ta 0, ta 1, ta 2, sa 0, sa 1, sa 2, sa 3, sa 4, sa 5, sa 6, sa 7, sa 8, ua 0, ua 1, ua 2, ua 3, ua 4, ua 5, ua 6, ua 7, ua 8] (fun _ => rfl) rfl rfl rfl (fun r2 u1 h3 => ?_)
  subst h3
  refine z_i2l (v := (nI (stF T g)).toInt64) (n := 8) hC dL_standOf_7 rfl rfl ?_
  refine z_last (ws' := (wH h ta sa ua T) ++ (wT ta cI b r) ++ (wS sa cI cZ sw st fa sc fi mi lf hi n) ++ (wS ua cI cZ sw2 st2 fa2 sc2 fi2 mi2 lf2 hi2 n2) ++ (wO o cJ (vp_updL ov 0 ((nI (stF T g)).toInt64)))) (n := 9) hC 22 2 0 rfl rfl rfl (by omega) (by decide) dL_standOf_8 rfl rfl ?_
  refine z_goto (n := 15) hC dL_standOf_9 (by decide) ?_
  refine z_iconst (v := nI 0) (n := 16) hC dL_standOf_15 (by decide) rfl ?_
  refine z_iret hC hr hlocks () ?_ rfl dL_standOf_16 (by omega) (by omega)
  rfl

set_option maxRecDepth 100000 in
set_option maxHeartbeats 4000000 in
theorem k_L_angleFor (l : Launch) (G : va_G) (cI cZ cJ : ClassId) (h : Nat) (ta : Nat → Nat) (sa : Nat → Nat) (ua : Nat → Nat) (T : Nat) (b : Nat → Int32) (r : Nat → Int32) (sw : Nat → Int32) (st : Nat → Int32) (fa : Nat → Int32) (sc : Nat → Int32) (fi : Nat → Int32) (mi : Nat → Int32) (lf : Nat → Bool) (hi : Nat → Bool) (n : Nat) (sw2 : Nat → Int32) (st2 : Nat → Int32) (fa2 : Nat → Int32) (sc2 : Nat → Int32) (fi2 : Nat → Int32) (mi2 : Nat → Int32) (lf2 : Nat → Bool) (hi2 : Nat → Bool) (n2 : Nat) (o : Nat) (ov : Nat → Int64) (g : Nat) (hn : n ≤ 6) (hT : T < 2 ^ 29) (hg : g < n) : MIH (Unit) l yL_angleFor cL_angleFor 4 4 86 [(0, 9, 12, 21)] G (tY cI cZ cJ) [.ref h, .int (nI g), .ref o] ((wH h ta sa ua T) ++ (wT ta cI b r) ++ (wS sa cI cZ sw st fa sc fi mi lf hi n) ++ (wS ua cI cZ sw2 st2 fa2 sc2 fi2 mi2 lf2 hi2 n2) ++ (wO o cJ ov)) (fun zr _ => zr = nI 0) (fun _ => (wH h ta sa ua T) ++ (wT ta cI b r) ++ (wS sa cI cZ sw st fa sc fi mi lf hi n) ++ (wS ua cI cZ sw2 st2 fa2 sc2 fi2 mi2 lf2 hi2 n2) ++ (wO o cJ (vp_updL ov 0 ((angF b r (stF T g) (T % 5)).toInt64)))) 0 0 := by
  refine MIH_of (by decide) (Nat.le_of_ble_eq_true rfl) [(0, .ref h), (1, .int (nI g)), (2, .ref o)] rfl ?_
  intro p e s m below meth c hC hr hlocks hz htab
  have hC : Cx p s m _ c cL_angleFor 4 RL G (tY cI cZ cJ) _ := hC
  refine z_aload_n (n := 1) hC dL_angleFor_0 rfl 2 rfl rfl ?_
  refine z_iconst (v := nI 0) (n := 2) hC dL_angleFor_1 (by decide) rfl ?_
  refine z_aload_n (n := 3) hC dL_angleFor_2 rfl 0 rfl rfl ?_
  refine z_iload_n (n := 4) hC dL_angleFor_3 rfl 1 rfl rfl ?_
  refine z_calli (R := { frames := 4, cells := 0, slots := 0, locals := 86 }) (cells := 0) (slots := 0) (ws := (wH h ta sa ua T) ++ (wT ta cI b r) ++ (wS sa cI cZ sw st fa sc fi mi lf hi n) ++ (wS ua cI cZ sw2 st2 fa2 sc2 fi2 mi2 lf2 hi2 n2) ++ (wO o cJ ov)) (n := 7) (As := [.int (nI g)]) (rest := [.int (nI 0), .ref o]) hC (k_X2_angleFor l G cI cZ cJ h ta sa ua T b r sw st fa sc fi mi lf hi n sw2 st2 fa2 sc2 fi2 mi2 lf2 hi2 n2 g hn hT hg) kg_L_43 kd_yX2_angleFor dL_angleFor_4 ⟨Nat.le_of_ble_eq_true rfl, Nat.le_of_ble_eq_true rfl⟩ 0 rfl rfl rfl [0, 1, 2, 3, 4, 5, 6, 7, 8, 9, 10, 11, 12, 13, 14, 15, 16, 17, 18, 19, 20, 21] rfl (by decide) rfl (Nat.le_of_ble_eq_true rfl) ⟨Nat.le_of_ble_eq_true rfl, Nat.le_of_ble_eq_true rfl⟩ (ws2 := fun u1 => (wH h ta sa ua T) ++ (wT ta cI b r) ++ (wS sa cI cZ sw st fa sc fi mi lf hi n) ++ (wS ua cI cZ sw2 st2 fa2 sc2 fi2 mi2 lf2 hi2 n2) ++ (wO o cJ ov)) [22] (fun _ => rfl) (wO o cJ ov) (fun _ => rfl) rfl (fun _ => rfl) [h, ta 0, ta 1, ta 2, sa 0, sa 1, sa 2, sa 3, sa 4, sa 5, sa 6, sa 7, sa 8, ua 0, ua 1, ua 2, ua 3, ua 4, ua 5, ua 6, ua 7, ua 8] (fun _ => rfl) rfl rfl rfl (fun r2 u1 h3 => ?_)
  subst h3
  refine z_i2l (v := (angF b r (stF T g) (T % 5)).toInt64) (n := 8) hC dL_angleFor_7 rfl rfl ?_
  refine z_last (ws' := (wH h ta sa ua T) ++ (wT ta cI b r) ++ (wS sa cI cZ sw st fa sc fi mi lf hi n) ++ (wS ua cI cZ sw2 st2 fa2 sc2 fi2 mi2 lf2 hi2 n2) ++ (wO o cJ (vp_updL ov 0 ((angF b r (stF T g) (T % 5)).toInt64)))) (n := 9) hC 22 2 0 rfl rfl rfl (by omega) (by decide) dL_angleFor_8 rfl rfl ?_
  refine z_goto (n := 15) hC dL_angleFor_9 (by decide) ?_
  refine z_iconst (v := nI 0) (n := 16) hC dL_angleFor_15 (by decide) rfl ?_
  refine z_iret hC hr hlocks () ?_ rfl dL_angleFor_16 (by omega) (by omega)
  rfl

set_option maxRecDepth 100000 in
set_option maxHeartbeats 4000000 in
theorem k_L_scoreOf (l : Launch) (G : va_G) (cI cZ cJ : ClassId) (h : Nat) (ta : Nat → Nat) (sa : Nat → Nat) (ua : Nat → Nat) (T : Nat) (b : Nat → Int32) (r : Nat → Int32) (sw : Nat → Int32) (st : Nat → Int32) (fa : Nat → Int32) (sc : Nat → Int32) (fi : Nat → Int32) (mi : Nat → Int32) (lf : Nat → Bool) (hi : Nat → Bool) (n : Nat) (sw2 : Nat → Int32) (st2 : Nat → Int32) (fa2 : Nat → Int32) (sc2 : Nat → Int32) (fi2 : Nat → Int32) (mi2 : Nat → Int32) (lf2 : Nat → Bool) (hi2 : Nat → Bool) (n2 : Nat) (o : Nat) (ov : Nat → Int64) (g : Nat) (hn : n ≤ 6) (hT : T < 2 ^ 29) (hg : g < n) : MIH (Unit) l yL_scoreOf cL_scoreOf 4 2 42 [(0, 9, 12, 21)] G (tY cI cZ cJ) [.ref h, .int (nI g), .ref o] ((wH h ta sa ua T) ++ (wT ta cI b r) ++ (wS sa cI cZ sw st fa sc fi mi lf hi n) ++ (wS ua cI cZ sw2 st2 fa2 sc2 fi2 mi2 lf2 hi2 n2) ++ (wO o cJ ov)) (fun zr _ => zr = nI 0) (fun _ => (wH h ta sa ua T) ++ (wT ta cI b r) ++ (wS sa cI cZ sw st fa sc fi mi lf hi n) ++ (wS ua cI cZ sw2 st2 fa2 sc2 fi2 mi2 lf2 hi2 n2) ++ (wO o cJ (vp_updL ov 0 ((sc g).toInt64)))) 0 0 := by
  refine MIH_of (by decide) (Nat.le_of_ble_eq_true rfl) [(0, .ref h), (1, .int (nI g)), (2, .ref o)] rfl ?_
  intro p e s m below meth c hC hr hlocks hz htab
  have hC : Cx p s m _ c cL_scoreOf 4 RL G (tY cI cZ cJ) _ := hC
  refine z_aload_n (n := 1) hC dL_scoreOf_0 rfl 2 rfl rfl ?_
  refine z_iconst (v := nI 0) (n := 2) hC dL_scoreOf_1 (by decide) rfl ?_
  refine z_aload_n (n := 3) hC dL_scoreOf_2 rfl 0 rfl rfl ?_
  refine z_iload_n (n := 4) hC dL_scoreOf_3 rfl 1 rfl rfl ?_
  refine z_calli (R := { frames := 2, cells := 0, slots := 0, locals := 42 }) (cells := 0) (slots := 0) (ws := (wH h ta sa ua T) ++ (wT ta cI b r) ++ (wS sa cI cZ sw st fa sc fi mi lf hi n) ++ (wS ua cI cZ sw2 st2 fa2 sc2 fi2 mi2 lf2 hi2 n2) ++ (wO o cJ ov)) (n := 7) (As := [.int (nI g)]) (rest := [.int (nI 0), .ref o]) hC (k_X2_scoreOf l G cI cZ cJ h ta sa ua T b r sw st fa sc fi mi lf hi n sw2 st2 fa2 sc2 fi2 mi2 lf2 hi2 n2 g hn hT hg) kg_L_46 kd_yX2_scoreOf dL_scoreOf_4 ⟨Nat.le_of_ble_eq_true rfl, Nat.le_of_ble_eq_true rfl⟩ 0 rfl rfl rfl [0, 1, 2, 3, 4, 5, 6, 7, 8, 9, 10, 11, 12, 13, 14, 15, 16, 17, 18, 19, 20, 21] rfl (by decide) rfl (Nat.le_of_ble_eq_true rfl) ⟨Nat.le_of_ble_eq_true rfl, Nat.le_of_ble_eq_true rfl⟩ (ws2 := fun u1 => (wH h ta sa ua T) ++ (wT ta cI b r) ++ (wS sa cI cZ sw st fa sc fi mi lf hi n) ++ (wS ua cI cZ sw2 st2 fa2 sc2 fi2 mi2 lf2 hi2 n2) ++ (wO o cJ ov)) [22] (fun _ => rfl) (wO o cJ ov) (fun _ => rfl) rfl (fun _ => rfl) [h, ta 0, ta 1, ta 2, sa 0, sa 1, sa 2, sa 3, sa 4, sa 5, sa 6, sa 7, sa 8, ua 0, ua 1, ua 2, ua 3, ua 4, ua 5, ua 6, ua 7, ua 8] (fun _ => rfl) rfl rfl rfl (fun r2 u1 h3 => ?_)
  subst h3
  refine z_i2l (v := (sc g).toInt64) (n := 8) hC dL_scoreOf_7 rfl rfl ?_
  refine z_last (ws' := (wH h ta sa ua T) ++ (wT ta cI b r) ++ (wS sa cI cZ sw st fa sc fi mi lf hi n) ++ (wS ua cI cZ sw2 st2 fa2 sc2 fi2 mi2 lf2 hi2 n2) ++ (wO o cJ (vp_updL ov 0 ((sc g).toInt64)))) (n := 9) hC 22 2 0 rfl rfl rfl (by omega) (by decide) dL_scoreOf_8 rfl rfl ?_
  refine z_goto (n := 15) hC dL_scoreOf_9 (by decide) ?_
  refine z_iconst (v := nI 0) (n := 16) hC dL_scoreOf_15 (by decide) rfl ?_
  refine z_iret hC hr hlocks () ?_ rfl dL_scoreOf_16 (by omega) (by omega)
  rfl

set_option maxRecDepth 100000 in
set_option maxHeartbeats 4000000 in
theorem k_L_firstsOf (l : Launch) (G : va_G) (cI cZ cJ : ClassId) (h : Nat) (ta : Nat → Nat) (sa : Nat → Nat) (ua : Nat → Nat) (T : Nat) (b : Nat → Int32) (r : Nat → Int32) (sw : Nat → Int32) (st : Nat → Int32) (fa : Nat → Int32) (sc : Nat → Int32) (fi : Nat → Int32) (mi : Nat → Int32) (lf : Nat → Bool) (hi : Nat → Bool) (n : Nat) (sw2 : Nat → Int32) (st2 : Nat → Int32) (fa2 : Nat → Int32) (sc2 : Nat → Int32) (fi2 : Nat → Int32) (mi2 : Nat → Int32) (lf2 : Nat → Bool) (hi2 : Nat → Bool) (n2 : Nat) (o : Nat) (ov : Nat → Int64) (g : Nat) (hn : n ≤ 6) (hT : T < 2 ^ 29) (hg : g < n) : MIH (Unit) l yL_firstsOf cL_firstsOf 4 2 42 [(0, 9, 12, 21)] G (tY cI cZ cJ) [.ref h, .int (nI g), .ref o] ((wH h ta sa ua T) ++ (wT ta cI b r) ++ (wS sa cI cZ sw st fa sc fi mi lf hi n) ++ (wS ua cI cZ sw2 st2 fa2 sc2 fi2 mi2 lf2 hi2 n2) ++ (wO o cJ ov)) (fun zr _ => zr = nI 0) (fun _ => (wH h ta sa ua T) ++ (wT ta cI b r) ++ (wS sa cI cZ sw st fa sc fi mi lf hi n) ++ (wS ua cI cZ sw2 st2 fa2 sc2 fi2 mi2 lf2 hi2 n2) ++ (wO o cJ (vp_updL ov 0 ((fi g).toInt64)))) 0 0 := by
  refine MIH_of (by decide) (Nat.le_of_ble_eq_true rfl) [(0, .ref h), (1, .int (nI g)), (2, .ref o)] rfl ?_
  intro p e s m below meth c hC hr hlocks hz htab
  have hC : Cx p s m _ c cL_firstsOf 4 RL G (tY cI cZ cJ) _ := hC
  refine z_aload_n (n := 1) hC dL_firstsOf_0 rfl 2 rfl rfl ?_
  refine z_iconst (v := nI 0) (n := 2) hC dL_firstsOf_1 (by decide) rfl ?_
  refine z_aload_n (n := 3) hC dL_firstsOf_2 rfl 0 rfl rfl ?_
  refine z_iload_n (n := 4) hC dL_firstsOf_3 rfl 1 rfl rfl ?_
  refine z_calli (R := { frames := 2, cells := 0, slots := 0, locals := 42 }) (cells := 0) (slots := 0) (ws := (wH h ta sa ua T) ++ (wT ta cI b r) ++ (wS sa cI cZ sw st fa sc fi mi lf hi n) ++ (wS ua cI cZ sw2 st2 fa2 sc2 fi2 mi2 lf2 hi2 n2) ++ (wO o cJ ov)) (n := 7) (As := [.int (nI g)]) (rest := [.int (nI 0), .ref o]) hC (k_X2_firstsOf l G cI cZ cJ h ta sa ua T b r sw st fa sc fi mi lf hi n sw2 st2 fa2 sc2 fi2 mi2 lf2 hi2 n2 g hn hT hg) kg_L_49 kd_yX2_firstsOf dL_firstsOf_4 ⟨Nat.le_of_ble_eq_true rfl, Nat.le_of_ble_eq_true rfl⟩ 0 rfl rfl rfl [0, 1, 2, 3, 4, 5, 6, 7, 8, 9, 10, 11, 12, 13, 14, 15, 16, 17, 18, 19, 20, 21] rfl (by decide) rfl (Nat.le_of_ble_eq_true rfl) ⟨Nat.le_of_ble_eq_true rfl, Nat.le_of_ble_eq_true rfl⟩ (ws2 := fun u1 => (wH h ta sa ua T) ++ (wT ta cI b r) ++ (wS sa cI cZ sw st fa sc fi mi lf hi n) ++ (wS ua cI cZ sw2 st2 fa2 sc2 fi2 mi2 lf2 hi2 n2) ++ (wO o cJ ov)) [22] (fun _ => rfl) (wO o cJ ov) (fun _ => rfl) rfl (fun _ => rfl) [h, ta 0, ta 1, ta 2, sa 0, sa 1, sa 2, sa 3, sa 4, sa 5, sa 6, sa 7, sa 8, ua 0, ua 1, ua 2, ua 3, ua 4, ua 5, ua 6, ua 7, ua 8] (fun _ => rfl) rfl rfl rfl (fun r2 u1 h3 => ?_)
  subst h3
  refine z_i2l (v := (fi g).toInt64) (n := 8) hC dL_firstsOf_7 rfl rfl ?_
  refine z_last (ws' := (wH h ta sa ua T) ++ (wT ta cI b r) ++ (wS sa cI cZ sw st fa sc fi mi lf hi n) ++ (wS ua cI cZ sw2 st2 fa2 sc2 fi2 mi2 lf2 hi2 n2) ++ (wO o cJ (vp_updL ov 0 ((fi g).toInt64)))) (n := 9) hC 22 2 0 rfl rfl rfl (by omega) (by decide) dL_firstsOf_8 rfl rfl ?_
  refine z_goto (n := 15) hC dL_firstsOf_9 (by decide) ?_
  refine z_iconst (v := nI 0) (n := 16) hC dL_firstsOf_15 (by decide) rfl ?_
  refine z_iret hC hr hlocks () ?_ rfl dL_firstsOf_16 (by omega) (by omega)
  rfl

set_option maxRecDepth 100000 in
set_option maxHeartbeats 4000000 in
theorem k_L_missesOf (l : Launch) (G : va_G) (cI cZ cJ : ClassId) (h : Nat) (ta : Nat → Nat) (sa : Nat → Nat) (ua : Nat → Nat) (T : Nat) (b : Nat → Int32) (r : Nat → Int32) (sw : Nat → Int32) (st : Nat → Int32) (fa : Nat → Int32) (sc : Nat → Int32) (fi : Nat → Int32) (mi : Nat → Int32) (lf : Nat → Bool) (hi : Nat → Bool) (n : Nat) (sw2 : Nat → Int32) (st2 : Nat → Int32) (fa2 : Nat → Int32) (sc2 : Nat → Int32) (fi2 : Nat → Int32) (mi2 : Nat → Int32) (lf2 : Nat → Bool) (hi2 : Nat → Bool) (n2 : Nat) (o : Nat) (ov : Nat → Int64) (g : Nat) (hn : n ≤ 6) (hT : T < 2 ^ 29) (hg : g < n) : MIH (Unit) l yL_missesOf cL_missesOf 4 2 42 [(0, 9, 12, 21)] G (tY cI cZ cJ) [.ref h, .int (nI g), .ref o] ((wH h ta sa ua T) ++ (wT ta cI b r) ++ (wS sa cI cZ sw st fa sc fi mi lf hi n) ++ (wS ua cI cZ sw2 st2 fa2 sc2 fi2 mi2 lf2 hi2 n2) ++ (wO o cJ ov)) (fun zr _ => zr = nI 0) (fun _ => (wH h ta sa ua T) ++ (wT ta cI b r) ++ (wS sa cI cZ sw st fa sc fi mi lf hi n) ++ (wS ua cI cZ sw2 st2 fa2 sc2 fi2 mi2 lf2 hi2 n2) ++ (wO o cJ (vp_updL ov 0 ((mi g).toInt64)))) 0 0 := by
  refine MIH_of (by decide) (Nat.le_of_ble_eq_true rfl) [(0, .ref h), (1, .int (nI g)), (2, .ref o)] rfl ?_
  intro p e s m below meth c hC hr hlocks hz htab
  have hC : Cx p s m _ c cL_missesOf 4 RL G (tY cI cZ cJ) _ := hC
  refine z_aload_n (n := 1) hC dL_missesOf_0 rfl 2 rfl rfl ?_
  refine z_iconst (v := nI 0) (n := 2) hC dL_missesOf_1 (by decide) rfl ?_
  refine z_aload_n (n := 3) hC dL_missesOf_2 rfl 0 rfl rfl ?_
  refine z_iload_n (n := 4) hC dL_missesOf_3 rfl 1 rfl rfl ?_
  refine z_calli (R := { frames := 2, cells := 0, slots := 0, locals := 42 }) (cells := 0) (slots := 0) (ws := (wH h ta sa ua T) ++ (wT ta cI b r) ++ (wS sa cI cZ sw st fa sc fi mi lf hi n) ++ (wS ua cI cZ sw2 st2 fa2 sc2 fi2 mi2 lf2 hi2 n2) ++ (wO o cJ ov)) (n := 7) (As := [.int (nI g)]) (rest := [.int (nI 0), .ref o]) hC (k_X2_missesOf l G cI cZ cJ h ta sa ua T b r sw st fa sc fi mi lf hi n sw2 st2 fa2 sc2 fi2 mi2 lf2 hi2 n2 g hn hT hg) kg_L_52 kd_yX2_missesOf dL_missesOf_4 ⟨Nat.le_of_ble_eq_true rfl, Nat.le_of_ble_eq_true rfl⟩ 0 rfl rfl rfl [0, 1, 2, 3, 4, 5, 6, 7, 8, 9, 10, 11, 12, 13, 14, 15, 16, 17, 18, 19, 20, 21] rfl (by decide) rfl (Nat.le_of_ble_eq_true rfl) ⟨Nat.le_of_ble_eq_true rfl, Nat.le_of_ble_eq_true rfl⟩ (ws2 := fun u1 => (wH h ta sa ua T) ++ (wT ta cI b r) ++ (wS sa cI cZ sw st fa sc fi mi lf hi n) ++ (wS ua cI cZ sw2 st2 fa2 sc2 fi2 mi2 lf2 hi2 n2) ++ (wO o cJ ov)) [22] (fun _ => rfl) (wO o cJ ov) (fun _ => rfl) rfl (fun _ => rfl) [h, ta 0, ta 1, ta 2, sa 0, sa 1, sa 2, sa 3, sa 4, sa 5, sa 6, sa 7, sa 8, ua 0, ua 1, ua 2, ua 3, ua 4, ua 5, ua 6, ua 7, ua 8] (fun _ => rfl) rfl rfl rfl (fun r2 u1 h3 => ?_)
  subst h3
  refine z_i2l (v := (mi g).toInt64) (n := 8) hC dL_missesOf_7 rfl rfl ?_
  refine z_last (ws' := (wH h ta sa ua T) ++ (wT ta cI b r) ++ (wS sa cI cZ sw st fa sc fi mi lf hi n) ++ (wS ua cI cZ sw2 st2 fa2 sc2 fi2 mi2 lf2 hi2 n2) ++ (wO o cJ (vp_updL ov 0 ((mi g).toInt64)))) (n := 9) hC 22 2 0 rfl rfl rfl (by omega) (by decide) dL_missesOf_8 rfl rfl ?_
  refine z_goto (n := 15) hC dL_missesOf_9 (by decide) ?_
  refine z_iconst (v := nI 0) (n := 16) hC dL_missesOf_15 (by decide) rfl ?_
  refine z_iret hC hr hlocks () ?_ rfl dL_missesOf_16 (by omega) (by omega)
  rfl

set_option maxRecDepth 100000 in
set_option maxHeartbeats 4000000 in
theorem k_L_fatigueOf (l : Launch) (G : va_G) (cI cZ cJ : ClassId) (h : Nat) (ta : Nat → Nat) (sa : Nat → Nat) (ua : Nat → Nat) (T : Nat) (b : Nat → Int32) (r : Nat → Int32) (sw : Nat → Int32) (st : Nat → Int32) (fa : Nat → Int32) (sc : Nat → Int32) (fi : Nat → Int32) (mi : Nat → Int32) (lf : Nat → Bool) (hi : Nat → Bool) (n : Nat) (sw2 : Nat → Int32) (st2 : Nat → Int32) (fa2 : Nat → Int32) (sc2 : Nat → Int32) (fi2 : Nat → Int32) (mi2 : Nat → Int32) (lf2 : Nat → Bool) (hi2 : Nat → Bool) (n2 : Nat) (o : Nat) (ov : Nat → Int64) (g : Nat) (hn : n ≤ 6) (hT : T < 2 ^ 29) (hg : g < n) : MIH (Unit) l yL_fatigueOf cL_fatigueOf 4 2 42 [(0, 9, 12, 21)] G (tY cI cZ cJ) [.ref h, .int (nI g), .ref o] ((wH h ta sa ua T) ++ (wT ta cI b r) ++ (wS sa cI cZ sw st fa sc fi mi lf hi n) ++ (wS ua cI cZ sw2 st2 fa2 sc2 fi2 mi2 lf2 hi2 n2) ++ (wO o cJ ov)) (fun zr _ => zr = nI 0) (fun _ => (wH h ta sa ua T) ++ (wT ta cI b r) ++ (wS sa cI cZ sw st fa sc fi mi lf hi n) ++ (wS ua cI cZ sw2 st2 fa2 sc2 fi2 mi2 lf2 hi2 n2) ++ (wO o cJ (vp_updL ov 0 ((fa g).toInt64)))) 0 0 := by
  refine MIH_of (by decide) (Nat.le_of_ble_eq_true rfl) [(0, .ref h), (1, .int (nI g)), (2, .ref o)] rfl ?_
  intro p e s m below meth c hC hr hlocks hz htab
  have hC : Cx p s m _ c cL_fatigueOf 4 RL G (tY cI cZ cJ) _ := hC
  refine z_aload_n (n := 1) hC dL_fatigueOf_0 rfl 2 rfl rfl ?_
  refine z_iconst (v := nI 0) (n := 2) hC dL_fatigueOf_1 (by decide) rfl ?_
  refine z_aload_n (n := 3) hC dL_fatigueOf_2 rfl 0 rfl rfl ?_
  refine z_iload_n (n := 4) hC dL_fatigueOf_3 rfl 1 rfl rfl ?_
  refine z_calli (R := { frames := 2, cells := 0, slots := 0, locals := 42 }) (cells := 0) (slots := 0) (ws := (wH h ta sa ua T) ++ (wT ta cI b r) ++ (wS sa cI cZ sw st fa sc fi mi lf hi n) ++ (wS ua cI cZ sw2 st2 fa2 sc2 fi2 mi2 lf2 hi2 n2) ++ (wO o cJ ov)) (n := 7) (As := [.int (nI g)]) (rest := [.int (nI 0), .ref o]) hC (k_X2_fatigueOf l G cI cZ cJ h ta sa ua T b r sw st fa sc fi mi lf hi n sw2 st2 fa2 sc2 fi2 mi2 lf2 hi2 n2 g hn hT hg) kg_L_55 kd_yX2_fatigueOf dL_fatigueOf_4 ⟨Nat.le_of_ble_eq_true rfl, Nat.le_of_ble_eq_true rfl⟩ 0 rfl rfl rfl [0, 1, 2, 3, 4, 5, 6, 7, 8, 9, 10, 11, 12, 13, 14, 15, 16, 17, 18, 19, 20, 21] rfl (by decide) rfl (Nat.le_of_ble_eq_true rfl) ⟨Nat.le_of_ble_eq_true rfl, Nat.le_of_ble_eq_true rfl⟩ (ws2 := fun u1 => (wH h ta sa ua T) ++ (wT ta cI b r) ++ (wS sa cI cZ sw st fa sc fi mi lf hi n) ++ (wS ua cI cZ sw2 st2 fa2 sc2 fi2 mi2 lf2 hi2 n2) ++ (wO o cJ ov)) [22] (fun _ => rfl) (wO o cJ ov) (fun _ => rfl) rfl (fun _ => rfl) [h, ta 0, ta 1, ta 2, sa 0, sa 1, sa 2, sa 3, sa 4, sa 5, sa 6, sa 7, sa 8, ua 0, ua 1, ua 2, ua 3, ua 4, ua 5, ua 6, ua 7, ua 8] (fun _ => rfl) rfl rfl rfl (fun r2 u1 h3 => ?_)
  subst h3
  refine z_i2l (v := (fa g).toInt64) (n := 8) hC dL_fatigueOf_7 rfl rfl ?_
  refine z_last (ws' := (wH h ta sa ua T) ++ (wT ta cI b r) ++ (wS sa cI cZ sw st fa sc fi mi lf hi n) ++ (wS ua cI cZ sw2 st2 fa2 sc2 fi2 mi2 lf2 hi2 n2) ++ (wO o cJ (vp_updL ov 0 ((fa g).toInt64)))) (n := 9) hC 22 2 0 rfl rfl rfl (by omega) (by decide) dL_fatigueOf_8 rfl rfl ?_
  refine z_goto (n := 15) hC dL_fatigueOf_9 (by decide) ?_
  refine z_iconst (v := nI 0) (n := 16) hC dL_fatigueOf_15 (by decide) rfl ?_
  refine z_iret hC hr hlocks () ?_ rfl dL_fatigueOf_16 (by omega) (by omega)
  rfl

set_option maxRecDepth 100000 in
set_option maxHeartbeats 4000000 in
theorem k_L_wouldHit (l : Launch) (G : va_G) (cI cZ cJ : ClassId) (h : Nat) (ta : Nat → Nat) (sa : Nat → Nat) (ua : Nat → Nat) (T : Nat) (b : Nat → Int32) (r : Nat → Int32) (sw : Nat → Int32) (st : Nat → Int32) (fa : Nat → Int32) (sc : Nat → Int32) (fi : Nat → Int32) (mi : Nat → Int32) (lf : Nat → Bool) (hi : Nat → Bool) (n : Nat) (sw2 : Nat → Int32) (st2 : Nat → Int32) (fa2 : Nat → Int32) (sc2 : Nat → Int32) (fi2 : Nat → Int32) (mi2 : Nat → Int32) (lf2 : Nat → Bool) (hi2 : Nat → Bool) (n2 : Nat) (o : Nat) (ov : Nat → Int64) (g : Nat) (hn : n ≤ 6) (hT : T < 2 ^ 29) (hg : g < n) : MIH (Unit) l yL_wouldHit cL_wouldHit 4 5 108 [(0, 9, 12, 21)] G (tY cI cZ cJ) [.ref h, .int (nI g), .ref o] ((wH h ta sa ua T) ++ (wT ta cI b r) ++ (wS sa cI cZ sw st fa sc fi mi lf hi n) ++ (wS ua cI cZ sw2 st2 fa2 sc2 fi2 mi2 lf2 hi2 n2) ++ (wO o cJ ov)) (fun zr _ => zr = nI 0) (fun _ => (wH h ta sa ua T) ++ (wT ta cI b r) ++ (wS sa cI cZ sw st fa sc fi mi lf hi n) ++ (wS ua cI cZ sw2 st2 fa2 sc2 fi2 mi2 lf2 hi2 n2) ++ (wO o cJ (vp_updL ov 0 ((ouF (sw g) (st g) (fa g) (amF b r T g)).toInt64)))) 0 0 := by
  refine MIH_of (by decide) (Nat.le_of_ble_eq_true rfl) [(0, .ref h), (1, .int (nI g)), (2, .ref o)] rfl ?_
  intro p e s m below meth c hC hr hlocks hz htab
  have hC : Cx p s m _ c cL_wouldHit 4 RL G (tY cI cZ cJ) _ := hC
  refine z_aload_n (n := 1) hC dL_wouldHit_0 rfl 2 rfl rfl ?_
  refine z_iconst (v := nI 0) (n := 2) hC dL_wouldHit_1 (by decide) rfl ?_
  refine z_aload_n (n := 3) hC dL_wouldHit_2 rfl 0 rfl rfl ?_
  refine z_iload_n (n := 4) hC dL_wouldHit_3 rfl 1 rfl rfl ?_
  refine z_calli (R := { frames := 5, cells := 0, slots := 0, locals := 108 }) (cells := 0) (slots := 0) (ws := (wH h ta sa ua T) ++ (wT ta cI b r) ++ (wS sa cI cZ sw st fa sc fi mi lf hi n) ++ (wS ua cI cZ sw2 st2 fa2 sc2 fi2 mi2 lf2 hi2 n2) ++ (wO o cJ ov)) (n := 7) (As := [.int (nI g)]) (rest := [.int (nI 0), .ref o]) hC (k_X2_wouldHit l G cI cZ cJ h ta sa ua T b r sw st fa sc fi mi lf hi n sw2 st2 fa2 sc2 fi2 mi2 lf2 hi2 n2 g hn hT hg) kg_L_58 kd_yX2_wouldHit dL_wouldHit_4 ⟨Nat.le_of_ble_eq_true rfl, Nat.le_of_ble_eq_true rfl⟩ 0 rfl rfl rfl [0, 1, 2, 3, 4, 5, 6, 7, 8, 9, 10, 11, 12, 13, 14, 15, 16, 17, 18, 19, 20, 21] rfl (by decide) rfl (Nat.le_of_ble_eq_true rfl) ⟨Nat.le_of_ble_eq_true rfl, Nat.le_of_ble_eq_true rfl⟩ (ws2 := fun u1 => (wH h ta sa ua T) ++ (wT ta cI b r) ++ (wS sa cI cZ sw st fa sc fi mi lf hi n) ++ (wS ua cI cZ sw2 st2 fa2 sc2 fi2 mi2 lf2 hi2 n2) ++ (wO o cJ ov)) [22] (fun _ => rfl) (wO o cJ ov) (fun _ => rfl) rfl (fun _ => rfl) [h, ta 0, ta 1, ta 2, sa 0, sa 1, sa 2, sa 3, sa 4, sa 5, sa 6, sa 7, sa 8, ua 0, ua 1, ua 2, ua 3, ua 4, ua 5, ua 6, ua 7, ua 8] (fun _ => rfl) rfl rfl rfl (fun r2 u1 h3 => ?_)
  subst h3
  refine z_i2l (v := (ouF (sw g) (st g) (fa g) (amF b r T g)).toInt64) (n := 8) hC dL_wouldHit_7 rfl rfl ?_
  refine z_last (ws' := (wH h ta sa ua T) ++ (wT ta cI b r) ++ (wS sa cI cZ sw st fa sc fi mi lf hi n) ++ (wS ua cI cZ sw2 st2 fa2 sc2 fi2 mi2 lf2 hi2 n2) ++ (wO o cJ (vp_updL ov 0 ((ouF (sw g) (st g) (fa g) (amF b r T g)).toInt64)))) (n := 9) hC 22 2 0 rfl rfl rfl (by omega) (by decide) dL_wouldHit_8 rfl rfl ?_
  refine z_goto (n := 15) hC dL_wouldHit_9 (by decide) ?_
  refine z_iconst (v := nI 0) (n := 16) hC dL_wouldHit_15 (by decide) rfl ?_
  refine z_iret hC hr hlocks () ?_ rfl dL_wouldHit_16 (by omega) (by omega)
  rfl

set_option maxRecDepth 100000 in
set_option maxHeartbeats 4000000 in
theorem k_L_rankOf (l : Launch) (G : va_G) (cI cZ cJ : ClassId) (h : Nat) (ta : Nat → Nat) (sa : Nat → Nat) (ua : Nat → Nat) (T : Nat) (b : Nat → Int32) (r : Nat → Int32) (sw : Nat → Int32) (st : Nat → Int32) (fa : Nat → Int32) (sc : Nat → Int32) (fi : Nat → Int32) (mi : Nat → Int32) (lf : Nat → Bool) (hi : Nat → Bool) (n : Nat) (sw2 : Nat → Int32) (st2 : Nat → Int32) (fa2 : Nat → Int32) (sc2 : Nat → Int32) (fi2 : Nat → Int32) (mi2 : Nat → Int32) (lf2 : Nat → Bool) (hi2 : Nat → Bool) (n2 : Nat) (o : Nat) (ov : Nat → Int64) (g : Nat) (hn : n ≤ 6) (hT : T < 2 ^ 29) (hg : g < n) : MIH (Unit) l yL_rankOf cL_rankOf 4 2 44 [(0, 9, 12, 21)] G (tY cI cZ cJ) [.ref h, .int (nI g), .ref o] ((wH h ta sa ua T) ++ (wT ta cI b r) ++ (wS sa cI cZ sw st fa sc fi mi lf hi n) ++ (wS ua cI cZ sw2 st2 fa2 sc2 fi2 mi2 lf2 hi2 n2) ++ (wO o cJ ov)) (fun zr _ => zr = nI 0) (fun _ => (wH h ta sa ua T) ++ (wT ta cI b r) ++ (wS sa cI cZ sw st fa sc fi mi lf hi n) ++ (wS ua cI cZ sw2 st2 fa2 sc2 fi2 mi2 lf2 hi2 n2) ++ (wO o cJ (vp_updL ov 0 ((nI (1 + ctF (fun zj => decide (¬ sc zj ≤ sc g)) n)).toInt64)))) 0 0 := by
  refine MIH_of (by decide) (Nat.le_of_ble_eq_true rfl) [(0, .ref h), (1, .int (nI g)), (2, .ref o)] rfl ?_
  intro p e s m below meth c hC hr hlocks hz htab
  have hC : Cx p s m _ c cL_rankOf 4 RL G (tY cI cZ cJ) _ := hC
  refine z_aload_n (n := 1) hC dL_rankOf_0 rfl 2 rfl rfl ?_
  refine z_iconst (v := nI 0) (n := 2) hC dL_rankOf_1 (by decide) rfl ?_
  refine z_aload_n (n := 3) hC dL_rankOf_2 rfl 0 rfl rfl ?_
  refine z_iload_n (n := 4) hC dL_rankOf_3 rfl 1 rfl rfl ?_
  refine z_calli (R := { frames := 2, cells := 0, slots := 0, locals := 44 }) (cells := 0) (slots := 0) (ws := (wH h ta sa ua T) ++ (wT ta cI b r) ++ (wS sa cI cZ sw st fa sc fi mi lf hi n) ++ (wS ua cI cZ sw2 st2 fa2 sc2 fi2 mi2 lf2 hi2 n2) ++ (wO o cJ ov)) (n := 7) (As := [.int (nI g)]) (rest := [.int (nI 0), .ref o]) hC (k_X2_rankOf l G cI cZ cJ h ta sa ua T b r sw st fa sc fi mi lf hi n sw2 st2 fa2 sc2 fi2 mi2 lf2 hi2 n2 g hn hT hg) kg_L_61 kd_yX2_rankOf dL_rankOf_4 ⟨Nat.le_of_ble_eq_true rfl, Nat.le_of_ble_eq_true rfl⟩ 0 rfl rfl rfl [0, 1, 2, 3, 4, 5, 6, 7, 8, 9, 10, 11, 12, 13, 14, 15, 16, 17, 18, 19, 20, 21] rfl (by decide) rfl (Nat.le_of_ble_eq_true rfl) ⟨Nat.le_of_ble_eq_true rfl, Nat.le_of_ble_eq_true rfl⟩ (ws2 := fun u1 => (wH h ta sa ua T) ++ (wT ta cI b r) ++ (wS sa cI cZ sw st fa sc fi mi lf hi n) ++ (wS ua cI cZ sw2 st2 fa2 sc2 fi2 mi2 lf2 hi2 n2) ++ (wO o cJ ov)) [22] (fun _ => rfl) (wO o cJ ov) (fun _ => rfl) rfl (fun _ => rfl) [h, ta 0, ta 1, ta 2, sa 0, sa 1, sa 2, sa 3, sa 4, sa 5, sa 6, sa 7, sa 8, ua 0, ua 1, ua 2, ua 3, ua 4, ua 5, ua 6, ua 7, ua 8] (fun _ => rfl) rfl rfl rfl (fun r2 u1 h3 => ?_)
  subst h3
  refine z_i2l (v := (nI (1 + ctF (fun zj => decide (¬ sc zj ≤ sc g)) n)).toInt64) (n := 8) hC dL_rankOf_7 rfl rfl ?_
  refine z_last (ws' := (wH h ta sa ua T) ++ (wT ta cI b r) ++ (wS sa cI cZ sw st fa sc fi mi lf hi n) ++ (wS ua cI cZ sw2 st2 fa2 sc2 fi2 mi2 lf2 hi2 n2) ++ (wO o cJ (vp_updL ov 0 ((nI (1 + ctF (fun zj => decide (¬ sc zj ≤ sc g)) n)).toInt64)))) (n := 9) hC 22 2 0 rfl rfl rfl (by omega) (by decide) dL_rankOf_8 rfl rfl ?_
  refine z_goto (n := 15) hC dL_rankOf_9 (by decide) ?_
  refine z_iconst (v := nI 0) (n := 16) hC dL_rankOf_15 (by decide) rfl ?_
  refine z_iret hC hr hlocks () ?_ rfl dL_rankOf_16 (by omega) (by omega)
  rfl

set_option maxRecDepth 100000 in
set_option maxHeartbeats 4000000 in
theorem k_L_turnsUntilMiss (l : Launch) (G : va_G) (cI cZ cJ : ClassId) (h : Nat) (ta : Nat → Nat) (sa : Nat → Nat) (ua : Nat → Nat) (T : Nat) (b : Nat → Int32) (r : Nat → Int32) (sw : Nat → Int32) (st : Nat → Int32) (fa : Nat → Int32) (sc : Nat → Int32) (fi : Nat → Int32) (mi : Nat → Int32) (lf : Nat → Bool) (hi : Nat → Bool) (n : Nat) (sw2 : Nat → Int32) (st2 : Nat → Int32) (fa2 : Nat → Int32) (sc2 : Nat → Int32) (fi2 : Nat → Int32) (mi2 : Nat → Int32) (lf2 : Nat → Bool) (hi2 : Nat → Bool) (n2 : Nat) (o : Nat) (ov : Nat → Int64) (g : Nat) (hn : n ≤ 6) (hT : T < 2 ^ 29) (hg : g < n) : MIH (Unit) l yL_turnsUntilMiss cL_turnsUntilMiss 4 5 109 [(0, 9, 12, 21)] G (tY cI cZ cJ) [.ref h, .int (nI g), .ref o] ((wH h ta sa ua T) ++ (wT ta cI b r) ++ (wS sa cI cZ sw st fa sc fi mi lf hi n) ++ (wS ua cI cZ sw2 st2 fa2 sc2 fi2 mi2 lf2 hi2 n2) ++ (wO o cJ ov)) (fun zr _ => zr = nI 0) (fun _ => (wH h ta sa ua T) ++ (wT ta cI b r) ++ (wS sa cI cZ sw st fa sc fi mi lf hi n) ++ (wS ua cI cZ sw2 st2 fa2 sc2 fi2 mi2 lf2 hi2 n2) ++ (wO o cJ (vp_updL ov 0 ((umF (miB sw b r T g) 100).toInt64)))) 0 0 := by
  refine MIH_of (by decide) (Nat.le_of_ble_eq_true rfl) [(0, .ref h), (1, .int (nI g)), (2, .ref o)] rfl ?_
  intro p e s m below meth c hC hr hlocks hz htab
  have hC : Cx p s m _ c cL_turnsUntilMiss 4 RL G (tY cI cZ cJ) _ := hC
  refine z_aload_n (n := 1) hC dL_turnsUntilMiss_0 rfl 2 rfl rfl ?_
  refine z_iconst (v := nI 0) (n := 2) hC dL_turnsUntilMiss_1 (by decide) rfl ?_
  refine z_aload_n (n := 3) hC dL_turnsUntilMiss_2 rfl 0 rfl rfl ?_
  refine z_iload_n (n := 4) hC dL_turnsUntilMiss_3 rfl 1 rfl rfl ?_
  refine z_calli (R := { frames := 5, cells := 0, slots := 0, locals := 109 }) (cells := 0) (slots := 0) (ws := (wH h ta sa ua T) ++ (wT ta cI b r) ++ (wS sa cI cZ sw st fa sc fi mi lf hi n) ++ (wS ua cI cZ sw2 st2 fa2 sc2 fi2 mi2 lf2 hi2 n2) ++ (wO o cJ ov)) (n := 7) (As := [.int (nI g)]) (rest := [.int (nI 0), .ref o]) hC (k_X2_turnsUntilMiss l G cI cZ cJ h ta sa ua T b r sw st fa sc fi mi lf hi n sw2 st2 fa2 sc2 fi2 mi2 lf2 hi2 n2 g hn hT hg) kg_L_67 kd_yX2_turnsUntilMiss dL_turnsUntilMiss_4 ⟨Nat.le_of_ble_eq_true rfl, Nat.le_of_ble_eq_true rfl⟩ 0 rfl rfl rfl [0, 1, 2, 3, 4, 5, 6, 7, 8, 9, 10, 11, 12, 13, 14, 15, 16, 17, 18, 19, 20, 21] rfl (by decide) rfl (Nat.le_of_ble_eq_true rfl) ⟨Nat.le_of_ble_eq_true rfl, Nat.le_of_ble_eq_true rfl⟩ (ws2 := fun u1 => (wH h ta sa ua T) ++ (wT ta cI b r) ++ (wS sa cI cZ sw st fa sc fi mi lf hi n) ++ (wS ua cI cZ sw2 st2 fa2 sc2 fi2 mi2 lf2 hi2 n2) ++ (wO o cJ ov)) [22] (fun _ => rfl) (wO o cJ ov) (fun _ => rfl) rfl (fun _ => rfl) [h, ta 0, ta 1, ta 2, sa 0, sa 1, sa 2, sa 3, sa 4, sa 5, sa 6, sa 7, sa 8, ua 0, ua 1, ua 2, ua 3, ua 4, ua 5, ua 6, ua 7, ua 8] (fun _ => rfl) rfl rfl rfl (fun r2 u1 h3 => ?_)
  rw [show r2 = umF (miB sw b r T g) 100 from h3]
  refine z_i2l (v := (umF (miB sw b r T g) 100).toInt64) (n := 8) hC dL_turnsUntilMiss_7 rfl rfl ?_
  refine z_last (ws' := (wH h ta sa ua T) ++ (wT ta cI b r) ++ (wS sa cI cZ sw st fa sc fi mi lf hi n) ++ (wS ua cI cZ sw2 st2 fa2 sc2 fi2 mi2 lf2 hi2 n2) ++ (wO o cJ (vp_updL ov 0 ((umF (miB sw b r T g) 100).toInt64)))) (n := 9) hC 22 2 0 rfl rfl rfl (by omega) (by decide) dL_turnsUntilMiss_8 rfl rfl ?_
  refine z_goto (n := 15) hC dL_turnsUntilMiss_9 (by decide) ?_
  refine z_iconst (v := nI 0) (n := 16) hC dL_turnsUntilMiss_15 (by decide) rfl ?_
  refine z_iret hC hr hlocks () ?_ rfl dL_turnsUntilMiss_16 (by omega) (by omega)
  rfl

set_option maxRecDepth 100000 in
set_option maxHeartbeats 4000000 in
theorem k_L_bestRest (l : Launch) (G : va_G) (cI cZ cJ : ClassId) (h : Nat) (ta : Nat → Nat) (sa : Nat → Nat) (ua : Nat → Nat) (T : Nat) (b : Nat → Int32) (r : Nat → Int32) (sw : Nat → Int32) (st : Nat → Int32) (fa : Nat → Int32) (sc : Nat → Int32) (fi : Nat → Int32) (mi : Nat → Int32) (lf : Nat → Bool) (hi : Nat → Bool) (n : Nat) (sw2 : Nat → Int32) (st2 : Nat → Int32) (fa2 : Nat → Int32) (sc2 : Nat → Int32) (fi2 : Nat → Int32) (mi2 : Nat → Int32) (lf2 : Nat → Bool) (hi2 : Nat → Bool) (n2 : Nat) (o : Nat) (ov : Nat → Int64) (g : Nat) (hn : n ≤ 6) (hT : T < 2 ^ 29) (hg : g < n) : MIH ((Nat → Int32) × (Nat → Int32) × (Nat → Int32) × (Nat → Int32) × (Nat → Int32) × (Nat → Int32) × (Nat → Bool) × (Nat → Bool)) l yL_bestRest cL_bestRest 4 7 160 [(0, 9, 12, 21)] G (tY cI cZ cJ) [.ref h, .int (nI g), .ref o] ((wH h ta sa ua T) ++ (wT ta cI b r) ++ (wS sa cI cZ sw st fa sc fi mi lf hi n) ++ (wS ua cI cZ sw2 st2 fa2 sc2 fi2 mi2 lf2 hi2 n2) ++ (wO o cJ ov)) (fun zr _ => zr = nI 0) (fun zu => (wH h ta sa ua T) ++ (wT ta cI b r) ++ (wS sa cI cZ sw st fa sc fi mi lf hi n) ++ (wS ua cI cZ zu.1 zu.2.1 zu.2.2.1 zu.2.2.2.1 zu.2.2.2.2.1 zu.2.2.2.2.2.1 zu.2.2.2.2.2.2.1 zu.2.2.2.2.2.2.2 n) ++ (wO o cJ (vp_updL ov 0 ((nI (brF (reF sw st b r sc fi mi fa T g) 20)).toInt64)))) 0 0 := by
  refine MIH_of (by decide) (Nat.le_of_ble_eq_true rfl) [(0, .ref h), (1, .int (nI g)), (2, .ref o)] rfl ?_
  intro p e s m below meth c hC hr hlocks hz htab
  have hC : Cx p s m _ c cL_bestRest 4 RL G (tY cI cZ cJ) _ := hC
  refine z_aload_n (n := 1) hC dL_bestRest_0 rfl 2 rfl rfl ?_
  refine z_iconst (v := nI 0) (n := 2) hC dL_bestRest_1 (by decide) rfl ?_
  refine z_aload_n (n := 3) hC dL_bestRest_2 rfl 0 rfl rfl ?_
  refine z_iload_n (n := 4) hC dL_bestRest_3 rfl 1 rfl rfl ?_
  refine z_calli (R := { frames := 7, cells := 0, slots := 0, locals := 160 }) (cells := 0) (slots := 0) (ws := (wH h ta sa ua T) ++ (wT ta cI b r) ++ (wS sa cI cZ sw st fa sc fi mi lf hi n) ++ (wS ua cI cZ sw2 st2 fa2 sc2 fi2 mi2 lf2 hi2 n2) ++ (wO o cJ ov)) (n := 7) (As := [.int (nI g)]) (rest := [.int (nI 0), .ref o]) hC (k_X2_bestRest l G cI cZ cJ h ta sa ua T b r sw st fa sc fi mi lf hi n sw2 st2 fa2 sc2 fi2 mi2 lf2 hi2 n2 g hn hT hg) kg_L_73 kd_yX2_bestRest dL_bestRest_4 ⟨Nat.le_of_ble_eq_true rfl, Nat.le_of_ble_eq_true rfl⟩ 0 rfl rfl rfl [0, 1, 2, 3, 4, 5, 6, 7, 8, 9, 10, 11, 12, 13, 14, 15, 16, 17, 18, 19, 20, 21] rfl (by decide) rfl (Nat.le_of_ble_eq_true rfl) ⟨Nat.le_of_ble_eq_true rfl, Nat.le_of_ble_eq_true rfl⟩ (ws2 := fun u1 => (wH h ta sa ua T) ++ (wT ta cI b r) ++ (wS sa cI cZ sw st fa sc fi mi lf hi n) ++ (wS ua cI cZ u1.1 u1.2.1 u1.2.2.1 u1.2.2.2.1 u1.2.2.2.2.1 u1.2.2.2.2.2.1 u1.2.2.2.2.2.2.1 u1.2.2.2.2.2.2.2 n) ++ (wO o cJ ov)) [22] (fun _ => rfl) (wO o cJ ov) (fun _ => rfl) rfl (fun _ => rfl) [h, ta 0, ta 1, ta 2, sa 0, sa 1, sa 2, sa 3, sa 4, sa 5, sa 6, sa 7, sa 8, ua 0, ua 1, ua 2, ua 3, ua 4, ua 5, ua 6, ua 7, ua 8] (fun _ => rfl) rfl rfl rfl (fun r2 u1 h3 => ?_)
  subst h3
  refine z_i2l (v := (nI (brF (reF sw st b r sc fi mi fa T g) 20)).toInt64) (n := 8) hC dL_bestRest_7 rfl rfl ?_
  refine z_last (ws' := (wH h ta sa ua T) ++ (wT ta cI b r) ++ (wS sa cI cZ sw st fa sc fi mi lf hi n) ++ (wS ua cI cZ u1.1 u1.2.1 u1.2.2.1 u1.2.2.2.1 u1.2.2.2.2.1 u1.2.2.2.2.2.1 u1.2.2.2.2.2.2.1 u1.2.2.2.2.2.2.2 n) ++ (wO o cJ (vp_updL ov 0 ((nI (brF (reF sw st b r sc fi mi fa T g) 20)).toInt64)))) (n := 9) hC 22 2 0 rfl rfl rfl (by omega) (by decide) dL_bestRest_8 rfl rfl ?_
  refine z_goto (n := 15) hC dL_bestRest_9 (by decide) ?_
  refine z_iconst (v := nI 0) (n := 16) hC dL_bestRest_15 (by decide) rfl ?_
  refine z_iret hC hr hlocks (u1.1, u1.2.1, u1.2.2.1, u1.2.2.2.1, u1.2.2.2.2.1, u1.2.2.2.2.2.1, u1.2.2.2.2.2.2.1, u1.2.2.2.2.2.2.2) ?_ rfl dL_bestRest_16 (by omega) (by omega)
  rfl

set_option maxRecDepth 100000 in
set_option maxHeartbeats 4000000 in
theorem k_L_swingWanted (l : Launch) (G : va_G) (cI cZ cJ : ClassId) (h : Nat) (ta : Nat → Nat) (sa : Nat → Nat) (ua : Nat → Nat) (T : Nat) (b : Nat → Int32) (r : Nat → Int32) (sw : Nat → Int32) (st : Nat → Int32) (fa : Nat → Int32) (sc : Nat → Int32) (fi : Nat → Int32) (mi : Nat → Int32) (lf : Nat → Bool) (hi : Nat → Bool) (n : Nat) (sw2 : Nat → Int32) (st2 : Nat → Int32) (fa2 : Nat → Int32) (sc2 : Nat → Int32) (fi2 : Nat → Int32) (mi2 : Nat → Int32) (lf2 : Nat → Bool) (hi2 : Nat → Bool) (n2 : Nat) (o : Nat) (ov : Nat → Int64) (g : Nat) (hn : n ≤ 6) (hT : T < 2 ^ 29) (hg : g < n) : MIH (Unit) l yL_swingWanted cL_swingWanted 4 5 111 [(0, 9, 12, 21)] G (tY cI cZ cJ) [.ref h, .int (nI g), .ref o] ((wH h ta sa ua T) ++ (wT ta cI b r) ++ (wS sa cI cZ sw st fa sc fi mi lf hi n) ++ (wS ua cI cZ sw2 st2 fa2 sc2 fi2 mi2 lf2 hi2 n2) ++ (wO o cJ ov)) (fun zr _ => zr = nI 0) (fun _ => (wH h ta sa ua T) ++ (wT ta cI b r) ++ (wS sa cI cZ sw st fa sc fi mi lf hi n) ++ (wS ua cI cZ sw2 st2 fa2 sc2 fi2 mi2 lf2 hi2 n2) ++ (wO o cJ (vp_updL ov 0 ((swF b r).toInt64)))) 0 0 := by
  refine MIH_of (by decide) (Nat.le_of_ble_eq_true rfl) [(0, .ref h), (1, .int (nI g)), (2, .ref o)] rfl ?_
  intro p e s m below meth c hC hr hlocks hz htab
  have hC : Cx p s m _ c cL_swingWanted 4 RL G (tY cI cZ cJ) _ := hC
  refine z_aload_n (n := 1) hC dL_swingWanted_0 rfl 2 rfl rfl ?_
  refine z_iconst (v := nI 0) (n := 2) hC dL_swingWanted_1 (by decide) rfl ?_
  refine z_aload_n (n := 3) hC dL_swingWanted_2 rfl 0 rfl rfl ?_
  refine z_iload_n (n := 4) hC dL_swingWanted_3 rfl 1 rfl rfl ?_
  refine z_calli (R := { frames := 5, cells := 0, slots := 0, locals := 111 }) (cells := 0) (slots := 0) (ws := (wH h ta sa ua T) ++ (wT ta cI b r) ++ (wS sa cI cZ sw st fa sc fi mi lf hi n) ++ (wS ua cI cZ sw2 st2 fa2 sc2 fi2 mi2 lf2 hi2 n2) ++ (wO o cJ ov)) (n := 7) (As := [.int (nI g)]) (rest := [.int (nI 0), .ref o]) hC (k_X2_swingWanted l G cI cZ cJ h ta sa ua T b r sw st fa sc fi mi lf hi n sw2 st2 fa2 sc2 fi2 mi2 lf2 hi2 n2 g hn hT hg) kg_L_76 kd_yX2_swingWanted dL_swingWanted_4 ⟨Nat.le_of_ble_eq_true rfl, Nat.le_of_ble_eq_true rfl⟩ 0 rfl rfl rfl [0, 1, 2, 3, 4, 5, 6, 7, 8, 9, 10, 11, 12, 13, 14, 15, 16, 17, 18, 19, 20, 21] rfl (by decide) rfl (Nat.le_of_ble_eq_true rfl) ⟨Nat.le_of_ble_eq_true rfl, Nat.le_of_ble_eq_true rfl⟩ (ws2 := fun u1 => (wH h ta sa ua T) ++ (wT ta cI b r) ++ (wS sa cI cZ sw st fa sc fi mi lf hi n) ++ (wS ua cI cZ sw2 st2 fa2 sc2 fi2 mi2 lf2 hi2 n2) ++ (wO o cJ ov)) [22] (fun _ => rfl) (wO o cJ ov) (fun _ => rfl) rfl (fun _ => rfl) [h, ta 0, ta 1, ta 2, sa 0, sa 1, sa 2, sa 3, sa 4, sa 5, sa 6, sa 7, sa 8, ua 0, ua 1, ua 2, ua 3, ua 4, ua 5, ua 6, ua 7, ua 8] (fun _ => rfl) rfl rfl rfl (fun r2 u1 h3 => ?_)
  subst h3
  refine z_i2l (v := (swF b r).toInt64) (n := 8) hC dL_swingWanted_7 rfl rfl ?_
  refine z_last (ws' := (wH h ta sa ua T) ++ (wT ta cI b r) ++ (wS sa cI cZ sw st fa sc fi mi lf hi n) ++ (wS ua cI cZ sw2 st2 fa2 sc2 fi2 mi2 lf2 hi2 n2) ++ (wO o cJ (vp_updL ov 0 ((swF b r).toInt64)))) (n := 9) hC 22 2 0 rfl rfl rfl (by omega) (by decide) dL_swingWanted_8 rfl rfl ?_
  refine z_goto (n := 15) hC dL_swingWanted_9 (by decide) ?_
  refine z_iconst (v := nI 0) (n := 16) hC dL_swingWanted_15 (by decide) rfl ?_
  refine z_iret hC hr hlocks () ?_ rfl dL_swingWanted_16 (by omega) (by omega)
  rfl

set_option maxRecDepth 100000 in
set_option maxHeartbeats 4000000 in
theorem kx_L_rest_x (l : Launch) (G : va_G) (cI cZ cJ : ClassId) (h : Nat) (ta : Nat → Nat) (sa : Nat → Nat) (ua : Nat → Nat) (T : Nat) (b : Nat → Int32) (r : Nat → Int32) (sw : Nat → Int32) (st : Nat → Int32) (fa : Nat → Int32) (sc : Nat → Int32) (fi : Nat → Int32) (mi : Nat → Int32) (lf : Nat → Bool) (hi : Nat → Bool) (n : Nat) (sw2 : Nat → Int32) (st2 : Nat → Int32) (fa2 : Nat → Int32) (sc2 : Nat → Int32) (fi2 : Nat → Int32) (mi2 : Nat → Int32) (lf2 : Nat → Bool) (hi2 : Nat → Bool) (n2 : Nat) (o : Nat) (ov : Nat → Int64) (x : Int32) (hl : l.stackTraces = false) (hn : n ≤ 6) (hT : T < 2 ^ 29) (hb : x < 0 ∨ nI n ≤ x) : MIH (Unit) l yL_rest cL_rest 4 8 125 [(0, 9, 12, 21)] G (tY cI cZ cJ) [.ref h, .int x, .ref o] ((wH h ta sa ua T) ++ (wT ta cI b r) ++ (wS sa cI cZ sw st fa sc fi mi lf hi n) ++ (wS ua cI cZ sw2 st2 fa2 sc2 fi2 mi2 lf2 hi2 n2) ++ (wO o cJ ov)) (fun zr _ => zr = nI 1) (fun _ => (wH h ta sa ua T) ++ (wT ta cI b r) ++ (wS sa cI cZ sw st fa sc fi mi lf hi n) ++ (wS ua cI cZ sw2 st2 fa2 sc2 fi2 mi2 lf2 hi2 n2) ++ (wO o cJ ov)) 1 6 := by
  refine MIH_of (by decide) (Nat.le_of_ble_eq_true rfl) [(0, .ref h), (1, .int x), (2, .ref o)] rfl ?_
  intro p e s m below meth c hC hr hlocks hz htab
  have hC : Cx p s m _ c cL_rest 4 RL G (tY cI cZ cJ) _ := hC
  refine z_aload_n (n := 1) hC dL_rest_0 rfl 2 rfl rfl ?_
  refine z_iconst (v := nI 0) (n := 2) hC dL_rest_1 (by decide) rfl ?_
  refine z_aload_n (n := 3) hC dL_rest_2 rfl 0 rfl rfl ?_
  refine z_iload_n (n := 4) hC dL_rest_3 rfl 1 rfl rfl ?_
  refine z_callvxc (n := 12) (cells := 0) (slots := 0) (As := [.int x]) (rest := [.int (nI 0), .ref o]) hC (kx_X2_rest l G cI cZ cJ h ta sa ua T b r sw st fa sc fi mi lf hi n sw2 st2 fa2 sc2 fi2 mi2 lf2 hi2 n2 x hl hn hT hb) kg_L_23 kd_yX2_rest dL_rest_4 ⟨Nat.le_of_ble_eq_true rfl, Nat.le_of_ble_eq_true rfl⟩ 0 rfl rfl rfl [0, 1, 2, 3, 4, 5, 6, 7, 8, 9, 10, 11, 12, 13, 14, 15, 16, 17, 18, 19, 20, 21] rfl (by decide) rfl (Nat.le_of_ble_eq_true rfl) ⟨Nat.le_of_ble_eq_true rfl, Nat.le_of_ble_eq_true rfl⟩ [22] rfl rfl [] ⟨0, 9, 12, 21⟩ [] htab (fun z hz9 => absurd hz9 List.not_mem_nil) rfl (by decide) q633 (by simp [zCW]) rfl (fun q1 => ?_)
  refine z_astore_n (lv' := [(3, .ref q1), (0, .ref h), (1, .int x), (2, .ref o)]) (n := 13) hC dL_rest_12 rfl (by decide) rfl rfl ?_
  refine z_iconst (v := nI 1) (n := 14) hC dL_rest_13 (by decide) rfl ?_
  refine z_iret hC hr hlocks () ?_ rfl dL_rest_14 (by omega) (by omega)
  rfl

set_option maxRecDepth 100000 in
set_option maxHeartbeats 4000000 in
theorem kx_L_standOf_x (l : Launch) (G : va_G) (cI cZ cJ : ClassId) (h : Nat) (ta : Nat → Nat) (sa : Nat → Nat) (ua : Nat → Nat) (T : Nat) (b : Nat → Int32) (r : Nat → Int32) (sw : Nat → Int32) (st : Nat → Int32) (fa : Nat → Int32) (sc : Nat → Int32) (fi : Nat → Int32) (mi : Nat → Int32) (lf : Nat → Bool) (hi : Nat → Bool) (n : Nat) (sw2 : Nat → Int32) (st2 : Nat → Int32) (fa2 : Nat → Int32) (sc2 : Nat → Int32) (fi2 : Nat → Int32) (mi2 : Nat → Int32) (lf2 : Nat → Bool) (hi2 : Nat → Bool) (n2 : Nat) (o : Nat) (ov : Nat → Int64) (x : Int32) (hl : l.stackTraces = false) (hn : n ≤ 6) (hT : T < 2 ^ 29) (hb : x < 0 ∨ nI n ≤ x) : MIH (Unit) l yL_standOf cL_standOf 4 8 124 [(0, 9, 12, 21)] G (tY cI cZ cJ) [.ref h, .int x, .ref o] ((wH h ta sa ua T) ++ (wT ta cI b r) ++ (wS sa cI cZ sw st fa sc fi mi lf hi n) ++ (wS ua cI cZ sw2 st2 fa2 sc2 fi2 mi2 lf2 hi2 n2) ++ (wO o cJ ov)) (fun zr _ => zr = nI 1) (fun _ => (wH h ta sa ua T) ++ (wT ta cI b r) ++ (wS sa cI cZ sw st fa sc fi mi lf hi n) ++ (wS ua cI cZ sw2 st2 fa2 sc2 fi2 mi2 lf2 hi2 n2) ++ (wO o cJ ov)) 1 6 := by
  refine MIH_of (by decide) (Nat.le_of_ble_eq_true rfl) [(0, .ref h), (1, .int x), (2, .ref o)] rfl ?_
  intro p e s m below meth c hC hr hlocks hz htab
  have hC : Cx p s m _ c cL_standOf 4 RL G (tY cI cZ cJ) _ := hC
  refine z_aload_n (n := 1) hC dL_standOf_0 rfl 2 rfl rfl ?_
  refine z_iconst (v := nI 0) (n := 2) hC dL_standOf_1 (by decide) rfl ?_
  refine z_aload_n (n := 3) hC dL_standOf_2 rfl 0 rfl rfl ?_
  refine z_iload_n (n := 4) hC dL_standOf_3 rfl 1 rfl rfl ?_
  refine z_callvxc (n := 12) (cells := 0) (slots := 0) (As := [.int x]) (rest := [.int (nI 0), .ref o]) hC (kx_X2_standOf l G cI cZ cJ h ta sa ua T b r sw st fa sc fi mi lf hi n sw2 st2 fa2 sc2 fi2 mi2 lf2 hi2 n2 x hl hn hT hb) kg_L_40 kd_yX2_standOf dL_standOf_4 ⟨Nat.le_of_ble_eq_true rfl, Nat.le_of_ble_eq_true rfl⟩ 0 rfl rfl rfl [0, 1, 2, 3, 4, 5, 6, 7, 8, 9, 10, 11, 12, 13, 14, 15, 16, 17, 18, 19, 20, 21] rfl (by decide) rfl (Nat.le_of_ble_eq_true rfl) ⟨Nat.le_of_ble_eq_true rfl, Nat.le_of_ble_eq_true rfl⟩ [22] rfl rfl [] ⟨0, 9, 12, 21⟩ [] htab (fun z hz9 => absurd hz9 List.not_mem_nil) rfl (by decide) q633 (by simp [zCW]) rfl (fun q1 => ?_)
  refine z_astore_n (lv' := [(3, .ref q1), (0, .ref h), (1, .int x), (2, .ref o)]) (n := 13) hC dL_standOf_12 rfl (by decide) rfl rfl ?_
  refine z_iconst (v := nI 1) (n := 14) hC dL_standOf_13 (by decide) rfl ?_
  refine z_iret hC hr hlocks () ?_ rfl dL_standOf_14 (by omega) (by omega)
  rfl

set_option maxRecDepth 100000 in
set_option maxHeartbeats 4000000 in
theorem kx_L_angleFor_x (l : Launch) (G : va_G) (cI cZ cJ : ClassId) (h : Nat) (ta : Nat → Nat) (sa : Nat → Nat) (ua : Nat → Nat) (T : Nat) (b : Nat → Int32) (r : Nat → Int32) (sw : Nat → Int32) (st : Nat → Int32) (fa : Nat → Int32) (sc : Nat → Int32) (fi : Nat → Int32) (mi : Nat → Int32) (lf : Nat → Bool) (hi : Nat → Bool) (n : Nat) (sw2 : Nat → Int32) (st2 : Nat → Int32) (fa2 : Nat → Int32) (sc2 : Nat → Int32) (fi2 : Nat → Int32) (mi2 : Nat → Int32) (lf2 : Nat → Bool) (hi2 : Nat → Bool) (n2 : Nat) (o : Nat) (ov : Nat → Int64) (x : Int32) (hl : l.stackTraces = false) (hn : n ≤ 6) (hT : T < 2 ^ 29) (hb : x < 0 ∨ nI n ≤ x) : MIH (Unit) l yL_angleFor cL_angleFor 4 8 124 [(0, 9, 12, 21)] G (tY cI cZ cJ) [.ref h, .int x, .ref o] ((wH h ta sa ua T) ++ (wT ta cI b r) ++ (wS sa cI cZ sw st fa sc fi mi lf hi n) ++ (wS ua cI cZ sw2 st2 fa2 sc2 fi2 mi2 lf2 hi2 n2) ++ (wO o cJ ov)) (fun zr _ => zr = nI 1) (fun _ => (wH h ta sa ua T) ++ (wT ta cI b r) ++ (wS sa cI cZ sw st fa sc fi mi lf hi n) ++ (wS ua cI cZ sw2 st2 fa2 sc2 fi2 mi2 lf2 hi2 n2) ++ (wO o cJ ov)) 1 6 := by
  refine MIH_of (by decide) (Nat.le_of_ble_eq_true rfl) [(0, .ref h), (1, .int x), (2, .ref o)] rfl ?_
  intro p e s m below meth c hC hr hlocks hz htab
  have hC : Cx p s m _ c cL_angleFor 4 RL G (tY cI cZ cJ) _ := hC
  refine z_aload_n (n := 1) hC dL_angleFor_0 rfl 2 rfl rfl ?_
  refine z_iconst (v := nI 0) (n := 2) hC dL_angleFor_1 (by decide) rfl ?_
  refine z_aload_n (n := 3) hC dL_angleFor_2 rfl 0 rfl rfl ?_
  refine z_iload_n (n := 4) hC dL_angleFor_3 rfl 1 rfl rfl ?_
  refine z_callvxc (n := 12) (cells := 0) (slots := 0) (As := [.int x]) (rest := [.int (nI 0), .ref o]) hC (kx_X2_angleFor l G cI cZ cJ h ta sa ua T b r sw st fa sc fi mi lf hi n sw2 st2 fa2 sc2 fi2 mi2 lf2 hi2 n2 x hl hn hT hb) kg_L_43 kd_yX2_angleFor dL_angleFor_4 ⟨Nat.le_of_ble_eq_true rfl, Nat.le_of_ble_eq_true rfl⟩ 0 rfl rfl rfl [0, 1, 2, 3, 4, 5, 6, 7, 8, 9, 10, 11, 12, 13, 14, 15, 16, 17, 18, 19, 20, 21] rfl (by decide) rfl (Nat.le_of_ble_eq_true rfl) ⟨Nat.le_of_ble_eq_true rfl, Nat.le_of_ble_eq_true rfl⟩ [22] rfl rfl [] ⟨0, 9, 12, 21⟩ [] htab (fun z hz9 => absurd hz9 List.not_mem_nil) rfl (by decide) q633 (by simp [zCW]) rfl (fun q1 => ?_)
  refine z_astore_n (lv' := [(3, .ref q1), (0, .ref h), (1, .int x), (2, .ref o)]) (n := 13) hC dL_angleFor_12 rfl (by decide) rfl rfl ?_
  refine z_iconst (v := nI 1) (n := 14) hC dL_angleFor_13 (by decide) rfl ?_
  refine z_iret hC hr hlocks () ?_ rfl dL_angleFor_14 (by omega) (by omega)
  rfl

set_option maxRecDepth 100000 in
set_option maxHeartbeats 4000000 in
theorem kx_L_scoreOf_x (l : Launch) (G : va_G) (cI cZ cJ : ClassId) (h : Nat) (ta : Nat → Nat) (sa : Nat → Nat) (ua : Nat → Nat) (T : Nat) (b : Nat → Int32) (r : Nat → Int32) (sw : Nat → Int32) (st : Nat → Int32) (fa : Nat → Int32) (sc : Nat → Int32) (fi : Nat → Int32) (mi : Nat → Int32) (lf : Nat → Bool) (hi : Nat → Bool) (n : Nat) (sw2 : Nat → Int32) (st2 : Nat → Int32) (fa2 : Nat → Int32) (sc2 : Nat → Int32) (fi2 : Nat → Int32) (mi2 : Nat → Int32) (lf2 : Nat → Bool) (hi2 : Nat → Bool) (n2 : Nat) (o : Nat) (ov : Nat → Int64) (x : Int32) (hl : l.stackTraces = false) (hn : n ≤ 6) (hT : T < 2 ^ 29) (hb : x < 0 ∨ nI n ≤ x) : MIH (Unit) l yL_scoreOf cL_scoreOf 4 8 124 [(0, 9, 12, 21)] G (tY cI cZ cJ) [.ref h, .int x, .ref o] ((wH h ta sa ua T) ++ (wT ta cI b r) ++ (wS sa cI cZ sw st fa sc fi mi lf hi n) ++ (wS ua cI cZ sw2 st2 fa2 sc2 fi2 mi2 lf2 hi2 n2) ++ (wO o cJ ov)) (fun zr _ => zr = nI 1) (fun _ => (wH h ta sa ua T) ++ (wT ta cI b r) ++ (wS sa cI cZ sw st fa sc fi mi lf hi n) ++ (wS ua cI cZ sw2 st2 fa2 sc2 fi2 mi2 lf2 hi2 n2) ++ (wO o cJ ov)) 1 6 := by
  refine MIH_of (by decide) (Nat.le_of_ble_eq_true rfl) [(0, .ref h), (1, .int x), (2, .ref o)] rfl ?_
  intro p e s m below meth c hC hr hlocks hz htab
  have hC : Cx p s m _ c cL_scoreOf 4 RL G (tY cI cZ cJ) _ := hC
  refine z_aload_n (n := 1) hC dL_scoreOf_0 rfl 2 rfl rfl ?_
  refine z_iconst (v := nI 0) (n := 2) hC dL_scoreOf_1 (by decide) rfl ?_
  refine z_aload_n (n := 3) hC dL_scoreOf_2 rfl 0 rfl rfl ?_
  refine z_iload_n (n := 4) hC dL_scoreOf_3 rfl 1 rfl rfl ?_
  refine z_callvxc (n := 12) (cells := 0) (slots := 0) (As := [.int x]) (rest := [.int (nI 0), .ref o]) hC (kx_X2_scoreOf l G cI cZ cJ h ta sa ua T b r sw st fa sc fi mi lf hi n sw2 st2 fa2 sc2 fi2 mi2 lf2 hi2 n2 x hl hn hT hb) kg_L_46 kd_yX2_scoreOf dL_scoreOf_4 ⟨Nat.le_of_ble_eq_true rfl, Nat.le_of_ble_eq_true rfl⟩ 0 rfl rfl rfl [0, 1, 2, 3, 4, 5, 6, 7, 8, 9, 10, 11, 12, 13, 14, 15, 16, 17, 18, 19, 20, 21] rfl (by decide) rfl (Nat.le_of_ble_eq_true rfl) ⟨Nat.le_of_ble_eq_true rfl, Nat.le_of_ble_eq_true rfl⟩ [22] rfl rfl [] ⟨0, 9, 12, 21⟩ [] htab (fun z hz9 => absurd hz9 List.not_mem_nil) rfl (by decide) q633 (by simp [zCW]) rfl (fun q1 => ?_)
  refine z_astore_n (lv' := [(3, .ref q1), (0, .ref h), (1, .int x), (2, .ref o)]) (n := 13) hC dL_scoreOf_12 rfl (by decide) rfl rfl ?_
  refine z_iconst (v := nI 1) (n := 14) hC dL_scoreOf_13 (by decide) rfl ?_
  refine z_iret hC hr hlocks () ?_ rfl dL_scoreOf_14 (by omega) (by omega)
  rfl

set_option maxRecDepth 100000 in
set_option maxHeartbeats 4000000 in
theorem kx_L_firstsOf_x (l : Launch) (G : va_G) (cI cZ cJ : ClassId) (h : Nat) (ta : Nat → Nat) (sa : Nat → Nat) (ua : Nat → Nat) (T : Nat) (b : Nat → Int32) (r : Nat → Int32) (sw : Nat → Int32) (st : Nat → Int32) (fa : Nat → Int32) (sc : Nat → Int32) (fi : Nat → Int32) (mi : Nat → Int32) (lf : Nat → Bool) (hi : Nat → Bool) (n : Nat) (sw2 : Nat → Int32) (st2 : Nat → Int32) (fa2 : Nat → Int32) (sc2 : Nat → Int32) (fi2 : Nat → Int32) (mi2 : Nat → Int32) (lf2 : Nat → Bool) (hi2 : Nat → Bool) (n2 : Nat) (o : Nat) (ov : Nat → Int64) (x : Int32) (hl : l.stackTraces = false) (hn : n ≤ 6) (hT : T < 2 ^ 29) (hb : x < 0 ∨ nI n ≤ x) : MIH (Unit) l yL_firstsOf cL_firstsOf 4 8 124 [(0, 9, 12, 21)] G (tY cI cZ cJ) [.ref h, .int x, .ref o] ((wH h ta sa ua T) ++ (wT ta cI b r) ++ (wS sa cI cZ sw st fa sc fi mi lf hi n) ++ (wS ua cI cZ sw2 st2 fa2 sc2 fi2 mi2 lf2 hi2 n2) ++ (wO o cJ ov)) (fun zr _ => zr = nI 1) (fun _ => (wH h ta sa ua T) ++ (wT ta cI b r) ++ (wS sa cI cZ sw st fa sc fi mi lf hi n) ++ (wS ua cI cZ sw2 st2 fa2 sc2 fi2 mi2 lf2 hi2 n2) ++ (wO o cJ ov)) 1 6 := by
  refine MIH_of (by decide) (Nat.le_of_ble_eq_true rfl) [(0, .ref h), (1, .int x), (2, .ref o)] rfl ?_
  intro p e s m below meth c hC hr hlocks hz htab
  have hC : Cx p s m _ c cL_firstsOf 4 RL G (tY cI cZ cJ) _ := hC
  refine z_aload_n (n := 1) hC dL_firstsOf_0 rfl 2 rfl rfl ?_
  refine z_iconst (v := nI 0) (n := 2) hC dL_firstsOf_1 (by decide) rfl ?_
  refine z_aload_n (n := 3) hC dL_firstsOf_2 rfl 0 rfl rfl ?_
  refine z_iload_n (n := 4) hC dL_firstsOf_3 rfl 1 rfl rfl ?_
  refine z_callvxc (n := 12) (cells := 0) (slots := 0) (As := [.int x]) (rest := [.int (nI 0), .ref o]) hC (kx_X2_firstsOf l G cI cZ cJ h ta sa ua T b r sw st fa sc fi mi lf hi n sw2 st2 fa2 sc2 fi2 mi2 lf2 hi2 n2 x hl hn hT hb) kg_L_49 kd_yX2_firstsOf dL_firstsOf_4 ⟨Nat.le_of_ble_eq_true rfl, Nat.le_of_ble_eq_true rfl⟩ 0 rfl rfl rfl [0, 1, 2, 3, 4, 5, 6, 7, 8, 9, 10, 11, 12, 13, 14, 15, 16, 17, 18, 19, 20, 21] rfl (by decide) rfl (Nat.le_of_ble_eq_true rfl) ⟨Nat.le_of_ble_eq_true rfl, Nat.le_of_ble_eq_true rfl⟩ [22] rfl rfl [] ⟨0, 9, 12, 21⟩ [] htab (fun z hz9 => absurd hz9 List.not_mem_nil) rfl (by decide) q633 (by simp [zCW]) rfl (fun q1 => ?_)
  refine z_astore_n (lv' := [(3, .ref q1), (0, .ref h), (1, .int x), (2, .ref o)]) (n := 13) hC dL_firstsOf_12 rfl (by decide) rfl rfl ?_
  refine z_iconst (v := nI 1) (n := 14) hC dL_firstsOf_13 (by decide) rfl ?_
  refine z_iret hC hr hlocks () ?_ rfl dL_firstsOf_14 (by omega) (by omega)
  rfl

set_option maxRecDepth 100000 in
set_option maxHeartbeats 4000000 in
theorem kx_L_missesOf_x (l : Launch) (G : va_G) (cI cZ cJ : ClassId) (h : Nat) (ta : Nat → Nat) (sa : Nat → Nat) (ua : Nat → Nat) (T : Nat) (b : Nat → Int32) (r : Nat → Int32) (sw : Nat → Int32) (st : Nat → Int32) (fa : Nat → Int32) (sc : Nat → Int32) (fi : Nat → Int32) (mi : Nat → Int32) (lf : Nat → Bool) (hi : Nat → Bool) (n : Nat) (sw2 : Nat → Int32) (st2 : Nat → Int32) (fa2 : Nat → Int32) (sc2 : Nat → Int32) (fi2 : Nat → Int32) (mi2 : Nat → Int32) (lf2 : Nat → Bool) (hi2 : Nat → Bool) (n2 : Nat) (o : Nat) (ov : Nat → Int64) (x : Int32) (hl : l.stackTraces = false) (hn : n ≤ 6) (hT : T < 2 ^ 29) (hb : x < 0 ∨ nI n ≤ x) : MIH (Unit) l yL_missesOf cL_missesOf 4 8 124 [(0, 9, 12, 21)] G (tY cI cZ cJ) [.ref h, .int x, .ref o] ((wH h ta sa ua T) ++ (wT ta cI b r) ++ (wS sa cI cZ sw st fa sc fi mi lf hi n) ++ (wS ua cI cZ sw2 st2 fa2 sc2 fi2 mi2 lf2 hi2 n2) ++ (wO o cJ ov)) (fun zr _ => zr = nI 1) (fun _ => (wH h ta sa ua T) ++ (wT ta cI b r) ++ (wS sa cI cZ sw st fa sc fi mi lf hi n) ++ (wS ua cI cZ sw2 st2 fa2 sc2 fi2 mi2 lf2 hi2 n2) ++ (wO o cJ ov)) 1 6 := by
  refine MIH_of (by decide) (Nat.le_of_ble_eq_true rfl) [(0, .ref h), (1, .int x), (2, .ref o)] rfl ?_
  intro p e s m below meth c hC hr hlocks hz htab
  have hC : Cx p s m _ c cL_missesOf 4 RL G (tY cI cZ cJ) _ := hC
  refine z_aload_n (n := 1) hC dL_missesOf_0 rfl 2 rfl rfl ?_
  refine z_iconst (v := nI 0) (n := 2) hC dL_missesOf_1 (by decide) rfl ?_
  refine z_aload_n (n := 3) hC dL_missesOf_2 rfl 0 rfl rfl ?_
  refine z_iload_n (n := 4) hC dL_missesOf_3 rfl 1 rfl rfl ?_
  refine z_callvxc (n := 12) (cells := 0) (slots := 0) (As := [.int x]) (rest := [.int (nI 0), .ref o]) hC (kx_X2_missesOf l G cI cZ cJ h ta sa ua T b r sw st fa sc fi mi lf hi n sw2 st2 fa2 sc2 fi2 mi2 lf2 hi2 n2 x hl hn hT hb) kg_L_52 kd_yX2_missesOf dL_missesOf_4 ⟨Nat.le_of_ble_eq_true rfl, Nat.le_of_ble_eq_true rfl⟩ 0 rfl rfl rfl [0, 1, 2, 3, 4, 5, 6, 7, 8, 9, 10, 11, 12, 13, 14, 15, 16, 17, 18, 19, 20, 21] rfl (by decide) rfl (Nat.le_of_ble_eq_true rfl) ⟨Nat.le_of_ble_eq_true rfl, Nat.le_of_ble_eq_true rfl⟩ [22] rfl rfl [] ⟨0, 9, 12, 21⟩ [] htab (fun z hz9 => absurd hz9 List.not_mem_nil) rfl (by decide) q633 (by simp [zCW]) rfl (fun q1 => ?_)
  refine z_astore_n (lv' := [(3, .ref q1), (0, .ref h), (1, .int x), (2, .ref o)]) (n := 13) hC dL_missesOf_12 rfl (by decide) rfl rfl ?_
  refine z_iconst (v := nI 1) (n := 14) hC dL_missesOf_13 (by decide) rfl ?_
  refine z_iret hC hr hlocks () ?_ rfl dL_missesOf_14 (by omega) (by omega)
  rfl

set_option maxRecDepth 100000 in
set_option maxHeartbeats 4000000 in
theorem kx_L_fatigueOf_x (l : Launch) (G : va_G) (cI cZ cJ : ClassId) (h : Nat) (ta : Nat → Nat) (sa : Nat → Nat) (ua : Nat → Nat) (T : Nat) (b : Nat → Int32) (r : Nat → Int32) (sw : Nat → Int32) (st : Nat → Int32) (fa : Nat → Int32) (sc : Nat → Int32) (fi : Nat → Int32) (mi : Nat → Int32) (lf : Nat → Bool) (hi : Nat → Bool) (n : Nat) (sw2 : Nat → Int32) (st2 : Nat → Int32) (fa2 : Nat → Int32) (sc2 : Nat → Int32) (fi2 : Nat → Int32) (mi2 : Nat → Int32) (lf2 : Nat → Bool) (hi2 : Nat → Bool) (n2 : Nat) (o : Nat) (ov : Nat → Int64) (x : Int32) (hl : l.stackTraces = false) (hn : n ≤ 6) (hT : T < 2 ^ 29) (hb : x < 0 ∨ nI n ≤ x) : MIH (Unit) l yL_fatigueOf cL_fatigueOf 4 8 124 [(0, 9, 12, 21)] G (tY cI cZ cJ) [.ref h, .int x, .ref o] ((wH h ta sa ua T) ++ (wT ta cI b r) ++ (wS sa cI cZ sw st fa sc fi mi lf hi n) ++ (wS ua cI cZ sw2 st2 fa2 sc2 fi2 mi2 lf2 hi2 n2) ++ (wO o cJ ov)) (fun zr _ => zr = nI 1) (fun _ => (wH h ta sa ua T) ++ (wT ta cI b r) ++ (wS sa cI cZ sw st fa sc fi mi lf hi n) ++ (wS ua cI cZ sw2 st2 fa2 sc2 fi2 mi2 lf2 hi2 n2) ++ (wO o cJ ov)) 1 6 := by
  refine MIH_of (by decide) (Nat.le_of_ble_eq_true rfl) [(0, .ref h), (1, .int x), (2, .ref o)] rfl ?_
  intro p e s m below meth c hC hr hlocks hz htab
  have hC : Cx p s m _ c cL_fatigueOf 4 RL G (tY cI cZ cJ) _ := hC
  refine z_aload_n (n := 1) hC dL_fatigueOf_0 rfl 2 rfl rfl ?_
  refine z_iconst (v := nI 0) (n := 2) hC dL_fatigueOf_1 (by decide) rfl ?_
  refine z_aload_n (n := 3) hC dL_fatigueOf_2 rfl 0 rfl rfl ?_
  refine z_iload_n (n := 4) hC dL_fatigueOf_3 rfl 1 rfl rfl ?_
  refine z_callvxc (n := 12) (cells := 0) (slots := 0) (As := [.int x]) (rest := [.int (nI 0), .ref o]) hC (kx_X2_fatigueOf l G cI cZ cJ h ta sa ua T b r sw st fa sc fi mi lf hi n sw2 st2 fa2 sc2 fi2 mi2 lf2 hi2 n2 x hl hn hT hb) kg_L_55 kd_yX2_fatigueOf dL_fatigueOf_4 ⟨Nat.le_of_ble_eq_true rfl, Nat.le_of_ble_eq_true rfl⟩ 0 rfl rfl rfl [0, 1, 2, 3, 4, 5, 6, 7, 8, 9, 10, 11, 12, 13, 14, 15, 16, 17, 18, 19, 20, 21] rfl (by decide) rfl (Nat.le_of_ble_eq_true rfl) ⟨Nat.le_of_ble_eq_true rfl, Nat.le_of_ble_eq_true rfl⟩ [22] rfl rfl [] ⟨0, 9, 12, 21⟩ [] htab (fun z hz9 => absurd hz9 List.not_mem_nil) rfl (by decide) q633 (by simp [zCW]) rfl (fun q1 => ?_)
  refine z_astore_n (lv' := [(3, .ref q1), (0, .ref h), (1, .int x), (2, .ref o)]) (n := 13) hC dL_fatigueOf_12 rfl (by decide) rfl rfl ?_
  refine z_iconst (v := nI 1) (n := 14) hC dL_fatigueOf_13 (by decide) rfl ?_
  refine z_iret hC hr hlocks () ?_ rfl dL_fatigueOf_14 (by omega) (by omega)
  rfl

set_option maxRecDepth 100000 in
set_option maxHeartbeats 4000000 in
theorem kx_L_wouldHit_x (l : Launch) (G : va_G) (cI cZ cJ : ClassId) (h : Nat) (ta : Nat → Nat) (sa : Nat → Nat) (ua : Nat → Nat) (T : Nat) (b : Nat → Int32) (r : Nat → Int32) (sw : Nat → Int32) (st : Nat → Int32) (fa : Nat → Int32) (sc : Nat → Int32) (fi : Nat → Int32) (mi : Nat → Int32) (lf : Nat → Bool) (hi : Nat → Bool) (n : Nat) (sw2 : Nat → Int32) (st2 : Nat → Int32) (fa2 : Nat → Int32) (sc2 : Nat → Int32) (fi2 : Nat → Int32) (mi2 : Nat → Int32) (lf2 : Nat → Bool) (hi2 : Nat → Bool) (n2 : Nat) (o : Nat) (ov : Nat → Int64) (x : Int32) (hl : l.stackTraces = false) (hn : n ≤ 6) (hT : T < 2 ^ 29) (hb : x < 0 ∨ nI n ≤ x) : MIH (Unit) l yL_wouldHit cL_wouldHit 4 8 124 [(0, 9, 12, 21)] G (tY cI cZ cJ) [.ref h, .int x, .ref o] ((wH h ta sa ua T) ++ (wT ta cI b r) ++ (wS sa cI cZ sw st fa sc fi mi lf hi n) ++ (wS ua cI cZ sw2 st2 fa2 sc2 fi2 mi2 lf2 hi2 n2) ++ (wO o cJ ov)) (fun zr _ => zr = nI 1) (fun _ => (wH h ta sa ua T) ++ (wT ta cI b r) ++ (wS sa cI cZ sw st fa sc fi mi lf hi n) ++ (wS ua cI cZ sw2 st2 fa2 sc2 fi2 mi2 lf2 hi2 n2) ++ (wO o cJ ov)) 1 6 := by
  refine MIH_of (by decide) (Nat.le_of_ble_eq_true rfl) [(0, .ref h), (1, .int x), (2, .ref o)] rfl ?_
  intro p e s m below meth c hC hr hlocks hz htab
  have hC : Cx p s m _ c cL_wouldHit 4 RL G (tY cI cZ cJ) _ := hC
  refine z_aload_n (n := 1) hC dL_wouldHit_0 rfl 2 rfl rfl ?_
  refine z_iconst (v := nI 0) (n := 2) hC dL_wouldHit_1 (by decide) rfl ?_
  refine z_aload_n (n := 3) hC dL_wouldHit_2 rfl 0 rfl rfl ?_
  refine z_iload_n (n := 4) hC dL_wouldHit_3 rfl 1 rfl rfl ?_
  refine z_callvxc (n := 12) (cells := 0) (slots := 0) (As := [.int x]) (rest := [.int (nI 0), .ref o]) hC (kx_X2_wouldHit l G cI cZ cJ h ta sa ua T b r sw st fa sc fi mi lf hi n sw2 st2 fa2 sc2 fi2 mi2 lf2 hi2 n2 x hl hn hT hb) kg_L_58 kd_yX2_wouldHit dL_wouldHit_4 ⟨Nat.le_of_ble_eq_true rfl, Nat.le_of_ble_eq_true rfl⟩ 0 rfl rfl rfl [0, 1, 2, 3, 4, 5, 6, 7, 8, 9, 10, 11, 12, 13, 14, 15, 16, 17, 18, 19, 20, 21] rfl (by decide) rfl (Nat.le_of_ble_eq_true rfl) ⟨Nat.le_of_ble_eq_true rfl, Nat.le_of_ble_eq_true rfl⟩ [22] rfl rfl [] ⟨0, 9, 12, 21⟩ [] htab (fun z hz9 => absurd hz9 List.not_mem_nil) rfl (by decide) q633 (by simp [zCW]) rfl (fun q1 => ?_)
  refine z_astore_n (lv' := [(3, .ref q1), (0, .ref h), (1, .int x), (2, .ref o)]) (n := 13) hC dL_wouldHit_12 rfl (by decide) rfl rfl ?_
  refine z_iconst (v := nI 1) (n := 14) hC dL_wouldHit_13 (by decide) rfl ?_
  refine z_iret hC hr hlocks () ?_ rfl dL_wouldHit_14 (by omega) (by omega)
  rfl

set_option maxRecDepth 100000 in
set_option maxHeartbeats 4000000 in
theorem kx_L_rankOf_x (l : Launch) (G : va_G) (cI cZ cJ : ClassId) (h : Nat) (ta : Nat → Nat) (sa : Nat → Nat) (ua : Nat → Nat) (T : Nat) (b : Nat → Int32) (r : Nat → Int32) (sw : Nat → Int32) (st : Nat → Int32) (fa : Nat → Int32) (sc : Nat → Int32) (fi : Nat → Int32) (mi : Nat → Int32) (lf : Nat → Bool) (hi : Nat → Bool) (n : Nat) (sw2 : Nat → Int32) (st2 : Nat → Int32) (fa2 : Nat → Int32) (sc2 : Nat → Int32) (fi2 : Nat → Int32) (mi2 : Nat → Int32) (lf2 : Nat → Bool) (hi2 : Nat → Bool) (n2 : Nat) (o : Nat) (ov : Nat → Int64) (x : Int32) (hl : l.stackTraces = false) (hn : n ≤ 6) (hT : T < 2 ^ 29) (hb : x < 0 ∨ nI n ≤ x) : MIH (Unit) l yL_rankOf cL_rankOf 4 8 124 [(0, 9, 12, 21)] G (tY cI cZ cJ) [.ref h, .int x, .ref o] ((wH h ta sa ua T) ++ (wT ta cI b r) ++ (wS sa cI cZ sw st fa sc fi mi lf hi n) ++ (wS ua cI cZ sw2 st2 fa2 sc2 fi2 mi2 lf2 hi2 n2) ++ (wO o cJ ov)) (fun zr _ => zr = nI 1) (fun _ => (wH h ta sa ua T) ++ (wT ta cI b r) ++ (wS sa cI cZ sw st fa sc fi mi lf hi n) ++ (wS ua cI cZ sw2 st2 fa2 sc2 fi2 mi2 lf2 hi2 n2) ++ (wO o cJ ov)) 1 6 := by
  refine MIH_of (by decide) (Nat.le_of_ble_eq_true rfl) [(0, .ref h), (1, .int x), (2, .ref o)] rfl ?_
  intro p e s m below meth c hC hr hlocks hz htab
  have hC : Cx p s m _ c cL_rankOf 4 RL G (tY cI cZ cJ) _ := hC
  refine z_aload_n (n := 1) hC dL_rankOf_0 rfl 2 rfl rfl ?_
  refine z_iconst (v := nI 0) (n := 2) hC dL_rankOf_1 (by decide) rfl ?_
  refine z_aload_n (n := 3) hC dL_rankOf_2 rfl 0 rfl rfl ?_
  refine z_iload_n (n := 4) hC dL_rankOf_3 rfl 1 rfl rfl ?_
  refine z_callvxc (n := 12) (cells := 0) (slots := 0) (As := [.int x]) (rest := [.int (nI 0), .ref o]) hC (kx_X2_rankOf l G cI cZ cJ h ta sa ua T b r sw st fa sc fi mi lf hi n sw2 st2 fa2 sc2 fi2 mi2 lf2 hi2 n2 x hl hn hT hb) kg_L_61 kd_yX2_rankOf dL_rankOf_4 ⟨Nat.le_of_ble_eq_true rfl, Nat.le_of_ble_eq_true rfl⟩ 0 rfl rfl rfl [0, 1, 2, 3, 4, 5, 6, 7, 8, 9, 10, 11, 12, 13, 14, 15, 16, 17, 18, 19, 20, 21] rfl (by decide) rfl (Nat.le_of_ble_eq_true rfl) ⟨Nat.le_of_ble_eq_true rfl, Nat.le_of_ble_eq_true rfl⟩ [22] rfl rfl [] ⟨0, 9, 12, 21⟩ [] htab (fun z hz9 => absurd hz9 List.not_mem_nil) rfl (by decide) q633 (by simp [zCW]) rfl (fun q1 => ?_)
  refine z_astore_n (lv' := [(3, .ref q1), (0, .ref h), (1, .int x), (2, .ref o)]) (n := 13) hC dL_rankOf_12 rfl (by decide) rfl rfl ?_
  refine z_iconst (v := nI 1) (n := 14) hC dL_rankOf_13 (by decide) rfl ?_
  refine z_iret hC hr hlocks () ?_ rfl dL_rankOf_14 (by omega) (by omega)
  rfl

set_option maxRecDepth 100000 in
set_option maxHeartbeats 4000000 in
theorem kx_L_turnsUntilMiss_x (l : Launch) (G : va_G) (cI cZ cJ : ClassId) (h : Nat) (ta : Nat → Nat) (sa : Nat → Nat) (ua : Nat → Nat) (T : Nat) (b : Nat → Int32) (r : Nat → Int32) (sw : Nat → Int32) (st : Nat → Int32) (fa : Nat → Int32) (sc : Nat → Int32) (fi : Nat → Int32) (mi : Nat → Int32) (lf : Nat → Bool) (hi : Nat → Bool) (n : Nat) (sw2 : Nat → Int32) (st2 : Nat → Int32) (fa2 : Nat → Int32) (sc2 : Nat → Int32) (fi2 : Nat → Int32) (mi2 : Nat → Int32) (lf2 : Nat → Bool) (hi2 : Nat → Bool) (n2 : Nat) (o : Nat) (ov : Nat → Int64) (x : Int32) (hl : l.stackTraces = false) (hn : n ≤ 6) (hT : T < 2 ^ 29) (hb : x < 0 ∨ nI n ≤ x) : MIH (Unit) l yL_turnsUntilMiss cL_turnsUntilMiss 4 8 125 [(0, 9, 12, 21)] G (tY cI cZ cJ) [.ref h, .int x, .ref o] ((wH h ta sa ua T) ++ (wT ta cI b r) ++ (wS sa cI cZ sw st fa sc fi mi lf hi n) ++ (wS ua cI cZ sw2 st2 fa2 sc2 fi2 mi2 lf2 hi2 n2) ++ (wO o cJ ov)) (fun zr _ => zr = nI 1) (fun _ => (wH h ta sa ua T) ++ (wT ta cI b r) ++ (wS sa cI cZ sw st fa sc fi mi lf hi n) ++ (wS ua cI cZ sw2 st2 fa2 sc2 fi2 mi2 lf2 hi2 n2) ++ (wO o cJ ov)) 1 6 := by
  refine MIH_of (by decide) (Nat.le_of_ble_eq_true rfl) [(0, .ref h), (1, .int x), (2, .ref o)] rfl ?_
  intro p e s m below meth c hC hr hlocks hz htab
  have hC : Cx p s m _ c cL_turnsUntilMiss 4 RL G (tY cI cZ cJ) _ := hC
  refine z_aload_n (n := 1) hC dL_turnsUntilMiss_0 rfl 2 rfl rfl ?_
  refine z_iconst (v := nI 0) (n := 2) hC dL_turnsUntilMiss_1 (by decide) rfl ?_
  refine z_aload_n (n := 3) hC dL_turnsUntilMiss_2 rfl 0 rfl rfl ?_
  refine z_iload_n (n := 4) hC dL_turnsUntilMiss_3 rfl 1 rfl rfl ?_
  refine z_callvxc (n := 12) (cells := 0) (slots := 0) (As := [.int x]) (rest := [.int (nI 0), .ref o]) hC (kx_X2_turnsUntilMiss l G cI cZ cJ h ta sa ua T b r sw st fa sc fi mi lf hi n sw2 st2 fa2 sc2 fi2 mi2 lf2 hi2 n2 x hl hn hT hb) kg_L_67 kd_yX2_turnsUntilMiss dL_turnsUntilMiss_4 ⟨Nat.le_of_ble_eq_true rfl, Nat.le_of_ble_eq_true rfl⟩ 0 rfl rfl rfl [0, 1, 2, 3, 4, 5, 6, 7, 8, 9, 10, 11, 12, 13, 14, 15, 16, 17, 18, 19, 20, 21] rfl (by decide) rfl (Nat.le_of_ble_eq_true rfl) ⟨Nat.le_of_ble_eq_true rfl, Nat.le_of_ble_eq_true rfl⟩ [22] rfl rfl [] ⟨0, 9, 12, 21⟩ [] htab (fun z hz9 => absurd hz9 List.not_mem_nil) rfl (by decide) q633 (by simp [zCW]) rfl (fun q1 => ?_)
  refine z_astore_n (lv' := [(3, .ref q1), (0, .ref h), (1, .int x), (2, .ref o)]) (n := 13) hC dL_turnsUntilMiss_12 rfl (by decide) rfl rfl ?_
  refine z_iconst (v := nI 1) (n := 14) hC dL_turnsUntilMiss_13 (by decide) rfl ?_
  refine z_iret hC hr hlocks () ?_ rfl dL_turnsUntilMiss_14 (by omega) (by omega)
  rfl

set_option maxRecDepth 100000 in
set_option maxHeartbeats 4000000 in
theorem kx_L_bestRest_x (l : Launch) (G : va_G) (cI cZ cJ : ClassId) (h : Nat) (ta : Nat → Nat) (sa : Nat → Nat) (ua : Nat → Nat) (T : Nat) (b : Nat → Int32) (r : Nat → Int32) (sw : Nat → Int32) (st : Nat → Int32) (fa : Nat → Int32) (sc : Nat → Int32) (fi : Nat → Int32) (mi : Nat → Int32) (lf : Nat → Bool) (hi : Nat → Bool) (n : Nat) (sw2 : Nat → Int32) (st2 : Nat → Int32) (fa2 : Nat → Int32) (sc2 : Nat → Int32) (fi2 : Nat → Int32) (mi2 : Nat → Int32) (lf2 : Nat → Bool) (hi2 : Nat → Bool) (n2 : Nat) (o : Nat) (ov : Nat → Int64) (x : Int32) (hl : l.stackTraces = false) (hn : n ≤ 6) (hT : T < 2 ^ 29) (hb : x < 0 ∨ nI n ≤ x) : MIH (Unit) l yL_bestRest cL_bestRest 4 8 128 [(0, 9, 12, 21)] G (tY cI cZ cJ) [.ref h, .int x, .ref o] ((wH h ta sa ua T) ++ (wT ta cI b r) ++ (wS sa cI cZ sw st fa sc fi mi lf hi n) ++ (wS ua cI cZ sw2 st2 fa2 sc2 fi2 mi2 lf2 hi2 n2) ++ (wO o cJ ov)) (fun zr _ => zr = nI 1) (fun _ => (wH h ta sa ua T) ++ (wT ta cI b r) ++ (wS sa cI cZ sw st fa sc fi mi lf hi n) ++ (wS ua cI cZ sw2 st2 fa2 sc2 fi2 mi2 lf2 hi2 n2) ++ (wO o cJ ov)) 1 6 := by
  refine MIH_of (by decide) (Nat.le_of_ble_eq_true rfl) [(0, .ref h), (1, .int x), (2, .ref o)] rfl ?_
  intro p e s m below meth c hC hr hlocks hz htab
  have hC : Cx p s m _ c cL_bestRest 4 RL G (tY cI cZ cJ) _ := hC
  refine z_aload_n (n := 1) hC dL_bestRest_0 rfl 2 rfl rfl ?_
  refine z_iconst (v := nI 0) (n := 2) hC dL_bestRest_1 (by decide) rfl ?_
  refine z_aload_n (n := 3) hC dL_bestRest_2 rfl 0 rfl rfl ?_
  refine z_iload_n (n := 4) hC dL_bestRest_3 rfl 1 rfl rfl ?_
  refine z_callvxc (n := 12) (cells := 0) (slots := 0) (As := [.int x]) (rest := [.int (nI 0), .ref o]) hC (kx_X2_bestRest l G cI cZ cJ h ta sa ua T b r sw st fa sc fi mi lf hi n sw2 st2 fa2 sc2 fi2 mi2 lf2 hi2 n2 x hl hn hT hb) kg_L_73 kd_yX2_bestRest dL_bestRest_4 ⟨Nat.le_of_ble_eq_true rfl, Nat.le_of_ble_eq_true rfl⟩ 0 rfl rfl rfl [0, 1, 2, 3, 4, 5, 6, 7, 8, 9, 10, 11, 12, 13, 14, 15, 16, 17, 18, 19, 20, 21] rfl (by decide) rfl (Nat.le_of_ble_eq_true rfl) ⟨Nat.le_of_ble_eq_true rfl, Nat.le_of_ble_eq_true rfl⟩ [22] rfl rfl [] ⟨0, 9, 12, 21⟩ [] htab (fun z hz9 => absurd hz9 List.not_mem_nil) rfl (by decide) q633 (by simp [zCW]) rfl (fun q1 => ?_)
  refine z_astore_n (lv' := [(3, .ref q1), (0, .ref h), (1, .int x), (2, .ref o)]) (n := 13) hC dL_bestRest_12 rfl (by decide) rfl rfl ?_
  refine z_iconst (v := nI 1) (n := 14) hC dL_bestRest_13 (by decide) rfl ?_
  refine z_iret hC hr hlocks () ?_ rfl dL_bestRest_14 (by omega) (by omega)
  rfl

set_option maxRecDepth 100000 in
set_option maxHeartbeats 4000000 in
theorem kx_L_swingWanted_x (l : Launch) (G : va_G) (cI cZ cJ : ClassId) (h : Nat) (ta : Nat → Nat) (sa : Nat → Nat) (ua : Nat → Nat) (T : Nat) (b : Nat → Int32) (r : Nat → Int32) (sw : Nat → Int32) (st : Nat → Int32) (fa : Nat → Int32) (sc : Nat → Int32) (fi : Nat → Int32) (mi : Nat → Int32) (lf : Nat → Bool) (hi : Nat → Bool) (n : Nat) (sw2 : Nat → Int32) (st2 : Nat → Int32) (fa2 : Nat → Int32) (sc2 : Nat → Int32) (fi2 : Nat → Int32) (mi2 : Nat → Int32) (lf2 : Nat → Bool) (hi2 : Nat → Bool) (n2 : Nat) (o : Nat) (ov : Nat → Int64) (x : Int32) (hl : l.stackTraces = false) (hn : n ≤ 6) (hT : T < 2 ^ 29) (hb : x < 0 ∨ nI n ≤ x) : MIH (Unit) l yL_swingWanted cL_swingWanted 4 8 125 [(0, 9, 12, 21)] G (tY cI cZ cJ) [.ref h, .int x, .ref o] ((wH h ta sa ua T) ++ (wT ta cI b r) ++ (wS sa cI cZ sw st fa sc fi mi lf hi n) ++ (wS ua cI cZ sw2 st2 fa2 sc2 fi2 mi2 lf2 hi2 n2) ++ (wO o cJ ov)) (fun zr _ => zr = nI 1) (fun _ => (wH h ta sa ua T) ++ (wT ta cI b r) ++ (wS sa cI cZ sw st fa sc fi mi lf hi n) ++ (wS ua cI cZ sw2 st2 fa2 sc2 fi2 mi2 lf2 hi2 n2) ++ (wO o cJ ov)) 1 6 := by
  refine MIH_of (by decide) (Nat.le_of_ble_eq_true rfl) [(0, .ref h), (1, .int x), (2, .ref o)] rfl ?_
  intro p e s m below meth c hC hr hlocks hz htab
  have hC : Cx p s m _ c cL_swingWanted 4 RL G (tY cI cZ cJ) _ := hC
  refine z_aload_n (n := 1) hC dL_swingWanted_0 rfl 2 rfl rfl ?_
  refine z_iconst (v := nI 0) (n := 2) hC dL_swingWanted_1 (by decide) rfl ?_
  refine z_aload_n (n := 3) hC dL_swingWanted_2 rfl 0 rfl rfl ?_
  refine z_iload_n (n := 4) hC dL_swingWanted_3 rfl 1 rfl rfl ?_
  refine z_callvxc (n := 12) (cells := 0) (slots := 0) (As := [.int x]) (rest := [.int (nI 0), .ref o]) hC (kx_X2_swingWanted l G cI cZ cJ h ta sa ua T b r sw st fa sc fi mi lf hi n sw2 st2 fa2 sc2 fi2 mi2 lf2 hi2 n2 x hl hn hT hb) kg_L_76 kd_yX2_swingWanted dL_swingWanted_4 ⟨Nat.le_of_ble_eq_true rfl, Nat.le_of_ble_eq_true rfl⟩ 0 rfl rfl rfl [0, 1, 2, 3, 4, 5, 6, 7, 8, 9, 10, 11, 12, 13, 14, 15, 16, 17, 18, 19, 20, 21] rfl (by decide) rfl (Nat.le_of_ble_eq_true rfl) ⟨Nat.le_of_ble_eq_true rfl, Nat.le_of_ble_eq_true rfl⟩ [22] rfl rfl [] ⟨0, 9, 12, 21⟩ [] htab (fun z hz9 => absurd hz9 List.not_mem_nil) rfl (by decide) q633 (by simp [zCW]) rfl (fun q1 => ?_)
  refine z_astore_n (lv' := [(3, .ref q1), (0, .ref h), (1, .int x), (2, .ref o)]) (n := 13) hC dL_swingWanted_12 rfl (by decide) rfl rfl ?_
  refine z_iconst (v := nI 1) (n := 14) hC dL_swingWanted_13 (by decide) rfl ?_
  refine z_iret hC hr hlocks () ?_ rfl dL_swingWanted_14 (by omega) (by omega)
  rfl

set_option maxRecDepth 100000 in
set_option maxHeartbeats 4000000 in
theorem k_L_scoreIn (l : Launch) (G : va_G) (cI cZ cJ : ClassId) (h : Nat) (ta : Nat → Nat) (sa : Nat → Nat) (ua : Nat → Nat) (T : Nat) (b : Nat → Int32) (r : Nat → Int32) (sw : Nat → Int32) (st : Nat → Int32) (fa : Nat → Int32) (sc : Nat → Int32) (fi : Nat → Int32) (mi : Nat → Int32) (lf : Nat → Bool) (hi : Nat → Bool) (n : Nat) (sw2 : Nat → Int32) (st2 : Nat → Int32) (fa2 : Nat → Int32) (sc2 : Nat → Int32) (fi2 : Nat → Int32) (mi2 : Nat → Int32) (lf2 : Nat → Bool) (hi2 : Nat → Bool) (n2 : Nat) (o : Nat) (ov : Nat → Int64) (g : Nat) (k : Nat) (hn : n ≤ 6) (hT : T < 2 ^ 29) (hg : g < n) (hk1 : 1 ≤ k) (hk2 : k ≤ 50) : MIH ((Nat → Int32) × (Nat → Int32) × (Nat → Int32) × (Nat → Int32) × (Nat → Int32) × (Nat → Int32) × (Nat → Bool) × (Nat → Bool)) l yL_scoreIn cL_scoreIn 5 6 135 [(0, 10, 13, 21), (0, 10, 17, 13)] G (tY cI cZ cJ) [.ref h, .int (nI g), .int (nI k), .ref o] ((wH h ta sa ua T) ++ (wT ta cI b r) ++ (wS sa cI cZ sw st fa sc fi mi lf hi n) ++ (wS ua cI cZ sw2 st2 fa2 sc2 fi2 mi2 lf2 hi2 n2) ++ (wO o cJ ov)) (fun zr _ => zr = nI 0) (fun zu => (wH h ta sa ua T) ++ (wT ta cI b r) ++ (wS sa cI cZ sw st fa sc fi mi lf hi n) ++ (wS ua cI cZ zu.1 zu.2.1 zu.2.2.1 zu.2.2.2.1 zu.2.2.2.2.1 zu.2.2.2.2.2.1 zu.2.2.2.2.2.2.1 zu.2.2.2.2.2.2.2 n) ++ (wO o cJ (vp_updL ov 0 ((plS sw st b r sc fi mi fa T k g).toInt64)))) 0 0 := by
  refine MIH_of (by decide) (Nat.le_of_ble_eq_true rfl) [(0, .ref h), (1, .int (nI g)), (2, .int (nI k)), (3, .ref o)] rfl ?_
  intro p e s m below meth c hC hr hlocks hz htab
  have hC : Cx p s m _ c cL_scoreIn 5 RL G (tY cI cZ cJ) _ := hC
  refine z_aload_n (n := 1) hC dL_scoreIn_0 rfl 3 rfl rfl ?_
  refine z_iconst (v := nI 0) (n := 2) hC dL_scoreIn_1 (by decide) rfl ?_
  refine z_aload_n (n := 3) hC dL_scoreIn_2 rfl 0 rfl rfl ?_
  refine z_iload_n (n := 4) hC dL_scoreIn_3 rfl 1 rfl rfl ?_
  refine z_iload_n (n := 5) hC dL_scoreIn_4 rfl 2 rfl rfl ?_
  refine z_calli (R := { frames := 6, cells := 0, slots := 0, locals := 135 }) (cells := 0) (slots := 0) (ws := (wH h ta sa ua T) ++ (wT ta cI b r) ++ (wS sa cI cZ sw st fa sc fi mi lf hi n) ++ (wS ua cI cZ sw2 st2 fa2 sc2 fi2 mi2 lf2 hi2 n2) ++ (wO o cJ ov)) (n := 8) (As := [.int (nI g), .int (nI k)]) (rest := [.int (nI 0), .ref o]) hC (k_X2_scoreIn l G cI cZ cJ h ta sa ua T b r sw st fa sc fi mi lf hi n sw2 st2 fa2 sc2 fi2 mi2 lf2 hi2 n2 g k hn hT hg hk1 hk2) kg_L_64 kd_yX2_scoreIn dL_scoreIn_5 ⟨Nat.le_of_ble_eq_true rfl, Nat.le_of_ble_eq_true rfl⟩ 0 rfl rfl rfl [0, 1, 2, 3, 4, 5, 6, 7, 8, 9, 10, 11, 12, 13, 14, 15, 16, 17, 18, 19, 20, 21] rfl (by decide) rfl (Nat.le_of_ble_eq_true rfl) ⟨Nat.le_of_ble_eq_true rfl, Nat.le_of_ble_eq_true rfl⟩ (ws2 := fun u1 => (wH h ta sa ua T) ++ (wT ta cI b r) ++ (wS sa cI cZ sw st fa sc fi mi lf hi n) ++ (wS ua cI cZ u1.1 u1.2.1 u1.2.2.1 u1.2.2.2.1 u1.2.2.2.2.1 u1.2.2.2.2.2.1 u1.2.2.2.2.2.2.1 u1.2.2.2.2.2.2.2 n) ++ (wO o cJ ov)) [22] (fun _ => rfl) (wO o cJ ov) (fun _ => rfl) rfl (fun _ => rfl) [h, ta 0, ta 1, ta 2, sa 0, sa 1, sa 2, sa 3, sa 4, sa 5, sa 6, sa 7, sa 8, ua 0, ua 1, ua 2, ua 3, ua 4, ua 5, ua 6, ua 7, ua 8] (fun _ => rfl) rfl rfl rfl (fun r2 u1 h3 => ?_)
  subst h3
  refine z_i2l (v := (plS sw st b r sc fi mi fa T k g).toInt64) (n := 9) hC dL_scoreIn_8 rfl rfl ?_
  refine z_last (ws' := (wH h ta sa ua T) ++ (wT ta cI b r) ++ (wS sa cI cZ sw st fa sc fi mi lf hi n) ++ (wS ua cI cZ u1.1 u1.2.1 u1.2.2.1 u1.2.2.2.1 u1.2.2.2.2.1 u1.2.2.2.2.2.1 u1.2.2.2.2.2.2.1 u1.2.2.2.2.2.2.2 n) ++ (wO o cJ (vp_updL ov 0 ((plS sw st b r sc fi mi fa T k g).toInt64)))) (n := 10) hC 22 2 0 rfl rfl rfl (by omega) (by decide) dL_scoreIn_9 rfl rfl ?_
  refine z_goto (n := 21) hC dL_scoreIn_10 (by decide) ?_
  refine z_iconst (v := nI 0) (n := 22) hC dL_scoreIn_21 (by decide) rfl ?_
  refine z_iret hC hr hlocks (u1.1, u1.2.1, u1.2.2.1, u1.2.2.2.1, u1.2.2.2.2.1, u1.2.2.2.2.2.1, u1.2.2.2.2.2.2.1, u1.2.2.2.2.2.2.2) ?_ rfl dL_scoreIn_22 (by omega) (by omega)
  rfl

set_option maxRecDepth 100000 in
set_option maxHeartbeats 4000000 in
theorem kx_L_scoreIn_a (l : Launch) (G : va_G) (cI cZ cJ : ClassId) (h : Nat) (ta : Nat → Nat) (sa : Nat → Nat) (ua : Nat → Nat) (T : Nat) (b : Nat → Int32) (r : Nat → Int32) (sw : Nat → Int32) (st : Nat → Int32) (fa : Nat → Int32) (sc : Nat → Int32) (fi : Nat → Int32) (mi : Nat → Int32) (lf : Nat → Bool) (hi : Nat → Bool) (n : Nat) (sw2 : Nat → Int32) (st2 : Nat → Int32) (fa2 : Nat → Int32) (sc2 : Nat → Int32) (fi2 : Nat → Int32) (mi2 : Nat → Int32) (lf2 : Nat → Bool) (hi2 : Nat → Bool) (n2 : Nat) (o : Nat) (ov : Nat → Int64) (x : Int32) (y : Int32) (hl : l.stackTraces = false) (hn : n ≤ 6) (hT : T < 2 ^ 29) (hb : x < 0 ∨ nI n ≤ x) : MIH (Unit) l yL_scoreIn cL_scoreIn 5 8 125 [(0, 10, 13, 21), (0, 10, 17, 13)] G (tY cI cZ cJ) [.ref h, .int x, .int y, .ref o] ((wH h ta sa ua T) ++ (wT ta cI b r) ++ (wS sa cI cZ sw st fa sc fi mi lf hi n) ++ (wS ua cI cZ sw2 st2 fa2 sc2 fi2 mi2 lf2 hi2 n2) ++ (wO o cJ ov)) (fun zr _ => zr = nI 1) (fun _ => (wH h ta sa ua T) ++ (wT ta cI b r) ++ (wS sa cI cZ sw st fa sc fi mi lf hi n) ++ (wS ua cI cZ sw2 st2 fa2 sc2 fi2 mi2 lf2 hi2 n2) ++ (wO o cJ ov)) 1 6 := by
  refine MIH_of (by decide) (Nat.le_of_ble_eq_true rfl) [(0, .ref h), (1, .int x), (2, .int y), (3, .ref o)] rfl ?_
  intro p e s m below meth c hC hr hlocks hz htab
  have hC : Cx p s m _ c cL_scoreIn 5 RL G (tY cI cZ cJ) _ := hC
  refine z_aload_n (n := 1) hC dL_scoreIn_0 rfl 3 rfl rfl ?_
  refine z_iconst (v := nI 0) (n := 2) hC dL_scoreIn_1 (by decide) rfl ?_
  refine z_aload_n (n := 3) hC dL_scoreIn_2 rfl 0 rfl rfl ?_
  refine z_iload_n (n := 4) hC dL_scoreIn_3 rfl 1 rfl rfl ?_
  refine z_iload_n (n := 5) hC dL_scoreIn_4 rfl 2 rfl rfl ?_
  refine z_callvxc (n := 13) (cells := 0) (slots := 0) (As := [.int x, .int y]) (rest := [.int (nI 0), .ref o]) hC (kx_X2_scoreIn_a l G cI cZ cJ h ta sa ua T b r sw st fa sc fi mi lf hi n sw2 st2 fa2 sc2 fi2 mi2 lf2 hi2 n2 x y hl hn hT hb) kg_L_64 kd_yX2_scoreIn dL_scoreIn_5 ⟨Nat.le_of_ble_eq_true rfl, Nat.le_of_ble_eq_true rfl⟩ 0 rfl rfl rfl [0, 1, 2, 3, 4, 5, 6, 7, 8, 9, 10, 11, 12, 13, 14, 15, 16, 17, 18, 19, 20, 21] rfl (by decide) rfl (Nat.le_of_ble_eq_true rfl) ⟨Nat.le_of_ble_eq_true rfl, Nat.le_of_ble_eq_true rfl⟩ [22] rfl rfl [] ⟨0, 10, 13, 21⟩ [⟨0, 10, 17, 13⟩] htab (fun z hz9 => absurd hz9 List.not_mem_nil) rfl (by decide) q633 (by simp [zCW]) rfl (fun q1 => ?_)
  refine z_astore (lv' := [(4, .ref q1), (0, .ref h), (1, .int x), (2, .int y), (3, .ref o)]) (n := 15) hC dL_scoreIn_13 (by decide) rfl rfl ?_
  refine z_iconst (v := nI 1) (n := 16) hC dL_scoreIn_15 (by decide) rfl ?_
  refine z_iret hC hr hlocks () ?_ rfl dL_scoreIn_16 (by omega) (by omega)
  rfl

set_option maxRecDepth 100000 in
set_option maxHeartbeats 4000000 in
theorem kx_L_scoreIn_b (l : Launch) (G : va_G) (cI cZ cJ : ClassId) (h : Nat) (ta : Nat → Nat) (sa : Nat → Nat) (ua : Nat → Nat) (T : Nat) (b : Nat → Int32) (r : Nat → Int32) (sw : Nat → Int32) (st : Nat → Int32) (fa : Nat → Int32) (sc : Nat → Int32) (fi : Nat → Int32) (mi : Nat → Int32) (lf : Nat → Bool) (hi : Nat → Bool) (n : Nat) (sw2 : Nat → Int32) (st2 : Nat → Int32) (fa2 : Nat → Int32) (sc2 : Nat → Int32) (fi2 : Nat → Int32) (mi2 : Nat → Int32) (lf2 : Nat → Bool) (hi2 : Nat → Bool) (n2 : Nat) (o : Nat) (ov : Nat → Int64) (g : Nat) (x : Int32) (hl : l.stackTraces = false) (hn : n ≤ 6) (hT : T < 2 ^ 29) (hg : g < n) (hb : x < nI 1 ∨ nI 50 < x) : MIH (Unit) l yL_scoreIn cL_scoreIn 5 8 124 [(0, 10, 13, 21), (0, 10, 17, 13)] G (tY cI cZ cJ) [.ref h, .int (nI g), .int x, .ref o] ((wH h ta sa ua T) ++ (wT ta cI b r) ++ (wS sa cI cZ sw st fa sc fi mi lf hi n) ++ (wS ua cI cZ sw2 st2 fa2 sc2 fi2 mi2 lf2 hi2 n2) ++ (wO o cJ ov)) (fun zr _ => zr = nI 2) (fun _ => (wH h ta sa ua T) ++ (wT ta cI b r) ++ (wS sa cI cZ sw st fa sc fi mi lf hi n) ++ (wS ua cI cZ sw2 st2 fa2 sc2 fi2 mi2 lf2 hi2 n2) ++ (wO o cJ ov)) 1 6 := by
  refine MIH_of (by decide) (Nat.le_of_ble_eq_true rfl) [(0, .ref h), (1, .int (nI g)), (2, .int x), (3, .ref o)] rfl ?_
  intro p e s m below meth c hC hr hlocks hz htab
  have hC : Cx p s m _ c cL_scoreIn 5 RL G (tY cI cZ cJ) _ := hC
  refine z_aload_n (n := 1) hC dL_scoreIn_0 rfl 3 rfl rfl ?_
  refine z_iconst (v := nI 0) (n := 2) hC dL_scoreIn_1 (by decide) rfl ?_
  refine z_aload_n (n := 3) hC dL_scoreIn_2 rfl 0 rfl rfl ?_
  refine z_iload_n (n := 4) hC dL_scoreIn_3 rfl 1 rfl rfl ?_
  refine z_iload_n (n := 5) hC dL_scoreIn_4 rfl 2 rfl rfl ?_
  refine z_callvxc (n := 17) (cells := 0) (slots := 0) (As := [.int (nI g), .int x]) (rest := [.int (nI 0), .ref o]) hC (kx_X2_scoreIn_b l G cI cZ cJ h ta sa ua T b r sw st fa sc fi mi lf hi n sw2 st2 fa2 sc2 fi2 mi2 lf2 hi2 n2 g x hl hn hT hg hb) kg_L_64 kd_yX2_scoreIn dL_scoreIn_5 ⟨Nat.le_of_ble_eq_true rfl, Nat.le_of_ble_eq_true rfl⟩ 0 rfl rfl rfl [0, 1, 2, 3, 4, 5, 6, 7, 8, 9, 10, 11, 12, 13, 14, 15, 16, 17, 18, 19, 20, 21] rfl (by decide) rfl (Nat.le_of_ble_eq_true rfl) ⟨Nat.le_of_ble_eq_true rfl, Nat.le_of_ble_eq_true rfl⟩ [22] rfl rfl [⟨0, 10, 13, 21⟩] ⟨0, 10, 17, 13⟩ [] htab (fun z hz9 => by cases List.mem_singleton.mp hz9; exact ⟨by decide, _, q633, hz.2⟩) rfl (by decide) q629 (by simp [zCW]) rfl (fun q1 => ?_)
  refine z_astore (lv' := [(4, .ref q1), (0, .ref h), (1, .int (nI g)), (2, .int x), (3, .ref o)]) (n := 19) hC dL_scoreIn_17 (by decide) rfl rfl ?_
  refine z_iconst (v := nI 2) (n := 20) hC dL_scoreIn_19 (by decide) rfl ?_
  refine z_iret hC hr hlocks () ?_ rfl dL_scoreIn_20 (by omega) (by omega)
  rfl

set_option maxRecDepth 100000 in
set_option maxHeartbeats 4000000 in
theorem k_L_leaderIn (l : Launch) (G : va_G) (cI cZ cJ : ClassId) (h : Nat) (ta : Nat → Nat) (sa : Nat → Nat) (ua : Nat → Nat) (T : Nat) (b : Nat → Int32) (r : Nat → Int32) (sw : Nat → Int32) (st : Nat → Int32) (fa : Nat → Int32) (sc : Nat → Int32) (fi : Nat → Int32) (mi : Nat → Int32) (lf : Nat → Bool) (hi : Nat → Bool) (n : Nat) (sw2 : Nat → Int32) (st2 : Nat → Int32) (fa2 : Nat → Int32) (sc2 : Nat → Int32) (fi2 : Nat → Int32) (mi2 : Nat → Int32) (lf2 : Nat → Bool) (hi2 : Nat → Bool) (n2 : Nat) (o : Nat) (ov : Nat → Int64) (k : Nat) (hn : n ≤ 6) (hT : T < 2 ^ 29) (hk1 : 1 ≤ k) (hk2 : k ≤ 50) : MIH ((Nat → Int32) × (Nat → Int32) × (Nat → Int32) × (Nat → Int32) × (Nat → Int32) × (Nat → Int32) × (Nat → Bool) × (Nat → Bool)) l yL_leaderIn cL_leaderIn 4 7 160 [(0, 9, 12, 13)] G (tY cI cZ cJ) [.ref h, .int (nI k), .ref o] ((wH h ta sa ua T) ++ (wT ta cI b r) ++ (wS sa cI cZ sw st fa sc fi mi lf hi n) ++ (wS ua cI cZ sw2 st2 fa2 sc2 fi2 mi2 lf2 hi2 n2) ++ (wO o cJ ov)) (fun zr _ => zr = nI 0) (fun zu => (wH h ta sa ua T) ++ (wT ta cI b r) ++ (wS sa cI cZ sw st fa sc fi mi lf hi n) ++ (wS ua cI cZ zu.1 zu.2.1 zu.2.2.1 zu.2.2.2.1 zu.2.2.2.2.1 zu.2.2.2.2.2.1 zu.2.2.2.2.2.2.1 zu.2.2.2.2.2.2.2 n) ++ (wO o cJ (vp_updL ov 0 ((ldF (plS sw st b r sc fi mi fa T k) n).toInt64)))) 0 0 := by
  refine MIH_of (by decide) (Nat.le_of_ble_eq_true rfl) [(0, .ref h), (1, .int (nI k)), (2, .ref o)] rfl ?_
  intro p e s m below meth c hC hr hlocks hz htab
  have hC : Cx p s m _ c cL_leaderIn 4 RL G (tY cI cZ cJ) _ := hC
  refine z_aload_n (n := 1) hC dL_leaderIn_0 rfl 2 rfl rfl ?_
  refine z_iconst (v := nI 0) (n := 2) hC dL_leaderIn_1 (by decide) rfl ?_
  refine z_aload_n (n := 3) hC dL_leaderIn_2 rfl 0 rfl rfl ?_
  refine z_iload_n (n := 4) hC dL_leaderIn_3 rfl 1 rfl rfl ?_
  refine z_calli (R := { frames := 7, cells := 0, slots := 0, locals := 160 }) (cells := 0) (slots := 0) (ws := (wH h ta sa ua T) ++ (wT ta cI b r) ++ (wS sa cI cZ sw st fa sc fi mi lf hi n) ++ (wS ua cI cZ sw2 st2 fa2 sc2 fi2 mi2 lf2 hi2 n2) ++ (wO o cJ ov)) (n := 7) (As := [.int (nI k)]) (rest := [.int (nI 0), .ref o]) hC (k_X2_leaderIn l G cI cZ cJ h ta sa ua T b r sw st fa sc fi mi lf hi n sw2 st2 fa2 sc2 fi2 mi2 lf2 hi2 n2 k hn hT hk1 hk2) kg_L_70 kd_yX2_leaderIn dL_leaderIn_4 ⟨Nat.le_of_ble_eq_true rfl, Nat.le_of_ble_eq_true rfl⟩ 0 rfl rfl rfl [0, 1, 2, 3, 4, 5, 6, 7, 8, 9, 10, 11, 12, 13, 14, 15, 16, 17, 18, 19, 20, 21] rfl (by decide) rfl (Nat.le_of_ble_eq_true rfl) ⟨Nat.le_of_ble_eq_true rfl, Nat.le_of_ble_eq_true rfl⟩ (ws2 := fun u1 => (wH h ta sa ua T) ++ (wT ta cI b r) ++ (wS sa cI cZ sw st fa sc fi mi lf hi n) ++ (wS ua cI cZ u1.1 u1.2.1 u1.2.2.1 u1.2.2.2.1 u1.2.2.2.2.1 u1.2.2.2.2.2.1 u1.2.2.2.2.2.2.1 u1.2.2.2.2.2.2.2 n) ++ (wO o cJ ov)) [22] (fun _ => rfl) (wO o cJ ov) (fun _ => rfl) rfl (fun _ => rfl) [h, ta 0, ta 1, ta 2, sa 0, sa 1, sa 2, sa 3, sa 4, sa 5, sa 6, sa 7, sa 8, ua 0, ua 1, ua 2, ua 3, ua 4, ua 5, ua 6, ua 7, ua 8] (fun _ => rfl) rfl rfl rfl (fun r2 u1 h3 => ?_)
  subst h3
  refine z_i2l (v := (ldF (plS sw st b r sc fi mi fa T k) n).toInt64) (n := 8) hC dL_leaderIn_7 rfl rfl ?_
  refine z_last (ws' := (wH h ta sa ua T) ++ (wT ta cI b r) ++ (wS sa cI cZ sw st fa sc fi mi lf hi n) ++ (wS ua cI cZ u1.1 u1.2.1 u1.2.2.1 u1.2.2.2.1 u1.2.2.2.2.1 u1.2.2.2.2.2.1 u1.2.2.2.2.2.2.1 u1.2.2.2.2.2.2.2 n) ++ (wO o cJ (vp_updL ov 0 ((ldF (plS sw st b r sc fi mi fa T k) n).toInt64)))) (n := 9) hC 22 2 0 rfl rfl rfl (by omega) (by decide) dL_leaderIn_8 rfl rfl ?_
  refine z_goto (n := 15) hC dL_leaderIn_9 (by decide) ?_
  refine z_iconst (v := nI 0) (n := 16) hC dL_leaderIn_15 (by decide) rfl ?_
  refine z_iret hC hr hlocks (u1.1, u1.2.1, u1.2.2.1, u1.2.2.2.1, u1.2.2.2.2.1, u1.2.2.2.2.2.1, u1.2.2.2.2.2.2.1, u1.2.2.2.2.2.2.2) ?_ rfl dL_leaderIn_16 (by omega) (by omega)
  rfl

set_option maxRecDepth 100000 in
set_option maxHeartbeats 4000000 in
theorem kx_L_leaderIn_x (l : Launch) (G : va_G) (cI cZ cJ : ClassId) (h : Nat) (ta : Nat → Nat) (sa : Nat → Nat) (ua : Nat → Nat) (T : Nat) (b : Nat → Int32) (r : Nat → Int32) (sw : Nat → Int32) (st : Nat → Int32) (fa : Nat → Int32) (sc : Nat → Int32) (fi : Nat → Int32) (mi : Nat → Int32) (lf : Nat → Bool) (hi : Nat → Bool) (n : Nat) (sw2 : Nat → Int32) (st2 : Nat → Int32) (fa2 : Nat → Int32) (sc2 : Nat → Int32) (fi2 : Nat → Int32) (mi2 : Nat → Int32) (lf2 : Nat → Bool) (hi2 : Nat → Bool) (n2 : Nat) (o : Nat) (ov : Nat → Int64) (x : Int32) (hl : l.stackTraces = false) (hn : n ≤ 6) (hT : T < 2 ^ 29) (hb : x < nI 1 ∨ nI 50 < x) : MIH (Unit) l yL_leaderIn cL_leaderIn 4 8 123 [(0, 9, 12, 13)] G (tY cI cZ cJ) [.ref h, .int x, .ref o] ((wH h ta sa ua T) ++ (wT ta cI b r) ++ (wS sa cI cZ sw st fa sc fi mi lf hi n) ++ (wS ua cI cZ sw2 st2 fa2 sc2 fi2 mi2 lf2 hi2 n2) ++ (wO o cJ ov)) (fun zr _ => zr = nI 1) (fun _ => (wH h ta sa ua T) ++ (wT ta cI b r) ++ (wS sa cI cZ sw st fa sc fi mi lf hi n) ++ (wS ua cI cZ sw2 st2 fa2 sc2 fi2 mi2 lf2 hi2 n2) ++ (wO o cJ ov)) 1 6 := by
  refine MIH_of (by decide) (Nat.le_of_ble_eq_true rfl) [(0, .ref h), (1, .int x), (2, .ref o)] rfl ?_
  intro p e s m below meth c hC hr hlocks hz htab
  have hC : Cx p s m _ c cL_leaderIn 4 RL G (tY cI cZ cJ) _ := hC
  refine z_aload_n (n := 1) hC dL_leaderIn_0 rfl 2 rfl rfl ?_
  refine z_iconst (v := nI 0) (n := 2) hC dL_leaderIn_1 (by decide) rfl ?_
  refine z_aload_n (n := 3) hC dL_leaderIn_2 rfl 0 rfl rfl ?_
  refine z_iload_n (n := 4) hC dL_leaderIn_3 rfl 1 rfl rfl ?_
  refine z_callvxc (n := 12) (cells := 0) (slots := 0) (As := [.int x]) (rest := [.int (nI 0), .ref o]) hC (kx_X2_leaderIn l G cI cZ cJ h ta sa ua T b r sw st fa sc fi mi lf hi n sw2 st2 fa2 sc2 fi2 mi2 lf2 hi2 n2 x hl hn hT hb) kg_L_70 kd_yX2_leaderIn dL_leaderIn_4 ⟨Nat.le_of_ble_eq_true rfl, Nat.le_of_ble_eq_true rfl⟩ 0 rfl rfl rfl [0, 1, 2, 3, 4, 5, 6, 7, 8, 9, 10, 11, 12, 13, 14, 15, 16, 17, 18, 19, 20, 21] rfl (by decide) rfl (Nat.le_of_ble_eq_true rfl) ⟨Nat.le_of_ble_eq_true rfl, Nat.le_of_ble_eq_true rfl⟩ [22] rfl rfl [] ⟨0, 9, 12, 13⟩ [] htab (fun z hz9 => absurd hz9 List.not_mem_nil) rfl (by decide) q629 (by simp [zCW]) rfl (fun q1 => ?_)
  refine z_astore_n (lv' := [(3, .ref q1), (0, .ref h), (1, .int x), (2, .ref o)]) (n := 13) hC dL_leaderIn_12 rfl (by decide) rfl rfl ?_
  refine z_iconst (v := nI 1) (n := 14) hC dL_leaderIn_13 (by decide) rfl ?_
  refine z_iret hC hr hlocks () ?_ rfl dL_leaderIn_14 (by omega) (by omega)
  rfl
