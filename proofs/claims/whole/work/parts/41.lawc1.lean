set_option maxRecDepth 100000 in
set_option maxHeartbeats 4000000 in
theorem c_angle (p : Program) (l : Launch) (e : Env) (s : State) (m : MethodId) (args : Array Value) (below : List Frame) (meth : Method) (c : Code) (G : va_G) (A : Nat → Prop) (Q : State → Prop) (cI cZ cJ : ClassId) (b0 h o : Nat) (ta sa ua ma : Nat → Nat) (L : Nat) (xs : Nat → Int32) (i j : Nat) (T : Nat) (b r sw st fa sc fi mi : Nat → Int32) (lf hi : Nat → Bool) (n : Nat) (sw2 st2 fa2 sc2 fi2 mi2 : Nat → Int32) (lf2 hi2 : Nat → Bool) (n2 : Nat) (th : Int32) (K : Nat → Int32) (ov : Nat → Int64) (s0 : Nat) (c0 : Nat) (hW : LX p l s m args c G A cI cZ cJ b0 L xs) (hI : iv j T n b r st fa mi) (hi0 : i = 4 * j) (hiL : i + 4 ≤ L) (he1 : xs (i + 1) = nI s0) (hs : s0 < 5) (he2 : xs (i + 2) = nI c0) (hc0 : c0 < 5) (ih : LPj p l e s m args below meth c G A Q cI cZ cJ b0 h o ta sa ua ma (j + 1)) : LZ p l e s m args below meth c G A Q cI cZ cJ b0 h o ta sa ua ma (30 + 7 * j) (211 + 66 * j) i 477 T b r sw st fa sc fi mi lf hi n sw2 st2 fa2 sc2 fi2 mi2 lf2 hi2 n2 th K ov := by
  obtain ⟨hC, hl, hz, hX, hb0, hbA, hL⟩ := hW
  have hj : j ≤ 511 := by omega
  obtain ⟨hn, hT0, hst, hfa0, hmi0, hb9, hr9⟩ := id hI
  have hT : T < 2 ^ 29 := by omega
  have hfa : ∀ g : Nat, inN (fa g) (2 ^ 28) := fun g => inN_mono (hfa0 g) (by omega)
  have hmi : ∀ g : Nat, inN (mi g) (2 ^ 30) := fun g => inN_mono (hmi0 g) (by omega)
  have ham : ∀ (g zt : Nat), inN (amF b r zt g) 1000 := fun g zt => am_in hb9 hr9 zt g
  unfold LZ
  refine z_aload_n (n := 478) hC dL_law_477 rfl 1 rfl rfl ?_
  refine z_aload_n (n := 479) hC dL_law_478 rfl 0 rfl rfl ?_
  refine z_iload (n := 481) hC dL_law_479 4 rfl rfl ?_
  refine z_iconst (v := nI 1) (n := 482) hC dL_law_481 (by decide) rfl ?_
  refine z_iadd (v := nI (i + 1)) (n := 483) hC dL_law_482 (nI_add i 1) rfl ?_
  refine z_sld (v := nI s0) (n := 484) hC hX hb0 hbA hL (i + 1) rfl (by omega) he1 dL_law_483 rfl ?_
  refine z_aload_n (n := 485) hC dL_law_484 rfl 0 rfl rfl ?_
  refine z_iload (n := 487) hC dL_law_485 4 rfl rfl ?_
  refine z_iconst (v := nI 2) (n := 488) hC dL_law_487 (by decide) rfl ?_
  refine z_iadd (v := nI (i + 2)) (n := 489) hC dL_law_488 (nI_add i 2) rfl ?_
  refine z_sld (v := nI c0) (n := 490) hC hX hb0 hbA hL (i + 2) rfl (by omega) he2 dL_law_489 rfl ?_
  refine z_aload_n (n := 491) hC dL_law_490 rfl 3 rfl rfl ?_
  refine z_callsiH (R := room_1) (cells := 30 + 7 * j) (slots := 211 + 66 * j) (ws := (wH h ta sa ua T) ++ (wT ta cI b r) ++ (wS sa cI cZ sw st fa sc fi mi lf hi n) ++ (wS ua cI cZ sw2 st2 fa2 sc2 fi2 mi2 lf2 hi2 n2) ++ (wN ma cI th n sw st b r T sc fi mi fa K) ++ (wO o cJ ov)) (n := 494) (As := [.ref h, .int (nI s0), .int (nI c0), .ref o]) (rest := []) hC hz (k_L_angle l G cI cZ cJ h ta sa ua T b r sw st fa sc fi mi lf hi n sw2 st2 fa2 sc2 fi2 mi2 lf2 hi2 n2 o ov s0 c0 (by omega) (by omega) hs hc0) kg_L_111 kd_yL_angle dL_law_491 ⟨Nat.le_of_ble_eq_true rfl, Nat.le_of_ble_eq_true rfl⟩ [0, 1, 2, 3, 4, 5, 6, 7, 8, 9, 10, 11, 12, 13, 14, 15, 16, 17, 18, 19, 20, 21, 29] rfl (by decide) rfl (Nat.le_of_ble_eq_true rfl) ⟨by show _ ≤ 1080188; omega, by show _ ≤ 5855541; omega⟩ (ws2 := fun u1 => (wH h ta sa ua T) ++ (wT ta cI b r) ++ (wS sa cI cZ sw st fa sc fi mi lf hi n) ++ (wS ua cI cZ sw2 st2 fa2 sc2 fi2 mi2 lf2 hi2 n2) ++ (wN ma cI th n sw st b r T sc fi mi fa K) ++ (wO o cJ (vp_updL ov 0 ((angF b r s0 c0).toInt64)))) [22, 23, 24, 25, 26, 27, 28] (fun _ => rfl) (wN ma cI th n sw st b r T sc fi mi fa K) (fun _ => rfl) rfl (cv_of 30 (by decide +kernel) (fun _ => rfl)) [h, ta 0, ta 1, ta 2, sa 0, sa 1, sa 2, sa 3, sa 4, sa 5, sa 6, sa 7, sa 8, ua 0, ua 1, ua 2, ua 3, ua 4, ua 5, ua 6, ua 7, ua 8, o] (fun _ => rfl) rfl rfl rfl (fun r2 u1 h3 => ?_)
  subst h3
  refine z_istore (lv' := [(5, .int (nI 0)), (0, .ref b0), (1, .ref h), (2, .ref (ma 0)), (3, .ref o), (4, .int (nI i))]) (n := 496) hC dL_law_494 (by decide) rfl rfl ?_
  refine z_aload_n (n := 497) hC dL_law_496 rfl 3 rfl rfl ?_
  refine z_aload_n (n := 498) hC dL_law_497 rfl 1 rfl rfl ?_
  refine z_iload (n := 500) hC dL_law_498 5 rfl rfl ?_
  refine z_iconst (v := nI 1) (n := 501) hC dL_law_500 (by decide) rfl ?_
  refine z_iadd (v := nI (i + 1)) (n := 502) hC dL_law_501 (nI_add i 1) rfl ?_
  refine z_sld (v := nI s0) (n := 503) hC hX hb0 hbA hL (i + 1) rfl (by omega) he1 dL_law_502 rfl ?_
  refine z_aload_n (n := 504) hC dL_law_503 rfl 1 rfl rfl ?_
  refine z_iload (n := 506) hC dL_law_504 5 rfl rfl ?_
  refine z_iconst (v := nI 2) (n := 507) hC dL_law_506 (by decide) rfl ?_
  refine z_iadd (v := nI (i + 2)) (n := 508) hC dL_law_507 (nI_add i 2) rfl ?_
  refine z_sld (v := nI c0) (n := 509) hC hX hb0 hbA hL (i + 2) rfl (by omega) he2 dL_law_508 rfl ?_
  refine z_calli (R := room_1) (cells := 30 + 7 * j) (slots := 211 + 66 * j) (ws := (wH h ta sa ua T) ++ (wT ta cI b r) ++ (wS sa cI cZ sw st fa sc fi mi lf hi n) ++ (wS ua cI cZ sw2 st2 fa2 sc2 fi2 mi2 lf2 hi2 n2) ++ (wN ma cI th n sw st b r T sc fi mi fa K) ++ (wO o cJ (vp_updL ov 0 ((angF b r s0 c0).toInt64)))) (n := 512) (As := [.int (nI s0), .int (nI c0)]) (rest := []) hC (k_X3_angle l G cI cZ cJ ma th n sw st b r T sc fi mi fa K s0 c0 (by omega) (by omega) hs hc0) kg_L_113 kd_yX3_angle dL_law_509 ⟨Nat.le_of_ble_eq_true rfl, Nat.le_of_ble_eq_true rfl⟩ 0 rfl rfl rfl [22, 23, 24, 25, 26, 27, 28] rfl (by decide) rfl (Nat.le_of_ble_eq_true rfl) ⟨by show _ ≤ 1080188; omega, by show _ ≤ 5855541; omega⟩ (ws2 := fun u4 => (wH h ta sa ua T) ++ (wT ta cI b r) ++ (wS sa cI cZ sw st fa sc fi mi lf hi n) ++ (wS ua cI cZ sw2 st2 fa2 sc2 fi2 mi2 lf2 hi2 n2) ++ (wN ma cI (nI 0) n sw st b r T sc fi mi fa K) ++ (wO o cJ (vp_updL ov 0 ((angF b r s0 c0).toInt64)))) [0, 1, 2, 3, 4, 5, 6, 7, 8, 9, 10, 11, 12, 13, 14, 15, 16, 17, 18, 19, 20, 21, 29] (fun _ => rfl) ((wH h ta sa ua T) ++ (wT ta cI b r) ++ (wS sa cI cZ sw st fa sc fi mi lf hi n) ++ (wS ua cI cZ sw2 st2 fa2 sc2 fi2 mi2 lf2 hi2 n2) ++ (wO o cJ (vp_updL ov 0 ((angF b r s0 c0).toInt64)))) (fun _ => rfl) rfl (cv_of 30 (by decide +kernel) (fun _ => rfl)) [ma 0, ma 1, ma 2, ma 3, ma 4, ma 5, ma 6] (fun _ => rfl) rfl rfl rfl (fun r5 u4 h6 => ?_)
  subst h6
  refine z_istore (lv' := [(6, .int (angF b r s0 c0)), (5, .int (nI 0)), (0, .ref b0), (1, .ref h), (2, .ref (ma 0)), (3, .ref o), (4, .int (nI i))]) (n := 514) hC dL_law_512 (by decide) rfl rfl ?_
  refine z_aload_n (n := 515) hC dL_law_514 rfl 4 rfl rfl ?_
  refine z_calli (R := room_1) (cells := 30 + 7 * j) (slots := 211 + 66 * j) (ws := (wH h ta sa ua T) ++ (wT ta cI b r) ++ (wS sa cI cZ sw st fa sc fi mi lf hi n) ++ (wS ua cI cZ sw2 st2 fa2 sc2 fi2 mi2 lf2 hi2 n2) ++ (wN ma cI (nI 0) n sw st b r T sc fi mi fa K) ++ (wO o cJ (vp_updL ov 0 ((angF b r s0 c0).toInt64)))) (n := 518) (As := []) (rest := []) hC (k_X3_thrown l G cI cZ cJ ma (nI 0) n sw st b r T sc fi mi fa K (by omega) (by omega)) kg_L_89 kd_yX3_thrown dL_law_515 ⟨Nat.le_of_ble_eq_true rfl, Nat.le_of_ble_eq_true rfl⟩ 0 rfl rfl rfl [22, 23, 24, 25, 26, 27, 28] rfl (by decide) rfl (Nat.le_of_ble_eq_true rfl) ⟨by show _ ≤ 1080188; omega, by show _ ≤ 5855541; omega⟩ (ws2 := fun u7 => (wH h ta sa ua T) ++ (wT ta cI b r) ++ (wS sa cI cZ sw st fa sc fi mi lf hi n) ++ (wS ua cI cZ sw2 st2 fa2 sc2 fi2 mi2 lf2 hi2 n2) ++ (wN ma cI (nI 0) n sw st b r T sc fi mi fa K) ++ (wO o cJ (vp_updL ov 0 ((angF b r s0 c0).toInt64)))) [0, 1, 2, 3, 4, 5, 6, 7, 8, 9, 10, 11, 12, 13, 14, 15, 16, 17, 18, 19, 20, 21, 29] (fun _ => rfl) ((wH h ta sa ua T) ++ (wT ta cI b r) ++ (wS sa cI cZ sw st fa sc fi mi lf hi n) ++ (wS ua cI cZ sw2 st2 fa2 sc2 fi2 mi2 lf2 hi2 n2) ++ (wO o cJ (vp_updL ov 0 ((angF b r s0 c0).toInt64)))) (fun _ => rfl) rfl (cv_of 30 (by decide +kernel) (fun _ => rfl)) [ma 0, ma 1, ma 2, ma 3, ma 4, ma 5, ma 6] (fun _ => rfl) rfl rfl rfl (fun r8 u7 h9 => ?_)
  subst h9
  refine z_iload (n := 520) hC dL_law_518 1 rfl rfl ?_
  refine z_icmp_eq_n (tgt := 525) (n := 523) hC 0 0 rfl rfl (by omega) (by omega) dL_law_520 (by decide) rfl (fun c10 => ?_) (fun c10 => absurd rfl c10)
  refine z_iload (n := 527) hC dL_law_525 1 rfl rfl ?_
  refine z_if_ne (tgt := 542) (n := 530) hC dL_law_527 (by decide) rfl (fun c11 => absurd (nI_0) c11) (fun c11 => ?_)
  refine z_aload_n (n := 531) hC dL_law_530 rfl 5 rfl rfl ?_
  refine z_iconst (v := nI 0) (n := 532) hC dL_law_531 (by decide) rfl ?_
  refine z_lald (v := (angF b r s0 c0).toInt64) (n := 533) hC 29 2 0 rfl rfl rfl (by omega) (by decide) dL_law_532 updL_at rfl ?_
  refine z_iload (n := 535) hC dL_law_533 0 rfl rfl ?_
  refine z_i2l (v := (angF b r s0 c0).toInt64) (n := 536) hC dL_law_535 rfl rfl ?_
  refine z_lcmp (n := 537) hC dL_law_536 rfl ?_
  refine z_if_eq (tgt := 542) (n := 540) hC dL_law_537 (by decide) rfl (fun c12 => ?_) (fun c12 => absurd (lg_self _) c12)
  refine z_goto (n := 1448) hC dL_law_542 (by decide) ?_
  refine z_iinc (k0 := 6) (v := nI (i + 4)) (lv' := [(4, .int (nI (i + 4))), (6, .int (angF b r s0 c0)), (5, .int (nI 0)), (0, .ref b0), (1, .ref h), (2, .ref (ma 0)), (3, .ref o)]) (n := 1451) hC dL_law_1448 rfl (nI_add i 4) (by decide) rfl rfl ?_
  refine z_goto (n := 23) hC dL_law_1451 (by decide) ?_
  refine z_lv [3, 4, 5, 6, 0] (lv' := [(0, .ref b0), (1, .ref h), (2, .ref (ma 0)), (3, .ref o), (4, .int (nI (i + 4)))]) rfl ?_
  refine z_wid (k1 := 30 + 7 * (j + 1)) (k2 := 211 + 66 * (j + 1)) (by omega) (by omega) ?_
  exact ih (i + 4) T b r sw st fa sc fi mi lf hi n sw2 st2 fa2 sc2 fi2 mi2 lf2 hi2 n2 (nI 0) K (vp_updL ov 0 ((angF b r s0 c0).toInt64)) (by omega) (iv_same hI)

set_option maxRecDepth 100000 in
set_option maxHeartbeats 4000000 in
theorem c_angle_a (p : Program) (l : Launch) (e : Env) (s : State) (m : MethodId) (args : Array Value) (below : List Frame) (meth : Method) (c : Code) (G : va_G) (A : Nat → Prop) (Q : State → Prop) (cI cZ cJ : ClassId) (b0 h o : Nat) (ta sa ua ma : Nat → Nat) (L : Nat) (xs : Nat → Int32) (i j : Nat) (T : Nat) (b r sw st fa sc fi mi : Nat → Int32) (lf hi : Nat → Bool) (n : Nat) (sw2 st2 fa2 sc2 fi2 mi2 : Nat → Int32) (lf2 hi2 : Nat → Bool) (n2 : Nat) (th : Int32) (K : Nat → Int32) (ov : Nat → Int64)  (hW : LX p l s m args c G A cI cZ cJ b0 L xs) (hI : iv j T n b r st fa mi) (hi0 : i = 4 * j) (hiL : i + 4 ≤ L) (hb : xs (i + 1) < 0 ∨ nI 5 ≤ xs (i + 1)) (ih : LPj p l e s m args below meth c G A Q cI cZ cJ b0 h o ta sa ua ma (j + 1)) : LZ p l e s m args below meth c G A Q cI cZ cJ b0 h o ta sa ua ma (30 + 7 * j) (211 + 66 * j) i 477 T b r sw st fa sc fi mi lf hi n sw2 st2 fa2 sc2 fi2 mi2 lf2 hi2 n2 th K ov := by
  obtain ⟨hC, hl, hz, hX, hb0, hbA, hL⟩ := hW
  have hj : j ≤ 511 := by omega
  obtain ⟨hn, hT0, hst, hfa0, hmi0, hb9, hr9⟩ := id hI
  have hT : T < 2 ^ 29 := by omega
  have hfa : ∀ g : Nat, inN (fa g) (2 ^ 28) := fun g => inN_mono (hfa0 g) (by omega)
  have hmi : ∀ g : Nat, inN (mi g) (2 ^ 30) := fun g => inN_mono (hmi0 g) (by omega)
  have ham : ∀ (g zt : Nat), inN (amF b r zt g) 1000 := fun g zt => am_in hb9 hr9 zt g
  unfold LZ
  refine z_aload_n (n := 478) hC dL_law_477 rfl 1 rfl rfl ?_
  refine z_aload_n (n := 479) hC dL_law_478 rfl 0 rfl rfl ?_
  refine z_iload (n := 481) hC dL_law_479 4 rfl rfl ?_
  refine z_iconst (v := nI 1) (n := 482) hC dL_law_481 (by decide) rfl ?_
  refine z_iadd (v := nI (i + 1)) (n := 483) hC dL_law_482 (nI_add i 1) rfl ?_
  refine z_sld (v := xs (i + 1)) (n := 484) hC hX hb0 hbA hL (i + 1) rfl (by omega) rfl dL_law_483 rfl ?_
  refine z_aload_n (n := 485) hC dL_law_484 rfl 0 rfl rfl ?_
  refine z_iload (n := 487) hC dL_law_485 4 rfl rfl ?_
  refine z_iconst (v := nI 2) (n := 488) hC dL_law_487 (by decide) rfl ?_
  refine z_iadd (v := nI (i + 2)) (n := 489) hC dL_law_488 (nI_add i 2) rfl ?_
  refine z_sld (v := xs (i + 2)) (n := 490) hC hX hb0 hbA hL (i + 2) rfl (by omega) rfl dL_law_489 rfl ?_
  refine z_aload_n (n := 491) hC dL_law_490 rfl 3 rfl rfl ?_
  refine z_callsiH (R := room_1) (cells := 30 + 7 * j) (slots := 211 + 66 * j) (ws := (wH h ta sa ua T) ++ (wT ta cI b r) ++ (wS sa cI cZ sw st fa sc fi mi lf hi n) ++ (wS ua cI cZ sw2 st2 fa2 sc2 fi2 mi2 lf2 hi2 n2) ++ (wN ma cI th n sw st b r T sc fi mi fa K) ++ (wO o cJ ov)) (n := 494) (As := [.ref h, .int (xs (i + 1)), .int (xs (i + 2)), .ref o]) (rest := []) hC hz (kx_L_angle_a l G cI cZ cJ h ta sa ua T b r sw st fa sc fi mi lf hi n sw2 st2 fa2 sc2 fi2 mi2 lf2 hi2 n2 o ov (xs (i + 1)) (xs (i + 2)) hl (by omega) (by omega) hb) kg_L_111 kd_yL_angle dL_law_491 ⟨Nat.le_of_ble_eq_true rfl, Nat.le_of_ble_eq_true rfl⟩ [0, 1, 2, 3, 4, 5, 6, 7, 8, 9, 10, 11, 12, 13, 14, 15, 16, 17, 18, 19, 20, 21, 29] rfl (by decide) rfl (Nat.le_of_ble_eq_true rfl) ⟨by show _ ≤ 1080188; omega, by show _ ≤ 5855541; omega⟩ (ws2 := fun u1 => (wH h ta sa ua T) ++ (wT ta cI b r) ++ (wS sa cI cZ sw st fa sc fi mi lf hi n) ++ (wS ua cI cZ sw2 st2 fa2 sc2 fi2 mi2 lf2 hi2 n2) ++ (wN ma cI th n sw st b r T sc fi mi fa K) ++ (wO o cJ ov)) [22, 23, 24, 25, 26, 27, 28] (fun _ => rfl) (wN ma cI th n sw st b r T sc fi mi fa K) (fun _ => rfl) rfl (cv_of 30 (by decide +kernel) (fun _ => rfl)) [h, ta 0, ta 1, ta 2, sa 0, sa 1, sa 2, sa 3, sa 4, sa 5, sa 6, sa 7, sa 8, ua 0, ua 1, ua 2, ua 3, ua 4, ua 5, ua 6, ua 7, ua 8, o] (fun _ => rfl) rfl rfl rfl (fun r2 u1 h3 => ?_)
  subst h3
  refine z_istore (lv' := [(5, .int (nI 1)), (0, .ref b0), (1, .ref h), (2, .ref (ma 0)), (3, .ref o), (4, .int (nI i))]) (n := 496) hC dL_law_494 (by decide) rfl rfl ?_
  refine z_aload_n (n := 497) hC dL_law_496 rfl 3 rfl rfl ?_
  refine z_aload_n (n := 498) hC dL_law_497 rfl 1 rfl rfl ?_
  refine z_iload (n := 500) hC dL_law_498 5 rfl rfl ?_
  refine z_iconst (v := nI 1) (n := 501) hC dL_law_500 (by decide) rfl ?_
  refine z_iadd (v := nI (i + 1)) (n := 502) hC dL_law_501 (nI_add i 1) rfl ?_
  refine z_sld (v := xs (i + 1)) (n := 503) hC hX hb0 hbA hL (i + 1) rfl (by omega) rfl dL_law_502 rfl ?_
  refine z_aload_n (n := 504) hC dL_law_503 rfl 1 rfl rfl ?_
  refine z_iload (n := 506) hC dL_law_504 5 rfl rfl ?_
  refine z_iconst (v := nI 2) (n := 507) hC dL_law_506 (by decide) rfl ?_
  refine z_iadd (v := nI (i + 2)) (n := 508) hC dL_law_507 (nI_add i 2) rfl ?_
  refine z_sld (v := xs (i + 2)) (n := 509) hC hX hb0 hbA hL (i + 2) rfl (by omega) rfl dL_law_508 rfl ?_
  refine z_calli (R := room_1) (cells := 30 + 7 * j + 1) (slots := 211 + 66 * j + 6) (ws := (wH h ta sa ua T) ++ (wT ta cI b r) ++ (wS sa cI cZ sw st fa sc fi mi lf hi n) ++ (wS ua cI cZ sw2 st2 fa2 sc2 fi2 mi2 lf2 hi2 n2) ++ (wN ma cI th n sw st b r T sc fi mi fa K) ++ (wO o cJ ov)) (n := 512) (As := [.int (xs (i + 1)), .int (xs (i + 2))]) (rest := []) hC (k_X3_angle_xa l G cI cZ cJ ma th n sw st b r T sc fi mi fa K (xs (i + 1)) (xs (i + 2)) (by omega) (by omega) hb) kg_L_113 kd_yX3_angle dL_law_509 ⟨Nat.le_of_ble_eq_true rfl, Nat.le_of_ble_eq_true rfl⟩ 0 rfl rfl rfl [22, 23, 24, 25, 26, 27, 28] rfl (by decide) rfl (Nat.le_of_ble_eq_true rfl) ⟨by show _ ≤ 1080188; omega, by show _ ≤ 5855541; omega⟩ (ws2 := fun u4 => (wH h ta sa ua T) ++ (wT ta cI b r) ++ (wS sa cI cZ sw st fa sc fi mi lf hi n) ++ (wS ua cI cZ sw2 st2 fa2 sc2 fi2 mi2 lf2 hi2 n2) ++ (wN ma cI (nI 1) n sw st b r T sc fi mi fa K) ++ (wO o cJ ov)) [0, 1, 2, 3, 4, 5, 6, 7, 8, 9, 10, 11, 12, 13, 14, 15, 16, 17, 18, 19, 20, 21, 29] (fun _ => rfl) ((wH h ta sa ua T) ++ (wT ta cI b r) ++ (wS sa cI cZ sw st fa sc fi mi lf hi n) ++ (wS ua cI cZ sw2 st2 fa2 sc2 fi2 mi2 lf2 hi2 n2) ++ (wO o cJ ov)) (fun _ => rfl) rfl (cv_of 30 (by decide +kernel) (fun _ => rfl)) [ma 0, ma 1, ma 2, ma 3, ma 4, ma 5, ma 6] (fun _ => rfl) rfl rfl rfl (fun r5 u4 h6 => ?_)
  subst h6
  refine z_istore (lv' := [(6, .int (nI 0)), (5, .int (nI 1)), (0, .ref b0), (1, .ref h), (2, .ref (ma 0)), (3, .ref o), (4, .int (nI i))]) (n := 514) hC dL_law_512 (by decide) rfl rfl ?_
  refine z_aload_n (n := 515) hC dL_law_514 rfl 4 rfl rfl ?_
  refine z_calli (R := room_1) (cells := 30 + 7 * j + 1) (slots := 211 + 66 * j + 6) (ws := (wH h ta sa ua T) ++ (wT ta cI b r) ++ (wS sa cI cZ sw st fa sc fi mi lf hi n) ++ (wS ua cI cZ sw2 st2 fa2 sc2 fi2 mi2 lf2 hi2 n2) ++ (wN ma cI (nI 1) n sw st b r T sc fi mi fa K) ++ (wO o cJ ov)) (n := 518) (As := []) (rest := []) hC (k_X3_thrown l G cI cZ cJ ma (nI 1) n sw st b r T sc fi mi fa K (by omega) (by omega)) kg_L_89 kd_yX3_thrown dL_law_515 ⟨Nat.le_of_ble_eq_true rfl, Nat.le_of_ble_eq_true rfl⟩ 0 rfl rfl rfl [22, 23, 24, 25, 26, 27, 28] rfl (by decide) rfl (Nat.le_of_ble_eq_true rfl) ⟨by show _ ≤ 1080188; omega, by show _ ≤ 5855541; omega⟩ (ws2 := fun u7 => (wH h ta sa ua T) ++ (wT ta cI b r) ++ (wS sa cI cZ sw st fa sc fi mi lf hi n) ++ (wS ua cI cZ sw2 st2 fa2 sc2 fi2 mi2 lf2 hi2 n2) ++ (wN ma cI (nI 1) n sw st b r T sc fi mi fa K) ++ (wO o cJ ov)) [0, 1, 2, 3, 4, 5, 6, 7, 8, 9, 10, 11, 12, 13, 14, 15, 16, 17, 18, 19, 20, 21, 29] (fun _ => rfl) ((wH h ta sa ua T) ++ (wT ta cI b r) ++ (wS sa cI cZ sw st fa sc fi mi lf hi n) ++ (wS ua cI cZ sw2 st2 fa2 sc2 fi2 mi2 lf2 hi2 n2) ++ (wO o cJ ov)) (fun _ => rfl) rfl (cv_of 30 (by decide +kernel) (fun _ => rfl)) [ma 0, ma 1, ma 2, ma 3, ma 4, ma 5, ma 6] (fun _ => rfl) rfl rfl rfl (fun r8 u7 h9 => ?_)
  subst h9
  refine z_iload (n := 520) hC dL_law_518 1 rfl rfl ?_
  refine z_icmp_eq_n (tgt := 525) (n := 523) hC 1 1 rfl rfl (by omega) (by omega) dL_law_520 (by decide) rfl (fun c10 => ?_) (fun c10 => absurd rfl c10)
  refine z_iload (n := 527) hC dL_law_525 1 rfl rfl ?_
  refine z_if_ne (tgt := 542) (n := 530) hC dL_law_527 (by decide) rfl (fun c11 => ?_) (fun c11 => absurd c11 (by decide))
  refine z_goto (n := 1448) hC dL_law_542 (by decide) ?_
  refine z_iinc (k0 := 6) (v := nI (i + 4)) (lv' := [(4, .int (nI (i + 4))), (6, .int (nI 0)), (5, .int (nI 1)), (0, .ref b0), (1, .ref h), (2, .ref (ma 0)), (3, .ref o)]) (n := 1451) hC dL_law_1448 rfl (nI_add i 4) (by decide) rfl rfl ?_
  refine z_goto (n := 23) hC dL_law_1451 (by decide) ?_
  refine z_lv [3, 4, 5, 6, 0] (lv' := [(0, .ref b0), (1, .ref h), (2, .ref (ma 0)), (3, .ref o), (4, .int (nI (i + 4)))]) rfl ?_
  refine z_wid (k1 := 30 + 7 * (j + 1)) (k2 := 211 + 66 * (j + 1)) (by omega) (by omega) ?_
  exact ih (i + 4) T b r sw st fa sc fi mi lf hi n sw2 st2 fa2 sc2 fi2 mi2 lf2 hi2 n2 (nI 1) K ov (by omega) (iv_same hI)

set_option maxRecDepth 100000 in
set_option maxHeartbeats 4000000 in
theorem c_angle_b (p : Program) (l : Launch) (e : Env) (s : State) (m : MethodId) (args : Array Value) (below : List Frame) (meth : Method) (c : Code) (G : va_G) (A : Nat → Prop) (Q : State → Prop) (cI cZ cJ : ClassId) (b0 h o : Nat) (ta sa ua ma : Nat → Nat) (L : Nat) (xs : Nat → Int32) (i j : Nat) (T : Nat) (b r sw st fa sc fi mi : Nat → Int32) (lf hi : Nat → Bool) (n : Nat) (sw2 st2 fa2 sc2 fi2 mi2 : Nat → Int32) (lf2 hi2 : Nat → Bool) (n2 : Nat) (th : Int32) (K : Nat → Int32) (ov : Nat → Int64) (s0 : Nat) (hW : LX p l s m args c G A cI cZ cJ b0 L xs) (hI : iv j T n b r st fa mi) (hi0 : i = 4 * j) (hiL : i + 4 ≤ L) (he1 : xs (i + 1) = nI s0) (hs : s0 < 5) (hb : xs (i + 2) < 0 ∨ nI 5 ≤ xs (i + 2)) (ih : LPj p l e s m args below meth c G A Q cI cZ cJ b0 h o ta sa ua ma (j + 1)) : LZ p l e s m args below meth c G A Q cI cZ cJ b0 h o ta sa ua ma (30 + 7 * j) (211 + 66 * j) i 477 T b r sw st fa sc fi mi lf hi n sw2 st2 fa2 sc2 fi2 mi2 lf2 hi2 n2 th K ov := by
  obtain ⟨hC, hl, hz, hX, hb0, hbA, hL⟩ := hW
  have hj : j ≤ 511 := by omega
  obtain ⟨hn, hT0, hst, hfa0, hmi0, hb9, hr9⟩ := id hI
  have hT : T < 2 ^ 29 := by omega
  have hfa : ∀ g : Nat, inN (fa g) (2 ^ 28) := fun g => inN_mono (hfa0 g) (by omega)
  have hmi : ∀ g : Nat, inN (mi g) (2 ^ 30) := fun g => inN_mono (hmi0 g) (by omega)
  have ham : ∀ (g zt : Nat), inN (amF b r zt g) 1000 := fun g zt => am_in hb9 hr9 zt g
  unfold LZ
  refine z_aload_n (n := 478) hC dL_law_477 rfl 1 rfl rfl ?_
  refine z_aload_n (n := 479) hC dL_law_478 rfl 0 rfl rfl ?_
  refine z_iload (n := 481) hC dL_law_479 4 rfl rfl ?_
  refine z_iconst (v := nI 1) (n := 482) hC dL_law_481 (by decide) rfl ?_
  refine z_iadd (v := nI (i + 1)) (n := 483) hC dL_law_482 (nI_add i 1) rfl ?_
  refine z_sld (v := nI s0) (n := 484) hC hX hb0 hbA hL (i + 1) rfl (by omega) he1 dL_law_483 rfl ?_
  refine z_aload_n (n := 485) hC dL_law_484 rfl 0 rfl rfl ?_
  refine z_iload (n := 487) hC dL_law_485 4 rfl rfl ?_
  refine z_iconst (v := nI 2) (n := 488) hC dL_law_487 (by decide) rfl ?_
  refine z_iadd (v := nI (i + 2)) (n := 489) hC dL_law_488 (nI_add i 2) rfl ?_
  refine z_sld (v := xs (i + 2)) (n := 490) hC hX hb0 hbA hL (i + 2) rfl (by omega) rfl dL_law_489 rfl ?_
  refine z_aload_n (n := 491) hC dL_law_490 rfl 3 rfl rfl ?_
  refine z_callsiH (R := room_1) (cells := 30 + 7 * j) (slots := 211 + 66 * j) (ws := (wH h ta sa ua T) ++ (wT ta cI b r) ++ (wS sa cI cZ sw st fa sc fi mi lf hi n) ++ (wS ua cI cZ sw2 st2 fa2 sc2 fi2 mi2 lf2 hi2 n2) ++ (wN ma cI th n sw st b r T sc fi mi fa K) ++ (wO o cJ ov)) (n := 494) (As := [.ref h, .int (nI s0), .int (xs (i + 2)), .ref o]) (rest := []) hC hz (kx_L_angle_b l G cI cZ cJ h ta sa ua T b r sw st fa sc fi mi lf hi n sw2 st2 fa2 sc2 fi2 mi2 lf2 hi2 n2 o ov s0 (xs (i + 2)) hl (by omega) (by omega) hs hb) kg_L_111 kd_yL_angle dL_law_491 ⟨Nat.le_of_ble_eq_true rfl, Nat.le_of_ble_eq_true rfl⟩ [0, 1, 2, 3, 4, 5, 6, 7, 8, 9, 10, 11, 12, 13, 14, 15, 16, 17, 18, 19, 20, 21, 29] rfl (by decide) rfl (Nat.le_of_ble_eq_true rfl) ⟨by show _ ≤ 1080188; omega, by show _ ≤ 5855541; omega⟩ (ws2 := fun u1 => (wH h ta sa ua T) ++ (wT ta cI b r) ++ (wS sa cI cZ sw st fa sc fi mi lf hi n) ++ (wS ua cI cZ sw2 st2 fa2 sc2 fi2 mi2 lf2 hi2 n2) ++ (wN ma cI th n sw st b r T sc fi mi fa K) ++ (wO o cJ ov)) [22, 23, 24, 25, 26, 27, 28] (fun _ => rfl) (wN ma cI th n sw st b r T sc fi mi fa K) (fun _ => rfl) rfl (cv_of 30 (by decide +kernel) (fun _ => rfl)) [h, ta 0, ta 1, ta 2, sa 0, sa 1, sa 2, sa 3, sa 4, sa 5, sa 6, sa 7, sa 8, ua 0, ua 1, ua 2, ua 3, ua 4, ua 5, ua 6, ua 7, ua 8, o] (fun _ => rfl) rfl rfl rfl (fun r2 u1 h3 => ?_)
  subst h3
  refine z_istore (lv' := [(5, .int (nI 1)), (0, .ref b0), (1, .ref h), (2, .ref (ma 0)), (3, .ref o), (4, .int (nI i))]) (n := 496) hC dL_law_494 (by decide) rfl rfl ?_
  refine z_aload_n (n := 497) hC dL_law_496 rfl 3 rfl rfl ?_
  refine z_aload_n (n := 498) hC dL_law_497 rfl 1 rfl rfl ?_
  refine z_iload (n := 500) hC dL_law_498 5 rfl rfl ?_
  refine z_iconst (v := nI 1) (n := 501) hC dL_law_500 (by decide) rfl ?_
  refine z_iadd (v := nI (i + 1)) (n := 502) hC dL_law_501 (nI_add i 1) rfl ?_
  refine z_sld (v := nI s0) (n := 503) hC hX hb0 hbA hL (i + 1) rfl (by omega) he1 dL_law_502 rfl ?_
  refine z_aload_n (n := 504) hC dL_law_503 rfl 1 rfl rfl ?_
  refine z_iload (n := 506) hC dL_law_504 5 rfl rfl ?_
  refine z_iconst (v := nI 2) (n := 507) hC dL_law_506 (by decide) rfl ?_
  refine z_iadd (v := nI (i + 2)) (n := 508) hC dL_law_507 (nI_add i 2) rfl ?_
  refine z_sld (v := xs (i + 2)) (n := 509) hC hX hb0 hbA hL (i + 2) rfl (by omega) rfl dL_law_508 rfl ?_
  refine z_calli (R := room_1) (cells := 30 + 7 * j + 1) (slots := 211 + 66 * j + 6) (ws := (wH h ta sa ua T) ++ (wT ta cI b r) ++ (wS sa cI cZ sw st fa sc fi mi lf hi n) ++ (wS ua cI cZ sw2 st2 fa2 sc2 fi2 mi2 lf2 hi2 n2) ++ (wN ma cI th n sw st b r T sc fi mi fa K) ++ (wO o cJ ov)) (n := 512) (As := [.int (nI s0), .int (xs (i + 2))]) (rest := []) hC (k_X3_angle_xb l G cI cZ cJ ma th n sw st b r T sc fi mi fa K s0 (xs (i + 2)) (by omega) (by omega) hs hb) kg_L_113 kd_yX3_angle dL_law_509 ⟨Nat.le_of_ble_eq_true rfl, Nat.le_of_ble_eq_true rfl⟩ 0 rfl rfl rfl [22, 23, 24, 25, 26, 27, 28] rfl (by decide) rfl (Nat.le_of_ble_eq_true rfl) ⟨by show _ ≤ 1080188; omega, by show _ ≤ 5855541; omega⟩ (ws2 := fun u4 => (wH h ta sa ua T) ++ (wT ta cI b r) ++ (wS sa cI cZ sw st fa sc fi mi lf hi n) ++ (wS ua cI cZ sw2 st2 fa2 sc2 fi2 mi2 lf2 hi2 n2) ++ (wN ma cI (nI 1) n sw st b r T sc fi mi fa K) ++ (wO o cJ ov)) [0, 1, 2, 3, 4, 5, 6, 7, 8, 9, 10, 11, 12, 13, 14, 15, 16, 17, 18, 19, 20, 21, 29] (fun _ => rfl) ((wH h ta sa ua T) ++ (wT ta cI b r) ++ (wS sa cI cZ sw st fa sc fi mi lf hi n) ++ (wS ua cI cZ sw2 st2 fa2 sc2 fi2 mi2 lf2 hi2 n2) ++ (wO o cJ ov)) (fun _ => rfl) rfl (cv_of 30 (by decide +kernel) (fun _ => rfl)) [ma 0, ma 1, ma 2, ma 3, ma 4, ma 5, ma 6] (fun _ => rfl) rfl rfl rfl (fun r5 u4 h6 => ?_)
  subst h6
  refine z_istore (lv' := [(6, .int (nI 0)), (5, .int (nI 1)), (0, .ref b0), (1, .ref h), (2, .ref (ma 0)), (3, .ref o), (4, .int (nI i))]) (n := 514) hC dL_law_512 (by decide) rfl rfl ?_
  refine z_aload_n (n := 515) hC dL_law_514 rfl 4 rfl rfl ?_
  refine z_calli (R := room_1) (cells := 30 + 7 * j + 1) (slots := 211 + 66 * j + 6) (ws := (wH h ta sa ua T) ++ (wT ta cI b r) ++ (wS sa cI cZ sw st fa sc fi mi lf hi n) ++ (wS ua cI cZ sw2 st2 fa2 sc2 fi2 mi2 lf2 hi2 n2) ++ (wN ma cI (nI 1) n sw st b r T sc fi mi fa K) ++ (wO o cJ ov)) (n := 518) (As := []) (rest := []) hC (k_X3_thrown l G cI cZ cJ ma (nI 1) n sw st b r T sc fi mi fa K (by omega) (by omega)) kg_L_89 kd_yX3_thrown dL_law_515 ⟨Nat.le_of_ble_eq_true rfl, Nat.le_of_ble_eq_true rfl⟩ 0 rfl rfl rfl [22, 23, 24, 25, 26, 27, 28] rfl (by decide) rfl (Nat.le_of_ble_eq_true rfl) ⟨by show _ ≤ 1080188; omega, by show _ ≤ 5855541; omega⟩ (ws2 := fun u7 => (wH h ta sa ua T) ++ (wT ta cI b r) ++ (wS sa cI cZ sw st fa sc fi mi lf hi n) ++ (wS ua cI cZ sw2 st2 fa2 sc2 fi2 mi2 lf2 hi2 n2) ++ (wN ma cI (nI 1) n sw st b r T sc fi mi fa K) ++ (wO o cJ ov)) [0, 1, 2, 3, 4, 5, 6, 7, 8, 9, 10, 11, 12, 13, 14, 15, 16, 17, 18, 19, 20, 21, 29] (fun _ => rfl) ((wH h ta sa ua T) ++ (wT ta cI b r) ++ (wS sa cI cZ sw st fa sc fi mi lf hi n) ++ (wS ua cI cZ sw2 st2 fa2 sc2 fi2 mi2 lf2 hi2 n2) ++ (wO o cJ ov)) (fun _ => rfl) rfl (cv_of 30 (by decide +kernel) (fun _ => rfl)) [ma 0, ma 1, ma 2, ma 3, ma 4, ma 5, ma 6] (fun _ => rfl) rfl rfl rfl (fun r8 u7 h9 => ?_)
  subst h9
  refine z_iload (n := 520) hC dL_law_518 1 rfl rfl ?_
  refine z_icmp_eq_n (tgt := 525) (n := 523) hC 1 1 rfl rfl (by omega) (by omega) dL_law_520 (by decide) rfl (fun c10 => ?_) (fun c10 => absurd rfl c10)
  refine z_iload (n := 527) hC dL_law_525 1 rfl rfl ?_
  refine z_if_ne (tgt := 542) (n := 530) hC dL_law_527 (by decide) rfl (fun c11 => ?_) (fun c11 => absurd c11 (by decide))
  refine z_goto (n := 1448) hC dL_law_542 (by decide) ?_
  refine z_iinc (k0 := 6) (v := nI (i + 4)) (lv' := [(4, .int (nI (i + 4))), (6, .int (nI 0)), (5, .int (nI 1)), (0, .ref b0), (1, .ref h), (2, .ref (ma 0)), (3, .ref o)]) (n := 1451) hC dL_law_1448 rfl (nI_add i 4) (by decide) rfl rfl ?_
  refine z_goto (n := 23) hC dL_law_1451 (by decide) ?_
  refine z_lv [3, 4, 5, 6, 0] (lv' := [(0, .ref b0), (1, .ref h), (2, .ref (ma 0)), (3, .ref o), (4, .int (nI (i + 4)))]) rfl ?_
  refine z_wid (k1 := 30 + 7 * (j + 1)) (k2 := 211 + 66 * (j + 1)) (by omega) (by omega) ?_
  exact ih (i + 4) T b r sw st fa sc fi mi lf hi n sw2 st2 fa2 sc2 fi2 mi2 lf2 hi2 n2 (nI 1) K ov (by omega) (iv_same hI)

set_option maxRecDepth 100000 in
set_option maxHeartbeats 4000000 in
theorem c_hardestClay (p : Program) (l : Launch) (e : Env) (s : State) (m : MethodId) (args : Array Value) (below : List Frame) (meth : Method) (c : Code) (G : va_G) (A : Nat → Prop) (Q : State → Prop) (cI cZ cJ : ClassId) (b0 h o : Nat) (ta sa ua ma : Nat → Nat) (L : Nat) (xs : Nat → Int32) (i j : Nat) (T : Nat) (b r sw st fa sc fi mi : Nat → Int32) (lf hi : Nat → Bool) (n : Nat) (sw2 st2 fa2 sc2 fi2 mi2 : Nat → Int32) (lf2 hi2 : Nat → Bool) (n2 : Nat) (th : Int32) (K : Nat → Int32) (ov : Nat → Int64) (s0 : Nat) (hW : LX p l s m args c G A cI cZ cJ b0 L xs) (hI : iv j T n b r st fa mi) (hi0 : i = 4 * j) (hiL : i + 4 ≤ L) (he1 : xs (i + 1) = nI s0) (hs : s0 < 5) (ih : LPj p l e s m args below meth c G A Q cI cZ cJ b0 h o ta sa ua ma (j + 1)) : LZ p l e s m args below meth c G A Q cI cZ cJ b0 h o ta sa ua ma (30 + 7 * j) (211 + 66 * j) i 545 T b r sw st fa sc fi mi lf hi n sw2 st2 fa2 sc2 fi2 mi2 lf2 hi2 n2 th K ov := by
  obtain ⟨hC, hl, hz, hX, hb0, hbA, hL⟩ := hW
  have hj : j ≤ 511 := by omega
  obtain ⟨hn, hT0, hst, hfa0, hmi0, hb9, hr9⟩ := id hI
  have hT : T < 2 ^ 29 := by omega
  have hfa : ∀ g : Nat, inN (fa g) (2 ^ 28) := fun g => inN_mono (hfa0 g) (by omega)
  have hmi : ∀ g : Nat, inN (mi g) (2 ^ 30) := fun g => inN_mono (hmi0 g) (by omega)
  have ham : ∀ (g zt : Nat), inN (amF b r zt g) 1000 := fun g zt => am_in hb9 hr9 zt g
  unfold LZ
  refine z_aload_n (n := 546) hC dL_law_545 rfl 1 rfl rfl ?_
  refine z_aload_n (n := 547) hC dL_law_546 rfl 0 rfl rfl ?_
  refine z_iload (n := 549) hC dL_law_547 4 rfl rfl ?_
  refine z_iconst (v := nI 1) (n := 550) hC dL_law_549 (by decide) rfl ?_
  refine z_iadd (v := nI (i + 1)) (n := 551) hC dL_law_550 (nI_add i 1) rfl ?_
  refine z_sld (v := nI s0) (n := 552) hC hX hb0 hbA hL (i + 1) rfl (by omega) he1 dL_law_551 rfl ?_
  refine z_aload_n (n := 553) hC dL_law_552 rfl 3 rfl rfl ?_
  refine z_callsiH (R := room_1) (cells := 30 + 7 * j) (slots := 211 + 66 * j) (ws := (wH h ta sa ua T) ++ (wT ta cI b r) ++ (wS sa cI cZ sw st fa sc fi mi lf hi n) ++ (wS ua cI cZ sw2 st2 fa2 sc2 fi2 mi2 lf2 hi2 n2) ++ (wN ma cI th n sw st b r T sc fi mi fa K) ++ (wO o cJ ov)) (n := 556) (As := [.ref h, .int (nI s0), .ref o]) (rest := []) hC hz (k_L_hardestClay l G cI cZ cJ h ta sa ua T b r sw st fa sc fi mi lf hi n sw2 st2 fa2 sc2 fi2 mi2 lf2 hi2 n2 o ov s0 (by omega) (by omega) hs) kg_L_114 kd_yL_hardestClay dL_law_553 ⟨Nat.le_of_ble_eq_true rfl, Nat.le_of_ble_eq_true rfl⟩ [0, 1, 2, 3, 4, 5, 6, 7, 8, 9, 10, 11, 12, 13, 14, 15, 16, 17, 18, 19, 20, 21, 29] rfl (by decide) rfl (Nat.le_of_ble_eq_true rfl) ⟨by show _ ≤ 1080188; omega, by show _ ≤ 5855541; omega⟩ (ws2 := fun u1 => (wH h ta sa ua T) ++ (wT ta cI b r) ++ (wS sa cI cZ sw st fa sc fi mi lf hi n) ++ (wS ua cI cZ sw2 st2 fa2 sc2 fi2 mi2 lf2 hi2 n2) ++ (wN ma cI th n sw st b r T sc fi mi fa K) ++ (wO o cJ (vp_updL ov 0 ((nI (haF b r s0 4)).toInt64)))) [22, 23, 24, 25, 26, 27, 28] (fun _ => rfl) (wN ma cI th n sw st b r T sc fi mi fa K) (fun _ => rfl) rfl (cv_of 30 (by decide +kernel) (fun _ => rfl)) [h, ta 0, ta 1, ta 2, sa 0, sa 1, sa 2, sa 3, sa 4, sa 5, sa 6, sa 7, sa 8, ua 0, ua 1, ua 2, ua 3, ua 4, ua 5, ua 6, ua 7, ua 8, o] (fun _ => rfl) rfl rfl rfl (fun r2 u1 h3 => ?_)
  subst h3
  refine z_istore (lv' := [(5, .int (nI 0)), (0, .ref b0), (1, .ref h), (2, .ref (ma 0)), (3, .ref o), (4, .int (nI i))]) (n := 558) hC dL_law_556 (by decide) rfl rfl ?_
  refine z_aload_n (n := 559) hC dL_law_558 rfl 3 rfl rfl ?_
  refine z_aload_n (n := 560) hC dL_law_559 rfl 1 rfl rfl ?_
  refine z_iload (n := 562) hC dL_law_560 5 rfl rfl ?_
  refine z_iconst (v := nI 1) (n := 563) hC dL_law_562 (by decide) rfl ?_
  refine z_iadd (v := nI (i + 1)) (n := 564) hC dL_law_563 (nI_add i 1) rfl ?_
  refine z_sld (v := nI s0) (n := 565) hC hX hb0 hbA hL (i + 1) rfl (by omega) he1 dL_law_564 rfl ?_
  refine z_calli (R := room_1) (cells := 30 + 7 * j) (slots := 211 + 66 * j) (ws := (wH h ta sa ua T) ++ (wT ta cI b r) ++ (wS sa cI cZ sw st fa sc fi mi lf hi n) ++ (wS ua cI cZ sw2 st2 fa2 sc2 fi2 mi2 lf2 hi2 n2) ++ (wN ma cI th n sw st b r T sc fi mi fa K) ++ (wO o cJ (vp_updL ov 0 ((nI (haF b r s0 4)).toInt64)))) (n := 568) (As := [.int (nI s0)]) (rest := []) hC (k_X3_hardestClay l G cI cZ cJ ma th n sw st b r T sc fi mi fa K s0 (by omega) (by omega) hs) kg_L_116 kd_yX3_hardestClay dL_law_565 ⟨Nat.le_of_ble_eq_true rfl, Nat.le_of_ble_eq_true rfl⟩ 0 rfl rfl rfl [22, 23, 24, 25, 26, 27, 28] rfl (by decide) rfl (Nat.le_of_ble_eq_true rfl) ⟨by show _ ≤ 1080188; omega, by show _ ≤ 5855541; omega⟩ (ws2 := fun u4 => (wH h ta sa ua T) ++ (wT ta cI b r) ++ (wS sa cI cZ sw st fa sc fi mi lf hi n) ++ (wS ua cI cZ sw2 st2 fa2 sc2 fi2 mi2 lf2 hi2 n2) ++ (wN ma cI (nI 0) n sw st b r T sc fi mi fa K) ++ (wO o cJ (vp_updL ov 0 ((nI (haF b r s0 4)).toInt64)))) [0, 1, 2, 3, 4, 5, 6, 7, 8, 9, 10, 11, 12, 13, 14, 15, 16, 17, 18, 19, 20, 21, 29] (fun _ => rfl) ((wH h ta sa ua T) ++ (wT ta cI b r) ++ (wS sa cI cZ sw st fa sc fi mi lf hi n) ++ (wS ua cI cZ sw2 st2 fa2 sc2 fi2 mi2 lf2 hi2 n2) ++ (wO o cJ (vp_updL ov 0 ((nI (haF b r s0 4)).toInt64)))) (fun _ => rfl) rfl (cv_of 30 (by decide +kernel) (fun _ => rfl)) [ma 0, ma 1, ma 2, ma 3, ma 4, ma 5, ma 6] (fun _ => rfl) rfl rfl rfl (fun r5 u4 h6 => ?_)
  subst h6
  refine z_istore (lv' := [(6, .int (nI (haF b r s0 4))), (5, .int (nI 0)), (0, .ref b0), (1, .ref h), (2, .ref (ma 0)), (3, .ref o), (4, .int (nI i))]) (n := 570) hC dL_law_568 (by decide) rfl rfl ?_
  refine z_aload_n (n := 571) hC dL_law_570 rfl 4 rfl rfl ?_
  refine z_calli (R := room_1) (cells := 30 + 7 * j) (slots := 211 + 66 * j) (ws := (wH h ta sa ua T) ++ (wT ta cI b r) ++ (wS sa cI cZ sw st fa sc fi mi lf hi n) ++ (wS ua cI cZ sw2 st2 fa2 sc2 fi2 mi2 lf2 hi2 n2) ++ (wN ma cI (nI 0) n sw st b r T sc fi mi fa K) ++ (wO o cJ (vp_updL ov 0 ((nI (haF b r s0 4)).toInt64)))) (n := 574) (As := []) (rest := []) hC (k_X3_thrown l G cI cZ cJ ma (nI 0) n sw st b r T sc fi mi fa K (by omega) (by omega)) kg_L_89 kd_yX3_thrown dL_law_571 ⟨Nat.le_of_ble_eq_true rfl, Nat.le_of_ble_eq_true rfl⟩ 0 rfl rfl rfl [22, 23, 24, 25, 26, 27, 28] rfl (by decide) rfl (Nat.le_of_ble_eq_true rfl) ⟨by show _ ≤ 1080188; omega, by show _ ≤ 5855541; omega⟩ (ws2 := fun u7 => (wH h ta sa ua T) ++ (wT ta cI b r) ++ (wS sa cI cZ sw st fa sc fi mi lf hi n) ++ (wS ua cI cZ sw2 st2 fa2 sc2 fi2 mi2 lf2 hi2 n2) ++ (wN ma cI (nI 0) n sw st b r T sc fi mi fa K) ++ (wO o cJ (vp_updL ov 0 ((nI (haF b r s0 4)).toInt64)))) [0, 1, 2, 3, 4, 5, 6, 7, 8, 9, 10, 11, 12, 13, 14, 15, 16, 17, 18, 19, 20, 21, 29] (fun _ => rfl) ((wH h ta sa ua T) ++ (wT ta cI b r) ++ (wS sa cI cZ sw st fa sc fi mi lf hi n) ++ (wS ua cI cZ sw2 st2 fa2 sc2 fi2 mi2 lf2 hi2 n2) ++ (wO o cJ (vp_updL ov 0 ((nI (haF b r s0 4)).toInt64)))) (fun _ => rfl) rfl (cv_of 30 (by decide +kernel) (fun _ => rfl)) [ma 0, ma 1, ma 2, ma 3, ma 4, ma 5, ma 6] (fun _ => rfl) rfl rfl rfl (fun r8 u7 h9 => ?_)
  subst h9
  refine z_iload (n := 576) hC dL_law_574 1 rfl rfl ?_
  refine z_icmp_eq_n (tgt := 581) (n := 579) hC 0 0 rfl rfl (by omega) (by omega) dL_law_576 (by decide) rfl (fun c10 => ?_) (fun c10 => absurd rfl c10)
  refine z_iload (n := 583) hC dL_law_581 1 rfl rfl ?_
  refine z_if_ne (tgt := 598) (n := 586) hC dL_law_583 (by decide) rfl (fun c11 => absurd (nI_0) c11) (fun c11 => ?_)
  refine z_aload_n (n := 587) hC dL_law_586 rfl 5 rfl rfl ?_
  refine z_iconst (v := nI 0) (n := 588) hC dL_law_587 (by decide) rfl ?_
  refine z_lald (v := (nI (haF b r s0 4)).toInt64) (n := 589) hC 29 2 0 rfl rfl rfl (by omega) (by decide) dL_law_588 updL_at rfl ?_
  refine z_iload (n := 591) hC dL_law_589 0 rfl rfl ?_
  refine z_i2l (v := (nI (haF b r s0 4)).toInt64) (n := 592) hC dL_law_591 rfl rfl ?_
  refine z_lcmp (n := 593) hC dL_law_592 rfl ?_
  refine z_if_eq (tgt := 598) (n := 596) hC dL_law_593 (by decide) rfl (fun c12 => ?_) (fun c12 => absurd (lg_self _) c12)
  refine z_goto (n := 1448) hC dL_law_598 (by decide) ?_
  refine z_iinc (k0 := 6) (v := nI (i + 4)) (lv' := [(4, .int (nI (i + 4))), (6, .int (nI (haF b r s0 4))), (5, .int (nI 0)), (0, .ref b0), (1, .ref h), (2, .ref (ma 0)), (3, .ref o)]) (n := 1451) hC dL_law_1448 rfl (nI_add i 4) (by decide) rfl rfl ?_
  refine z_goto (n := 23) hC dL_law_1451 (by decide) ?_
  refine z_lv [3, 4, 5, 6, 0] (lv' := [(0, .ref b0), (1, .ref h), (2, .ref (ma 0)), (3, .ref o), (4, .int (nI (i + 4)))]) rfl ?_
  refine z_wid (k1 := 30 + 7 * (j + 1)) (k2 := 211 + 66 * (j + 1)) (by omega) (by omega) ?_
  exact ih (i + 4) T b r sw st fa sc fi mi lf hi n sw2 st2 fa2 sc2 fi2 mi2 lf2 hi2 n2 (nI 0) K (vp_updL ov 0 ((nI (haF b r s0 4)).toInt64)) (by omega) (iv_same hI)

set_option maxRecDepth 100000 in
set_option maxHeartbeats 4000000 in
theorem c_hardestClay_x (p : Program) (l : Launch) (e : Env) (s : State) (m : MethodId) (args : Array Value) (below : List Frame) (meth : Method) (c : Code) (G : va_G) (A : Nat → Prop) (Q : State → Prop) (cI cZ cJ : ClassId) (b0 h o : Nat) (ta sa ua ma : Nat → Nat) (L : Nat) (xs : Nat → Int32) (i j : Nat) (T : Nat) (b r sw st fa sc fi mi : Nat → Int32) (lf hi : Nat → Bool) (n : Nat) (sw2 st2 fa2 sc2 fi2 mi2 : Nat → Int32) (lf2 hi2 : Nat → Bool) (n2 : Nat) (th : Int32) (K : Nat → Int32) (ov : Nat → Int64)  (hW : LX p l s m args c G A cI cZ cJ b0 L xs) (hI : iv j T n b r st fa mi) (hi0 : i = 4 * j) (hiL : i + 4 ≤ L) (hb : xs (i + 1) < 0 ∨ nI 5 ≤ xs (i + 1)) (ih : LPj p l e s m args below meth c G A Q cI cZ cJ b0 h o ta sa ua ma (j + 1)) : LZ p l e s m args below meth c G A Q cI cZ cJ b0 h o ta sa ua ma (30 + 7 * j) (211 + 66 * j) i 545 T b r sw st fa sc fi mi lf hi n sw2 st2 fa2 sc2 fi2 mi2 lf2 hi2 n2 th K ov := by
  obtain ⟨hC, hl, hz, hX, hb0, hbA, hL⟩ := hW
  have hj : j ≤ 511 := by omega
  obtain ⟨hn, hT0, hst, hfa0, hmi0, hb9, hr9⟩ := id hI
  have hT : T < 2 ^ 29 := by omega
  have hfa : ∀ g : Nat, inN (fa g) (2 ^ 28) := fun g => inN_mono (hfa0 g) (by omega)
  have hmi : ∀ g : Nat, inN (mi g) (2 ^ 30) := fun g => inN_mono (hmi0 g) (by omega)
  have ham : ∀ (g zt : Nat), inN (amF b r zt g) 1000 := fun g zt => am_in hb9 hr9 zt g
  unfold LZ
  refine z_aload_n (n := 546) hC dL_law_545 rfl 1 rfl rfl ?_
  refine z_aload_n (n := 547) hC dL_law_546 rfl 0 rfl rfl ?_
  refine z_iload (n := 549) hC dL_law_547 4 rfl rfl ?_
  refine z_iconst (v := nI 1) (n := 550) hC dL_law_549 (by decide) rfl ?_
  refine z_iadd (v := nI (i + 1)) (n := 551) hC dL_law_550 (nI_add i 1) rfl ?_
  refine z_sld (v := xs (i + 1)) (n := 552) hC hX hb0 hbA hL (i + 1) rfl (by omega) rfl dL_law_551 rfl ?_
  refine z_aload_n (n := 553) hC dL_law_552 rfl 3 rfl rfl ?_
  refine z_callsiH (R := room_1) (cells := 30 + 7 * j) (slots := 211 + 66 * j) (ws := (wH h ta sa ua T) ++ (wT ta cI b r) ++ (wS sa cI cZ sw st fa sc fi mi lf hi n) ++ (wS ua cI cZ sw2 st2 fa2 sc2 fi2 mi2 lf2 hi2 n2) ++ (wN ma cI th n sw st b r T sc fi mi fa K) ++ (wO o cJ ov)) (n := 556) (As := [.ref h, .int (xs (i + 1)), .ref o]) (rest := []) hC hz (kx_L_hardestClay_x l G cI cZ cJ h ta sa ua T b r sw st fa sc fi mi lf hi n sw2 st2 fa2 sc2 fi2 mi2 lf2 hi2 n2 o ov (xs (i + 1)) hl (by omega) (by omega) hb) kg_L_114 kd_yL_hardestClay dL_law_553 ⟨Nat.le_of_ble_eq_true rfl, Nat.le_of_ble_eq_true rfl⟩ [0, 1, 2, 3, 4, 5, 6, 7, 8, 9, 10, 11, 12, 13, 14, 15, 16, 17, 18, 19, 20, 21, 29] rfl (by decide) rfl (Nat.le_of_ble_eq_true rfl) ⟨by show _ ≤ 1080188; omega, by show _ ≤ 5855541; omega⟩ (ws2 := fun u1 => (wH h ta sa ua T) ++ (wT ta cI b r) ++ (wS sa cI cZ sw st fa sc fi mi lf hi n) ++ (wS ua cI cZ sw2 st2 fa2 sc2 fi2 mi2 lf2 hi2 n2) ++ (wN ma cI th n sw st b r T sc fi mi fa K) ++ (wO o cJ ov)) [22, 23, 24, 25, 26, 27, 28] (fun _ => rfl) (wN ma cI th n sw st b r T sc fi mi fa K) (fun _ => rfl) rfl (cv_of 30 (by decide +kernel) (fun _ => rfl)) [h, ta 0, ta 1, ta 2, sa 0, sa 1, sa 2, sa 3, sa 4, sa 5, sa 6, sa 7, sa 8, ua 0, ua 1, ua 2, ua 3, ua 4, ua 5, ua 6, ua 7, ua 8, o] (fun _ => rfl) rfl rfl rfl (fun r2 u1 h3 => ?_)
  subst h3
  refine z_istore (lv' := [(5, .int (nI 1)), (0, .ref b0), (1, .ref h), (2, .ref (ma 0)), (3, .ref o), (4, .int (nI i))]) (n := 558) hC dL_law_556 (by decide) rfl rfl ?_
  refine z_aload_n (n := 559) hC dL_law_558 rfl 3 rfl rfl ?_
  refine z_aload_n (n := 560) hC dL_law_559 rfl 1 rfl rfl ?_
  refine z_iload (n := 562) hC dL_law_560 5 rfl rfl ?_
  refine z_iconst (v := nI 1) (n := 563) hC dL_law_562 (by decide) rfl ?_
  refine z_iadd (v := nI (i + 1)) (n := 564) hC dL_law_563 (nI_add i 1) rfl ?_
  refine z_sld (v := xs (i + 1)) (n := 565) hC hX hb0 hbA hL (i + 1) rfl (by omega) rfl dL_law_564 rfl ?_
  refine z_calli (R := room_1) (cells := 30 + 7 * j + 1) (slots := 211 + 66 * j + 6) (ws := (wH h ta sa ua T) ++ (wT ta cI b r) ++ (wS sa cI cZ sw st fa sc fi mi lf hi n) ++ (wS ua cI cZ sw2 st2 fa2 sc2 fi2 mi2 lf2 hi2 n2) ++ (wN ma cI th n sw st b r T sc fi mi fa K) ++ (wO o cJ ov)) (n := 568) (As := [.int (xs (i + 1))]) (rest := []) hC (k_X3_hardestClay_x l G cI cZ cJ ma th n sw st b r T sc fi mi fa K (xs (i + 1)) (by omega) (by omega) hb) kg_L_116 kd_yX3_hardestClay dL_law_565 ⟨Nat.le_of_ble_eq_true rfl, Nat.le_of_ble_eq_true rfl⟩ 0 rfl rfl rfl [22, 23, 24, 25, 26, 27, 28] rfl (by decide) rfl (Nat.le_of_ble_eq_true rfl) ⟨by show _ ≤ 1080188; omega, by show _ ≤ 5855541; omega⟩ (ws2 := fun u4 => (wH h ta sa ua T) ++ (wT ta cI b r) ++ (wS sa cI cZ sw st fa sc fi mi lf hi n) ++ (wS ua cI cZ sw2 st2 fa2 sc2 fi2 mi2 lf2 hi2 n2) ++ (wN ma cI (nI 1) n sw st b r T sc fi mi fa K) ++ (wO o cJ ov)) [0, 1, 2, 3, 4, 5, 6, 7, 8, 9, 10, 11, 12, 13, 14, 15, 16, 17, 18, 19, 20, 21, 29] (fun _ => rfl) ((wH h ta sa ua T) ++ (wT ta cI b r) ++ (wS sa cI cZ sw st fa sc fi mi lf hi n) ++ (wS ua cI cZ sw2 st2 fa2 sc2 fi2 mi2 lf2 hi2 n2) ++ (wO o cJ ov)) (fun _ => rfl) rfl (cv_of 30 (by decide +kernel) (fun _ => rfl)) [ma 0, ma 1, ma 2, ma 3, ma 4, ma 5, ma 6] (fun _ => rfl) rfl rfl rfl (fun r5 u4 h6 => ?_)
  subst h6
  refine z_istore (lv' := [(6, .int (nI 0)), (5, .int (nI 1)), (0, .ref b0), (1, .ref h), (2, .ref (ma 0)), (3, .ref o), (4, .int (nI i))]) (n := 570) hC dL_law_568 (by decide) rfl rfl ?_
  refine z_aload_n (n := 571) hC dL_law_570 rfl 4 rfl rfl ?_
  refine z_calli (R := room_1) (cells := 30 + 7 * j + 1) (slots := 211 + 66 * j + 6) (ws := (wH h ta sa ua T) ++ (wT ta cI b r) ++ (wS sa cI cZ sw st fa sc fi mi lf hi n) ++ (wS ua cI cZ sw2 st2 fa2 sc2 fi2 mi2 lf2 hi2 n2) ++ (wN ma cI (nI 1) n sw st b r T sc fi mi fa K) ++ (wO o cJ ov)) (n := 574) (As := []) (rest := []) hC (k_X3_thrown l G cI cZ cJ ma (nI 1) n sw st b r T sc fi mi fa K (by omega) (by omega)) kg_L_89 kd_yX3_thrown dL_law_571 ⟨Nat.le_of_ble_eq_true rfl, Nat.le_of_ble_eq_true rfl⟩ 0 rfl rfl rfl [22, 23, 24, 25, 26, 27, 28] rfl (by decide) rfl (Nat.le_of_ble_eq_true rfl) ⟨by show _ ≤ 1080188; omega, by show _ ≤ 5855541; omega⟩ (ws2 := fun u7 => (wH h ta sa ua T) ++ (wT ta cI b r) ++ (wS sa cI cZ sw st fa sc fi mi lf hi n) ++ (wS ua cI cZ sw2 st2 fa2 sc2 fi2 mi2 lf2 hi2 n2) ++ (wN ma cI (nI 1) n sw st b r T sc fi mi fa K) ++ (wO o cJ ov)) [0, 1, 2, 3, 4, 5, 6, 7, 8, 9, 10, 11, 12, 13, 14, 15, 16, 17, 18, 19, 20, 21, 29] (fun _ => rfl) ((wH h ta sa ua T) ++ (wT ta cI b r) ++ (wS sa cI cZ sw st fa sc fi mi lf hi n) ++ (wS ua cI cZ sw2 st2 fa2 sc2 fi2 mi2 lf2 hi2 n2) ++ (wO o cJ ov)) (fun _ => rfl) rfl (cv_of 30 (by decide +kernel) (fun _ => rfl)) [ma 0, ma 1, ma 2, ma 3, ma 4, ma 5, ma 6] (fun _ => rfl) rfl rfl rfl (fun r8 u7 h9 => ?_)
  subst h9
  refine z_iload (n := 576) hC dL_law_574 1 rfl rfl ?_
  refine z_icmp_eq_n (tgt := 581) (n := 579) hC 1 1 rfl rfl (by omega) (by omega) dL_law_576 (by decide) rfl (fun c10 => ?_) (fun c10 => absurd rfl c10)
  refine z_iload (n := 583) hC dL_law_581 1 rfl rfl ?_
  refine z_if_ne (tgt := 598) (n := 586) hC dL_law_583 (by decide) rfl (fun c11 => ?_) (fun c11 => absurd c11 (by decide))
  refine z_goto (n := 1448) hC dL_law_598 (by decide) ?_
  refine z_iinc (k0 := 6) (v := nI (i + 4)) (lv' := [(4, .int (nI (i + 4))), (6, .int (nI 0)), (5, .int (nI 1)), (0, .ref b0), (1, .ref h), (2, .ref (ma 0)), (3, .ref o)]) (n := 1451) hC dL_law_1448 rfl (nI_add i 4) (by decide) rfl rfl ?_
  refine z_goto (n := 23) hC dL_law_1451 (by decide) ?_
  refine z_lv [3, 4, 5, 6, 0] (lv' := [(0, .ref b0), (1, .ref h), (2, .ref (ma 0)), (3, .ref o), (4, .int (nI (i + 4)))]) rfl ?_
  refine z_wid (k1 := 30 + 7 * (j + 1)) (k2 := 211 + 66 * (j + 1)) (by omega) (by omega) ?_
  exact ih (i + 4) T b r sw st fa sc fi mi lf hi n sw2 st2 fa2 sc2 fi2 mi2 lf2 hi2 n2 (nI 1) K ov (by omega) (iv_same hI)

set_option maxRecDepth 100000 in
set_option maxHeartbeats 4000000 in
theorem c_standOf (p : Program) (l : Launch) (e : Env) (s : State) (m : MethodId) (args : Array Value) (below : List Frame) (meth : Method) (c : Code) (G : va_G) (A : Nat → Prop) (Q : State → Prop) (cI cZ cJ : ClassId) (b0 h o : Nat) (ta sa ua ma : Nat → Nat) (L : Nat) (xs : Nat → Int32) (i j : Nat) (T : Nat) (b r sw st fa sc fi mi : Nat → Int32) (lf hi : Nat → Bool) (n : Nat) (sw2 st2 fa2 sc2 fi2 mi2 : Nat → Int32) (lf2 hi2 : Nat → Bool) (n2 : Nat) (th : Int32) (K : Nat → Int32) (ov : Nat → Int64) (g : Nat) (hW : LX p l s m args c G A cI cZ cJ b0 L xs) (hI : iv j T n b r st fa mi) (hi0 : i = 4 * j) (hiL : i + 4 ≤ L) (he1 : xs (i + 1) = nI g) (hg : g < n) (ih : LPj p l e s m args below meth c G A Q cI cZ cJ b0 h o ta sa ua ma (j + 1)) : LZ p l e s m args below meth c G A Q cI cZ cJ b0 h o ta sa ua ma (30 + 7 * j) (211 + 66 * j) i 601 T b r sw st fa sc fi mi lf hi n sw2 st2 fa2 sc2 fi2 mi2 lf2 hi2 n2 th K ov := by
  obtain ⟨hC, hl, hz, hX, hb0, hbA, hL⟩ := hW
  have hj : j ≤ 511 := by omega
  obtain ⟨hn, hT0, hst, hfa0, hmi0, hb9, hr9⟩ := id hI
  have hT : T < 2 ^ 29 := by omega
  have hfa : ∀ g : Nat, inN (fa g) (2 ^ 28) := fun g => inN_mono (hfa0 g) (by omega)
  have hmi : ∀ g : Nat, inN (mi g) (2 ^ 30) := fun g => inN_mono (hmi0 g) (by omega)
  have ham : ∀ (g zt : Nat), inN (amF b r zt g) 1000 := fun g zt => am_in hb9 hr9 zt g
  unfold LZ
  refine z_aload_n (n := 602) hC dL_law_601 rfl 1 rfl rfl ?_
  refine z_aload_n (n := 603) hC dL_law_602 rfl 0 rfl rfl ?_
  refine z_iload (n := 605) hC dL_law_603 4 rfl rfl ?_
  refine z_iconst (v := nI 1) (n := 606) hC dL_law_605 (by decide) rfl ?_
  refine z_iadd (v := nI (i + 1)) (n := 607) hC dL_law_606 (nI_add i 1) rfl ?_
  refine z_sld (v := nI g) (n := 608) hC hX hb0 hbA hL (i + 1) rfl (by omega) he1 dL_law_607 rfl ?_
  refine z_aload_n (n := 609) hC dL_law_608 rfl 3 rfl rfl ?_
  refine z_callsiH (R := room_1) (cells := 30 + 7 * j) (slots := 211 + 66 * j) (ws := (wH h ta sa ua T) ++ (wT ta cI b r) ++ (wS sa cI cZ sw st fa sc fi mi lf hi n) ++ (wS ua cI cZ sw2 st2 fa2 sc2 fi2 mi2 lf2 hi2 n2) ++ (wN ma cI th n sw st b r T sc fi mi fa K) ++ (wO o cJ ov)) (n := 612) (As := [.ref h, .int (nI g), .ref o]) (rest := []) hC hz (k_L_standOf l G cI cZ cJ h ta sa ua T b r sw st fa sc fi mi lf hi n sw2 st2 fa2 sc2 fi2 mi2 lf2 hi2 n2 o ov g (by omega) (by omega) hg) kg_L_117 kd_yL_standOf dL_law_609 ⟨Nat.le_of_ble_eq_true rfl, Nat.le_of_ble_eq_true rfl⟩ [0, 1, 2, 3, 4, 5, 6, 7, 8, 9, 10, 11, 12, 13, 14, 15, 16, 17, 18, 19, 20, 21, 29] rfl (by decide) rfl (Nat.le_of_ble_eq_true rfl) ⟨by show _ ≤ 1080188; omega, by show _ ≤ 5855541; omega⟩ (ws2 := fun u1 => (wH h ta sa ua T) ++ (wT ta cI b r) ++ (wS sa cI cZ sw st fa sc fi mi lf hi n) ++ (wS ua cI cZ sw2 st2 fa2 sc2 fi2 mi2 lf2 hi2 n2) ++ (wN ma cI th n sw st b r T sc fi mi fa K) ++ (wO o cJ (vp_updL ov 0 ((nI (stF T g)).toInt64)))) [22, 23, 24, 25, 26, 27, 28] (fun _ => rfl) (wN ma cI th n sw st b r T sc fi mi fa K) (fun _ => rfl) rfl (cv_of 30 (by decide +kernel) (fun _ => rfl)) [h, ta 0, ta 1, ta 2, sa 0, sa 1, sa 2, sa 3, sa 4, sa 5, sa 6, sa 7, sa 8, ua 0, ua 1, ua 2, ua 3, ua 4, ua 5, ua 6, ua 7, ua 8, o] (fun _ => rfl) rfl rfl rfl (fun r2 u1 h3 => ?_)
  subst h3
  refine z_istore (lv' := [(5, .int (nI 0)), (0, .ref b0), (1, .ref h), (2, .ref (ma 0)), (3, .ref o), (4, .int (nI i))]) (n := 614) hC dL_law_612 (by decide) rfl rfl ?_
  refine z_aload_n (n := 615) hC dL_law_614 rfl 3 rfl rfl ?_
  refine z_aload_n (n := 616) hC dL_law_615 rfl 1 rfl rfl ?_
  refine z_iload (n := 618) hC dL_law_616 5 rfl rfl ?_
  refine z_iconst (v := nI 1) (n := 619) hC dL_law_618 (by decide) rfl ?_
  refine z_iadd (v := nI (i + 1)) (n := 620) hC dL_law_619 (nI_add i 1) rfl ?_
  refine z_sld (v := nI g) (n := 621) hC hX hb0 hbA hL (i + 1) rfl (by omega) he1 dL_law_620 rfl ?_
  refine z_calli (R := room_1) (cells := 30 + 7 * j) (slots := 211 + 66 * j) (ws := (wH h ta sa ua T) ++ (wT ta cI b r) ++ (wS sa cI cZ sw st fa sc fi mi lf hi n) ++ (wS ua cI cZ sw2 st2 fa2 sc2 fi2 mi2 lf2 hi2 n2) ++ (wN ma cI th n sw st b r T sc fi mi fa K) ++ (wO o cJ (vp_updL ov 0 ((nI (stF T g)).toInt64)))) (n := 624) (As := [.int (nI g)]) (rest := []) hC (k_X3_standOf l G cI cZ cJ ma th n sw st b r T sc fi mi fa K g (by omega) (by omega) hg hst) kg_L_119 kd_yX3_standOf dL_law_621 ⟨Nat.le_of_ble_eq_true rfl, Nat.le_of_ble_eq_true rfl⟩ 0 rfl rfl rfl [22, 23, 24, 25, 26, 27, 28] rfl (by decide) rfl (Nat.le_of_ble_eq_true rfl) ⟨by show _ ≤ 1080188; omega, by show _ ≤ 5855541; omega⟩ (ws2 := fun u4 => (wH h ta sa ua T) ++ (wT ta cI b r) ++ (wS sa cI cZ sw st fa sc fi mi lf hi n) ++ (wS ua cI cZ sw2 st2 fa2 sc2 fi2 mi2 lf2 hi2 n2) ++ (wN ma cI (nI 0) n sw st b r T sc fi mi fa K) ++ (wO o cJ (vp_updL ov 0 ((nI (stF T g)).toInt64)))) [0, 1, 2, 3, 4, 5, 6, 7, 8, 9, 10, 11, 12, 13, 14, 15, 16, 17, 18, 19, 20, 21, 29] (fun _ => rfl) ((wH h ta sa ua T) ++ (wT ta cI b r) ++ (wS sa cI cZ sw st fa sc fi mi lf hi n) ++ (wS ua cI cZ sw2 st2 fa2 sc2 fi2 mi2 lf2 hi2 n2) ++ (wO o cJ (vp_updL ov 0 ((nI (stF T g)).toInt64)))) (fun _ => rfl) rfl (cv_of 30 (by decide +kernel) (fun _ => rfl)) [ma 0, ma 1, ma 2, ma 3, ma 4, ma 5, ma 6] (fun _ => rfl) rfl rfl rfl (fun r5 u4 h6 => ?_)
  subst h6
  refine z_istore (lv' := [(6, .int (nI (stF T g))), (5, .int (nI 0)), (0, .ref b0), (1, .ref h), (2, .ref (ma 0)), (3, .ref o), (4, .int (nI i))]) (n := 626) hC dL_law_624 (by decide) rfl rfl ?_
  refine z_aload_n (n := 627) hC dL_law_626 rfl 4 rfl rfl ?_
  refine z_calli (R := room_1) (cells := 30 + 7 * j) (slots := 211 + 66 * j) (ws := (wH h ta sa ua T) ++ (wT ta cI b r) ++ (wS sa cI cZ sw st fa sc fi mi lf hi n) ++ (wS ua cI cZ sw2 st2 fa2 sc2 fi2 mi2 lf2 hi2 n2) ++ (wN ma cI (nI 0) n sw st b r T sc fi mi fa K) ++ (wO o cJ (vp_updL ov 0 ((nI (stF T g)).toInt64)))) (n := 630) (As := []) (rest := []) hC (k_X3_thrown l G cI cZ cJ ma (nI 0) n sw st b r T sc fi mi fa K (by omega) (by omega)) kg_L_89 kd_yX3_thrown dL_law_627 ⟨Nat.le_of_ble_eq_true rfl, Nat.le_of_ble_eq_true rfl⟩ 0 rfl rfl rfl [22, 23, 24, 25, 26, 27, 28] rfl (by decide) rfl (Nat.le_of_ble_eq_true rfl) ⟨by show _ ≤ 1080188; omega, by show _ ≤ 5855541; omega⟩ (ws2 := fun u7 => (wH h ta sa ua T) ++ (wT ta cI b r) ++ (wS sa cI cZ sw st fa sc fi mi lf hi n) ++ (wS ua cI cZ sw2 st2 fa2 sc2 fi2 mi2 lf2 hi2 n2) ++ (wN ma cI (nI 0) n sw st b r T sc fi mi fa K) ++ (wO o cJ (vp_updL ov 0 ((nI (stF T g)).toInt64)))) [0, 1, 2, 3, 4, 5, 6, 7, 8, 9, 10, 11, 12, 13, 14, 15, 16, 17, 18, 19, 20, 21, 29] (fun _ => rfl) ((wH h ta sa ua T) ++ (wT ta cI b r) ++ (wS sa cI cZ sw st fa sc fi mi lf hi n) ++ (wS ua cI cZ sw2 st2 fa2 sc2 fi2 mi2 lf2 hi2 n2) ++ (wO o cJ (vp_updL ov 0 ((nI (stF T g)).toInt64)))) (fun _ => rfl) rfl (cv_of 30 (by decide +kernel) (fun _ => rfl)) [ma 0, ma 1, ma 2, ma 3, ma 4, ma 5, ma 6] (fun _ => rfl) rfl rfl rfl (fun r8 u7 h9 => ?_)
  subst h9
  refine z_iload (n := 632) hC dL_law_630 1 rfl rfl ?_
  refine z_icmp_eq_n (tgt := 637) (n := 635) hC 0 0 rfl rfl (by omega) (by omega) dL_law_632 (by decide) rfl (fun c10 => ?_) (fun c10 => absurd rfl c10)
  refine z_iload (n := 639) hC dL_law_637 1 rfl rfl ?_
  refine z_if_ne (tgt := 654) (n := 642) hC dL_law_639 (by decide) rfl (fun c11 => absurd (nI_0) c11) (fun c11 => ?_)
  refine z_aload_n (n := 643) hC dL_law_642 rfl 5 rfl rfl ?_
  refine z_iconst (v := nI 0) (n := 644) hC dL_law_643 (by decide) rfl ?_
  refine z_lald (v := (nI (stF T g)).toInt64) (n := 645) hC 29 2 0 rfl rfl rfl (by omega) (by decide) dL_law_644 updL_at rfl ?_
  refine z_iload (n := 647) hC dL_law_645 0 rfl rfl ?_
  refine z_i2l (v := (nI (stF T g)).toInt64) (n := 648) hC dL_law_647 rfl rfl ?_
  refine z_lcmp (n := 649) hC dL_law_648 rfl ?_
  refine z_if_eq (tgt := 654) (n := 652) hC dL_law_649 (by decide) rfl (fun c12 => ?_) (fun c12 => absurd (lg_self _) c12)
  refine z_goto (n := 1448) hC dL_law_654 (by decide) ?_
  refine z_iinc (k0 := 6) (v := nI (i + 4)) (lv' := [(4, .int (nI (i + 4))), (6, .int (nI (stF T g))), (5, .int (nI 0)), (0, .ref b0), (1, .ref h), (2, .ref (ma 0)), (3, .ref o)]) (n := 1451) hC dL_law_1448 rfl (nI_add i 4) (by decide) rfl rfl ?_
  refine z_goto (n := 23) hC dL_law_1451 (by decide) ?_
  refine z_lv [3, 4, 5, 6, 0] (lv' := [(0, .ref b0), (1, .ref h), (2, .ref (ma 0)), (3, .ref o), (4, .int (nI (i + 4)))]) rfl ?_
  refine z_wid (k1 := 30 + 7 * (j + 1)) (k2 := 211 + 66 * (j + 1)) (by omega) (by omega) ?_
  exact ih (i + 4) T b r sw st fa sc fi mi lf hi n sw2 st2 fa2 sc2 fi2 mi2 lf2 hi2 n2 (nI 0) K (vp_updL ov 0 ((nI (stF T g)).toInt64)) (by omega) (iv_same hI)

set_option maxRecDepth 100000 in
set_option maxHeartbeats 4000000 in
theorem c_standOf_x (p : Program) (l : Launch) (e : Env) (s : State) (m : MethodId) (args : Array Value) (below : List Frame) (meth : Method) (c : Code) (G : va_G) (A : Nat → Prop) (Q : State → Prop) (cI cZ cJ : ClassId) (b0 h o : Nat) (ta sa ua ma : Nat → Nat) (L : Nat) (xs : Nat → Int32) (i j : Nat) (T : Nat) (b r sw st fa sc fi mi : Nat → Int32) (lf hi : Nat → Bool) (n : Nat) (sw2 st2 fa2 sc2 fi2 mi2 : Nat → Int32) (lf2 hi2 : Nat → Bool) (n2 : Nat) (th : Int32) (K : Nat → Int32) (ov : Nat → Int64)  (hW : LX p l s m args c G A cI cZ cJ b0 L xs) (hI : iv j T n b r st fa mi) (hi0 : i = 4 * j) (hiL : i + 4 ≤ L) (hb : xs (i + 1) < 0 ∨ nI n ≤ xs (i + 1)) (ih : LPj p l e s m args below meth c G A Q cI cZ cJ b0 h o ta sa ua ma (j + 1)) : LZ p l e s m args below meth c G A Q cI cZ cJ b0 h o ta sa ua ma (30 + 7 * j) (211 + 66 * j) i 601 T b r sw st fa sc fi mi lf hi n sw2 st2 fa2 sc2 fi2 mi2 lf2 hi2 n2 th K ov := by
  obtain ⟨hC, hl, hz, hX, hb0, hbA, hL⟩ := hW
  have hj : j ≤ 511 := by omega
  obtain ⟨hn, hT0, hst, hfa0, hmi0, hb9, hr9⟩ := id hI
  have hT : T < 2 ^ 29 := by omega
  have hfa : ∀ g : Nat, inN (fa g) (2 ^ 28) := fun g => inN_mono (hfa0 g) (by omega)
  have hmi : ∀ g : Nat, inN (mi g) (2 ^ 30) := fun g => inN_mono (hmi0 g) (by omega)
  have ham : ∀ (g zt : Nat), inN (amF b r zt g) 1000 := fun g zt => am_in hb9 hr9 zt g
  unfold LZ
  refine z_aload_n (n := 602) hC dL_law_601 rfl 1 rfl rfl ?_
  refine z_aload_n (n := 603) hC dL_law_602 rfl 0 rfl rfl ?_
  refine z_iload (n := 605) hC dL_law_603 4 rfl rfl ?_
  refine z_iconst (v := nI 1) (n := 606) hC dL_law_605 (by decide) rfl ?_
  refine z_iadd (v := nI (i + 1)) (n := 607) hC dL_law_606 (nI_add i 1) rfl ?_
  refine z_sld (v := xs (i + 1)) (n := 608) hC hX hb0 hbA hL (i + 1) rfl (by omega) rfl dL_law_607 rfl ?_
  refine z_aload_n (n := 609) hC dL_law_608 rfl 3 rfl rfl ?_
  refine z_callsiH (R := room_1) (cells := 30 + 7 * j) (slots := 211 + 66 * j) (ws := (wH h ta sa ua T) ++ (wT ta cI b r) ++ (wS sa cI cZ sw st fa sc fi mi lf hi n) ++ (wS ua cI cZ sw2 st2 fa2 sc2 fi2 mi2 lf2 hi2 n2) ++ (wN ma cI th n sw st b r T sc fi mi fa K) ++ (wO o cJ ov)) (n := 612) (As := [.ref h, .int (xs (i + 1)), .ref o]) (rest := []) hC hz (kx_L_standOf_x l G cI cZ cJ h ta sa ua T b r sw st fa sc fi mi lf hi n sw2 st2 fa2 sc2 fi2 mi2 lf2 hi2 n2 o ov (xs (i + 1)) hl (by omega) (by omega) hb) kg_L_117 kd_yL_standOf dL_law_609 ⟨Nat.le_of_ble_eq_true rfl, Nat.le_of_ble_eq_true rfl⟩ [0, 1, 2, 3, 4, 5, 6, 7, 8, 9, 10, 11, 12, 13, 14, 15, 16, 17, 18, 19, 20, 21, 29] rfl (by decide) rfl (Nat.le_of_ble_eq_true rfl) ⟨by show _ ≤ 1080188; omega, by show _ ≤ 5855541; omega⟩ (ws2 := fun u1 => (wH h ta sa ua T) ++ (wT ta cI b r) ++ (wS sa cI cZ sw st fa sc fi mi lf hi n) ++ (wS ua cI cZ sw2 st2 fa2 sc2 fi2 mi2 lf2 hi2 n2) ++ (wN ma cI th n sw st b r T sc fi mi fa K) ++ (wO o cJ ov)) [22, 23, 24, 25, 26, 27, 28] (fun _ => rfl) (wN ma cI th n sw st b r T sc fi mi fa K) (fun _ => rfl) rfl (cv_of 30 (by decide +kernel) (fun _ => rfl)) [h, ta 0, ta 1, ta 2, sa 0, sa 1, sa 2, sa 3, sa 4, sa 5, sa 6, sa 7, sa 8, ua 0, ua 1, ua 2, ua 3, ua 4, ua 5, ua 6, ua 7, ua 8, o] (fun _ => rfl) rfl rfl rfl (fun r2 u1 h3 => ?_)
  subst h3
  refine z_istore (lv' := [(5, .int (nI 1)), (0, .ref b0), (1, .ref h), (2, .ref (ma 0)), (3, .ref o), (4, .int (nI i))]) (n := 614) hC dL_law_612 (by decide) rfl rfl ?_
  refine z_aload_n (n := 615) hC dL_law_614 rfl 3 rfl rfl ?_
  refine z_aload_n (n := 616) hC dL_law_615 rfl 1 rfl rfl ?_
  refine z_iload (n := 618) hC dL_law_616 5 rfl rfl ?_
  refine z_iconst (v := nI 1) (n := 619) hC dL_law_618 (by decide) rfl ?_
  refine z_iadd (v := nI (i + 1)) (n := 620) hC dL_law_619 (nI_add i 1) rfl ?_
  refine z_sld (v := xs (i + 1)) (n := 621) hC hX hb0 hbA hL (i + 1) rfl (by omega) rfl dL_law_620 rfl ?_
  refine z_calli (R := room_1) (cells := 30 + 7 * j + 1) (slots := 211 + 66 * j + 6) (ws := (wH h ta sa ua T) ++ (wT ta cI b r) ++ (wS sa cI cZ sw st fa sc fi mi lf hi n) ++ (wS ua cI cZ sw2 st2 fa2 sc2 fi2 mi2 lf2 hi2 n2) ++ (wN ma cI th n sw st b r T sc fi mi fa K) ++ (wO o cJ ov)) (n := 624) (As := [.int (xs (i + 1))]) (rest := []) hC (k_X3_standOf_x l G cI cZ cJ ma th n sw st b r T sc fi mi fa K (xs (i + 1)) (by omega) (by omega) hb) kg_L_119 kd_yX3_standOf dL_law_621 ⟨Nat.le_of_ble_eq_true rfl, Nat.le_of_ble_eq_true rfl⟩ 0 rfl rfl rfl [22, 23, 24, 25, 26, 27, 28] rfl (by decide) rfl (Nat.le_of_ble_eq_true rfl) ⟨by show _ ≤ 1080188; omega, by show _ ≤ 5855541; omega⟩ (ws2 := fun u4 => (wH h ta sa ua T) ++ (wT ta cI b r) ++ (wS sa cI cZ sw st fa sc fi mi lf hi n) ++ (wS ua cI cZ sw2 st2 fa2 sc2 fi2 mi2 lf2 hi2 n2) ++ (wN ma cI (nI 1) n sw st b r T sc fi mi fa K) ++ (wO o cJ ov)) [0, 1, 2, 3, 4, 5, 6, 7, 8, 9, 10, 11, 12, 13, 14, 15, 16, 17, 18, 19, 20, 21, 29] (fun _ => rfl) ((wH h ta sa ua T) ++ (wT ta cI b r) ++ (wS sa cI cZ sw st fa sc fi mi lf hi n) ++ (wS ua cI cZ sw2 st2 fa2 sc2 fi2 mi2 lf2 hi2 n2) ++ (wO o cJ ov)) (fun _ => rfl) rfl (cv_of 30 (by decide +kernel) (fun _ => rfl)) [ma 0, ma 1, ma 2, ma 3, ma 4, ma 5, ma 6] (fun _ => rfl) rfl rfl rfl (fun r5 u4 h6 => ?_)
  subst h6
  refine z_istore (lv' := [(6, .int (nI 0)), (5, .int (nI 1)), (0, .ref b0), (1, .ref h), (2, .ref (ma 0)), (3, .ref o), (4, .int (nI i))]) (n := 626) hC dL_law_624 (by decide) rfl rfl ?_
  refine z_aload_n (n := 627) hC dL_law_626 rfl 4 rfl rfl ?_
  refine z_calli (R := room_1) (cells := 30 + 7 * j + 1) (slots := 211 + 66 * j + 6) (ws := (wH h ta sa ua T) ++ (wT ta cI b r) ++ (wS sa cI cZ sw st fa sc fi mi lf hi n) ++ (wS ua cI cZ sw2 st2 fa2 sc2 fi2 mi2 lf2 hi2 n2) ++ (wN ma cI (nI 1) n sw st b r T sc fi mi fa K) ++ (wO o cJ ov)) (n := 630) (As := []) (rest := []) hC (k_X3_thrown l G cI cZ cJ ma (nI 1) n sw st b r T sc fi mi fa K (by omega) (by omega)) kg_L_89 kd_yX3_thrown dL_law_627 ⟨Nat.le_of_ble_eq_true rfl, Nat.le_of_ble_eq_true rfl⟩ 0 rfl rfl rfl [22, 23, 24, 25, 26, 27, 28] rfl (by decide) rfl (Nat.le_of_ble_eq_true rfl) ⟨by show _ ≤ 1080188; omega, by show _ ≤ 5855541; omega⟩ (ws2 := fun u7 => (wH h ta sa ua T) ++ (wT ta cI b r) ++ (wS sa cI cZ sw st fa sc fi mi lf hi n) ++ (wS ua cI cZ sw2 st2 fa2 sc2 fi2 mi2 lf2 hi2 n2) ++ (wN ma cI (nI 1) n sw st b r T sc fi mi fa K) ++ (wO o cJ ov)) [0, 1, 2, 3, 4, 5, 6, 7, 8, 9, 10, 11, 12, 13, 14, 15, 16, 17, 18, 19, 20, 21, 29] (fun _ => rfl) ((wH h ta sa ua T) ++ (wT ta cI b r) ++ (wS sa cI cZ sw st fa sc fi mi lf hi n) ++ (wS ua cI cZ sw2 st2 fa2 sc2 fi2 mi2 lf2 hi2 n2) ++ (wO o cJ ov)) (fun _ => rfl) rfl (cv_of 30 (by decide +kernel) (fun _ => rfl)) [ma 0, ma 1, ma 2, ma 3, ma 4, ma 5, ma 6] (fun _ => rfl) rfl rfl rfl (fun r8 u7 h9 => ?_)
  subst h9
  refine z_iload (n := 632) hC dL_law_630 1 rfl rfl ?_
  refine z_icmp_eq_n (tgt := 637) (n := 635) hC 1 1 rfl rfl (by omega) (by omega) dL_law_632 (by decide) rfl (fun c10 => ?_) (fun c10 => absurd rfl c10)
  refine z_iload (n := 639) hC dL_law_637 1 rfl rfl ?_
  refine z_if_ne (tgt := 654) (n := 642) hC dL_law_639 (by decide) rfl (fun c11 => ?_) (fun c11 => absurd c11 (by decide))
  refine z_goto (n := 1448) hC dL_law_654 (by decide) ?_
  refine z_iinc (k0 := 6) (v := nI (i + 4)) (lv' := [(4, .int (nI (i + 4))), (6, .int (nI 0)), (5, .int (nI 1)), (0, .ref b0), (1, .ref h), (2, .ref (ma 0)), (3, .ref o)]) (n := 1451) hC dL_law_1448 rfl (nI_add i 4) (by decide) rfl rfl ?_
  refine z_goto (n := 23) hC dL_law_1451 (by decide) ?_
  refine z_lv [3, 4, 5, 6, 0] (lv' := [(0, .ref b0), (1, .ref h), (2, .ref (ma 0)), (3, .ref o), (4, .int (nI (i + 4)))]) rfl ?_
  refine z_wid (k1 := 30 + 7 * (j + 1)) (k2 := 211 + 66 * (j + 1)) (by omega) (by omega) ?_
  exact ih (i + 4) T b r sw st fa sc fi mi lf hi n sw2 st2 fa2 sc2 fi2 mi2 lf2 hi2 n2 (nI 1) K ov (by omega) (iv_same hI)

set_option maxRecDepth 100000 in
set_option maxHeartbeats 4000000 in
theorem c_angleFor (p : Program) (l : Launch) (e : Env) (s : State) (m : MethodId) (args : Array Value) (below : List Frame) (meth : Method) (c : Code) (G : va_G) (A : Nat → Prop) (Q : State → Prop) (cI cZ cJ : ClassId) (b0 h o : Nat) (ta sa ua ma : Nat → Nat) (L : Nat) (xs : Nat → Int32) (i j : Nat) (T : Nat) (b r sw st fa sc fi mi : Nat → Int32) (lf hi : Nat → Bool) (n : Nat) (sw2 st2 fa2 sc2 fi2 mi2 : Nat → Int32) (lf2 hi2 : Nat → Bool) (n2 : Nat) (th : Int32) (K : Nat → Int32) (ov : Nat → Int64) (g : Nat) (hW : LX p l s m args c G A cI cZ cJ b0 L xs) (hI : iv j T n b r st fa mi) (hi0 : i = 4 * j) (hiL : i + 4 ≤ L) (he1 : xs (i + 1) = nI g) (hg : g < n) (ih : LPj p l e s m args below meth c G A Q cI cZ cJ b0 h o ta sa ua ma (j + 1)) : LZ p l e s m args below meth c G A Q cI cZ cJ b0 h o ta sa ua ma (30 + 7 * j) (211 + 66 * j) i 657 T b r sw st fa sc fi mi lf hi n sw2 st2 fa2 sc2 fi2 mi2 lf2 hi2 n2 th K ov := by
  obtain ⟨hC, hl, hz, hX, hb0, hbA, hL⟩ := hW
  have hj : j ≤ 511 := by omega
  obtain ⟨hn, hT0, hst, hfa0, hmi0, hb9, hr9⟩ := id hI
  have hT : T < 2 ^ 29 := by omega
  have hfa : ∀ g : Nat, inN (fa g) (2 ^ 28) := fun g => inN_mono (hfa0 g) (by omega)
  have hmi : ∀ g : Nat, inN (mi g) (2 ^ 30) := fun g => inN_mono (hmi0 g) (by omega)
  have ham : ∀ (g zt : Nat), inN (amF b r zt g) 1000 := fun g zt => am_in hb9 hr9 zt g
  unfold LZ
  refine z_aload_n (n := 658) hC dL_law_657 rfl 1 rfl rfl ?_
  refine z_aload_n (n := 659) hC dL_law_658 rfl 0 rfl rfl ?_
  refine z_iload (n := 661) hC dL_law_659 4 rfl rfl ?_
  refine z_iconst (v := nI 1) (n := 662) hC dL_law_661 (by decide) rfl ?_
  refine z_iadd (v := nI (i + 1)) (n := 663) hC dL_law_662 (nI_add i 1) rfl ?_
  refine z_sld (v := nI g) (n := 664) hC hX hb0 hbA hL (i + 1) rfl (by omega) he1 dL_law_663 rfl ?_
  refine z_aload_n (n := 665) hC dL_law_664 rfl 3 rfl rfl ?_
  refine z_callsiH (R := room_1) (cells := 30 + 7 * j) (slots := 211 + 66 * j) (ws := (wH h ta sa ua T) ++ (wT ta cI b r) ++ (wS sa cI cZ sw st fa sc fi mi lf hi n) ++ (wS ua cI cZ sw2 st2 fa2 sc2 fi2 mi2 lf2 hi2 n2) ++ (wN ma cI th n sw st b r T sc fi mi fa K) ++ (wO o cJ ov)) (n := 668) (As := [.ref h, .int (nI g), .ref o]) (rest := []) hC hz (k_L_angleFor l G cI cZ cJ h ta sa ua T b r sw st fa sc fi mi lf hi n sw2 st2 fa2 sc2 fi2 mi2 lf2 hi2 n2 o ov g (by omega) (by omega) hg) kg_L_120 kd_yL_angleFor dL_law_665 ⟨Nat.le_of_ble_eq_true rfl, Nat.le_of_ble_eq_true rfl⟩ [0, 1, 2, 3, 4, 5, 6, 7, 8, 9, 10, 11, 12, 13, 14, 15, 16, 17, 18, 19, 20, 21, 29] rfl (by decide) rfl (Nat.le_of_ble_eq_true rfl) ⟨by show _ ≤ 1080188; omega, by show _ ≤ 5855541; omega⟩ (ws2 := fun u1 => (wH h ta sa ua T) ++ (wT ta cI b r) ++ (wS sa cI cZ sw st fa sc fi mi lf hi n) ++ (wS ua cI cZ sw2 st2 fa2 sc2 fi2 mi2 lf2 hi2 n2) ++ (wN ma cI th n sw st b r T sc fi mi fa K) ++ (wO o cJ (vp_updL ov 0 ((angF b r (stF T g) (T % 5)).toInt64)))) [22, 23, 24, 25, 26, 27, 28] (fun _ => rfl) (wN ma cI th n sw st b r T sc fi mi fa K) (fun _ => rfl) rfl (cv_of 30 (by decide +kernel) (fun _ => rfl)) [h, ta 0, ta 1, ta 2, sa 0, sa 1, sa 2, sa 3, sa 4, sa 5, sa 6, sa 7, sa 8, ua 0, ua 1, ua 2, ua 3, ua 4, ua 5, ua 6, ua 7, ua 8, o] (fun _ => rfl) rfl rfl rfl (fun r2 u1 h3 => ?_)
  subst h3
  refine z_istore (lv' := [(5, .int (nI 0)), (0, .ref b0), (1, .ref h), (2, .ref (ma 0)), (3, .ref o), (4, .int (nI i))]) (n := 670) hC dL_law_668 (by decide) rfl rfl ?_
  refine z_aload_n (n := 671) hC dL_law_670 rfl 3 rfl rfl ?_
  refine z_aload_n (n := 672) hC dL_law_671 rfl 1 rfl rfl ?_
  refine z_iload (n := 674) hC dL_law_672 5 rfl rfl ?_
  refine z_iconst (v := nI 1) (n := 675) hC dL_law_674 (by decide) rfl ?_
  refine z_iadd (v := nI (i + 1)) (n := 676) hC dL_law_675 (nI_add i 1) rfl ?_
  refine z_sld (v := nI g) (n := 677) hC hX hb0 hbA hL (i + 1) rfl (by omega) he1 dL_law_676 rfl ?_
  refine z_calli (R := room_1) (cells := 30 + 7 * j) (slots := 211 + 66 * j) (ws := (wH h ta sa ua T) ++ (wT ta cI b r) ++ (wS sa cI cZ sw st fa sc fi mi lf hi n) ++ (wS ua cI cZ sw2 st2 fa2 sc2 fi2 mi2 lf2 hi2 n2) ++ (wN ma cI th n sw st b r T sc fi mi fa K) ++ (wO o cJ (vp_updL ov 0 ((angF b r (stF T g) (T % 5)).toInt64)))) (n := 680) (As := [.int (nI g)]) (rest := []) hC (k_X3_angleFor l G cI cZ cJ ma th n sw st b r T sc fi mi fa K g (by omega) (by omega) hg hst) kg_L_122 kd_yX3_angleFor dL_law_677 ⟨Nat.le_of_ble_eq_true rfl, Nat.le_of_ble_eq_true rfl⟩ 0 rfl rfl rfl [22, 23, 24, 25, 26, 27, 28] rfl (by decide) rfl (Nat.le_of_ble_eq_true rfl) ⟨by show _ ≤ 1080188; omega, by show _ ≤ 5855541; omega⟩ (ws2 := fun u4 => (wH h ta sa ua T) ++ (wT ta cI b r) ++ (wS sa cI cZ sw st fa sc fi mi lf hi n) ++ (wS ua cI cZ sw2 st2 fa2 sc2 fi2 mi2 lf2 hi2 n2) ++ (wN ma cI (nI 0) n sw st b r T sc fi mi fa K) ++ (wO o cJ (vp_updL ov 0 ((angF b r (stF T g) (T % 5)).toInt64)))) [0, 1, 2, 3, 4, 5, 6, 7, 8, 9, 10, 11, 12, 13, 14, 15, 16, 17, 18, 19, 20, 21, 29] (fun _ => rfl) ((wH h ta sa ua T) ++ (wT ta cI b r) ++ (wS sa cI cZ sw st fa sc fi mi lf hi n) ++ (wS ua cI cZ sw2 st2 fa2 sc2 fi2 mi2 lf2 hi2 n2) ++ (wO o cJ (vp_updL ov 0 ((angF b r (stF T g) (T % 5)).toInt64)))) (fun _ => rfl) rfl (cv_of 30 (by decide +kernel) (fun _ => rfl)) [ma 0, ma 1, ma 2, ma 3, ma 4, ma 5, ma 6] (fun _ => rfl) rfl rfl rfl (fun r5 u4 h6 => ?_)
  subst h6
  refine z_istore (lv' := [(6, .int (angF b r (stF T g) (T % 5))), (5, .int (nI 0)), (0, .ref b0), (1, .ref h), (2, .ref (ma 0)), (3, .ref o), (4, .int (nI i))]) (n := 682) hC dL_law_680 (by decide) rfl rfl ?_
  refine z_aload_n (n := 683) hC dL_law_682 rfl 4 rfl rfl ?_
  refine z_calli (R := room_1) (cells := 30 + 7 * j) (slots := 211 + 66 * j) (ws := (wH h ta sa ua T) ++ (wT ta cI b r) ++ (wS sa cI cZ sw st fa sc fi mi lf hi n) ++ (wS ua cI cZ sw2 st2 fa2 sc2 fi2 mi2 lf2 hi2 n2) ++ (wN ma cI (nI 0) n sw st b r T sc fi mi fa K) ++ (wO o cJ (vp_updL ov 0 ((angF b r (stF T g) (T % 5)).toInt64)))) (n := 686) (As := []) (rest := []) hC (k_X3_thrown l G cI cZ cJ ma (nI 0) n sw st b r T sc fi mi fa K (by omega) (by omega)) kg_L_89 kd_yX3_thrown dL_law_683 ⟨Nat.le_of_ble_eq_true rfl, Nat.le_of_ble_eq_true rfl⟩ 0 rfl rfl rfl [22, 23, 24, 25, 26, 27, 28] rfl (by decide) rfl (Nat.le_of_ble_eq_true rfl) ⟨by show _ ≤ 1080188; omega, by show _ ≤ 5855541; omega⟩ (ws2 := fun u7 => (wH h ta sa ua T) ++ (wT ta cI b r) ++ (wS sa cI cZ sw st fa sc fi mi lf hi n) ++ (wS ua cI cZ sw2 st2 fa2 sc2 fi2 mi2 lf2 hi2 n2) ++ (wN ma cI (nI 0) n sw st b r T sc fi mi fa K) ++ (wO o cJ (vp_updL ov 0 ((angF b r (stF T g) (T % 5)).toInt64)))) [0, 1, 2, 3, 4, 5, 6, 7, 8, 9, 10, 11, 12, 13, 14, 15, 16, 17, 18, 19, 20, 21, 29] (fun _ => rfl) ((wH h ta sa ua T) ++ (wT ta cI b r) ++ (wS sa cI cZ sw st fa sc fi mi lf hi n) ++ (wS ua cI cZ sw2 st2 fa2 sc2 fi2 mi2 lf2 hi2 n2) ++ (wO o cJ (vp_updL ov 0 ((angF b r (stF T g) (T % 5)).toInt64)))) (fun _ => rfl) rfl (cv_of 30 (by decide +kernel) (fun _ => rfl)) [ma 0, ma 1, ma 2, ma 3, ma 4, ma 5, ma 6] (fun _ => rfl) rfl rfl rfl (fun r8 u7 h9 => ?_)
  subst h9
  refine z_iload (n := 688) hC dL_law_686 1 rfl rfl ?_
  refine z_icmp_eq_n (tgt := 693) (n := 691) hC 0 0 rfl rfl (by omega) (by omega) dL_law_688 (by decide) rfl (fun c10 => ?_) (fun c10 => absurd rfl c10)
  refine z_iload (n := 695) hC dL_law_693 1 rfl rfl ?_
  refine z_if_ne (tgt := 710) (n := 698) hC dL_law_695 (by decide) rfl (fun c11 => absurd (nI_0) c11) (fun c11 => ?_)
  refine z_aload_n (n := 699) hC dL_law_698 rfl 5 rfl rfl ?_
  refine z_iconst (v := nI 0) (n := 700) hC dL_law_699 (by decide) rfl ?_
  refine z_lald (v := (angF b r (stF T g) (T % 5)).toInt64) (n := 701) hC 29 2 0 rfl rfl rfl (by omega) (by decide) dL_law_700 updL_at rfl ?_
  refine z_iload (n := 703) hC dL_law_701 0 rfl rfl ?_
  refine z_i2l (v := (angF b r (stF T g) (T % 5)).toInt64) (n := 704) hC dL_law_703 rfl rfl ?_
  refine z_lcmp (n := 705) hC dL_law_704 rfl ?_
  refine z_if_eq (tgt := 710) (n := 708) hC dL_law_705 (by decide) rfl (fun c12 => ?_) (fun c12 => absurd (lg_self _) c12)
  refine z_goto (n := 1448) hC dL_law_710 (by decide) ?_
  refine z_iinc (k0 := 6) (v := nI (i + 4)) (lv' := [(4, .int (nI (i + 4))), (6, .int (angF b r (stF T g) (T % 5))), (5, .int (nI 0)), (0, .ref b0), (1, .ref h), (2, .ref (ma 0)), (3, .ref o)]) (n := 1451) hC dL_law_1448 rfl (nI_add i 4) (by decide) rfl rfl ?_
  refine z_goto (n := 23) hC dL_law_1451 (by decide) ?_
  refine z_lv [3, 4, 5, 6, 0] (lv' := [(0, .ref b0), (1, .ref h), (2, .ref (ma 0)), (3, .ref o), (4, .int (nI (i + 4)))]) rfl ?_
  refine z_wid (k1 := 30 + 7 * (j + 1)) (k2 := 211 + 66 * (j + 1)) (by omega) (by omega) ?_
  exact ih (i + 4) T b r sw st fa sc fi mi lf hi n sw2 st2 fa2 sc2 fi2 mi2 lf2 hi2 n2 (nI 0) K (vp_updL ov 0 ((angF b r (stF T g) (T % 5)).toInt64)) (by omega) (iv_same hI)

set_option maxRecDepth 100000 in
set_option maxHeartbeats 4000000 in
theorem c_angleFor_x (p : Program) (l : Launch) (e : Env) (s : State) (m : MethodId) (args : Array Value) (below : List Frame) (meth : Method) (c : Code) (G : va_G) (A : Nat → Prop) (Q : State → Prop) (cI cZ cJ : ClassId) (b0 h o : Nat) (ta sa ua ma : Nat → Nat) (L : Nat) (xs : Nat → Int32) (i j : Nat) (T : Nat) (b r sw st fa sc fi mi : Nat → Int32) (lf hi : Nat → Bool) (n : Nat) (sw2 st2 fa2 sc2 fi2 mi2 : Nat → Int32) (lf2 hi2 : Nat → Bool) (n2 : Nat) (th : Int32) (K : Nat → Int32) (ov : Nat → Int64)  (hW : LX p l s m args c G A cI cZ cJ b0 L xs) (hI : iv j T n b r st fa mi) (hi0 : i = 4 * j) (hiL : i + 4 ≤ L) (hb : xs (i + 1) < 0 ∨ nI n ≤ xs (i + 1)) (ih : LPj p l e s m args below meth c G A Q cI cZ cJ b0 h o ta sa ua ma (j + 1)) : LZ p l e s m args below meth c G A Q cI cZ cJ b0 h o ta sa ua ma (30 + 7 * j) (211 + 66 * j) i 657 T b r sw st fa sc fi mi lf hi n sw2 st2 fa2 sc2 fi2 mi2 lf2 hi2 n2 th K ov := by
  obtain ⟨hC, hl, hz, hX, hb0, hbA, hL⟩ := hW
  have hj : j ≤ 511 := by omega
  obtain ⟨hn, hT0, hst, hfa0, hmi0, hb9, hr9⟩ := id hI
  have hT : T < 2 ^ 29 := by omega
  have hfa : ∀ g : Nat, inN (fa g) (2 ^ 28) := fun g => inN_mono (hfa0 g) (by omega)
  have hmi : ∀ g : Nat, inN (mi g) (2 ^ 30) := fun g => inN_mono (hmi0 g) (by omega)
  have ham : ∀ (g zt : Nat), inN (amF b r zt g) 1000 := fun g zt => am_in hb9 hr9 zt g
  unfold LZ
  refine z_aload_n (n := 658) hC dL_law_657 rfl 1 rfl rfl ?_
  refine z_aload_n (n := 659) hC dL_law_658 rfl 0 rfl rfl ?_
  refine z_iload (n := 661) hC dL_law_659 4 rfl rfl ?_
  refine z_iconst (v := nI 1) (n := 662) hC dL_law_661 (by decide) rfl ?_
  refine z_iadd (v := nI (i + 1)) (n := 663) hC dL_law_662 (nI_add i 1) rfl ?_
  refine z_sld (v := xs (i + 1)) (n := 664) hC hX hb0 hbA hL (i + 1) rfl (by omega) rfl dL_law_663 rfl ?_
  refine z_aload_n (n := 665) hC dL_law_664 rfl 3 rfl rfl ?_
  refine z_callsiH (R := room_1) (cells := 30 + 7 * j) (slots := 211 + 66 * j) (ws := (wH h ta sa ua T) ++ (wT ta cI b r) ++ (wS sa cI cZ sw st fa sc fi mi lf hi n) ++ (wS ua cI cZ sw2 st2 fa2 sc2 fi2 mi2 lf2 hi2 n2) ++ (wN ma cI th n sw st b r T sc fi mi fa K) ++ (wO o cJ ov)) (n := 668) (As := [.ref h, .int (xs (i + 1)), .ref o]) (rest := []) hC hz (kx_L_angleFor_x l G cI cZ cJ h ta sa ua T b r sw st fa sc fi mi lf hi n sw2 st2 fa2 sc2 fi2 mi2 lf2 hi2 n2 o ov (xs (i + 1)) hl (by omega) (by omega) hb) kg_L_120 kd_yL_angleFor dL_law_665 ⟨Nat.le_of_ble_eq_true rfl, Nat.le_of_ble_eq_true rfl⟩ [0, 1, 2, 3, 4, 5, 6, 7, 8, 9, 10, 11, 12, 13, 14, 15, 16, 17, 18, 19, 20, 21, 29] rfl (by decide) rfl (Nat.le_of_ble_eq_true rfl) ⟨by show _ ≤ 1080188; omega, by show _ ≤ 5855541; omega⟩ (ws2 := fun u1 => (wH h ta sa ua T) ++ (wT ta cI b r) ++ (wS sa cI cZ sw st fa sc fi mi lf hi n) ++ (wS ua cI cZ sw2 st2 fa2 sc2 fi2 mi2 lf2 hi2 n2) ++ (wN ma cI th n sw st b r T sc fi mi fa K) ++ (wO o cJ ov)) [22, 23, 24, 25, 26, 27, 28] (fun _ => rfl) (wN ma cI th n sw st b r T sc fi mi fa K) (fun _ => rfl) rfl (cv_of 30 (by decide +kernel) (fun _ => rfl)) [h, ta 0, ta 1, ta 2, sa 0, sa 1, sa 2, sa 3, sa 4, sa 5, sa 6, sa 7, sa 8, ua 0, ua 1, ua 2, ua 3, ua 4, ua 5, ua 6, ua 7, ua 8, o] (fun _ => rfl) rfl rfl rfl (fun r2 u1 h3 => ?_)
  subst h3
  refine z_istore (lv' := [(5, .int (nI 1)), (0, .ref b0), (1, .ref h), (2, .ref (ma 0)), (3, .ref o), (4, .int (nI i))]) (n := 670) hC dL_law_668 (by decide) rfl rfl ?_
  refine z_aload_n (n := 671) hC dL_law_670 rfl 3 rfl rfl ?_
  refine z_aload_n (n := 672) hC dL_law_671 rfl 1 rfl rfl ?_
  refine z_iload (n := 674) hC dL_law_672 5 rfl rfl ?_
  refine z_iconst (v := nI 1) (n := 675) hC dL_law_674 (by decide) rfl ?_
  refine z_iadd (v := nI (i + 1)) (n := 676) hC dL_law_675 (nI_add i 1) rfl ?_
  refine z_sld (v := xs (i + 1)) (n := 677) hC hX hb0 hbA hL (i + 1) rfl (by omega) rfl dL_law_676 rfl ?_
  refine z_calli (R := room_1) (cells := 30 + 7 * j + 1) (slots := 211 + 66 * j + 6) (ws := (wH h ta sa ua T) ++ (wT ta cI b r) ++ (wS sa cI cZ sw st fa sc fi mi lf hi n) ++ (wS ua cI cZ sw2 st2 fa2 sc2 fi2 mi2 lf2 hi2 n2) ++ (wN ma cI th n sw st b r T sc fi mi fa K) ++ (wO o cJ ov)) (n := 680) (As := [.int (xs (i + 1))]) (rest := []) hC (k_X3_angleFor_x l G cI cZ cJ ma th n sw st b r T sc fi mi fa K (xs (i + 1)) (by omega) (by omega) hb) kg_L_122 kd_yX3_angleFor dL_law_677 ⟨Nat.le_of_ble_eq_true rfl, Nat.le_of_ble_eq_true rfl⟩ 0 rfl rfl rfl [22, 23, 24, 25, 26, 27, 28] rfl (by decide) rfl (Nat.le_of_ble_eq_true rfl) ⟨by show _ ≤ 1080188; omega, by show _ ≤ 5855541; omega⟩ (ws2 := fun u4 => (wH h ta sa ua T) ++ (wT ta cI b r) ++ (wS sa cI cZ sw st fa sc fi mi lf hi n) ++ (wS ua cI cZ sw2 st2 fa2 sc2 fi2 mi2 lf2 hi2 n2) ++ (wN ma cI (nI 1) n sw st b r T sc fi mi fa K) ++ (wO o cJ ov)) [0, 1, 2, 3, 4, 5, 6, 7, 8, 9, 10, 11, 12, 13, 14, 15, 16, 17, 18, 19, 20, 21, 29] (fun _ => rfl) ((wH h ta sa ua T) ++ (wT ta cI b r) ++ (wS sa cI cZ sw st fa sc fi mi lf hi n) ++ (wS ua cI cZ sw2 st2 fa2 sc2 fi2 mi2 lf2 hi2 n2) ++ (wO o cJ ov)) (fun _ => rfl) rfl (cv_of 30 (by decide +kernel) (fun _ => rfl)) [ma 0, ma 1, ma 2, ma 3, ma 4, ma 5, ma 6] (fun _ => rfl) rfl rfl rfl (fun r5 u4 h6 => ?_)
  subst h6
  refine z_istore (lv' := [(6, .int (nI 0)), (5, .int (nI 1)), (0, .ref b0), (1, .ref h), (2, .ref (ma 0)), (3, .ref o), (4, .int (nI i))]) (n := 682) hC dL_law_680 (by decide) rfl rfl ?_
  refine z_aload_n (n := 683) hC dL_law_682 rfl 4 rfl rfl ?_
  refine z_calli (R := room_1) (cells := 30 + 7 * j + 1) (slots := 211 + 66 * j + 6) (ws := (wH h ta sa ua T) ++ (wT ta cI b r) ++ (wS sa cI cZ sw st fa sc fi mi lf hi n) ++ (wS ua cI cZ sw2 st2 fa2 sc2 fi2 mi2 lf2 hi2 n2) ++ (wN ma cI (nI 1) n sw st b r T sc fi mi fa K) ++ (wO o cJ ov)) (n := 686) (As := []) (rest := []) hC (k_X3_thrown l G cI cZ cJ ma (nI 1) n sw st b r T sc fi mi fa K (by omega) (by omega)) kg_L_89 kd_yX3_thrown dL_law_683 ⟨Nat.le_of_ble_eq_true rfl, Nat.le_of_ble_eq_true rfl⟩ 0 rfl rfl rfl [22, 23, 24, 25, 26, 27, 28] rfl (by decide) rfl (Nat.le_of_ble_eq_true rfl) ⟨by show _ ≤ 1080188; omega, by show _ ≤ 5855541; omega⟩ (ws2 := fun u7 => (wH h ta sa ua T) ++ (wT ta cI b r) ++ (wS sa cI cZ sw st fa sc fi mi lf hi n) ++ (wS ua cI cZ sw2 st2 fa2 sc2 fi2 mi2 lf2 hi2 n2) ++ (wN ma cI (nI 1) n sw st b r T sc fi mi fa K) ++ (wO o cJ ov)) [0, 1, 2, 3, 4, 5, 6, 7, 8, 9, 10, 11, 12, 13, 14, 15, 16, 17, 18, 19, 20, 21, 29] (fun _ => rfl) ((wH h ta sa ua T) ++ (wT ta cI b r) ++ (wS sa cI cZ sw st fa sc fi mi lf hi n) ++ (wS ua cI cZ sw2 st2 fa2 sc2 fi2 mi2 lf2 hi2 n2) ++ (wO o cJ ov)) (fun _ => rfl) rfl (cv_of 30 (by decide +kernel) (fun _ => rfl)) [ma 0, ma 1, ma 2, ma 3, ma 4, ma 5, ma 6] (fun _ => rfl) rfl rfl rfl (fun r8 u7 h9 => ?_)
  subst h9
  refine z_iload (n := 688) hC dL_law_686 1 rfl rfl ?_
  refine z_icmp_eq_n (tgt := 693) (n := 691) hC 1 1 rfl rfl (by omega) (by omega) dL_law_688 (by decide) rfl (fun c10 => ?_) (fun c10 => absurd rfl c10)
  refine z_iload (n := 695) hC dL_law_693 1 rfl rfl ?_
  refine z_if_ne (tgt := 710) (n := 698) hC dL_law_695 (by decide) rfl (fun c11 => ?_) (fun c11 => absurd c11 (by decide))
  refine z_goto (n := 1448) hC dL_law_710 (by decide) ?_
  refine z_iinc (k0 := 6) (v := nI (i + 4)) (lv' := [(4, .int (nI (i + 4))), (6, .int (nI 0)), (5, .int (nI 1)), (0, .ref b0), (1, .ref h), (2, .ref (ma 0)), (3, .ref o)]) (n := 1451) hC dL_law_1448 rfl (nI_add i 4) (by decide) rfl rfl ?_
  refine z_goto (n := 23) hC dL_law_1451 (by decide) ?_
  refine z_lv [3, 4, 5, 6, 0] (lv' := [(0, .ref b0), (1, .ref h), (2, .ref (ma 0)), (3, .ref o), (4, .int (nI (i + 4)))]) rfl ?_
  refine z_wid (k1 := 30 + 7 * (j + 1)) (k2 := 211 + 66 * (j + 1)) (by omega) (by omega) ?_
  exact ih (i + 4) T b r sw st fa sc fi mi lf hi n sw2 st2 fa2 sc2 fi2 mi2 lf2 hi2 n2 (nI 1) K ov (by omega) (iv_same hI)

set_option maxRecDepth 100000 in
set_option maxHeartbeats 4000000 in
theorem c_scoreOf (p : Program) (l : Launch) (e : Env) (s : State) (m : MethodId) (args : Array Value) (below : List Frame) (meth : Method) (c : Code) (G : va_G) (A : Nat → Prop) (Q : State → Prop) (cI cZ cJ : ClassId) (b0 h o : Nat) (ta sa ua ma : Nat → Nat) (L : Nat) (xs : Nat → Int32) (i j : Nat) (T : Nat) (b r sw st fa sc fi mi : Nat → Int32) (lf hi : Nat → Bool) (n : Nat) (sw2 st2 fa2 sc2 fi2 mi2 : Nat → Int32) (lf2 hi2 : Nat → Bool) (n2 : Nat) (th : Int32) (K : Nat → Int32) (ov : Nat → Int64) (g : Nat) (hW : LX p l s m args c G A cI cZ cJ b0 L xs) (hI : iv j T n b r st fa mi) (hi0 : i = 4 * j) (hiL : i + 4 ≤ L) (he1 : xs (i + 1) = nI g) (hg : g < n) (ih : LPj p l e s m args below meth c G A Q cI cZ cJ b0 h o ta sa ua ma (j + 1)) : LZ p l e s m args below meth c G A Q cI cZ cJ b0 h o ta sa ua ma (30 + 7 * j) (211 + 66 * j) i 726 T b r sw st fa sc fi mi lf hi n sw2 st2 fa2 sc2 fi2 mi2 lf2 hi2 n2 th K ov := by
  obtain ⟨hC, hl, hz, hX, hb0, hbA, hL⟩ := hW
  have hj : j ≤ 511 := by omega
  obtain ⟨hn, hT0, hst, hfa0, hmi0, hb9, hr9⟩ := id hI
  have hT : T < 2 ^ 29 := by omega
  have hfa : ∀ g : Nat, inN (fa g) (2 ^ 28) := fun g => inN_mono (hfa0 g) (by omega)
  have hmi : ∀ g : Nat, inN (mi g) (2 ^ 30) := fun g => inN_mono (hmi0 g) (by omega)
  have ham : ∀ (g zt : Nat), inN (amF b r zt g) 1000 := fun g zt => am_in hb9 hr9 zt g
  unfold LZ
  refine z_aload_n (n := 727) hC dL_law_726 rfl 1 rfl rfl ?_
  refine z_aload_n (n := 728) hC dL_law_727 rfl 0 rfl rfl ?_
  refine z_iload (n := 730) hC dL_law_728 4 rfl rfl ?_
  refine z_iconst (v := nI 1) (n := 731) hC dL_law_730 (by decide) rfl ?_
  refine z_iadd (v := nI (i + 1)) (n := 732) hC dL_law_731 (nI_add i 1) rfl ?_
  refine z_sld (v := nI g) (n := 733) hC hX hb0 hbA hL (i + 1) rfl (by omega) he1 dL_law_732 rfl ?_
  refine z_aload_n (n := 734) hC dL_law_733 rfl 3 rfl rfl ?_
  refine z_callsiH (R := room_1) (cells := 30 + 7 * j) (slots := 211 + 66 * j) (ws := (wH h ta sa ua T) ++ (wT ta cI b r) ++ (wS sa cI cZ sw st fa sc fi mi lf hi n) ++ (wS ua cI cZ sw2 st2 fa2 sc2 fi2 mi2 lf2 hi2 n2) ++ (wN ma cI th n sw st b r T sc fi mi fa K) ++ (wO o cJ ov)) (n := 737) (As := [.ref h, .int (nI g), .ref o]) (rest := []) hC hz (k_L_scoreOf l G cI cZ cJ h ta sa ua T b r sw st fa sc fi mi lf hi n sw2 st2 fa2 sc2 fi2 mi2 lf2 hi2 n2 o ov g (by omega) (by omega) hg) kg_L_127 kd_yL_scoreOf dL_law_734 ⟨Nat.le_of_ble_eq_true rfl, Nat.le_of_ble_eq_true rfl⟩ [0, 1, 2, 3, 4, 5, 6, 7, 8, 9, 10, 11, 12, 13, 14, 15, 16, 17, 18, 19, 20, 21, 29] rfl (by decide) rfl (Nat.le_of_ble_eq_true rfl) ⟨by show _ ≤ 1080188; omega, by show _ ≤ 5855541; omega⟩ (ws2 := fun u1 => (wH h ta sa ua T) ++ (wT ta cI b r) ++ (wS sa cI cZ sw st fa sc fi mi lf hi n) ++ (wS ua cI cZ sw2 st2 fa2 sc2 fi2 mi2 lf2 hi2 n2) ++ (wN ma cI th n sw st b r T sc fi mi fa K) ++ (wO o cJ (vp_updL ov 0 ((sc g).toInt64)))) [22, 23, 24, 25, 26, 27, 28] (fun _ => rfl) (wN ma cI th n sw st b r T sc fi mi fa K) (fun _ => rfl) rfl (cv_of 30 (by decide +kernel) (fun _ => rfl)) [h, ta 0, ta 1, ta 2, sa 0, sa 1, sa 2, sa 3, sa 4, sa 5, sa 6, sa 7, sa 8, ua 0, ua 1, ua 2, ua 3, ua 4, ua 5, ua 6, ua 7, ua 8, o] (fun _ => rfl) rfl rfl rfl (fun r2 u1 h3 => ?_)
  subst h3
  refine z_istore (lv' := [(5, .int (nI 0)), (0, .ref b0), (1, .ref h), (2, .ref (ma 0)), (3, .ref o), (4, .int (nI i))]) (n := 739) hC dL_law_737 (by decide) rfl rfl ?_
  refine z_aload_n (n := 740) hC dL_law_739 rfl 3 rfl rfl ?_
  refine z_aload_n (n := 741) hC dL_law_740 rfl 1 rfl rfl ?_
  refine z_iload (n := 743) hC dL_law_741 5 rfl rfl ?_
  refine z_iconst (v := nI 1) (n := 744) hC dL_law_743 (by decide) rfl ?_
  refine z_iadd (v := nI (i + 1)) (n := 745) hC dL_law_744 (nI_add i 1) rfl ?_
  refine z_sld (v := nI g) (n := 746) hC hX hb0 hbA hL (i + 1) rfl (by omega) he1 dL_law_745 rfl ?_
  refine z_calli (R := room_1) (cells := 30 + 7 * j) (slots := 211 + 66 * j) (ws := (wH h ta sa ua T) ++ (wT ta cI b r) ++ (wS sa cI cZ sw st fa sc fi mi lf hi n) ++ (wS ua cI cZ sw2 st2 fa2 sc2 fi2 mi2 lf2 hi2 n2) ++ (wN ma cI th n sw st b r T sc fi mi fa K) ++ (wO o cJ (vp_updL ov 0 ((sc g).toInt64)))) (n := 749) (As := [.int (nI g)]) (rest := []) hC (k_X3_scoreOf l G cI cZ cJ ma th n sw st b r T sc fi mi fa K g (by omega) (by omega) hg) kg_L_129 kd_yX3_scoreOf dL_law_746 ⟨Nat.le_of_ble_eq_true rfl, Nat.le_of_ble_eq_true rfl⟩ 0 rfl rfl rfl [22, 23, 24, 25, 26, 27, 28] rfl (by decide) rfl (Nat.le_of_ble_eq_true rfl) ⟨by show _ ≤ 1080188; omega, by show _ ≤ 5855541; omega⟩ (ws2 := fun u4 => (wH h ta sa ua T) ++ (wT ta cI b r) ++ (wS sa cI cZ sw st fa sc fi mi lf hi n) ++ (wS ua cI cZ sw2 st2 fa2 sc2 fi2 mi2 lf2 hi2 n2) ++ (wN ma cI (nI 0) n sw st b r T sc fi mi fa K) ++ (wO o cJ (vp_updL ov 0 ((sc g).toInt64)))) [0, 1, 2, 3, 4, 5, 6, 7, 8, 9, 10, 11, 12, 13, 14, 15, 16, 17, 18, 19, 20, 21, 29] (fun _ => rfl) ((wH h ta sa ua T) ++ (wT ta cI b r) ++ (wS sa cI cZ sw st fa sc fi mi lf hi n) ++ (wS ua cI cZ sw2 st2 fa2 sc2 fi2 mi2 lf2 hi2 n2) ++ (wO o cJ (vp_updL ov 0 ((sc g).toInt64)))) (fun _ => rfl) rfl (cv_of 30 (by decide +kernel) (fun _ => rfl)) [ma 0, ma 1, ma 2, ma 3, ma 4, ma 5, ma 6] (fun _ => rfl) rfl rfl rfl (fun r5 u4 h6 => ?_)
  subst h6
  refine z_istore (lv' := [(6, .int (sc g)), (5, .int (nI 0)), (0, .ref b0), (1, .ref h), (2, .ref (ma 0)), (3, .ref o), (4, .int (nI i))]) (n := 751) hC dL_law_749 (by decide) rfl rfl ?_
  refine z_aload_n (n := 752) hC dL_law_751 rfl 4 rfl rfl ?_
  refine z_calli (R := room_1) (cells := 30 + 7 * j) (slots := 211 + 66 * j) (ws := (wH h ta sa ua T) ++ (wT ta cI b r) ++ (wS sa cI cZ sw st fa sc fi mi lf hi n) ++ (wS ua cI cZ sw2 st2 fa2 sc2 fi2 mi2 lf2 hi2 n2) ++ (wN ma cI (nI 0) n sw st b r T sc fi mi fa K) ++ (wO o cJ (vp_updL ov 0 ((sc g).toInt64)))) (n := 755) (As := []) (rest := []) hC (k_X3_thrown l G cI cZ cJ ma (nI 0) n sw st b r T sc fi mi fa K (by omega) (by omega)) kg_L_89 kd_yX3_thrown dL_law_752 ⟨Nat.le_of_ble_eq_true rfl, Nat.le_of_ble_eq_true rfl⟩ 0 rfl rfl rfl [22, 23, 24, 25, 26, 27, 28] rfl (by decide) rfl (Nat.le_of_ble_eq_true rfl) ⟨by show _ ≤ 1080188; omega, by show _ ≤ 5855541; omega⟩ (ws2 := fun u7 => (wH h ta sa ua T) ++ (wT ta cI b r) ++ (wS sa cI cZ sw st fa sc fi mi lf hi n) ++ (wS ua cI cZ sw2 st2 fa2 sc2 fi2 mi2 lf2 hi2 n2) ++ (wN ma cI (nI 0) n sw st b r T sc fi mi fa K) ++ (wO o cJ (vp_updL ov 0 ((sc g).toInt64)))) [0, 1, 2, 3, 4, 5, 6, 7, 8, 9, 10, 11, 12, 13, 14, 15, 16, 17, 18, 19, 20, 21, 29] (fun _ => rfl) ((wH h ta sa ua T) ++ (wT ta cI b r) ++ (wS sa cI cZ sw st fa sc fi mi lf hi n) ++ (wS ua cI cZ sw2 st2 fa2 sc2 fi2 mi2 lf2 hi2 n2) ++ (wO o cJ (vp_updL ov 0 ((sc g).toInt64)))) (fun _ => rfl) rfl (cv_of 30 (by decide +kernel) (fun _ => rfl)) [ma 0, ma 1, ma 2, ma 3, ma 4, ma 5, ma 6] (fun _ => rfl) rfl rfl rfl (fun r8 u7 h9 => ?_)
  subst h9
  refine z_iload (n := 757) hC dL_law_755 1 rfl rfl ?_
  refine z_icmp_eq_n (tgt := 762) (n := 760) hC 0 0 rfl rfl (by omega) (by omega) dL_law_757 (by decide) rfl (fun c10 => ?_) (fun c10 => absurd rfl c10)
  refine z_iload (n := 764) hC dL_law_762 1 rfl rfl ?_
  refine z_if_ne (tgt := 779) (n := 767) hC dL_law_764 (by decide) rfl (fun c11 => absurd (nI_0) c11) (fun c11 => ?_)
  refine z_aload_n (n := 768) hC dL_law_767 rfl 5 rfl rfl ?_
  refine z_iconst (v := nI 0) (n := 769) hC dL_law_768 (by decide) rfl ?_
  refine z_lald (v := (sc g).toInt64) (n := 770) hC 29 2 0 rfl rfl rfl (by omega) (by decide) dL_law_769 updL_at rfl ?_
  refine z_iload (n := 772) hC dL_law_770 0 rfl rfl ?_
  refine z_i2l (v := (sc g).toInt64) (n := 773) hC dL_law_772 rfl rfl ?_
  refine z_lcmp (n := 774) hC dL_law_773 rfl ?_
  refine z_if_eq (tgt := 779) (n := 777) hC dL_law_774 (by decide) rfl (fun c12 => ?_) (fun c12 => absurd (lg_self _) c12)
  refine z_goto (n := 1448) hC dL_law_779 (by decide) ?_
  refine z_iinc (k0 := 6) (v := nI (i + 4)) (lv' := [(4, .int (nI (i + 4))), (6, .int (sc g)), (5, .int (nI 0)), (0, .ref b0), (1, .ref h), (2, .ref (ma 0)), (3, .ref o)]) (n := 1451) hC dL_law_1448 rfl (nI_add i 4) (by decide) rfl rfl ?_
  refine z_goto (n := 23) hC dL_law_1451 (by decide) ?_
  refine z_lv [3, 4, 5, 6, 0] (lv' := [(0, .ref b0), (1, .ref h), (2, .ref (ma 0)), (3, .ref o), (4, .int (nI (i + 4)))]) rfl ?_
  refine z_wid (k1 := 30 + 7 * (j + 1)) (k2 := 211 + 66 * (j + 1)) (by omega) (by omega) ?_
  exact ih (i + 4) T b r sw st fa sc fi mi lf hi n sw2 st2 fa2 sc2 fi2 mi2 lf2 hi2 n2 (nI 0) K (vp_updL ov 0 ((sc g).toInt64)) (by omega) (iv_same hI)

set_option maxRecDepth 100000 in
set_option maxHeartbeats 4000000 in
theorem c_scoreOf_x (p : Program) (l : Launch) (e : Env) (s : State) (m : MethodId) (args : Array Value) (below : List Frame) (meth : Method) (c : Code) (G : va_G) (A : Nat → Prop) (Q : State → Prop) (cI cZ cJ : ClassId) (b0 h o : Nat) (ta sa ua ma : Nat → Nat) (L : Nat) (xs : Nat → Int32) (i j : Nat) (T : Nat) (b r sw st fa sc fi mi : Nat → Int32) (lf hi : Nat → Bool) (n : Nat) (sw2 st2 fa2 sc2 fi2 mi2 : Nat → Int32) (lf2 hi2 : Nat → Bool) (n2 : Nat) (th : Int32) (K : Nat → Int32) (ov : Nat → Int64)  (hW : LX p l s m args c G A cI cZ cJ b0 L xs) (hI : iv j T n b r st fa mi) (hi0 : i = 4 * j) (hiL : i + 4 ≤ L) (hb : xs (i + 1) < 0 ∨ nI n ≤ xs (i + 1)) (ih : LPj p l e s m args below meth c G A Q cI cZ cJ b0 h o ta sa ua ma (j + 1)) : LZ p l e s m args below meth c G A Q cI cZ cJ b0 h o ta sa ua ma (30 + 7 * j) (211 + 66 * j) i 726 T b r sw st fa sc fi mi lf hi n sw2 st2 fa2 sc2 fi2 mi2 lf2 hi2 n2 th K ov := by
  obtain ⟨hC, hl, hz, hX, hb0, hbA, hL⟩ := hW
  have hj : j ≤ 511 := by omega
  obtain ⟨hn, hT0, hst, hfa0, hmi0, hb9, hr9⟩ := id hI
  have hT : T < 2 ^ 29 := by omega
  have hfa : ∀ g : Nat, inN (fa g) (2 ^ 28) := fun g => inN_mono (hfa0 g) (by omega)
  have hmi : ∀ g : Nat, inN (mi g) (2 ^ 30) := fun g => inN_mono (hmi0 g) (by omega)
  have ham : ∀ (g zt : Nat), inN (amF b r zt g) 1000 := fun g zt => am_in hb9 hr9 zt g
  unfold LZ
  refine z_aload_n (n := 727) hC dL_law_726 rfl 1 rfl rfl ?_
  refine z_aload_n (n := 728) hC dL_law_727 rfl 0 rfl rfl ?_
  refine z_iload (n := 730) hC dL_law_728 4 rfl rfl ?_
  refine z_iconst (v := nI 1) (n := 731) hC dL_law_730 (by decide) rfl ?_
  refine z_iadd (v := nI (i + 1)) (n := 732) hC dL_law_731 (nI_add i 1) rfl ?_
  refine z_sld (v := xs (i + 1)) (n := 733) hC hX hb0 hbA hL (i + 1) rfl (by omega) rfl dL_law_732 rfl ?_
  refine z_aload_n (n := 734) hC dL_law_733 rfl 3 rfl rfl ?_
  refine z_callsiH (R := room_1) (cells := 30 + 7 * j) (slots := 211 + 66 * j) (ws := (wH h ta sa ua T) ++ (wT ta cI b r) ++ (wS sa cI cZ sw st fa sc fi mi lf hi n) ++ (wS ua cI cZ sw2 st2 fa2 sc2 fi2 mi2 lf2 hi2 n2) ++ (wN ma cI th n sw st b r T sc fi mi fa K) ++ (wO o cJ ov)) (n := 737) (As := [.ref h, .int (xs (i + 1)), .ref o]) (rest := []) hC hz (kx_L_scoreOf_x l G cI cZ cJ h ta sa ua T b r sw st fa sc fi mi lf hi n sw2 st2 fa2 sc2 fi2 mi2 lf2 hi2 n2 o ov (xs (i + 1)) hl (by omega) (by omega) hb) kg_L_127 kd_yL_scoreOf dL_law_734 ⟨Nat.le_of_ble_eq_true rfl, Nat.le_of_ble_eq_true rfl⟩ [0, 1, 2, 3, 4, 5, 6, 7, 8, 9, 10, 11, 12, 13, 14, 15, 16, 17, 18, 19, 20, 21, 29] rfl (by decide) rfl (Nat.le_of_ble_eq_true rfl) ⟨by show _ ≤ 1080188; omega, by show _ ≤ 5855541; omega⟩ (ws2 := fun u1 => (wH h ta sa ua T) ++ (wT ta cI b r) ++ (wS sa cI cZ sw st fa sc fi mi lf hi n) ++ (wS ua cI cZ sw2 st2 fa2 sc2 fi2 mi2 lf2 hi2 n2) ++ (wN ma cI th n sw st b r T sc fi mi fa K) ++ (wO o cJ ov)) [22, 23, 24, 25, 26, 27, 28] (fun _ => rfl) (wN ma cI th n sw st b r T sc fi mi fa K) (fun _ => rfl) rfl (cv_of 30 (by decide +kernel) (fun _ => rfl)) [h, ta 0, ta 1, ta 2, sa 0, sa 1, sa 2, sa 3, sa 4, sa 5, sa 6, sa 7, sa 8, ua 0, ua 1, ua 2, ua 3, ua 4, ua 5, ua 6, ua 7, ua 8, o] (fun _ => rfl) rfl rfl rfl (fun r2 u1 h3 => ?_)
  subst h3
  refine z_istore (lv' := [(5, .int (nI 1)), (0, .ref b0), (1, .ref h), (2, .ref (ma 0)), (3, .ref o), (4, .int (nI i))]) (n := 739) hC dL_law_737 (by decide) rfl rfl ?_
  refine z_aload_n (n := 740) hC dL_law_739 rfl 3 rfl rfl ?_
  refine z_aload_n (n := 741) hC dL_law_740 rfl 1 rfl rfl ?_
  refine z_iload (n := 743) hC dL_law_741 5 rfl rfl ?_
  refine z_iconst (v := nI 1) (n := 744) hC dL_law_743 (by decide) rfl ?_
  refine z_iadd (v := nI (i + 1)) (n := 745) hC dL_law_744 (nI_add i 1) rfl ?_
  refine z_sld (v := xs (i + 1)) (n := 746) hC hX hb0 hbA hL (i + 1) rfl (by omega) rfl dL_law_745 rfl ?_
  refine z_calli (R := room_1) (cells := 30 + 7 * j + 1) (slots := 211 + 66 * j + 6) (ws := (wH h ta sa ua T) ++ (wT ta cI b r) ++ (wS sa cI cZ sw st fa sc fi mi lf hi n) ++ (wS ua cI cZ sw2 st2 fa2 sc2 fi2 mi2 lf2 hi2 n2) ++ (wN ma cI th n sw st b r T sc fi mi fa K) ++ (wO o cJ ov)) (n := 749) (As := [.int (xs (i + 1))]) (rest := []) hC (k_X3_scoreOf_x l G cI cZ cJ ma th n sw st b r T sc fi mi fa K (xs (i + 1)) (by omega) (by omega) hb) kg_L_129 kd_yX3_scoreOf dL_law_746 ⟨Nat.le_of_ble_eq_true rfl, Nat.le_of_ble_eq_true rfl⟩ 0 rfl rfl rfl [22, 23, 24, 25, 26, 27, 28] rfl (by decide) rfl (Nat.le_of_ble_eq_true rfl) ⟨by show _ ≤ 1080188; omega, by show _ ≤ 5855541; omega⟩ (ws2 := fun u4 => (wH h ta sa ua T) ++ (wT ta cI b r) ++ (wS sa cI cZ sw st fa sc fi mi lf hi n) ++ (wS ua cI cZ sw2 st2 fa2 sc2 fi2 mi2 lf2 hi2 n2) ++ (wN ma cI (nI 1) n sw st b r T sc fi mi fa K) ++ (wO o cJ ov)) [0, 1, 2, 3, 4, 5, 6, 7, 8, 9, 10, 11, 12, 13, 14, 15, 16, 17, 18, 19, 20, 21, 29] (fun _ => rfl) ((wH h ta sa ua T) ++ (wT ta cI b r) ++ (wS sa cI cZ sw st fa sc fi mi lf hi n) ++ (wS ua cI cZ sw2 st2 fa2 sc2 fi2 mi2 lf2 hi2 n2) ++ (wO o cJ ov)) (fun _ => rfl) rfl (cv_of 30 (by decide +kernel) (fun _ => rfl)) [ma 0, ma 1, ma 2, ma 3, ma 4, ma 5, ma 6] (fun _ => rfl) rfl rfl rfl (fun r5 u4 h6 => ?_)
  subst h6
  refine z_istore (lv' := [(6, .int (nI 0)), (5, .int (nI 1)), (0, .ref b0), (1, .ref h), (2, .ref (ma 0)), (3, .ref o), (4, .int (nI i))]) (n := 751) hC dL_law_749 (by decide) rfl rfl ?_
  refine z_aload_n (n := 752) hC dL_law_751 rfl 4 rfl rfl ?_
  refine z_calli (R := room_1) (cells := 30 + 7 * j + 1) (slots := 211 + 66 * j + 6) (ws := (wH h ta sa ua T) ++ (wT ta cI b r) ++ (wS sa cI cZ sw st fa sc fi mi lf hi n) ++ (wS ua cI cZ sw2 st2 fa2 sc2 fi2 mi2 lf2 hi2 n2) ++ (wN ma cI (nI 1) n sw st b r T sc fi mi fa K) ++ (wO o cJ ov)) (n := 755) (As := []) (rest := []) hC (k_X3_thrown l G cI cZ cJ ma (nI 1) n sw st b r T sc fi mi fa K (by omega) (by omega)) kg_L_89 kd_yX3_thrown dL_law_752 ⟨Nat.le_of_ble_eq_true rfl, Nat.le_of_ble_eq_true rfl⟩ 0 rfl rfl rfl [22, 23, 24, 25, 26, 27, 28] rfl (by decide) rfl (Nat.le_of_ble_eq_true rfl) ⟨by show _ ≤ 1080188; omega, by show _ ≤ 5855541; omega⟩ (ws2 := fun u7 => (wH h ta sa ua T) ++ (wT ta cI b r) ++ (wS sa cI cZ sw st fa sc fi mi lf hi n) ++ (wS ua cI cZ sw2 st2 fa2 sc2 fi2 mi2 lf2 hi2 n2) ++ (wN ma cI (nI 1) n sw st b r T sc fi mi fa K) ++ (wO o cJ ov)) [0, 1, 2, 3, 4, 5, 6, 7, 8, 9, 10, 11, 12, 13, 14, 15, 16, 17, 18, 19, 20, 21, 29] (fun _ => rfl) ((wH h ta sa ua T) ++ (wT ta cI b r) ++ (wS sa cI cZ sw st fa sc fi mi lf hi n) ++ (wS ua cI cZ sw2 st2 fa2 sc2 fi2 mi2 lf2 hi2 n2) ++ (wO o cJ ov)) (fun _ => rfl) rfl (cv_of 30 (by decide +kernel) (fun _ => rfl)) [ma 0, ma 1, ma 2, ma 3, ma 4, ma 5, ma 6] (fun _ => rfl) rfl rfl rfl (fun r8 u7 h9 => ?_)
  subst h9
  refine z_iload (n := 757) hC dL_law_755 1 rfl rfl ?_
  refine z_icmp_eq_n (tgt := 762) (n := 760) hC 1 1 rfl rfl (by omega) (by omega) dL_law_757 (by decide) rfl (fun c10 => ?_) (fun c10 => absurd rfl c10)
  refine z_iload (n := 764) hC dL_law_762 1 rfl rfl ?_
  refine z_if_ne (tgt := 779) (n := 767) hC dL_law_764 (by decide) rfl (fun c11 => ?_) (fun c11 => absurd c11 (by decide))
  refine z_goto (n := 1448) hC dL_law_779 (by decide) ?_
  refine z_iinc (k0 := 6) (v := nI (i + 4)) (lv' := [(4, .int (nI (i + 4))), (6, .int (nI 0)), (5, .int (nI 1)), (0, .ref b0), (1, .ref h), (2, .ref (ma 0)), (3, .ref o)]) (n := 1451) hC dL_law_1448 rfl (nI_add i 4) (by decide) rfl rfl ?_
  refine z_goto (n := 23) hC dL_law_1451 (by decide) ?_
  refine z_lv [3, 4, 5, 6, 0] (lv' := [(0, .ref b0), (1, .ref h), (2, .ref (ma 0)), (3, .ref o), (4, .int (nI (i + 4)))]) rfl ?_
  refine z_wid (k1 := 30 + 7 * (j + 1)) (k2 := 211 + 66 * (j + 1)) (by omega) (by omega) ?_
  exact ih (i + 4) T b r sw st fa sc fi mi lf hi n sw2 st2 fa2 sc2 fi2 mi2 lf2 hi2 n2 (nI 1) K ov (by omega) (iv_same hI)

set_option maxRecDepth 100000 in
set_option maxHeartbeats 4000000 in
theorem c_firstsOf (p : Program) (l : Launch) (e : Env) (s : State) (m : MethodId) (args : Array Value) (below : List Frame) (meth : Method) (c : Code) (G : va_G) (A : Nat → Prop) (Q : State → Prop) (cI cZ cJ : ClassId) (b0 h o : Nat) (ta sa ua ma : Nat → Nat) (L : Nat) (xs : Nat → Int32) (i j : Nat) (T : Nat) (b r sw st fa sc fi mi : Nat → Int32) (lf hi : Nat → Bool) (n : Nat) (sw2 st2 fa2 sc2 fi2 mi2 : Nat → Int32) (lf2 hi2 : Nat → Bool) (n2 : Nat) (th : Int32) (K : Nat → Int32) (ov : Nat → Int64) (g : Nat) (hW : LX p l s m args c G A cI cZ cJ b0 L xs) (hI : iv j T n b r st fa mi) (hi0 : i = 4 * j) (hiL : i + 4 ≤ L) (he1 : xs (i + 1) = nI g) (hg : g < n) (ih : LPj p l e s m args below meth c G A Q cI cZ cJ b0 h o ta sa ua ma (j + 1)) : LZ p l e s m args below meth c G A Q cI cZ cJ b0 h o ta sa ua ma (30 + 7 * j) (211 + 66 * j) i 782 T b r sw st fa sc fi mi lf hi n sw2 st2 fa2 sc2 fi2 mi2 lf2 hi2 n2 th K ov := by
  obtain ⟨hC, hl, hz, hX, hb0, hbA, hL⟩ := hW
  have hj : j ≤ 511 := by omega
  obtain ⟨hn, hT0, hst, hfa0, hmi0, hb9, hr9⟩ := id hI
  have hT : T < 2 ^ 29 := by omega
  have hfa : ∀ g : Nat, inN (fa g) (2 ^ 28) := fun g => inN_mono (hfa0 g) (by omega)
  have hmi : ∀ g : Nat, inN (mi g) (2 ^ 30) := fun g => inN_mono (hmi0 g) (by omega)
  have ham : ∀ (g zt : Nat), inN (amF b r zt g) 1000 := fun g zt => am_in hb9 hr9 zt g
  unfold LZ
  refine z_aload_n (n := 783) hC dL_law_782 rfl 1 rfl rfl ?_
  refine z_aload_n (n := 784) hC dL_law_783 rfl 0 rfl rfl ?_
  refine z_iload (n := 786) hC dL_law_784 4 rfl rfl ?_
  refine z_iconst (v := nI 1) (n := 787) hC dL_law_786 (by decide) rfl ?_
  refine z_iadd (v := nI (i + 1)) (n := 788) hC dL_law_787 (nI_add i 1) rfl ?_
  refine z_sld (v := nI g) (n := 789) hC hX hb0 hbA hL (i + 1) rfl (by omega) he1 dL_law_788 rfl ?_
  refine z_aload_n (n := 790) hC dL_law_789 rfl 3 rfl rfl ?_
  refine z_callsiH (R := room_1) (cells := 30 + 7 * j) (slots := 211 + 66 * j) (ws := (wH h ta sa ua T) ++ (wT ta cI b r) ++ (wS sa cI cZ sw st fa sc fi mi lf hi n) ++ (wS ua cI cZ sw2 st2 fa2 sc2 fi2 mi2 lf2 hi2 n2) ++ (wN ma cI th n sw st b r T sc fi mi fa K) ++ (wO o cJ ov)) (n := 793) (As := [.ref h, .int (nI g), .ref o]) (rest := []) hC hz (k_L_firstsOf l G cI cZ cJ h ta sa ua T b r sw st fa sc fi mi lf hi n sw2 st2 fa2 sc2 fi2 mi2 lf2 hi2 n2 o ov g (by omega) (by omega) hg) kg_L_130 kd_yL_firstsOf dL_law_790 ⟨Nat.le_of_ble_eq_true rfl, Nat.le_of_ble_eq_true rfl⟩ [0, 1, 2, 3, 4, 5, 6, 7, 8, 9, 10, 11, 12, 13, 14, 15, 16, 17, 18, 19, 20, 21, 29] rfl (by decide) rfl (Nat.le_of_ble_eq_true rfl) ⟨by show _ ≤ 1080188; omega, by show _ ≤ 5855541; omega⟩ (ws2 := fun u1 => (wH h ta sa ua T) ++ (wT ta cI b r) ++ (wS sa cI cZ sw st fa sc fi mi lf hi n) ++ (wS ua cI cZ sw2 st2 fa2 sc2 fi2 mi2 lf2 hi2 n2) ++ (wN ma cI th n sw st b r T sc fi mi fa K) ++ (wO o cJ (vp_updL ov 0 ((fi g).toInt64)))) [22, 23, 24, 25, 26, 27, 28] (fun _ => rfl) (wN ma cI th n sw st b r T sc fi mi fa K) (fun _ => rfl) rfl (cv_of 30 (by decide +kernel) (fun _ => rfl)) [h, ta 0, ta 1, ta 2, sa 0, sa 1, sa 2, sa 3, sa 4, sa 5, sa 6, sa 7, sa 8, ua 0, ua 1, ua 2, ua 3, ua 4, ua 5, ua 6, ua 7, ua 8, o] (fun _ => rfl) rfl rfl rfl (fun r2 u1 h3 => ?_)
  subst h3
  refine z_istore (lv' := [(5, .int (nI 0)), (0, .ref b0), (1, .ref h), (2, .ref (ma 0)), (3, .ref o), (4, .int (nI i))]) (n := 795) hC dL_law_793 (by decide) rfl rfl ?_
  refine z_aload_n (n := 796) hC dL_law_795 rfl 3 rfl rfl ?_
  refine z_aload_n (n := 797) hC dL_law_796 rfl 1 rfl rfl ?_
  refine z_iload (n := 799) hC dL_law_797 5 rfl rfl ?_
  refine z_iconst (v := nI 1) (n := 800) hC dL_law_799 (by decide) rfl ?_
  refine z_iadd (v := nI (i + 1)) (n := 801) hC dL_law_800 (nI_add i 1) rfl ?_
  refine z_sld (v := nI g) (n := 802) hC hX hb0 hbA hL (i + 1) rfl (by omega) he1 dL_law_801 rfl ?_
  refine z_calli (R := room_1) (cells := 30 + 7 * j) (slots := 211 + 66 * j) (ws := (wH h ta sa ua T) ++ (wT ta cI b r) ++ (wS sa cI cZ sw st fa sc fi mi lf hi n) ++ (wS ua cI cZ sw2 st2 fa2 sc2 fi2 mi2 lf2 hi2 n2) ++ (wN ma cI th n sw st b r T sc fi mi fa K) ++ (wO o cJ (vp_updL ov 0 ((fi g).toInt64)))) (n := 805) (As := [.int (nI g)]) (rest := []) hC (k_X3_firstsOf l G cI cZ cJ ma th n sw st b r T sc fi mi fa K g (by omega) (by omega) hg) kg_L_132 kd_yX3_firstsOf dL_law_802 ⟨Nat.le_of_ble_eq_true rfl, Nat.le_of_ble_eq_true rfl⟩ 0 rfl rfl rfl [22, 23, 24, 25, 26, 27, 28] rfl (by decide) rfl (Nat.le_of_ble_eq_true rfl) ⟨by show _ ≤ 1080188; omega, by show _ ≤ 5855541; omega⟩ (ws2 := fun u4 => (wH h ta sa ua T) ++ (wT ta cI b r) ++ (wS sa cI cZ sw st fa sc fi mi lf hi n) ++ (wS ua cI cZ sw2 st2 fa2 sc2 fi2 mi2 lf2 hi2 n2) ++ (wN ma cI (nI 0) n sw st b r T sc fi mi fa K) ++ (wO o cJ (vp_updL ov 0 ((fi g).toInt64)))) [0, 1, 2, 3, 4, 5, 6, 7, 8, 9, 10, 11, 12, 13, 14, 15, 16, 17, 18, 19, 20, 21, 29] (fun _ => rfl) ((wH h ta sa ua T) ++ (wT ta cI b r) ++ (wS sa cI cZ sw st fa sc fi mi lf hi n) ++ (wS ua cI cZ sw2 st2 fa2 sc2 fi2 mi2 lf2 hi2 n2) ++ (wO o cJ (vp_updL ov 0 ((fi g).toInt64)))) (fun _ => rfl) rfl (cv_of 30 (by decide +kernel) (fun _ => rfl)) [ma 0, ma 1, ma 2, ma 3, ma 4, ma 5, ma 6] (fun _ => rfl) rfl rfl rfl (fun r5 u4 h6 => ?_)
  subst h6
  refine z_istore (lv' := [(6, .int (fi g)), (5, .int (nI 0)), (0, .ref b0), (1, .ref h), (2, .ref (ma 0)), (3, .ref o), (4, .int (nI i))]) (n := 807) hC dL_law_805 (by decide) rfl rfl ?_
  refine z_aload_n (n := 808) hC dL_law_807 rfl 4 rfl rfl ?_
  refine z_calli (R := room_1) (cells := 30 + 7 * j) (slots := 211 + 66 * j) (ws := (wH h ta sa ua T) ++ (wT ta cI b r) ++ (wS sa cI cZ sw st fa sc fi mi lf hi n) ++ (wS ua cI cZ sw2 st2 fa2 sc2 fi2 mi2 lf2 hi2 n2) ++ (wN ma cI (nI 0) n sw st b r T sc fi mi fa K) ++ (wO o cJ (vp_updL ov 0 ((fi g).toInt64)))) (n := 811) (As := []) (rest := []) hC (k_X3_thrown l G cI cZ cJ ma (nI 0) n sw st b r T sc fi mi fa K (by omega) (by omega)) kg_L_89 kd_yX3_thrown dL_law_808 ⟨Nat.le_of_ble_eq_true rfl, Nat.le_of_ble_eq_true rfl⟩ 0 rfl rfl rfl [22, 23, 24, 25, 26, 27, 28] rfl (by decide) rfl (Nat.le_of_ble_eq_true rfl) ⟨by show _ ≤ 1080188; omega, by show _ ≤ 5855541; omega⟩ (ws2 := fun u7 => (wH h ta sa ua T) ++ (wT ta cI b r) ++ (wS sa cI cZ sw st fa sc fi mi lf hi n) ++ (wS ua cI cZ sw2 st2 fa2 sc2 fi2 mi2 lf2 hi2 n2) ++ (wN ma cI (nI 0) n sw st b r T sc fi mi fa K) ++ (wO o cJ (vp_updL ov 0 ((fi g).toInt64)))) [0, 1, 2, 3, 4, 5, 6, 7, 8, 9, 10, 11, 12, 13, 14, 15, 16, 17, 18, 19, 20, 21, 29] (fun _ => rfl) ((wH h ta sa ua T) ++ (wT ta cI b r) ++ (wS sa cI cZ sw st fa sc fi mi lf hi n) ++ (wS ua cI cZ sw2 st2 fa2 sc2 fi2 mi2 lf2 hi2 n2) ++ (wO o cJ (vp_updL ov 0 ((fi g).toInt64)))) (fun _ => rfl) rfl (cv_of 30 (by decide +kernel) (fun _ => rfl)) [ma 0, ma 1, ma 2, ma 3, ma 4, ma 5, ma 6] (fun _ => rfl) rfl rfl rfl (fun r8 u7 h9 => ?_)
  subst h9
  refine z_iload (n := 813) hC dL_law_811 1 rfl rfl ?_
  refine z_icmp_eq_n (tgt := 818) (n := 816) hC 0 0 rfl rfl (by omega) (by omega) dL_law_813 (by decide) rfl (fun c10 => ?_) (fun c10 => absurd rfl c10)
  refine z_iload (n := 820) hC dL_law_818 1 rfl rfl ?_
  refine z_if_ne (tgt := 835) (n := 823) hC dL_law_820 (by decide) rfl (fun c11 => absurd (nI_0) c11) (fun c11 => ?_)
  refine z_aload_n (n := 824) hC dL_law_823 rfl 5 rfl rfl ?_
  refine z_iconst (v := nI 0) (n := 825) hC dL_law_824 (by decide) rfl ?_
  refine z_lald (v := (fi g).toInt64) (n := 826) hC 29 2 0 rfl rfl rfl (by omega) (by decide) dL_law_825 updL_at rfl ?_
  refine z_iload (n := 828) hC dL_law_826 0 rfl rfl ?_
  refine z_i2l (v := (fi g).toInt64) (n := 829) hC dL_law_828 rfl rfl ?_
  refine z_lcmp (n := 830) hC dL_law_829 rfl ?_
  refine z_if_eq (tgt := 835) (n := 833) hC dL_law_830 (by decide) rfl (fun c12 => ?_) (fun c12 => absurd (lg_self _) c12)
  refine z_goto (n := 1448) hC dL_law_835 (by decide) ?_
  refine z_iinc (k0 := 6) (v := nI (i + 4)) (lv' := [(4, .int (nI (i + 4))), (6, .int (fi g)), (5, .int (nI 0)), (0, .ref b0), (1, .ref h), (2, .ref (ma 0)), (3, .ref o)]) (n := 1451) hC dL_law_1448 rfl (nI_add i 4) (by decide) rfl rfl ?_
  refine z_goto (n := 23) hC dL_law_1451 (by decide) ?_
  refine z_lv [3, 4, 5, 6, 0] (lv' := [(0, .ref b0), (1, .ref h), (2, .ref (ma 0)), (3, .ref o), (4, .int (nI (i + 4)))]) rfl ?_
  refine z_wid (k1 := 30 + 7 * (j + 1)) (k2 := 211 + 66 * (j + 1)) (by omega) (by omega) ?_
  exact ih (i + 4) T b r sw st fa sc fi mi lf hi n sw2 st2 fa2 sc2 fi2 mi2 lf2 hi2 n2 (nI 0) K (vp_updL ov 0 ((fi g).toInt64)) (by omega) (iv_same hI)

set_option maxRecDepth 100000 in
set_option maxHeartbeats 4000000 in
theorem c_firstsOf_x (p : Program) (l : Launch) (e : Env) (s : State) (m : MethodId) (args : Array Value) (below : List Frame) (meth : Method) (c : Code) (G : va_G) (A : Nat → Prop) (Q : State → Prop) (cI cZ cJ : ClassId) (b0 h o : Nat) (ta sa ua ma : Nat → Nat) (L : Nat) (xs : Nat → Int32) (i j : Nat) (T : Nat) (b r sw st fa sc fi mi : Nat → Int32) (lf hi : Nat → Bool) (n : Nat) (sw2 st2 fa2 sc2 fi2 mi2 : Nat → Int32) (lf2 hi2 : Nat → Bool) (n2 : Nat) (th : Int32) (K : Nat → Int32) (ov : Nat → Int64)  (hW : LX p l s m args c G A cI cZ cJ b0 L xs) (hI : iv j T n b r st fa mi) (hi0 : i = 4 * j) (hiL : i + 4 ≤ L) (hb : xs (i + 1) < 0 ∨ nI n ≤ xs (i + 1)) (ih : LPj p l e s m args below meth c G A Q cI cZ cJ b0 h o ta sa ua ma (j + 1)) : LZ p l e s m args below meth c G A Q cI cZ cJ b0 h o ta sa ua ma (30 + 7 * j) (211 + 66 * j) i 782 T b r sw st fa sc fi mi lf hi n sw2 st2 fa2 sc2 fi2 mi2 lf2 hi2 n2 th K ov := by
  obtain ⟨hC, hl, hz, hX, hb0, hbA, hL⟩ := hW
  have hj : j ≤ 511 := by omega
  obtain ⟨hn, hT0, hst, hfa0, hmi0, hb9, hr9⟩ := id hI
  have hT : T < 2 ^ 29 := by omega
  have hfa : ∀ g : Nat, inN (fa g) (2 ^ 28) := fun g => inN_mono (hfa0 g) (by omega)
  have hmi : ∀ g : Nat, inN (mi g) (2 ^ 30) := fun g => inN_mono (hmi0 g) (by omega)
  have ham : ∀ (g zt : Nat), inN (amF b r zt g) 1000 := fun g zt => am_in hb9 hr9 zt g
  unfold LZ
  refine z_aload_n (n := 783) hC dL_law_782 rfl 1 rfl rfl ?_
  refine z_aload_n (n := 784) hC dL_law_783 rfl 0 rfl rfl ?_
  refine z_iload (n := 786) hC dL_law_784 4 rfl rfl ?_
  refine z_iconst (v := nI 1) (n := 787) hC dL_law_786 (by decide) rfl ?_
  refine z_iadd (v := nI (i + 1)) (n := 788) hC dL_law_787 (nI_add i 1) rfl ?_
  refine z_sld (v := xs (i + 1)) (n := 789) hC hX hb0 hbA hL (i + 1) rfl (by omega) rfl dL_law_788 rfl ?_
  refine z_aload_n (n := 790) hC dL_law_789 rfl 3 rfl rfl ?_
  refine z_callsiH (R := room_1) (cells := 30 + 7 * j) (slots := 211 + 66 * j) (ws := (wH h ta sa ua T) ++ (wT ta cI b r) ++ (wS sa cI cZ sw st fa sc fi mi lf hi n) ++ (wS ua cI cZ sw2 st2 fa2 sc2 fi2 mi2 lf2 hi2 n2) ++ (wN ma cI th n sw st b r T sc fi mi fa K) ++ (wO o cJ ov)) (n := 793) (As := [.ref h, .int (xs (i + 1)), .ref o]) (rest := []) hC hz (kx_L_firstsOf_x l G cI cZ cJ h ta sa ua T b r sw st fa sc fi mi lf hi n sw2 st2 fa2 sc2 fi2 mi2 lf2 hi2 n2 o ov (xs (i + 1)) hl (by omega) (by omega) hb) kg_L_130 kd_yL_firstsOf dL_law_790 ⟨Nat.le_of_ble_eq_true rfl, Nat.le_of_ble_eq_true rfl⟩ [0, 1, 2, 3, 4, 5, 6, 7, 8, 9, 10, 11, 12, 13, 14, 15, 16, 17, 18, 19, 20, 21, 29] rfl (by decide) rfl (Nat.le_of_ble_eq_true rfl) ⟨by show _ ≤ 1080188; omega, by show _ ≤ 5855541; omega⟩ (ws2 := fun u1 => (wH h ta sa ua T) ++ (wT ta cI b r) ++ (wS sa cI cZ sw st fa sc fi mi lf hi n) ++ (wS ua cI cZ sw2 st2 fa2 sc2 fi2 mi2 lf2 hi2 n2) ++ (wN ma cI th n sw st b r T sc fi mi fa K) ++ (wO o cJ ov)) [22, 23, 24, 25, 26, 27, 28] (fun _ => rfl) (wN ma cI th n sw st b r T sc fi mi fa K) (fun _ => rfl) rfl (cv_of 30 (by decide +kernel) (fun _ => rfl)) [h, ta 0, ta 1, ta 2, sa 0, sa 1, sa 2, sa 3, sa 4, sa 5, sa 6, sa 7, sa 8, ua 0, ua 1, ua 2, ua 3, ua 4, ua 5, ua 6, ua 7, ua 8, o] (fun _ => rfl) rfl rfl rfl (fun r2 u1 h3 => ?_)
  subst h3
  refine z_istore (lv' := [(5, .int (nI 1)), (0, .ref b0), (1, .ref h), (2, .ref (ma 0)), (3, .ref o), (4, .int (nI i))]) (n := 795) hC dL_law_793 (by decide) rfl rfl ?_
  refine z_aload_n (n := 796) hC dL_law_795 rfl 3 rfl rfl ?_
  refine z_aload_n (n := 797) hC dL_law_796 rfl 1 rfl rfl ?_
  refine z_iload (n := 799) hC dL_law_797 5 rfl rfl ?_
  refine z_iconst (v := nI 1) (n := 800) hC dL_law_799 (by decide) rfl ?_
  refine z_iadd (v := nI (i + 1)) (n := 801) hC dL_law_800 (nI_add i 1) rfl ?_
  refine z_sld (v := xs (i + 1)) (n := 802) hC hX hb0 hbA hL (i + 1) rfl (by omega) rfl dL_law_801 rfl ?_
  refine z_calli (R := room_1) (cells := 30 + 7 * j + 1) (slots := 211 + 66 * j + 6) (ws := (wH h ta sa ua T) ++ (wT ta cI b r) ++ (wS sa cI cZ sw st fa sc fi mi lf hi n) ++ (wS ua cI cZ sw2 st2 fa2 sc2 fi2 mi2 lf2 hi2 n2) ++ (wN ma cI th n sw st b r T sc fi mi fa K) ++ (wO o cJ ov)) (n := 805) (As := [.int (xs (i + 1))]) (rest := []) hC (k_X3_firstsOf_x l G cI cZ cJ ma th n sw st b r T sc fi mi fa K (xs (i + 1)) (by omega) (by omega) hb) kg_L_132 kd_yX3_firstsOf dL_law_802 ⟨Nat.le_of_ble_eq_true rfl, Nat.le_of_ble_eq_true rfl⟩ 0 rfl rfl rfl [22, 23, 24, 25, 26, 27, 28] rfl (by decide) rfl (Nat.le_of_ble_eq_true rfl) ⟨by show _ ≤ 1080188; omega, by show _ ≤ 5855541; omega⟩ (ws2 := fun u4 => (wH h ta sa ua T) ++ (wT ta cI b r) ++ (wS sa cI cZ sw st fa sc fi mi lf hi n) ++ (wS ua cI cZ sw2 st2 fa2 sc2 fi2 mi2 lf2 hi2 n2) ++ (wN ma cI (nI 1) n sw st b r T sc fi mi fa K) ++ (wO o cJ ov)) [0, 1, 2, 3, 4, 5, 6, 7, 8, 9, 10, 11, 12, 13, 14, 15, 16, 17, 18, 19, 20, 21, 29] (fun _ => rfl) ((wH h ta sa ua T) ++ (wT ta cI b r) ++ (wS sa cI cZ sw st fa sc fi mi lf hi n) ++ (wS ua cI cZ sw2 st2 fa2 sc2 fi2 mi2 lf2 hi2 n2) ++ (wO o cJ ov)) (fun _ => rfl) rfl (cv_of 30 (by decide +kernel) (fun _ => rfl)) [ma 0, ma 1, ma 2, ma 3, ma 4, ma 5, ma 6] (fun _ => rfl) rfl rfl rfl (fun r5 u4 h6 => ?_)
  subst h6
  refine z_istore (lv' := [(6, .int (nI 0)), (5, .int (nI 1)), (0, .ref b0), (1, .ref h), (2, .ref (ma 0)), (3, .ref o), (4, .int (nI i))]) (n := 807) hC dL_law_805 (by decide) rfl rfl ?_
  refine z_aload_n (n := 808) hC dL_law_807 rfl 4 rfl rfl ?_
  refine z_calli (R := room_1) (cells := 30 + 7 * j + 1) (slots := 211 + 66 * j + 6) (ws := (wH h ta sa ua T) ++ (wT ta cI b r) ++ (wS sa cI cZ sw st fa sc fi mi lf hi n) ++ (wS ua cI cZ sw2 st2 fa2 sc2 fi2 mi2 lf2 hi2 n2) ++ (wN ma cI (nI 1) n sw st b r T sc fi mi fa K) ++ (wO o cJ ov)) (n := 811) (As := []) (rest := []) hC (k_X3_thrown l G cI cZ cJ ma (nI 1) n sw st b r T sc fi mi fa K (by omega) (by omega)) kg_L_89 kd_yX3_thrown dL_law_808 ⟨Nat.le_of_ble_eq_true rfl, Nat.le_of_ble_eq_true rfl⟩ 0 rfl rfl rfl [22, 23, 24, 25, 26, 27, 28] rfl (by decide) rfl (Nat.le_of_ble_eq_true rfl) ⟨by show _ ≤ 1080188; omega, by show _ ≤ 5855541; omega⟩ (ws2 := fun u7 => (wH h ta sa ua T) ++ (wT ta cI b r) ++ (wS sa cI cZ sw st fa sc fi mi lf hi n) ++ (wS ua cI cZ sw2 st2 fa2 sc2 fi2 mi2 lf2 hi2 n2) ++ (wN ma cI (nI 1) n sw st b r T sc fi mi fa K) ++ (wO o cJ ov)) [0, 1, 2, 3, 4, 5, 6, 7, 8, 9, 10, 11, 12, 13, 14, 15, 16, 17, 18, 19, 20, 21, 29] (fun _ => rfl) ((wH h ta sa ua T) ++ (wT ta cI b r) ++ (wS sa cI cZ sw st fa sc fi mi lf hi n) ++ (wS ua cI cZ sw2 st2 fa2 sc2 fi2 mi2 lf2 hi2 n2) ++ (wO o cJ ov)) (fun _ => rfl) rfl (cv_of 30 (by decide +kernel) (fun _ => rfl)) [ma 0, ma 1, ma 2, ma 3, ma 4, ma 5, ma 6] (fun _ => rfl) rfl rfl rfl (fun r8 u7 h9 => ?_)
  subst h9
  refine z_iload (n := 813) hC dL_law_811 1 rfl rfl ?_
  refine z_icmp_eq_n (tgt := 818) (n := 816) hC 1 1 rfl rfl (by omega) (by omega) dL_law_813 (by decide) rfl (fun c10 => ?_) (fun c10 => absurd rfl c10)
  refine z_iload (n := 820) hC dL_law_818 1 rfl rfl ?_
  refine z_if_ne (tgt := 835) (n := 823) hC dL_law_820 (by decide) rfl (fun c11 => ?_) (fun c11 => absurd c11 (by decide))
  refine z_goto (n := 1448) hC dL_law_835 (by decide) ?_
  refine z_iinc (k0 := 6) (v := nI (i + 4)) (lv' := [(4, .int (nI (i + 4))), (6, .int (nI 0)), (5, .int (nI 1)), (0, .ref b0), (1, .ref h), (2, .ref (ma 0)), (3, .ref o)]) (n := 1451) hC dL_law_1448 rfl (nI_add i 4) (by decide) rfl rfl ?_
  refine z_goto (n := 23) hC dL_law_1451 (by decide) ?_
  refine z_lv [3, 4, 5, 6, 0] (lv' := [(0, .ref b0), (1, .ref h), (2, .ref (ma 0)), (3, .ref o), (4, .int (nI (i + 4)))]) rfl ?_
  refine z_wid (k1 := 30 + 7 * (j + 1)) (k2 := 211 + 66 * (j + 1)) (by omega) (by omega) ?_
  exact ih (i + 4) T b r sw st fa sc fi mi lf hi n sw2 st2 fa2 sc2 fi2 mi2 lf2 hi2 n2 (nI 1) K ov (by omega) (iv_same hI)

set_option maxRecDepth 100000 in
set_option maxHeartbeats 4000000 in
theorem c_missesOf (p : Program) (l : Launch) (e : Env) (s : State) (m : MethodId) (args : Array Value) (below : List Frame) (meth : Method) (c : Code) (G : va_G) (A : Nat → Prop) (Q : State → Prop) (cI cZ cJ : ClassId) (b0 h o : Nat) (ta sa ua ma : Nat → Nat) (L : Nat) (xs : Nat → Int32) (i j : Nat) (T : Nat) (b r sw st fa sc fi mi : Nat → Int32) (lf hi : Nat → Bool) (n : Nat) (sw2 st2 fa2 sc2 fi2 mi2 : Nat → Int32) (lf2 hi2 : Nat → Bool) (n2 : Nat) (th : Int32) (K : Nat → Int32) (ov : Nat → Int64) (g : Nat) (hW : LX p l s m args c G A cI cZ cJ b0 L xs) (hI : iv j T n b r st fa mi) (hi0 : i = 4 * j) (hiL : i + 4 ≤ L) (he1 : xs (i + 1) = nI g) (hg : g < n) (ih : LPj p l e s m args below meth c G A Q cI cZ cJ b0 h o ta sa ua ma (j + 1)) : LZ p l e s m args below meth c G A Q cI cZ cJ b0 h o ta sa ua ma (30 + 7 * j) (211 + 66 * j) i 838 T b r sw st fa sc fi mi lf hi n sw2 st2 fa2 sc2 fi2 mi2 lf2 hi2 n2 th K ov := by
  obtain ⟨hC, hl, hz, hX, hb0, hbA, hL⟩ := hW
  have hj : j ≤ 511 := by omega
  obtain ⟨hn, hT0, hst, hfa0, hmi0, hb9, hr9⟩ := id hI
  have hT : T < 2 ^ 29 := by omega
  have hfa : ∀ g : Nat, inN (fa g) (2 ^ 28) := fun g => inN_mono (hfa0 g) (by omega)
  have hmi : ∀ g : Nat, inN (mi g) (2 ^ 30) := fun g => inN_mono (hmi0 g) (by omega)
  have ham : ∀ (g zt : Nat), inN (amF b r zt g) 1000 := fun g zt => am_in hb9 hr9 zt g
  unfold LZ
  refine z_aload_n (n := 839) hC dL_law_838 rfl 1 rfl rfl ?_
  refine z_aload_n (n := 840) hC dL_law_839 rfl 0 rfl rfl ?_
  refine z_iload (n := 842) hC dL_law_840 4 rfl rfl ?_
  refine z_iconst (v := nI 1) (n := 843) hC dL_law_842 (by decide) rfl ?_
  refine z_iadd (v := nI (i + 1)) (n := 844) hC dL_law_843 (nI_add i 1) rfl ?_
  refine z_sld (v := nI g) (n := 845) hC hX hb0 hbA hL (i + 1) rfl (by omega) he1 dL_law_844 rfl ?_
  refine z_aload_n (n := 846) hC dL_law_845 rfl 3 rfl rfl ?_
  refine z_callsiH (R := room_1) (cells := 30 + 7 * j) (slots := 211 + 66 * j) (ws := (wH h ta sa ua T) ++ (wT ta cI b r) ++ (wS sa cI cZ sw st fa sc fi mi lf hi n) ++ (wS ua cI cZ sw2 st2 fa2 sc2 fi2 mi2 lf2 hi2 n2) ++ (wN ma cI th n sw st b r T sc fi mi fa K) ++ (wO o cJ ov)) (n := 849) (As := [.ref h, .int (nI g), .ref o]) (rest := []) hC hz (k_L_missesOf l G cI cZ cJ h ta sa ua T b r sw st fa sc fi mi lf hi n sw2 st2 fa2 sc2 fi2 mi2 lf2 hi2 n2 o ov g (by omega) (by omega) hg) kg_L_133 kd_yL_missesOf dL_law_846 ⟨Nat.le_of_ble_eq_true rfl, Nat.le_of_ble_eq_true rfl⟩ [0, 1, 2, 3, 4, 5, 6, 7, 8, 9, 10, 11, 12, 13, 14, 15, 16, 17, 18, 19, 20, 21, 29] rfl (by decide) rfl (Nat.le_of_ble_eq_true rfl) ⟨by show _ ≤ 1080188; omega, by show _ ≤ 5855541; omega⟩ (ws2 := fun u1 => (wH h ta sa ua T) ++ (wT ta cI b r) ++ (wS sa cI cZ sw st fa sc fi mi lf hi n) ++ (wS ua cI cZ sw2 st2 fa2 sc2 fi2 mi2 lf2 hi2 n2) ++ (wN ma cI th n sw st b r T sc fi mi fa K) ++ (wO o cJ (vp_updL ov 0 ((mi g).toInt64)))) [22, 23, 24, 25, 26, 27, 28] (fun _ => rfl) (wN ma cI th n sw st b r T sc fi mi fa K) (fun _ => rfl) rfl (cv_of 30 (by decide +kernel) (fun _ => rfl)) [h, ta 0, ta 1, ta 2, sa 0, sa 1, sa 2, sa 3, sa 4, sa 5, sa 6, sa 7, sa 8, ua 0, ua 1, ua 2, ua 3, ua 4, ua 5, ua 6, ua 7, ua 8, o] (fun _ => rfl) rfl rfl rfl (fun r2 u1 h3 => ?_)
  subst h3
  refine z_istore (lv' := [(5, .int (nI 0)), (0, .ref b0), (1, .ref h), (2, .ref (ma 0)), (3, .ref o), (4, .int (nI i))]) (n := 851) hC dL_law_849 (by decide) rfl rfl ?_
  refine z_aload_n (n := 852) hC dL_law_851 rfl 3 rfl rfl ?_
  refine z_aload_n (n := 853) hC dL_law_852 rfl 1 rfl rfl ?_
  refine z_iload (n := 855) hC dL_law_853 5 rfl rfl ?_
  refine z_iconst (v := nI 1) (n := 856) hC dL_law_855 (by decide) rfl ?_
  refine z_iadd (v := nI (i + 1)) (n := 857) hC dL_law_856 (nI_add i 1) rfl ?_
  refine z_sld (v := nI g) (n := 858) hC hX hb0 hbA hL (i + 1) rfl (by omega) he1 dL_law_857 rfl ?_
  refine z_calli (R := room_1) (cells := 30 + 7 * j) (slots := 211 + 66 * j) (ws := (wH h ta sa ua T) ++ (wT ta cI b r) ++ (wS sa cI cZ sw st fa sc fi mi lf hi n) ++ (wS ua cI cZ sw2 st2 fa2 sc2 fi2 mi2 lf2 hi2 n2) ++ (wN ma cI th n sw st b r T sc fi mi fa K) ++ (wO o cJ (vp_updL ov 0 ((mi g).toInt64)))) (n := 861) (As := [.int (nI g)]) (rest := []) hC (k_X3_missesOf l G cI cZ cJ ma th n sw st b r T sc fi mi fa K g (by omega) (by omega) hg) kg_L_135 kd_yX3_missesOf dL_law_858 ⟨Nat.le_of_ble_eq_true rfl, Nat.le_of_ble_eq_true rfl⟩ 0 rfl rfl rfl [22, 23, 24, 25, 26, 27, 28] rfl (by decide) rfl (Nat.le_of_ble_eq_true rfl) ⟨by show _ ≤ 1080188; omega, by show _ ≤ 5855541; omega⟩ (ws2 := fun u4 => (wH h ta sa ua T) ++ (wT ta cI b r) ++ (wS sa cI cZ sw st fa sc fi mi lf hi n) ++ (wS ua cI cZ sw2 st2 fa2 sc2 fi2 mi2 lf2 hi2 n2) ++ (wN ma cI (nI 0) n sw st b r T sc fi mi fa K) ++ (wO o cJ (vp_updL ov 0 ((mi g).toInt64)))) [0, 1, 2, 3, 4, 5, 6, 7, 8, 9, 10, 11, 12, 13, 14, 15, 16, 17, 18, 19, 20, 21, 29] (fun _ => rfl) ((wH h ta sa ua T) ++ (wT ta cI b r) ++ (wS sa cI cZ sw st fa sc fi mi lf hi n) ++ (wS ua cI cZ sw2 st2 fa2 sc2 fi2 mi2 lf2 hi2 n2) ++ (wO o cJ (vp_updL ov 0 ((mi g).toInt64)))) (fun _ => rfl) rfl (cv_of 30 (by decide +kernel) (fun _ => rfl)) [ma 0, ma 1, ma 2, ma 3, ma 4, ma 5, ma 6] (fun _ => rfl) rfl rfl rfl (fun r5 u4 h6 => ?_)
  subst h6
  refine z_istore (lv' := [(6, .int (mi g)), (5, .int (nI 0)), (0, .ref b0), (1, .ref h), (2, .ref (ma 0)), (3, .ref o), (4, .int (nI i))]) (n := 863) hC dL_law_861 (by decide) rfl rfl ?_
  refine z_aload_n (n := 864) hC dL_law_863 rfl 4 rfl rfl ?_
  refine z_calli (R := room_1) (cells := 30 + 7 * j) (slots := 211 + 66 * j) (ws := (wH h ta sa ua T) ++ (wT ta cI b r) ++ (wS sa cI cZ sw st fa sc fi mi lf hi n) ++ (wS ua cI cZ sw2 st2 fa2 sc2 fi2 mi2 lf2 hi2 n2) ++ (wN ma cI (nI 0) n sw st b r T sc fi mi fa K) ++ (wO o cJ (vp_updL ov 0 ((mi g).toInt64)))) (n := 867) (As := []) (rest := []) hC (k_X3_thrown l G cI cZ cJ ma (nI 0) n sw st b r T sc fi mi fa K (by omega) (by omega)) kg_L_89 kd_yX3_thrown dL_law_864 ⟨Nat.le_of_ble_eq_true rfl, Nat.le_of_ble_eq_true rfl⟩ 0 rfl rfl rfl [22, 23, 24, 25, 26, 27, 28] rfl (by decide) rfl (Nat.le_of_ble_eq_true rfl) ⟨by show _ ≤ 1080188; omega, by show _ ≤ 5855541; omega⟩ (ws2 := fun u7 => (wH h ta sa ua T) ++ (wT ta cI b r) ++ (wS sa cI cZ sw st fa sc fi mi lf hi n) ++ (wS ua cI cZ sw2 st2 fa2 sc2 fi2 mi2 lf2 hi2 n2) ++ (wN ma cI (nI 0) n sw st b r T sc fi mi fa K) ++ (wO o cJ (vp_updL ov 0 ((mi g).toInt64)))) [0, 1, 2, 3, 4, 5, 6, 7, 8, 9, 10, 11, 12, 13, 14, 15, 16, 17, 18, 19, 20, 21, 29] (fun _ => rfl) ((wH h ta sa ua T) ++ (wT ta cI b r) ++ (wS sa cI cZ sw st fa sc fi mi lf hi n) ++ (wS ua cI cZ sw2 st2 fa2 sc2 fi2 mi2 lf2 hi2 n2) ++ (wO o cJ (vp_updL ov 0 ((mi g).toInt64)))) (fun _ => rfl) rfl (cv_of 30 (by decide +kernel) (fun _ => rfl)) [ma 0, ma 1, ma 2, ma 3, ma 4, ma 5, ma 6] (fun _ => rfl) rfl rfl rfl (fun r8 u7 h9 => ?_)
  subst h9
  refine z_iload (n := 869) hC dL_law_867 1 rfl rfl ?_
  refine z_icmp_eq_n (tgt := 874) (n := 872) hC 0 0 rfl rfl (by omega) (by omega) dL_law_869 (by decide) rfl (fun c10 => ?_) (fun c10 => absurd rfl c10)
  refine z_iload (n := 876) hC dL_law_874 1 rfl rfl ?_
  refine z_if_ne (tgt := 891) (n := 879) hC dL_law_876 (by decide) rfl (fun c11 => absurd (nI_0) c11) (fun c11 => ?_)
  refine z_aload_n (n := 880) hC dL_law_879 rfl 5 rfl rfl ?_
  refine z_iconst (v := nI 0) (n := 881) hC dL_law_880 (by decide) rfl ?_
  refine z_lald (v := (mi g).toInt64) (n := 882) hC 29 2 0 rfl rfl rfl (by omega) (by decide) dL_law_881 updL_at rfl ?_
  refine z_iload (n := 884) hC dL_law_882 0 rfl rfl ?_
  refine z_i2l (v := (mi g).toInt64) (n := 885) hC dL_law_884 rfl rfl ?_
  refine z_lcmp (n := 886) hC dL_law_885 rfl ?_
  refine z_if_eq (tgt := 891) (n := 889) hC dL_law_886 (by decide) rfl (fun c12 => ?_) (fun c12 => absurd (lg_self _) c12)
  refine z_goto (n := 1448) hC dL_law_891 (by decide) ?_
  refine z_iinc (k0 := 6) (v := nI (i + 4)) (lv' := [(4, .int (nI (i + 4))), (6, .int (mi g)), (5, .int (nI 0)), (0, .ref b0), (1, .ref h), (2, .ref (ma 0)), (3, .ref o)]) (n := 1451) hC dL_law_1448 rfl (nI_add i 4) (by decide) rfl rfl ?_
  refine z_goto (n := 23) hC dL_law_1451 (by decide) ?_
  refine z_lv [3, 4, 5, 6, 0] (lv' := [(0, .ref b0), (1, .ref h), (2, .ref (ma 0)), (3, .ref o), (4, .int (nI (i + 4)))]) rfl ?_
  refine z_wid (k1 := 30 + 7 * (j + 1)) (k2 := 211 + 66 * (j + 1)) (by omega) (by omega) ?_
  exact ih (i + 4) T b r sw st fa sc fi mi lf hi n sw2 st2 fa2 sc2 fi2 mi2 lf2 hi2 n2 (nI 0) K (vp_updL ov 0 ((mi g).toInt64)) (by omega) (iv_same hI)

set_option maxRecDepth 100000 in
set_option maxHeartbeats 4000000 in
theorem c_missesOf_x (p : Program) (l : Launch) (e : Env) (s : State) (m : MethodId) (args : Array Value) (below : List Frame) (meth : Method) (c : Code) (G : va_G) (A : Nat → Prop) (Q : State → Prop) (cI cZ cJ : ClassId) (b0 h o : Nat) (ta sa ua ma : Nat → Nat) (L : Nat) (xs : Nat → Int32) (i j : Nat) (T : Nat) (b r sw st fa sc fi mi : Nat → Int32) (lf hi : Nat → Bool) (n : Nat) (sw2 st2 fa2 sc2 fi2 mi2 : Nat → Int32) (lf2 hi2 : Nat → Bool) (n2 : Nat) (th : Int32) (K : Nat → Int32) (ov : Nat → Int64)  (hW : LX p l s m args c G A cI cZ cJ b0 L xs) (hI : iv j T n b r st fa mi) (hi0 : i = 4 * j) (hiL : i + 4 ≤ L) (hb : xs (i + 1) < 0 ∨ nI n ≤ xs (i + 1)) (ih : LPj p l e s m args below meth c G A Q cI cZ cJ b0 h o ta sa ua ma (j + 1)) : LZ p l e s m args below meth c G A Q cI cZ cJ b0 h o ta sa ua ma (30 + 7 * j) (211 + 66 * j) i 838 T b r sw st fa sc fi mi lf hi n sw2 st2 fa2 sc2 fi2 mi2 lf2 hi2 n2 th K ov := by
  obtain ⟨hC, hl, hz, hX, hb0, hbA, hL⟩ := hW
  have hj : j ≤ 511 := by omega
  obtain ⟨hn, hT0, hst, hfa0, hmi0, hb9, hr9⟩ := id hI
  have hT : T < 2 ^ 29 := by omega
  have hfa : ∀ g : Nat, inN (fa g) (2 ^ 28) := fun g => inN_mono (hfa0 g) (by omega)
  have hmi : ∀ g : Nat, inN (mi g) (2 ^ 30) := fun g => inN_mono (hmi0 g) (by omega)
  have ham : ∀ (g zt : Nat), inN (amF b r zt g) 1000 := fun g zt => am_in hb9 hr9 zt g
  unfold LZ
  refine z_aload_n (n := 839) hC dL_law_838 rfl 1 rfl rfl ?_
  refine z_aload_n (n := 840) hC dL_law_839 rfl 0 rfl rfl ?_
  refine z_iload (n := 842) hC dL_law_840 4 rfl rfl ?_
  refine z_iconst (v := nI 1) (n := 843) hC dL_law_842 (by decide) rfl ?_
  refine z_iadd (v := nI (i + 1)) (n := 844) hC dL_law_843 (nI_add i 1) rfl ?_
  refine z_sld (v := xs (i + 1)) (n := 845) hC hX hb0 hbA hL (i + 1) rfl (by omega) rfl dL_law_844 rfl ?_
  refine z_aload_n (n := 846) hC dL_law_845 rfl 3 rfl rfl ?_
  refine z_callsiH (R := room_1) (cells := 30 + 7 * j) (slots := 211 + 66 * j) (ws := (wH h ta sa ua T) ++ (wT ta cI b r) ++ (wS sa cI cZ sw st fa sc fi mi lf hi n) ++ (wS ua cI cZ sw2 st2 fa2 sc2 fi2 mi2 lf2 hi2 n2) ++ (wN ma cI th n sw st b r T sc fi mi fa K) ++ (wO o cJ ov)) (n := 849) (As := [.ref h, .int (xs (i + 1)), .ref o]) (rest := []) hC hz (kx_L_missesOf_x l G cI cZ cJ h ta sa ua T b r sw st fa sc fi mi lf hi n sw2 st2 fa2 sc2 fi2 mi2 lf2 hi2 n2 o ov (xs (i + 1)) hl (by omega) (by omega) hb) kg_L_133 kd_yL_missesOf dL_law_846 ⟨Nat.le_of_ble_eq_true rfl, Nat.le_of_ble_eq_true rfl⟩ [0, 1, 2, 3, 4, 5, 6, 7, 8, 9, 10, 11, 12, 13, 14, 15, 16, 17, 18, 19, 20, 21, 29] rfl (by decide) rfl (Nat.le_of_ble_eq_true rfl) ⟨by show _ ≤ 1080188; omega, by show _ ≤ 5855541; omega⟩ (ws2 := fun u1 => (wH h ta sa ua T) ++ (wT ta cI b r) ++ (wS sa cI cZ sw st fa sc fi mi lf hi n) ++ (wS ua cI cZ sw2 st2 fa2 sc2 fi2 mi2 lf2 hi2 n2) ++ (wN ma cI th n sw st b r T sc fi mi fa K) ++ (wO o cJ ov)) [22, 23, 24, 25, 26, 27, 28] (fun _ => rfl) (wN ma cI th n sw st b r T sc fi mi fa K) (fun _ => rfl) rfl (cv_of 30 (by decide +kernel) (fun _ => rfl)) [h, ta 0, ta 1, ta 2, sa 0, sa 1, sa 2, sa 3, sa 4, sa 5, sa 6, sa 7, sa 8, ua 0, ua 1, ua 2, ua 3, ua 4, ua 5, ua 6, ua 7, ua 8, o] (fun _ => rfl) rfl rfl rfl (fun r2 u1 h3 => ?_)
  subst h3
  refine z_istore (lv' := [(5, .int (nI 1)), (0, .ref b0), (1, .ref h), (2, .ref (ma 0)), (3, .ref o), (4, .int (nI i))]) (n := 851) hC dL_law_849 (by decide) rfl rfl ?_
  refine z_aload_n (n := 852) hC dL_law_851 rfl 3 rfl rfl ?_
  refine z_aload_n (n := 853) hC dL_law_852 rfl 1 rfl rfl ?_
  refine z_iload (n := 855) hC dL_law_853 5 rfl rfl ?_
  refine z_iconst (v := nI 1) (n := 856) hC dL_law_855 (by decide) rfl ?_
  refine z_iadd (v := nI (i + 1)) (n := 857) hC dL_law_856 (nI_add i 1) rfl ?_
  refine z_sld (v := xs (i + 1)) (n := 858) hC hX hb0 hbA hL (i + 1) rfl (by omega) rfl dL_law_857 rfl ?_
  refine z_calli (R := room_1) (cells := 30 + 7 * j + 1) (slots := 211 + 66 * j + 6) (ws := (wH h ta sa ua T) ++ (wT ta cI b r) ++ (wS sa cI cZ sw st fa sc fi mi lf hi n) ++ (wS ua cI cZ sw2 st2 fa2 sc2 fi2 mi2 lf2 hi2 n2) ++ (wN ma cI th n sw st b r T sc fi mi fa K) ++ (wO o cJ ov)) (n := 861) (As := [.int (xs (i + 1))]) (rest := []) hC (k_X3_missesOf_x l G cI cZ cJ ma th n sw st b r T sc fi mi fa K (xs (i + 1)) (by omega) (by omega) hb) kg_L_135 kd_yX3_missesOf dL_law_858 ⟨Nat.le_of_ble_eq_true rfl, Nat.le_of_ble_eq_true rfl⟩ 0 rfl rfl rfl [22, 23, 24, 25, 26, 27, 28] rfl (by decide) rfl (Nat.le_of_ble_eq_true rfl) ⟨by show _ ≤ 1080188; omega, by show _ ≤ 5855541; omega⟩ (ws2 := fun u4 => (wH h ta sa ua T) ++ (wT ta cI b r) ++ (wS sa cI cZ sw st fa sc fi mi lf hi n) ++ (wS ua cI cZ sw2 st2 fa2 sc2 fi2 mi2 lf2 hi2 n2) ++ (wN ma cI (nI 1) n sw st b r T sc fi mi fa K) ++ (wO o cJ ov)) [0, 1, 2, 3, 4, 5, 6, 7, 8, 9, 10, 11, 12, 13, 14, 15, 16, 17, 18, 19, 20, 21, 29] (fun _ => rfl) ((wH h ta sa ua T) ++ (wT ta cI b r) ++ (wS sa cI cZ sw st fa sc fi mi lf hi n) ++ (wS ua cI cZ sw2 st2 fa2 sc2 fi2 mi2 lf2 hi2 n2) ++ (wO o cJ ov)) (fun _ => rfl) rfl (cv_of 30 (by decide +kernel) (fun _ => rfl)) [ma 0, ma 1, ma 2, ma 3, ma 4, ma 5, ma 6] (fun _ => rfl) rfl rfl rfl (fun r5 u4 h6 => ?_)
  subst h6
  refine z_istore (lv' := [(6, .int (nI 0)), (5, .int (nI 1)), (0, .ref b0), (1, .ref h), (2, .ref (ma 0)), (3, .ref o), (4, .int (nI i))]) (n := 863) hC dL_law_861 (by decide) rfl rfl ?_
  refine z_aload_n (n := 864) hC dL_law_863 rfl 4 rfl rfl ?_
  refine z_calli (R := room_1) (cells := 30 + 7 * j + 1) (slots := 211 + 66 * j + 6) (ws := (wH h ta sa ua T) ++ (wT ta cI b r) ++ (wS sa cI cZ sw st fa sc fi mi lf hi n) ++ (wS ua cI cZ sw2 st2 fa2 sc2 fi2 mi2 lf2 hi2 n2) ++ (wN ma cI (nI 1) n sw st b r T sc fi mi fa K) ++ (wO o cJ ov)) (n := 867) (As := []) (rest := []) hC (k_X3_thrown l G cI cZ cJ ma (nI 1) n sw st b r T sc fi mi fa K (by omega) (by omega)) kg_L_89 kd_yX3_thrown dL_law_864 ⟨Nat.le_of_ble_eq_true rfl, Nat.le_of_ble_eq_true rfl⟩ 0 rfl rfl rfl [22, 23, 24, 25, 26, 27, 28] rfl (by decide) rfl (Nat.le_of_ble_eq_true rfl) ⟨by show _ ≤ 1080188; omega, by show _ ≤ 5855541; omega⟩ (ws2 := fun u7 => (wH h ta sa ua T) ++ (wT ta cI b r) ++ (wS sa cI cZ sw st fa sc fi mi lf hi n) ++ (wS ua cI cZ sw2 st2 fa2 sc2 fi2 mi2 lf2 hi2 n2) ++ (wN ma cI (nI 1) n sw st b r T sc fi mi fa K) ++ (wO o cJ ov)) [0, 1, 2, 3, 4, 5, 6, 7, 8, 9, 10, 11, 12, 13, 14, 15, 16, 17, 18, 19, 20, 21, 29] (fun _ => rfl) ((wH h ta sa ua T) ++ (wT ta cI b r) ++ (wS sa cI cZ sw st fa sc fi mi lf hi n) ++ (wS ua cI cZ sw2 st2 fa2 sc2 fi2 mi2 lf2 hi2 n2) ++ (wO o cJ ov)) (fun _ => rfl) rfl (cv_of 30 (by decide +kernel) (fun _ => rfl)) [ma 0, ma 1, ma 2, ma 3, ma 4, ma 5, ma 6] (fun _ => rfl) rfl rfl rfl (fun r8 u7 h9 => ?_)
  subst h9
  refine z_iload (n := 869) hC dL_law_867 1 rfl rfl ?_
  refine z_icmp_eq_n (tgt := 874) (n := 872) hC 1 1 rfl rfl (by omega) (by omega) dL_law_869 (by decide) rfl (fun c10 => ?_) (fun c10 => absurd rfl c10)
  refine z_iload (n := 876) hC dL_law_874 1 rfl rfl ?_
  refine z_if_ne (tgt := 891) (n := 879) hC dL_law_876 (by decide) rfl (fun c11 => ?_) (fun c11 => absurd c11 (by decide))
  refine z_goto (n := 1448) hC dL_law_891 (by decide) ?_
  refine z_iinc (k0 := 6) (v := nI (i + 4)) (lv' := [(4, .int (nI (i + 4))), (6, .int (nI 0)), (5, .int (nI 1)), (0, .ref b0), (1, .ref h), (2, .ref (ma 0)), (3, .ref o)]) (n := 1451) hC dL_law_1448 rfl (nI_add i 4) (by decide) rfl rfl ?_
  refine z_goto (n := 23) hC dL_law_1451 (by decide) ?_
  refine z_lv [3, 4, 5, 6, 0] (lv' := [(0, .ref b0), (1, .ref h), (2, .ref (ma 0)), (3, .ref o), (4, .int (nI (i + 4)))]) rfl ?_
  refine z_wid (k1 := 30 + 7 * (j + 1)) (k2 := 211 + 66 * (j + 1)) (by omega) (by omega) ?_
  exact ih (i + 4) T b r sw st fa sc fi mi lf hi n sw2 st2 fa2 sc2 fi2 mi2 lf2 hi2 n2 (nI 1) K ov (by omega) (iv_same hI)
