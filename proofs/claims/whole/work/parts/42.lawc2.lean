set_option maxRecDepth 100000 in
set_option maxHeartbeats 4000000 in
theorem c_fatigueOf (p : Program) (l : Launch) (e : Env) (s : State) (m : MethodId) (args : Array Value) (below : List Frame) (meth : Method) (c : Code) (G : va_G) (A : Nat → Prop) (Q : State → Prop) (cI cZ cJ : ClassId) (b0 h o : Nat) (ta sa ua ma : Nat → Nat) (L : Nat) (xs : Nat → Int32) (i j : Nat) (T : Nat) (b r sw st fa sc fi mi : Nat → Int32) (lf hi : Nat → Bool) (n : Nat) (sw2 st2 fa2 sc2 fi2 mi2 : Nat → Int32) (lf2 hi2 : Nat → Bool) (n2 : Nat) (th : Int32) (K : Nat → Int32) (ov : Nat → Int64) (g : Nat) (hW : LX p l s m args c G A cI cZ cJ b0 L xs) (hI : iv j T n b r st fa mi) (hi0 : i = 4 * j) (hiL : i + 4 ≤ L) (he1 : xs (i + 1) = nI g) (hg : g < n) (ih : LPj p l e s m args below meth c G A Q cI cZ cJ b0 h o ta sa ua ma (j + 1)) : LZ p l e s m args below meth c G A Q cI cZ cJ b0 h o ta sa ua ma (30 + 7 * j) (211 + 66 * j) i 894 T b r sw st fa sc fi mi lf hi n sw2 st2 fa2 sc2 fi2 mi2 lf2 hi2 n2 th K ov := by
  obtain ⟨hC, hl, hz, hX, hb0, hbA, hL⟩ := hW
  have hj : j ≤ 511 := by omega
  obtain ⟨hn, hT0, hst, hfa0, hmi0, hb9, hr9⟩ := id hI
  have hT : T < 2 ^ 29 := by omega
  have hfa : ∀ g : Nat, inN (fa g) (2 ^ 28) := fun g => inN_mono (hfa0 g) (by omega)
  have hmi : ∀ g : Nat, inN (mi g) (2 ^ 30) := fun g => inN_mono (hmi0 g) (by omega)
  have ham : ∀ (g zt : Nat), inN (amF b r zt g) 1000 := fun g zt => am_in hb9 hr9 zt g
  unfold LZ
  refine z_aload_n (n := 895) hC dL_law_894 rfl 1 rfl rfl ?_
  refine z_aload_n (n := 896) hC dL_law_895 rfl 0 rfl rfl ?_
  refine z_iload (n := 898) hC dL_law_896 4 rfl rfl ?_
  refine z_iconst (v := nI 1) (n := 899) hC dL_law_898 (by decide) rfl ?_
  refine z_iadd (v := nI (i + 1)) (n := 900) hC dL_law_899 (nI_add i 1) rfl ?_
  refine z_sld (v := nI g) (n := 901) hC hX hb0 hbA hL (i + 1) rfl (by omega) he1 dL_law_900 rfl ?_
  refine z_aload_n (n := 902) hC dL_law_901 rfl 3 rfl rfl ?_
  refine z_callsiH (R := room_1) (cells := 30 + 7 * j) (slots := 211 + 66 * j) (ws := (wH h ta sa ua T) ++ (wT ta cI b r) ++ (wS sa cI cZ sw st fa sc fi mi lf hi n) ++ (wS ua cI cZ sw2 st2 fa2 sc2 fi2 mi2 lf2 hi2 n2) ++ (wN ma cI th n sw st b r T sc fi mi fa K) ++ (wO o cJ ov)) (n := 905) (As := [.ref h, .int (nI g), .ref o]) (rest := []) hC hz (k_L_fatigueOf l G cI cZ cJ h ta sa ua T b r sw st fa sc fi mi lf hi n sw2 st2 fa2 sc2 fi2 mi2 lf2 hi2 n2 o ov g (by omega) (by omega) hg) kg_L_136 kd_yL_fatigueOf dL_law_902 ⟨Nat.le_of_ble_eq_true rfl, Nat.le_of_ble_eq_true rfl⟩ [0, 1, 2, 3, 4, 5, 6, 7, 8, 9, 10, 11, 12, 13, 14, 15, 16, 17, 18, 19, 20, 21, 29] rfl (by decide) rfl (Nat.le_of_ble_eq_true rfl) ⟨by show _ ≤ 1080188; omega, by show _ ≤ 5855541; omega⟩ (ws2 := fun u1 => (wH h ta sa ua T) ++ (wT ta cI b r) ++ (wS sa cI cZ sw st fa sc fi mi lf hi n) ++ (wS ua cI cZ sw2 st2 fa2 sc2 fi2 mi2 lf2 hi2 n2) ++ (wN ma cI th n sw st b r T sc fi mi fa K) ++ (wO o cJ (vp_updL ov 0 ((fa g).toInt64)))) [22, 23, 24, 25, 26, 27, 28] (fun _ => rfl) (wN ma cI th n sw st b r T sc fi mi fa K) (fun _ => rfl) rfl (cv_of 30 (by decide +kernel) (fun _ => rfl)) [h, ta 0, ta 1, ta 2, sa 0, sa 1, sa 2, sa 3, sa 4, sa 5, sa 6, sa 7, sa 8, ua 0, ua 1, ua 2, ua 3, ua 4, ua 5, ua 6, ua 7, ua 8, o] (fun _ => rfl) rfl rfl rfl (fun r2 u1 h3 => ?_)
  subst h3
  refine z_istore (lv' := [(5, .int (nI 0)), (0, .ref b0), (1, .ref h), (2, .ref (ma 0)), (3, .ref o), (4, .int (nI i))]) (n := 907) hC dL_law_905 (by decide) rfl rfl ?_
  refine z_aload_n (n := 908) hC dL_law_907 rfl 3 rfl rfl ?_
  refine z_aload_n (n := 909) hC dL_law_908 rfl 1 rfl rfl ?_
  refine z_iload (n := 911) hC dL_law_909 5 rfl rfl ?_
  refine z_iconst (v := nI 1) (n := 912) hC dL_law_911 (by decide) rfl ?_
  refine z_iadd (v := nI (i + 1)) (n := 913) hC dL_law_912 (nI_add i 1) rfl ?_
  refine z_sld (v := nI g) (n := 914) hC hX hb0 hbA hL (i + 1) rfl (by omega) he1 dL_law_913 rfl ?_
  refine z_calli (R := room_1) (cells := 30 + 7 * j) (slots := 211 + 66 * j) (ws := (wH h ta sa ua T) ++ (wT ta cI b r) ++ (wS sa cI cZ sw st fa sc fi mi lf hi n) ++ (wS ua cI cZ sw2 st2 fa2 sc2 fi2 mi2 lf2 hi2 n2) ++ (wN ma cI th n sw st b r T sc fi mi fa K) ++ (wO o cJ (vp_updL ov 0 ((fa g).toInt64)))) (n := 917) (As := [.int (nI g)]) (rest := []) hC (k_X3_fatigueOf l G cI cZ cJ ma th n sw st b r T sc fi mi fa K g (by omega) (by omega) hg) kg_L_138 kd_yX3_fatigueOf dL_law_914 ⟨Nat.le_of_ble_eq_true rfl, Nat.le_of_ble_eq_true rfl⟩ 0 rfl rfl rfl [22, 23, 24, 25, 26, 27, 28] rfl (by decide) rfl (Nat.le_of_ble_eq_true rfl) ⟨by show _ ≤ 1080188; omega, by show _ ≤ 5855541; omega⟩ (ws2 := fun u4 => (wH h ta sa ua T) ++ (wT ta cI b r) ++ (wS sa cI cZ sw st fa sc fi mi lf hi n) ++ (wS ua cI cZ sw2 st2 fa2 sc2 fi2 mi2 lf2 hi2 n2) ++ (wN ma cI (nI 0) n sw st b r T sc fi mi fa K) ++ (wO o cJ (vp_updL ov 0 ((fa g).toInt64)))) [0, 1, 2, 3, 4, 5, 6, 7, 8, 9, 10, 11, 12, 13, 14, 15, 16, 17, 18, 19, 20, 21, 29] (fun _ => rfl) ((wH h ta sa ua T) ++ (wT ta cI b r) ++ (wS sa cI cZ sw st fa sc fi mi lf hi n) ++ (wS ua cI cZ sw2 st2 fa2 sc2 fi2 mi2 lf2 hi2 n2) ++ (wO o cJ (vp_updL ov 0 ((fa g).toInt64)))) (fun _ => rfl) rfl (cv_of 30 (by decide +kernel) (fun _ => rfl)) [ma 0, ma 1, ma 2, ma 3, ma 4, ma 5, ma 6] (fun _ => rfl) rfl rfl rfl (fun r5 u4 h6 => ?_)
  subst h6
  refine z_istore (lv' := [(6, .int (fa g)), (5, .int (nI 0)), (0, .ref b0), (1, .ref h), (2, .ref (ma 0)), (3, .ref o), (4, .int (nI i))]) (n := 919) hC dL_law_917 (by decide) rfl rfl ?_
  refine z_aload_n (n := 920) hC dL_law_919 rfl 4 rfl rfl ?_
  refine z_calli (R := room_1) (cells := 30 + 7 * j) (slots := 211 + 66 * j) (ws := (wH h ta sa ua T) ++ (wT ta cI b r) ++ (wS sa cI cZ sw st fa sc fi mi lf hi n) ++ (wS ua cI cZ sw2 st2 fa2 sc2 fi2 mi2 lf2 hi2 n2) ++ (wN ma cI (nI 0) n sw st b r T sc fi mi fa K) ++ (wO o cJ (vp_updL ov 0 ((fa g).toInt64)))) (n := 923) (As := []) (rest := []) hC (k_X3_thrown l G cI cZ cJ ma (nI 0) n sw st b r T sc fi mi fa K (by omega) (by omega)) kg_L_89 kd_yX3_thrown dL_law_920 ⟨Nat.le_of_ble_eq_true rfl, Nat.le_of_ble_eq_true rfl⟩ 0 rfl rfl rfl [22, 23, 24, 25, 26, 27, 28] rfl (by decide) rfl (Nat.le_of_ble_eq_true rfl) ⟨by show _ ≤ 1080188; omega, by show _ ≤ 5855541; omega⟩ (ws2 := fun u7 => (wH h ta sa ua T) ++ (wT ta cI b r) ++ (wS sa cI cZ sw st fa sc fi mi lf hi n) ++ (wS ua cI cZ sw2 st2 fa2 sc2 fi2 mi2 lf2 hi2 n2) ++ (wN ma cI (nI 0) n sw st b r T sc fi mi fa K) ++ (wO o cJ (vp_updL ov 0 ((fa g).toInt64)))) [0, 1, 2, 3, 4, 5, 6, 7, 8, 9, 10, 11, 12, 13, 14, 15, 16, 17, 18, 19, 20, 21, 29] (fun _ => rfl) ((wH h ta sa ua T) ++ (wT ta cI b r) ++ (wS sa cI cZ sw st fa sc fi mi lf hi n) ++ (wS ua cI cZ sw2 st2 fa2 sc2 fi2 mi2 lf2 hi2 n2) ++ (wO o cJ (vp_updL ov 0 ((fa g).toInt64)))) (fun _ => rfl) rfl (cv_of 30 (by decide +kernel) (fun _ => rfl)) [ma 0, ma 1, ma 2, ma 3, ma 4, ma 5, ma 6] (fun _ => rfl) rfl rfl rfl (fun r8 u7 h9 => ?_)
  subst h9
  refine z_iload (n := 925) hC dL_law_923 1 rfl rfl ?_
  refine z_icmp_eq_n (tgt := 930) (n := 928) hC 0 0 rfl rfl (by omega) (by omega) dL_law_925 (by decide) rfl (fun c10 => ?_) (fun c10 => absurd rfl c10)
  refine z_iload (n := 932) hC dL_law_930 1 rfl rfl ?_
  refine z_if_ne (tgt := 947) (n := 935) hC dL_law_932 (by decide) rfl (fun c11 => absurd (nI_0) c11) (fun c11 => ?_)
  refine z_aload_n (n := 936) hC dL_law_935 rfl 5 rfl rfl ?_
  refine z_iconst (v := nI 0) (n := 937) hC dL_law_936 (by decide) rfl ?_
  refine z_lald (v := (fa g).toInt64) (n := 938) hC 29 2 0 rfl rfl rfl (by omega) (by decide) dL_law_937 updL_at rfl ?_
  refine z_iload (n := 940) hC dL_law_938 0 rfl rfl ?_
  refine z_i2l (v := (fa g).toInt64) (n := 941) hC dL_law_940 rfl rfl ?_
  refine z_lcmp (n := 942) hC dL_law_941 rfl ?_
  refine z_if_eq (tgt := 947) (n := 945) hC dL_law_942 (by decide) rfl (fun c12 => ?_) (fun c12 => absurd (lg_self _) c12)
  refine z_goto (n := 1448) hC dL_law_947 (by decide) ?_
  refine z_iinc (k0 := 6) (v := nI (i + 4)) (lv' := [(4, .int (nI (i + 4))), (6, .int (fa g)), (5, .int (nI 0)), (0, .ref b0), (1, .ref h), (2, .ref (ma 0)), (3, .ref o)]) (n := 1451) hC dL_law_1448 rfl (nI_add i 4) (by decide) rfl rfl ?_
  refine z_goto (n := 23) hC dL_law_1451 (by decide) ?_
  refine z_lv [3, 4, 5, 6, 0] (lv' := [(0, .ref b0), (1, .ref h), (2, .ref (ma 0)), (3, .ref o), (4, .int (nI (i + 4)))]) rfl ?_
  refine z_wid (k1 := 30 + 7 * (j + 1)) (k2 := 211 + 66 * (j + 1)) (by omega) (by omega) ?_
  exact ih (i + 4) T b r sw st fa sc fi mi lf hi n sw2 st2 fa2 sc2 fi2 mi2 lf2 hi2 n2 (nI 0) K (vp_updL ov 0 ((fa g).toInt64)) (by omega) (iv_same hI)

set_option maxRecDepth 100000 in
set_option maxHeartbeats 4000000 in
theorem c_fatigueOf_x (p : Program) (l : Launch) (e : Env) (s : State) (m : MethodId) (args : Array Value) (below : List Frame) (meth : Method) (c : Code) (G : va_G) (A : Nat → Prop) (Q : State → Prop) (cI cZ cJ : ClassId) (b0 h o : Nat) (ta sa ua ma : Nat → Nat) (L : Nat) (xs : Nat → Int32) (i j : Nat) (T : Nat) (b r sw st fa sc fi mi : Nat → Int32) (lf hi : Nat → Bool) (n : Nat) (sw2 st2 fa2 sc2 fi2 mi2 : Nat → Int32) (lf2 hi2 : Nat → Bool) (n2 : Nat) (th : Int32) (K : Nat → Int32) (ov : Nat → Int64)  (hW : LX p l s m args c G A cI cZ cJ b0 L xs) (hI : iv j T n b r st fa mi) (hi0 : i = 4 * j) (hiL : i + 4 ≤ L) (hb : xs (i + 1) < 0 ∨ nI n ≤ xs (i + 1)) (ih : LPj p l e s m args below meth c G A Q cI cZ cJ b0 h o ta sa ua ma (j + 1)) : LZ p l e s m args below meth c G A Q cI cZ cJ b0 h o ta sa ua ma (30 + 7 * j) (211 + 66 * j) i 894 T b r sw st fa sc fi mi lf hi n sw2 st2 fa2 sc2 fi2 mi2 lf2 hi2 n2 th K ov := by
  obtain ⟨hC, hl, hz, hX, hb0, hbA, hL⟩ := hW
  have hj : j ≤ 511 := by omega
  obtain ⟨hn, hT0, hst, hfa0, hmi0, hb9, hr9⟩ := id hI
  have hT : T < 2 ^ 29 := by omega
  have hfa : ∀ g : Nat, inN (fa g) (2 ^ 28) := fun g => inN_mono (hfa0 g) (by omega)
  have hmi : ∀ g : Nat, inN (mi g) (2 ^ 30) := fun g => inN_mono (hmi0 g) (by omega)
  have ham : ∀ (g zt : Nat), inN (amF b r zt g) 1000 := fun g zt => am_in hb9 hr9 zt g
  unfold LZ
  refine z_aload_n (n := 895) hC dL_law_894 rfl 1 rfl rfl ?_
  refine z_aload_n (n := 896) hC dL_law_895 rfl 0 rfl rfl ?_
  refine z_iload (n := 898) hC dL_law_896 4 rfl rfl ?_
  refine z_iconst (v := nI 1) (n := 899) hC dL_law_898 (by decide) rfl ?_
  refine z_iadd (v := nI (i + 1)) (n := 900) hC dL_law_899 (nI_add i 1) rfl ?_
  refine z_sld (v := xs (i + 1)) (n := 901) hC hX hb0 hbA hL (i + 1) rfl (by omega) rfl dL_law_900 rfl ?_
  refine z_aload_n (n := 902) hC dL_law_901 rfl 3 rfl rfl ?_
  refine z_callsiH (R := room_1) (cells := 30 + 7 * j) (slots := 211 + 66 * j) (ws := (wH h ta sa ua T) ++ (wT ta cI b r) ++ (wS sa cI cZ sw st fa sc fi mi lf hi n) ++ (wS ua cI cZ sw2 st2 fa2 sc2 fi2 mi2 lf2 hi2 n2) ++ (wN ma cI th n sw st b r T sc fi mi fa K) ++ (wO o cJ ov)) (n := 905) (As := [.ref h, .int (xs (i + 1)), .ref o]) (rest := []) hC hz (kx_L_fatigueOf_x l G cI cZ cJ h ta sa ua T b r sw st fa sc fi mi lf hi n sw2 st2 fa2 sc2 fi2 mi2 lf2 hi2 n2 o ov (xs (i + 1)) hl (by omega) (by omega) hb) kg_L_136 kd_yL_fatigueOf dL_law_902 ⟨Nat.le_of_ble_eq_true rfl, Nat.le_of_ble_eq_true rfl⟩ [0, 1, 2, 3, 4, 5, 6, 7, 8, 9, 10, 11, 12, 13, 14, 15, 16, 17, 18, 19, 20, 21, 29] rfl (by decide) rfl (Nat.le_of_ble_eq_true rfl) ⟨by show _ ≤ 1080188; omega, by show _ ≤ 5855541; omega⟩ (ws2 := fun u1 => (wH h ta sa ua T) ++ (wT ta cI b r) ++ (wS sa cI cZ sw st fa sc fi mi lf hi n) ++ (wS ua cI cZ sw2 st2 fa2 sc2 fi2 mi2 lf2 hi2 n2) ++ (wN ma cI th n sw st b r T sc fi mi fa K) ++ (wO o cJ ov)) [22, 23, 24, 25, 26, 27, 28] (fun _ => rfl) (wN ma cI th n sw st b r T sc fi mi fa K) (fun _ => rfl) rfl (cv_of 30 (by decide +kernel) (fun _ => rfl)) [h, ta 0, ta 1, ta 2, sa 0, sa 1, sa 2, sa 3, sa 4, sa 5, sa 6, sa 7, sa 8, ua 0, ua 1, ua 2, ua 3, ua 4, ua 5, ua 6, ua 7, ua 8, o] (fun _ => rfl) rfl rfl rfl (fun r2 u1 h3 => ?_)
  subst h3
  refine z_istore (lv' := [(5, .int (nI 1)), (0, .ref b0), (1, .ref h), (2, .ref (ma 0)), (3, .ref o), (4, .int (nI i))]) (n := 907) hC dL_law_905 (by decide) rfl rfl ?_
  refine z_aload_n (n := 908) hC dL_law_907 rfl 3 rfl rfl ?_
  refine z_aload_n (n := 909) hC dL_law_908 rfl 1 rfl rfl ?_
  refine z_iload (n := 911) hC dL_law_909 5 rfl rfl ?_
  refine z_iconst (v := nI 1) (n := 912) hC dL_law_911 (by decide) rfl ?_
  refine z_iadd (v := nI (i + 1)) (n := 913) hC dL_law_912 (nI_add i 1) rfl ?_
  refine z_sld (v := xs (i + 1)) (n := 914) hC hX hb0 hbA hL (i + 1) rfl (by omega) rfl dL_law_913 rfl ?_
  refine z_calli (R := room_1) (cells := 30 + 7 * j + 1) (slots := 211 + 66 * j + 6) (ws := (wH h ta sa ua T) ++ (wT ta cI b r) ++ (wS sa cI cZ sw st fa sc fi mi lf hi n) ++ (wS ua cI cZ sw2 st2 fa2 sc2 fi2 mi2 lf2 hi2 n2) ++ (wN ma cI th n sw st b r T sc fi mi fa K) ++ (wO o cJ ov)) (n := 917) (As := [.int (xs (i + 1))]) (rest := []) hC (k_X3_fatigueOf_x l G cI cZ cJ ma th n sw st b r T sc fi mi fa K (xs (i + 1)) (by omega) (by omega) hb) kg_L_138 kd_yX3_fatigueOf dL_law_914 ⟨Nat.le_of_ble_eq_true rfl, Nat.le_of_ble_eq_true rfl⟩ 0 rfl rfl rfl [22, 23, 24, 25, 26, 27, 28] rfl (by decide) rfl (Nat.le_of_ble_eq_true rfl) ⟨by show _ ≤ 1080188; omega, by show _ ≤ 5855541; omega⟩ (ws2 := fun u4 => (wH h ta sa ua T) ++ (wT ta cI b r) ++ (wS sa cI cZ sw st fa sc fi mi lf hi n) ++ (wS ua cI cZ sw2 st2 fa2 sc2 fi2 mi2 lf2 hi2 n2) ++ (wN ma cI (nI 1) n sw st b r T sc fi mi fa K) ++ (wO o cJ ov)) [0, 1, 2, 3, 4, 5, 6, 7, 8, 9, 10, 11, 12, 13, 14, 15, 16, 17, 18, 19, 20, 21, 29] (fun _ => rfl) ((wH h ta sa ua T) ++ (wT ta cI b r) ++ (wS sa cI cZ sw st fa sc fi mi lf hi n) ++ (wS ua cI cZ sw2 st2 fa2 sc2 fi2 mi2 lf2 hi2 n2) ++ (wO o cJ ov)) (fun _ => rfl) rfl (cv_of 30 (by decide +kernel) (fun _ => rfl)) [ma 0, ma 1, ma 2, ma 3, ma 4, ma 5, ma 6] (fun _ => rfl) rfl rfl rfl (fun r5 u4 h6 => ?_)
  subst h6
  refine z_istore (lv' := [(6, .int (nI 0)), (5, .int (nI 1)), (0, .ref b0), (1, .ref h), (2, .ref (ma 0)), (3, .ref o), (4, .int (nI i))]) (n := 919) hC dL_law_917 (by decide) rfl rfl ?_
  refine z_aload_n (n := 920) hC dL_law_919 rfl 4 rfl rfl ?_
  refine z_calli (R := room_1) (cells := 30 + 7 * j + 1) (slots := 211 + 66 * j + 6) (ws := (wH h ta sa ua T) ++ (wT ta cI b r) ++ (wS sa cI cZ sw st fa sc fi mi lf hi n) ++ (wS ua cI cZ sw2 st2 fa2 sc2 fi2 mi2 lf2 hi2 n2) ++ (wN ma cI (nI 1) n sw st b r T sc fi mi fa K) ++ (wO o cJ ov)) (n := 923) (As := []) (rest := []) hC (k_X3_thrown l G cI cZ cJ ma (nI 1) n sw st b r T sc fi mi fa K (by omega) (by omega)) kg_L_89 kd_yX3_thrown dL_law_920 ⟨Nat.le_of_ble_eq_true rfl, Nat.le_of_ble_eq_true rfl⟩ 0 rfl rfl rfl [22, 23, 24, 25, 26, 27, 28] rfl (by decide) rfl (Nat.le_of_ble_eq_true rfl) ⟨by show _ ≤ 1080188; omega, by show _ ≤ 5855541; omega⟩ (ws2 := fun u7 => (wH h ta sa ua T) ++ (wT ta cI b r) ++ (wS sa cI cZ sw st fa sc fi mi lf hi n) ++ (wS ua cI cZ sw2 st2 fa2 sc2 fi2 mi2 lf2 hi2 n2) ++ (wN ma cI (nI 1) n sw st b r T sc fi mi fa K) ++ (wO o cJ ov)) [0, 1, 2, 3, 4, 5, 6, 7, 8, 9, 10, 11, 12, 13, 14, 15, 16, 17, 18, 19, 20, 21, 29] (fun _ => rfl) ((wH h ta sa ua T) ++ (wT ta cI b r) ++ (wS sa cI cZ sw st fa sc fi mi lf hi n) ++ (wS ua cI cZ sw2 st2 fa2 sc2 fi2 mi2 lf2 hi2 n2) ++ (wO o cJ ov)) (fun _ => rfl) rfl (cv_of 30 (by decide +kernel) (fun _ => rfl)) [ma 0, ma 1, ma 2, ma 3, ma 4, ma 5, ma 6] (fun _ => rfl) rfl rfl rfl (fun r8 u7 h9 => ?_)
  subst h9
  refine z_iload (n := 925) hC dL_law_923 1 rfl rfl ?_
  refine z_icmp_eq_n (tgt := 930) (n := 928) hC 1 1 rfl rfl (by omega) (by omega) dL_law_925 (by decide) rfl (fun c10 => ?_) (fun c10 => absurd rfl c10)
  refine z_iload (n := 932) hC dL_law_930 1 rfl rfl ?_
  refine z_if_ne (tgt := 947) (n := 935) hC dL_law_932 (by decide) rfl (fun c11 => ?_) (fun c11 => absurd c11 (by decide))
  refine z_goto (n := 1448) hC dL_law_947 (by decide) ?_
  refine z_iinc (k0 := 6) (v := nI (i + 4)) (lv' := [(4, .int (nI (i + 4))), (6, .int (nI 0)), (5, .int (nI 1)), (0, .ref b0), (1, .ref h), (2, .ref (ma 0)), (3, .ref o)]) (n := 1451) hC dL_law_1448 rfl (nI_add i 4) (by decide) rfl rfl ?_
  refine z_goto (n := 23) hC dL_law_1451 (by decide) ?_
  refine z_lv [3, 4, 5, 6, 0] (lv' := [(0, .ref b0), (1, .ref h), (2, .ref (ma 0)), (3, .ref o), (4, .int (nI (i + 4)))]) rfl ?_
  refine z_wid (k1 := 30 + 7 * (j + 1)) (k2 := 211 + 66 * (j + 1)) (by omega) (by omega) ?_
  exact ih (i + 4) T b r sw st fa sc fi mi lf hi n sw2 st2 fa2 sc2 fi2 mi2 lf2 hi2 n2 (nI 1) K ov (by omega) (iv_same hI)

set_option maxRecDepth 100000 in
set_option maxHeartbeats 4000000 in
theorem c_wouldHit (p : Program) (l : Launch) (e : Env) (s : State) (m : MethodId) (args : Array Value) (below : List Frame) (meth : Method) (c : Code) (G : va_G) (A : Nat → Prop) (Q : State → Prop) (cI cZ cJ : ClassId) (b0 h o : Nat) (ta sa ua ma : Nat → Nat) (L : Nat) (xs : Nat → Int32) (i j : Nat) (T : Nat) (b r sw st fa sc fi mi : Nat → Int32) (lf hi : Nat → Bool) (n : Nat) (sw2 st2 fa2 sc2 fi2 mi2 : Nat → Int32) (lf2 hi2 : Nat → Bool) (n2 : Nat) (th : Int32) (K : Nat → Int32) (ov : Nat → Int64) (g : Nat) (hW : LX p l s m args c G A cI cZ cJ b0 L xs) (hI : iv j T n b r st fa mi) (hi0 : i = 4 * j) (hiL : i + 4 ≤ L) (he1 : xs (i + 1) = nI g) (hg : g < n) (ih : LPj p l e s m args below meth c G A Q cI cZ cJ b0 h o ta sa ua ma (j + 1)) : LZ p l e s m args below meth c G A Q cI cZ cJ b0 h o ta sa ua ma (30 + 7 * j) (211 + 66 * j) i 950 T b r sw st fa sc fi mi lf hi n sw2 st2 fa2 sc2 fi2 mi2 lf2 hi2 n2 th K ov := by
  obtain ⟨hC, hl, hz, hX, hb0, hbA, hL⟩ := hW
  have hj : j ≤ 511 := by omega
  obtain ⟨hn, hT0, hst, hfa0, hmi0, hb9, hr9⟩ := id hI
  have hT : T < 2 ^ 29 := by omega
  have hfa : ∀ g : Nat, inN (fa g) (2 ^ 28) := fun g => inN_mono (hfa0 g) (by omega)
  have hmi : ∀ g : Nat, inN (mi g) (2 ^ 30) := fun g => inN_mono (hmi0 g) (by omega)
  have ham : ∀ (g zt : Nat), inN (amF b r zt g) 1000 := fun g zt => am_in hb9 hr9 zt g
  unfold LZ
  refine z_aload_n (n := 951) hC dL_law_950 rfl 1 rfl rfl ?_
  refine z_aload_n (n := 952) hC dL_law_951 rfl 0 rfl rfl ?_
  refine z_iload (n := 954) hC dL_law_952 4 rfl rfl ?_
  refine z_iconst (v := nI 1) (n := 955) hC dL_law_954 (by decide) rfl ?_
  refine z_iadd (v := nI (i + 1)) (n := 956) hC dL_law_955 (nI_add i 1) rfl ?_
  refine z_sld (v := nI g) (n := 957) hC hX hb0 hbA hL (i + 1) rfl (by omega) he1 dL_law_956 rfl ?_
  refine z_aload_n (n := 958) hC dL_law_957 rfl 3 rfl rfl ?_
  refine z_callsiH (R := room_1) (cells := 30 + 7 * j) (slots := 211 + 66 * j) (ws := (wH h ta sa ua T) ++ (wT ta cI b r) ++ (wS sa cI cZ sw st fa sc fi mi lf hi n) ++ (wS ua cI cZ sw2 st2 fa2 sc2 fi2 mi2 lf2 hi2 n2) ++ (wN ma cI th n sw st b r T sc fi mi fa K) ++ (wO o cJ ov)) (n := 961) (As := [.ref h, .int (nI g), .ref o]) (rest := []) hC hz (k_L_wouldHit l G cI cZ cJ h ta sa ua T b r sw st fa sc fi mi lf hi n sw2 st2 fa2 sc2 fi2 mi2 lf2 hi2 n2 o ov g (by omega) (by omega) hg) kg_L_139 kd_yL_wouldHit dL_law_958 ⟨Nat.le_of_ble_eq_true rfl, Nat.le_of_ble_eq_true rfl⟩ [0, 1, 2, 3, 4, 5, 6, 7, 8, 9, 10, 11, 12, 13, 14, 15, 16, 17, 18, 19, 20, 21, 29] rfl (by decide) rfl (Nat.le_of_ble_eq_true rfl) ⟨by show _ ≤ 1080188; omega, by show _ ≤ 5855541; omega⟩ (ws2 := fun u1 => (wH h ta sa ua T) ++ (wT ta cI b r) ++ (wS sa cI cZ sw st fa sc fi mi lf hi n) ++ (wS ua cI cZ sw2 st2 fa2 sc2 fi2 mi2 lf2 hi2 n2) ++ (wN ma cI th n sw st b r T sc fi mi fa K) ++ (wO o cJ (vp_updL ov 0 ((ouF (sw g) (st g) (fa g) (amF b r T g)).toInt64)))) [22, 23, 24, 25, 26, 27, 28] (fun _ => rfl) (wN ma cI th n sw st b r T sc fi mi fa K) (fun _ => rfl) rfl (cv_of 30 (by decide +kernel) (fun _ => rfl)) [h, ta 0, ta 1, ta 2, sa 0, sa 1, sa 2, sa 3, sa 4, sa 5, sa 6, sa 7, sa 8, ua 0, ua 1, ua 2, ua 3, ua 4, ua 5, ua 6, ua 7, ua 8, o] (fun _ => rfl) rfl rfl rfl (fun r2 u1 h3 => ?_)
  subst h3
  refine z_istore (lv' := [(5, .int (nI 0)), (0, .ref b0), (1, .ref h), (2, .ref (ma 0)), (3, .ref o), (4, .int (nI i))]) (n := 963) hC dL_law_961 (by decide) rfl rfl ?_
  refine z_aload_n (n := 964) hC dL_law_963 rfl 3 rfl rfl ?_
  refine z_aload_n (n := 965) hC dL_law_964 rfl 1 rfl rfl ?_
  refine z_iload (n := 967) hC dL_law_965 5 rfl rfl ?_
  refine z_iconst (v := nI 1) (n := 968) hC dL_law_967 (by decide) rfl ?_
  refine z_iadd (v := nI (i + 1)) (n := 969) hC dL_law_968 (nI_add i 1) rfl ?_
  refine z_sld (v := nI g) (n := 970) hC hX hb0 hbA hL (i + 1) rfl (by omega) he1 dL_law_969 rfl ?_
  refine z_calli (R := room_1) (cells := 30 + 7 * j) (slots := 211 + 66 * j) (ws := (wH h ta sa ua T) ++ (wT ta cI b r) ++ (wS sa cI cZ sw st fa sc fi mi lf hi n) ++ (wS ua cI cZ sw2 st2 fa2 sc2 fi2 mi2 lf2 hi2 n2) ++ (wN ma cI th n sw st b r T sc fi mi fa K) ++ (wO o cJ (vp_updL ov 0 ((ouF (sw g) (st g) (fa g) (amF b r T g)).toInt64)))) (n := 973) (As := [.int (nI g)]) (rest := []) hC (k_X3_wouldHit l G cI cZ cJ ma th n sw st b r T sc fi mi fa K g (by omega) (by omega) hg hst) kg_L_141 kd_yX3_wouldHit dL_law_970 ⟨Nat.le_of_ble_eq_true rfl, Nat.le_of_ble_eq_true rfl⟩ 0 rfl rfl rfl [22, 23, 24, 25, 26, 27, 28] rfl (by decide) rfl (Nat.le_of_ble_eq_true rfl) ⟨by show _ ≤ 1080188; omega, by show _ ≤ 5855541; omega⟩ (ws2 := fun u4 => (wH h ta sa ua T) ++ (wT ta cI b r) ++ (wS sa cI cZ sw st fa sc fi mi lf hi n) ++ (wS ua cI cZ sw2 st2 fa2 sc2 fi2 mi2 lf2 hi2 n2) ++ (wN ma cI (nI 0) n sw st b r T sc fi mi fa K) ++ (wO o cJ (vp_updL ov 0 ((ouF (sw g) (st g) (fa g) (amF b r T g)).toInt64)))) [0, 1, 2, 3, 4, 5, 6, 7, 8, 9, 10, 11, 12, 13, 14, 15, 16, 17, 18, 19, 20, 21, 29] (fun _ => rfl) ((wH h ta sa ua T) ++ (wT ta cI b r) ++ (wS sa cI cZ sw st fa sc fi mi lf hi n) ++ (wS ua cI cZ sw2 st2 fa2 sc2 fi2 mi2 lf2 hi2 n2) ++ (wO o cJ (vp_updL ov 0 ((ouF (sw g) (st g) (fa g) (amF b r T g)).toInt64)))) (fun _ => rfl) rfl (cv_of 30 (by decide +kernel) (fun _ => rfl)) [ma 0, ma 1, ma 2, ma 3, ma 4, ma 5, ma 6] (fun _ => rfl) rfl rfl rfl (fun r5 u4 h6 => ?_)
  subst h6
  refine z_istore (lv' := [(6, .int (ouF (sw g) (st g) (fa g) (amF b r T g))), (5, .int (nI 0)), (0, .ref b0), (1, .ref h), (2, .ref (ma 0)), (3, .ref o), (4, .int (nI i))]) (n := 975) hC dL_law_973 (by decide) rfl rfl ?_
  refine z_aload_n (n := 976) hC dL_law_975 rfl 4 rfl rfl ?_
  refine z_calli (R := room_1) (cells := 30 + 7 * j) (slots := 211 + 66 * j) (ws := (wH h ta sa ua T) ++ (wT ta cI b r) ++ (wS sa cI cZ sw st fa sc fi mi lf hi n) ++ (wS ua cI cZ sw2 st2 fa2 sc2 fi2 mi2 lf2 hi2 n2) ++ (wN ma cI (nI 0) n sw st b r T sc fi mi fa K) ++ (wO o cJ (vp_updL ov 0 ((ouF (sw g) (st g) (fa g) (amF b r T g)).toInt64)))) (n := 979) (As := []) (rest := []) hC (k_X3_thrown l G cI cZ cJ ma (nI 0) n sw st b r T sc fi mi fa K (by omega) (by omega)) kg_L_89 kd_yX3_thrown dL_law_976 ⟨Nat.le_of_ble_eq_true rfl, Nat.le_of_ble_eq_true rfl⟩ 0 rfl rfl rfl [22, 23, 24, 25, 26, 27, 28] rfl (by decide) rfl (Nat.le_of_ble_eq_true rfl) ⟨by show _ ≤ 1080188; omega, by show _ ≤ 5855541; omega⟩ (ws2 := fun u7 => (wH h ta sa ua T) ++ (wT ta cI b r) ++ (wS sa cI cZ sw st fa sc fi mi lf hi n) ++ (wS ua cI cZ sw2 st2 fa2 sc2 fi2 mi2 lf2 hi2 n2) ++ (wN ma cI (nI 0) n sw st b r T sc fi mi fa K) ++ (wO o cJ (vp_updL ov 0 ((ouF (sw g) (st g) (fa g) (amF b r T g)).toInt64)))) [0, 1, 2, 3, 4, 5, 6, 7, 8, 9, 10, 11, 12, 13, 14, 15, 16, 17, 18, 19, 20, 21, 29] (fun _ => rfl) ((wH h ta sa ua T) ++ (wT ta cI b r) ++ (wS sa cI cZ sw st fa sc fi mi lf hi n) ++ (wS ua cI cZ sw2 st2 fa2 sc2 fi2 mi2 lf2 hi2 n2) ++ (wO o cJ (vp_updL ov 0 ((ouF (sw g) (st g) (fa g) (amF b r T g)).toInt64)))) (fun _ => rfl) rfl (cv_of 30 (by decide +kernel) (fun _ => rfl)) [ma 0, ma 1, ma 2, ma 3, ma 4, ma 5, ma 6] (fun _ => rfl) rfl rfl rfl (fun r8 u7 h9 => ?_)
  subst h9
  refine z_iload (n := 981) hC dL_law_979 1 rfl rfl ?_
  refine z_icmp_eq_n (tgt := 986) (n := 984) hC 0 0 rfl rfl (by omega) (by omega) dL_law_981 (by decide) rfl (fun c10 => ?_) (fun c10 => absurd rfl c10)
  refine z_iload (n := 988) hC dL_law_986 1 rfl rfl ?_
  refine z_if_ne (tgt := 1003) (n := 991) hC dL_law_988 (by decide) rfl (fun c11 => absurd (nI_0) c11) (fun c11 => ?_)
  refine z_aload_n (n := 992) hC dL_law_991 rfl 5 rfl rfl ?_
  refine z_iconst (v := nI 0) (n := 993) hC dL_law_992 (by decide) rfl ?_
  refine z_lald (v := (ouF (sw g) (st g) (fa g) (amF b r T g)).toInt64) (n := 994) hC 29 2 0 rfl rfl rfl (by omega) (by decide) dL_law_993 updL_at rfl ?_
  refine z_iload (n := 996) hC dL_law_994 0 rfl rfl ?_
  refine z_i2l (v := (ouF (sw g) (st g) (fa g) (amF b r T g)).toInt64) (n := 997) hC dL_law_996 rfl rfl ?_
  refine z_lcmp (n := 998) hC dL_law_997 rfl ?_
  refine z_if_eq (tgt := 1003) (n := 1001) hC dL_law_998 (by decide) rfl (fun c12 => ?_) (fun c12 => absurd (lg_self _) c12)
  refine z_goto (n := 1448) hC dL_law_1003 (by decide) ?_
  refine z_iinc (k0 := 6) (v := nI (i + 4)) (lv' := [(4, .int (nI (i + 4))), (6, .int (ouF (sw g) (st g) (fa g) (amF b r T g))), (5, .int (nI 0)), (0, .ref b0), (1, .ref h), (2, .ref (ma 0)), (3, .ref o)]) (n := 1451) hC dL_law_1448 rfl (nI_add i 4) (by decide) rfl rfl ?_
  refine z_goto (n := 23) hC dL_law_1451 (by decide) ?_
  refine z_lv [3, 4, 5, 6, 0] (lv' := [(0, .ref b0), (1, .ref h), (2, .ref (ma 0)), (3, .ref o), (4, .int (nI (i + 4)))]) rfl ?_
  refine z_wid (k1 := 30 + 7 * (j + 1)) (k2 := 211 + 66 * (j + 1)) (by omega) (by omega) ?_
  exact ih (i + 4) T b r sw st fa sc fi mi lf hi n sw2 st2 fa2 sc2 fi2 mi2 lf2 hi2 n2 (nI 0) K (vp_updL ov 0 ((ouF (sw g) (st g) (fa g) (amF b r T g)).toInt64)) (by omega) (iv_same hI)

set_option maxRecDepth 100000 in
set_option maxHeartbeats 4000000 in
theorem c_wouldHit_x (p : Program) (l : Launch) (e : Env) (s : State) (m : MethodId) (args : Array Value) (below : List Frame) (meth : Method) (c : Code) (G : va_G) (A : Nat → Prop) (Q : State → Prop) (cI cZ cJ : ClassId) (b0 h o : Nat) (ta sa ua ma : Nat → Nat) (L : Nat) (xs : Nat → Int32) (i j : Nat) (T : Nat) (b r sw st fa sc fi mi : Nat → Int32) (lf hi : Nat → Bool) (n : Nat) (sw2 st2 fa2 sc2 fi2 mi2 : Nat → Int32) (lf2 hi2 : Nat → Bool) (n2 : Nat) (th : Int32) (K : Nat → Int32) (ov : Nat → Int64)  (hW : LX p l s m args c G A cI cZ cJ b0 L xs) (hI : iv j T n b r st fa mi) (hi0 : i = 4 * j) (hiL : i + 4 ≤ L) (hb : xs (i + 1) < 0 ∨ nI n ≤ xs (i + 1)) (ih : LPj p l e s m args below meth c G A Q cI cZ cJ b0 h o ta sa ua ma (j + 1)) : LZ p l e s m args below meth c G A Q cI cZ cJ b0 h o ta sa ua ma (30 + 7 * j) (211 + 66 * j) i 950 T b r sw st fa sc fi mi lf hi n sw2 st2 fa2 sc2 fi2 mi2 lf2 hi2 n2 th K ov := by
  obtain ⟨hC, hl, hz, hX, hb0, hbA, hL⟩ := hW
  have hj : j ≤ 511 := by omega
  obtain ⟨hn, hT0, hst, hfa0, hmi0, hb9, hr9⟩ := id hI
  have hT : T < 2 ^ 29 := by omega
  have hfa : ∀ g : Nat, inN (fa g) (2 ^ 28) := fun g => inN_mono (hfa0 g) (by omega)
  have hmi : ∀ g : Nat, inN (mi g) (2 ^ 30) := fun g => inN_mono (hmi0 g) (by omega)
  have ham : ∀ (g zt : Nat), inN (amF b r zt g) 1000 := fun g zt => am_in hb9 hr9 zt g
  unfold LZ
  refine z_aload_n (n := 951) hC dL_law_950 rfl 1 rfl rfl ?_
  refine z_aload_n (n := 952) hC dL_law_951 rfl 0 rfl rfl ?_
  refine z_iload (n := 954) hC dL_law_952 4 rfl rfl ?_
  refine z_iconst (v := nI 1) (n := 955) hC dL_law_954 (by decide) rfl ?_
  refine z_iadd (v := nI (i + 1)) (n := 956) hC dL_law_955 (nI_add i 1) rfl ?_
  refine z_sld (v := xs (i + 1)) (n := 957) hC hX hb0 hbA hL (i + 1) rfl (by omega) rfl dL_law_956 rfl ?_
  refine z_aload_n (n := 958) hC dL_law_957 rfl 3 rfl rfl ?_
  refine z_callsiH (R := room_1) (cells := 30 + 7 * j) (slots := 211 + 66 * j) (ws := (wH h ta sa ua T) ++ (wT ta cI b r) ++ (wS sa cI cZ sw st fa sc fi mi lf hi n) ++ (wS ua cI cZ sw2 st2 fa2 sc2 fi2 mi2 lf2 hi2 n2) ++ (wN ma cI th n sw st b r T sc fi mi fa K) ++ (wO o cJ ov)) (n := 961) (As := [.ref h, .int (xs (i + 1)), .ref o]) (rest := []) hC hz (kx_L_wouldHit_x l G cI cZ cJ h ta sa ua T b r sw st fa sc fi mi lf hi n sw2 st2 fa2 sc2 fi2 mi2 lf2 hi2 n2 o ov (xs (i + 1)) hl (by omega) (by omega) hb) kg_L_139 kd_yL_wouldHit dL_law_958 ⟨Nat.le_of_ble_eq_true rfl, Nat.le_of_ble_eq_true rfl⟩ [0, 1, 2, 3, 4, 5, 6, 7, 8, 9, 10, 11, 12, 13, 14, 15, 16, 17, 18, 19, 20, 21, 29] rfl (by decide) rfl (Nat.le_of_ble_eq_true rfl) ⟨by show _ ≤ 1080188; omega, by show _ ≤ 5855541; omega⟩ (ws2 := fun u1 => (wH h ta sa ua T) ++ (wT ta cI b r) ++ (wS sa cI cZ sw st fa sc fi mi lf hi n) ++ (wS ua cI cZ sw2 st2 fa2 sc2 fi2 mi2 lf2 hi2 n2) ++ (wN ma cI th n sw st b r T sc fi mi fa K) ++ (wO o cJ ov)) [22, 23, 24, 25, 26, 27, 28] (fun _ => rfl) (wN ma cI th n sw st b r T sc fi mi fa K) (fun _ => rfl) rfl (cv_of 30 (by decide +kernel) (fun _ => rfl)) [h, ta 0, ta 1, ta 2, sa 0, sa 1, sa 2, sa 3, sa 4, sa 5, sa 6, sa 7, sa 8, ua 0, ua 1, ua 2, ua 3, ua 4, ua 5, ua 6, ua 7, ua 8, o] (fun _ => rfl) rfl rfl rfl (fun r2 u1 h3 => ?_)
  subst h3
  refine z_istore (lv' := [(5, .int (nI 1)), (0, .ref b0), (1, .ref h), (2, .ref (ma 0)), (3, .ref o), (4, .int (nI i))]) (n := 963) hC dL_law_961 (by decide) rfl rfl ?_
  refine z_aload_n (n := 964) hC dL_law_963 rfl 3 rfl rfl ?_
  refine z_aload_n (n := 965) hC dL_law_964 rfl 1 rfl rfl ?_
  refine z_iload (n := 967) hC dL_law_965 5 rfl rfl ?_
  refine z_iconst (v := nI 1) (n := 968) hC dL_law_967 (by decide) rfl ?_
  refine z_iadd (v := nI (i + 1)) (n := 969) hC dL_law_968 (nI_add i 1) rfl ?_
  refine z_sld (v := xs (i + 1)) (n := 970) hC hX hb0 hbA hL (i + 1) rfl (by omega) rfl dL_law_969 rfl ?_
  refine z_calli (R := room_1) (cells := 30 + 7 * j + 1) (slots := 211 + 66 * j + 6) (ws := (wH h ta sa ua T) ++ (wT ta cI b r) ++ (wS sa cI cZ sw st fa sc fi mi lf hi n) ++ (wS ua cI cZ sw2 st2 fa2 sc2 fi2 mi2 lf2 hi2 n2) ++ (wN ma cI th n sw st b r T sc fi mi fa K) ++ (wO o cJ ov)) (n := 973) (As := [.int (xs (i + 1))]) (rest := []) hC (k_X3_wouldHit_x l G cI cZ cJ ma th n sw st b r T sc fi mi fa K (xs (i + 1)) (by omega) (by omega) hb) kg_L_141 kd_yX3_wouldHit dL_law_970 ⟨Nat.le_of_ble_eq_true rfl, Nat.le_of_ble_eq_true rfl⟩ 0 rfl rfl rfl [22, 23, 24, 25, 26, 27, 28] rfl (by decide) rfl (Nat.le_of_ble_eq_true rfl) ⟨by show _ ≤ 1080188; omega, by show _ ≤ 5855541; omega⟩ (ws2 := fun u4 => (wH h ta sa ua T) ++ (wT ta cI b r) ++ (wS sa cI cZ sw st fa sc fi mi lf hi n) ++ (wS ua cI cZ sw2 st2 fa2 sc2 fi2 mi2 lf2 hi2 n2) ++ (wN ma cI (nI 1) n sw st b r T sc fi mi fa K) ++ (wO o cJ ov)) [0, 1, 2, 3, 4, 5, 6, 7, 8, 9, 10, 11, 12, 13, 14, 15, 16, 17, 18, 19, 20, 21, 29] (fun _ => rfl) ((wH h ta sa ua T) ++ (wT ta cI b r) ++ (wS sa cI cZ sw st fa sc fi mi lf hi n) ++ (wS ua cI cZ sw2 st2 fa2 sc2 fi2 mi2 lf2 hi2 n2) ++ (wO o cJ ov)) (fun _ => rfl) rfl (cv_of 30 (by decide +kernel) (fun _ => rfl)) [ma 0, ma 1, ma 2, ma 3, ma 4, ma 5, ma 6] (fun _ => rfl) rfl rfl rfl (fun r5 u4 h6 => ?_)
  subst h6
  refine z_istore (lv' := [(6, .int (nI 0)), (5, .int (nI 1)), (0, .ref b0), (1, .ref h), (2, .ref (ma 0)), (3, .ref o), (4, .int (nI i))]) (n := 975) hC dL_law_973 (by decide) rfl rfl ?_
  refine z_aload_n (n := 976) hC dL_law_975 rfl 4 rfl rfl ?_
  refine z_calli (R := room_1) (cells := 30 + 7 * j + 1) (slots := 211 + 66 * j + 6) (ws := (wH h ta sa ua T) ++ (wT ta cI b r) ++ (wS sa cI cZ sw st fa sc fi mi lf hi n) ++ (wS ua cI cZ sw2 st2 fa2 sc2 fi2 mi2 lf2 hi2 n2) ++ (wN ma cI (nI 1) n sw st b r T sc fi mi fa K) ++ (wO o cJ ov)) (n := 979) (As := []) (rest := []) hC (k_X3_thrown l G cI cZ cJ ma (nI 1) n sw st b r T sc fi mi fa K (by omega) (by omega)) kg_L_89 kd_yX3_thrown dL_law_976 ⟨Nat.le_of_ble_eq_true rfl, Nat.le_of_ble_eq_true rfl⟩ 0 rfl rfl rfl [22, 23, 24, 25, 26, 27, 28] rfl (by decide) rfl (Nat.le_of_ble_eq_true rfl) ⟨by show _ ≤ 1080188; omega, by show _ ≤ 5855541; omega⟩ (ws2 := fun u7 => (wH h ta sa ua T) ++ (wT ta cI b r) ++ (wS sa cI cZ sw st fa sc fi mi lf hi n) ++ (wS ua cI cZ sw2 st2 fa2 sc2 fi2 mi2 lf2 hi2 n2) ++ (wN ma cI (nI 1) n sw st b r T sc fi mi fa K) ++ (wO o cJ ov)) [0, 1, 2, 3, 4, 5, 6, 7, 8, 9, 10, 11, 12, 13, 14, 15, 16, 17, 18, 19, 20, 21, 29] (fun _ => rfl) ((wH h ta sa ua T) ++ (wT ta cI b r) ++ (wS sa cI cZ sw st fa sc fi mi lf hi n) ++ (wS ua cI cZ sw2 st2 fa2 sc2 fi2 mi2 lf2 hi2 n2) ++ (wO o cJ ov)) (fun _ => rfl) rfl (cv_of 30 (by decide +kernel) (fun _ => rfl)) [ma 0, ma 1, ma 2, ma 3, ma 4, ma 5, ma 6] (fun _ => rfl) rfl rfl rfl (fun r8 u7 h9 => ?_)
  subst h9
  refine z_iload (n := 981) hC dL_law_979 1 rfl rfl ?_
  refine z_icmp_eq_n (tgt := 986) (n := 984) hC 1 1 rfl rfl (by omega) (by omega) dL_law_981 (by decide) rfl (fun c10 => ?_) (fun c10 => absurd rfl c10)
  refine z_iload (n := 988) hC dL_law_986 1 rfl rfl ?_
  refine z_if_ne (tgt := 1003) (n := 991) hC dL_law_988 (by decide) rfl (fun c11 => ?_) (fun c11 => absurd c11 (by decide))
  refine z_goto (n := 1448) hC dL_law_1003 (by decide) ?_
  refine z_iinc (k0 := 6) (v := nI (i + 4)) (lv' := [(4, .int (nI (i + 4))), (6, .int (nI 0)), (5, .int (nI 1)), (0, .ref b0), (1, .ref h), (2, .ref (ma 0)), (3, .ref o)]) (n := 1451) hC dL_law_1448 rfl (nI_add i 4) (by decide) rfl rfl ?_
  refine z_goto (n := 23) hC dL_law_1451 (by decide) ?_
  refine z_lv [3, 4, 5, 6, 0] (lv' := [(0, .ref b0), (1, .ref h), (2, .ref (ma 0)), (3, .ref o), (4, .int (nI (i + 4)))]) rfl ?_
  refine z_wid (k1 := 30 + 7 * (j + 1)) (k2 := 211 + 66 * (j + 1)) (by omega) (by omega) ?_
  exact ih (i + 4) T b r sw st fa sc fi mi lf hi n sw2 st2 fa2 sc2 fi2 mi2 lf2 hi2 n2 (nI 1) K ov (by omega) (iv_same hI)

set_option maxRecDepth 100000 in
set_option maxHeartbeats 4000000 in
theorem c_rankOf (p : Program) (l : Launch) (e : Env) (s : State) (m : MethodId) (args : Array Value) (below : List Frame) (meth : Method) (c : Code) (G : va_G) (A : Nat → Prop) (Q : State → Prop) (cI cZ cJ : ClassId) (b0 h o : Nat) (ta sa ua ma : Nat → Nat) (L : Nat) (xs : Nat → Int32) (i j : Nat) (T : Nat) (b r sw st fa sc fi mi : Nat → Int32) (lf hi : Nat → Bool) (n : Nat) (sw2 st2 fa2 sc2 fi2 mi2 : Nat → Int32) (lf2 hi2 : Nat → Bool) (n2 : Nat) (th : Int32) (K : Nat → Int32) (ov : Nat → Int64) (g : Nat) (hW : LX p l s m args c G A cI cZ cJ b0 L xs) (hI : iv j T n b r st fa mi) (hi0 : i = 4 * j) (hiL : i + 4 ≤ L) (he1 : xs (i + 1) = nI g) (hg : g < n) (ih : LPj p l e s m args below meth c G A Q cI cZ cJ b0 h o ta sa ua ma (j + 1)) : LZ p l e s m args below meth c G A Q cI cZ cJ b0 h o ta sa ua ma (30 + 7 * j) (211 + 66 * j) i 1032 T b r sw st fa sc fi mi lf hi n sw2 st2 fa2 sc2 fi2 mi2 lf2 hi2 n2 th K ov := by
  obtain ⟨hC, hl, hz, hX, hb0, hbA, hL⟩ := hW
  have hj : j ≤ 511 := by omega
  obtain ⟨hn, hT0, hst, hfa0, hmi0, hb9, hr9⟩ := id hI
  have hT : T < 2 ^ 29 := by omega
  have hfa : ∀ g : Nat, inN (fa g) (2 ^ 28) := fun g => inN_mono (hfa0 g) (by omega)
  have hmi : ∀ g : Nat, inN (mi g) (2 ^ 30) := fun g => inN_mono (hmi0 g) (by omega)
  have ham : ∀ (g zt : Nat), inN (amF b r zt g) 1000 := fun g zt => am_in hb9 hr9 zt g
  unfold LZ
  refine z_aload_n (n := 1033) hC dL_law_1032 rfl 1 rfl rfl ?_
  refine z_aload_n (n := 1034) hC dL_law_1033 rfl 0 rfl rfl ?_
  refine z_iload (n := 1036) hC dL_law_1034 4 rfl rfl ?_
  refine z_iconst (v := nI 1) (n := 1037) hC dL_law_1036 (by decide) rfl ?_
  refine z_iadd (v := nI (i + 1)) (n := 1038) hC dL_law_1037 (nI_add i 1) rfl ?_
  refine z_sld (v := nI g) (n := 1039) hC hX hb0 hbA hL (i + 1) rfl (by omega) he1 dL_law_1038 rfl ?_
  refine z_aload_n (n := 1040) hC dL_law_1039 rfl 3 rfl rfl ?_
  refine z_callsiH (R := room_1) (cells := 30 + 7 * j) (slots := 211 + 66 * j) (ws := (wH h ta sa ua T) ++ (wT ta cI b r) ++ (wS sa cI cZ sw st fa sc fi mi lf hi n) ++ (wS ua cI cZ sw2 st2 fa2 sc2 fi2 mi2 lf2 hi2 n2) ++ (wN ma cI th n sw st b r T sc fi mi fa K) ++ (wO o cJ ov)) (n := 1043) (As := [.ref h, .int (nI g), .ref o]) (rest := []) hC hz (k_L_rankOf l G cI cZ cJ h ta sa ua T b r sw st fa sc fi mi lf hi n sw2 st2 fa2 sc2 fi2 mi2 lf2 hi2 n2 o ov g (by omega) (by omega) hg) kg_L_150 kd_yL_rankOf dL_law_1040 ⟨Nat.le_of_ble_eq_true rfl, Nat.le_of_ble_eq_true rfl⟩ [0, 1, 2, 3, 4, 5, 6, 7, 8, 9, 10, 11, 12, 13, 14, 15, 16, 17, 18, 19, 20, 21, 29] rfl (by decide) rfl (Nat.le_of_ble_eq_true rfl) ⟨by show _ ≤ 1080188; omega, by show _ ≤ 5855541; omega⟩ (ws2 := fun u1 => (wH h ta sa ua T) ++ (wT ta cI b r) ++ (wS sa cI cZ sw st fa sc fi mi lf hi n) ++ (wS ua cI cZ sw2 st2 fa2 sc2 fi2 mi2 lf2 hi2 n2) ++ (wN ma cI th n sw st b r T sc fi mi fa K) ++ (wO o cJ (vp_updL ov 0 ((nI (1 + ctF (fun zj => decide (¬ sc zj ≤ sc g)) n)).toInt64)))) [22, 23, 24, 25, 26, 27, 28] (fun _ => rfl) (wN ma cI th n sw st b r T sc fi mi fa K) (fun _ => rfl) rfl (cv_of 30 (by decide +kernel) (fun _ => rfl)) [h, ta 0, ta 1, ta 2, sa 0, sa 1, sa 2, sa 3, sa 4, sa 5, sa 6, sa 7, sa 8, ua 0, ua 1, ua 2, ua 3, ua 4, ua 5, ua 6, ua 7, ua 8, o] (fun _ => rfl) rfl rfl rfl (fun r2 u1 h3 => ?_)
  subst h3
  refine z_istore (lv' := [(5, .int (nI 0)), (0, .ref b0), (1, .ref h), (2, .ref (ma 0)), (3, .ref o), (4, .int (nI i))]) (n := 1045) hC dL_law_1043 (by decide) rfl rfl ?_
  refine z_aload_n (n := 1046) hC dL_law_1045 rfl 3 rfl rfl ?_
  refine z_aload_n (n := 1047) hC dL_law_1046 rfl 1 rfl rfl ?_
  refine z_iload (n := 1049) hC dL_law_1047 5 rfl rfl ?_
  refine z_iconst (v := nI 1) (n := 1050) hC dL_law_1049 (by decide) rfl ?_
  refine z_iadd (v := nI (i + 1)) (n := 1051) hC dL_law_1050 (nI_add i 1) rfl ?_
  refine z_sld (v := nI g) (n := 1052) hC hX hb0 hbA hL (i + 1) rfl (by omega) he1 dL_law_1051 rfl ?_
  refine z_calli (R := room_1) (cells := 30 + 7 * j) (slots := 211 + 66 * j) (ws := (wH h ta sa ua T) ++ (wT ta cI b r) ++ (wS sa cI cZ sw st fa sc fi mi lf hi n) ++ (wS ua cI cZ sw2 st2 fa2 sc2 fi2 mi2 lf2 hi2 n2) ++ (wN ma cI th n sw st b r T sc fi mi fa K) ++ (wO o cJ (vp_updL ov 0 ((nI (1 + ctF (fun zj => decide (¬ sc zj ≤ sc g)) n)).toInt64)))) (n := 1055) (As := [.int (nI g)]) (rest := []) hC (k_X3_rankOf l G cI cZ cJ ma th n sw st b r T sc fi mi fa K g (by omega) (by omega) hg hst) kg_L_152 kd_yX3_rankOf dL_law_1052 ⟨Nat.le_of_ble_eq_true rfl, Nat.le_of_ble_eq_true rfl⟩ 0 rfl rfl rfl [22, 23, 24, 25, 26, 27, 28] rfl (by decide) rfl (Nat.le_of_ble_eq_true rfl) ⟨by show _ ≤ 1080188; omega, by show _ ≤ 5855541; omega⟩ (ws2 := fun u4 => (wH h ta sa ua T) ++ (wT ta cI b r) ++ (wS sa cI cZ sw st fa sc fi mi lf hi n) ++ (wS ua cI cZ sw2 st2 fa2 sc2 fi2 mi2 lf2 hi2 n2) ++ (wN ma cI (nI 0) n sw st b r T sc fi mi fa K) ++ (wO o cJ (vp_updL ov 0 ((nI (1 + ctF (fun zj => decide (¬ sc zj ≤ sc g)) n)).toInt64)))) [0, 1, 2, 3, 4, 5, 6, 7, 8, 9, 10, 11, 12, 13, 14, 15, 16, 17, 18, 19, 20, 21, 29] (fun _ => rfl) ((wH h ta sa ua T) ++ (wT ta cI b r) ++ (wS sa cI cZ sw st fa sc fi mi lf hi n) ++ (wS ua cI cZ sw2 st2 fa2 sc2 fi2 mi2 lf2 hi2 n2) ++ (wO o cJ (vp_updL ov 0 ((nI (1 + ctF (fun zj => decide (¬ sc zj ≤ sc g)) n)).toInt64)))) (fun _ => rfl) rfl (cv_of 30 (by decide +kernel) (fun _ => rfl)) [ma 0, ma 1, ma 2, ma 3, ma 4, ma 5, ma 6] (fun _ => rfl) rfl rfl rfl (fun r5 u4 h6 => ?_)
  subst h6
  refine z_istore (lv' := [(6, .int (nI (1 + ctF (fun zj => decide (¬ sc zj ≤ sc g)) n))), (5, .int (nI 0)), (0, .ref b0), (1, .ref h), (2, .ref (ma 0)), (3, .ref o), (4, .int (nI i))]) (n := 1057) hC dL_law_1055 (by decide) rfl rfl ?_
  refine z_aload_n (n := 1058) hC dL_law_1057 rfl 4 rfl rfl ?_
  refine z_calli (R := room_1) (cells := 30 + 7 * j) (slots := 211 + 66 * j) (ws := (wH h ta sa ua T) ++ (wT ta cI b r) ++ (wS sa cI cZ sw st fa sc fi mi lf hi n) ++ (wS ua cI cZ sw2 st2 fa2 sc2 fi2 mi2 lf2 hi2 n2) ++ (wN ma cI (nI 0) n sw st b r T sc fi mi fa K) ++ (wO o cJ (vp_updL ov 0 ((nI (1 + ctF (fun zj => decide (¬ sc zj ≤ sc g)) n)).toInt64)))) (n := 1061) (As := []) (rest := []) hC (k_X3_thrown l G cI cZ cJ ma (nI 0) n sw st b r T sc fi mi fa K (by omega) (by omega)) kg_L_89 kd_yX3_thrown dL_law_1058 ⟨Nat.le_of_ble_eq_true rfl, Nat.le_of_ble_eq_true rfl⟩ 0 rfl rfl rfl [22, 23, 24, 25, 26, 27, 28] rfl (by decide) rfl (Nat.le_of_ble_eq_true rfl) ⟨by show _ ≤ 1080188; omega, by show _ ≤ 5855541; omega⟩ (ws2 := fun u7 => (wH h ta sa ua T) ++ (wT ta cI b r) ++ (wS sa cI cZ sw st fa sc fi mi lf hi n) ++ (wS ua cI cZ sw2 st2 fa2 sc2 fi2 mi2 lf2 hi2 n2) ++ (wN ma cI (nI 0) n sw st b r T sc fi mi fa K) ++ (wO o cJ (vp_updL ov 0 ((nI (1 + ctF (fun zj => decide (¬ sc zj ≤ sc g)) n)).toInt64)))) [0, 1, 2, 3, 4, 5, 6, 7, 8, 9, 10, 11, 12, 13, 14, 15, 16, 17, 18, 19, 20, 21, 29] (fun _ => rfl) ((wH h ta sa ua T) ++ (wT ta cI b r) ++ (wS sa cI cZ sw st fa sc fi mi lf hi n) ++ (wS ua cI cZ sw2 st2 fa2 sc2 fi2 mi2 lf2 hi2 n2) ++ (wO o cJ (vp_updL ov 0 ((nI (1 + ctF (fun zj => decide (¬ sc zj ≤ sc g)) n)).toInt64)))) (fun _ => rfl) rfl (cv_of 30 (by decide +kernel) (fun _ => rfl)) [ma 0, ma 1, ma 2, ma 3, ma 4, ma 5, ma 6] (fun _ => rfl) rfl rfl rfl (fun r8 u7 h9 => ?_)
  subst h9
  refine z_iload (n := 1063) hC dL_law_1061 1 rfl rfl ?_
  refine z_icmp_eq_n (tgt := 1068) (n := 1066) hC 0 0 rfl rfl (by omega) (by omega) dL_law_1063 (by decide) rfl (fun c10 => ?_) (fun c10 => absurd rfl c10)
  refine z_iload (n := 1070) hC dL_law_1068 1 rfl rfl ?_
  refine z_if_ne (tgt := 1085) (n := 1073) hC dL_law_1070 (by decide) rfl (fun c11 => absurd (nI_0) c11) (fun c11 => ?_)
  refine z_aload_n (n := 1074) hC dL_law_1073 rfl 5 rfl rfl ?_
  refine z_iconst (v := nI 0) (n := 1075) hC dL_law_1074 (by decide) rfl ?_
  refine z_lald (v := (nI (1 + ctF (fun zj => decide (¬ sc zj ≤ sc g)) n)).toInt64) (n := 1076) hC 29 2 0 rfl rfl rfl (by omega) (by decide) dL_law_1075 updL_at rfl ?_
  refine z_iload (n := 1078) hC dL_law_1076 0 rfl rfl ?_
  refine z_i2l (v := (nI (1 + ctF (fun zj => decide (¬ sc zj ≤ sc g)) n)).toInt64) (n := 1079) hC dL_law_1078 rfl rfl ?_
  refine z_lcmp (n := 1080) hC dL_law_1079 rfl ?_
  refine z_if_eq (tgt := 1085) (n := 1083) hC dL_law_1080 (by decide) rfl (fun c12 => ?_) (fun c12 => absurd (lg_self _) c12)
  refine z_goto (n := 1448) hC dL_law_1085 (by decide) ?_
  refine z_iinc (k0 := 6) (v := nI (i + 4)) (lv' := [(4, .int (nI (i + 4))), (6, .int (nI (1 + ctF (fun zj => decide (¬ sc zj ≤ sc g)) n))), (5, .int (nI 0)), (0, .ref b0), (1, .ref h), (2, .ref (ma 0)), (3, .ref o)]) (n := 1451) hC dL_law_1448 rfl (nI_add i 4) (by decide) rfl rfl ?_
  refine z_goto (n := 23) hC dL_law_1451 (by decide) ?_
  refine z_lv [3, 4, 5, 6, 0] (lv' := [(0, .ref b0), (1, .ref h), (2, .ref (ma 0)), (3, .ref o), (4, .int (nI (i + 4)))]) rfl ?_
  refine z_wid (k1 := 30 + 7 * (j + 1)) (k2 := 211 + 66 * (j + 1)) (by omega) (by omega) ?_
  exact ih (i + 4) T b r sw st fa sc fi mi lf hi n sw2 st2 fa2 sc2 fi2 mi2 lf2 hi2 n2 (nI 0) K (vp_updL ov 0 ((nI (1 + ctF (fun zj => decide (¬ sc zj ≤ sc g)) n)).toInt64)) (by omega) (iv_same hI)

set_option maxRecDepth 100000 in
set_option maxHeartbeats 4000000 in
theorem c_rankOf_x (p : Program) (l : Launch) (e : Env) (s : State) (m : MethodId) (args : Array Value) (below : List Frame) (meth : Method) (c : Code) (G : va_G) (A : Nat → Prop) (Q : State → Prop) (cI cZ cJ : ClassId) (b0 h o : Nat) (ta sa ua ma : Nat → Nat) (L : Nat) (xs : Nat → Int32) (i j : Nat) (T : Nat) (b r sw st fa sc fi mi : Nat → Int32) (lf hi : Nat → Bool) (n : Nat) (sw2 st2 fa2 sc2 fi2 mi2 : Nat → Int32) (lf2 hi2 : Nat → Bool) (n2 : Nat) (th : Int32) (K : Nat → Int32) (ov : Nat → Int64)  (hW : LX p l s m args c G A cI cZ cJ b0 L xs) (hI : iv j T n b r st fa mi) (hi0 : i = 4 * j) (hiL : i + 4 ≤ L) (hb : xs (i + 1) < 0 ∨ nI n ≤ xs (i + 1)) (ih : LPj p l e s m args below meth c G A Q cI cZ cJ b0 h o ta sa ua ma (j + 1)) : LZ p l e s m args below meth c G A Q cI cZ cJ b0 h o ta sa ua ma (30 + 7 * j) (211 + 66 * j) i 1032 T b r sw st fa sc fi mi lf hi n sw2 st2 fa2 sc2 fi2 mi2 lf2 hi2 n2 th K ov := by
  obtain ⟨hC, hl, hz, hX, hb0, hbA, hL⟩ := hW
  have hj : j ≤ 511 := by omega
  obtain ⟨hn, hT0, hst, hfa0, hmi0, hb9, hr9⟩ := id hI
  have hT : T < 2 ^ 29 := by omega
  have hfa : ∀ g : Nat, inN (fa g) (2 ^ 28) := fun g => inN_mono (hfa0 g) (by omega)
  have hmi : ∀ g : Nat, inN (mi g) (2 ^ 30) := fun g => inN_mono (hmi0 g) (by omega)
  have ham : ∀ (g zt : Nat), inN (amF b r zt g) 1000 := fun g zt => am_in hb9 hr9 zt g
  unfold LZ
  refine z_aload_n (n := 1033) hC dL_law_1032 rfl 1 rfl rfl ?_
  refine z_aload_n (n := 1034) hC dL_law_1033 rfl 0 rfl rfl ?_
  refine z_iload (n := 1036) hC dL_law_1034 4 rfl rfl ?_
  refine z_iconst (v := nI 1) (n := 1037) hC dL_law_1036 (by decide) rfl ?_
  refine z_iadd (v := nI (i + 1)) (n := 1038) hC dL_law_1037 (nI_add i 1) rfl ?_
  refine z_sld (v := xs (i + 1)) (n := 1039) hC hX hb0 hbA hL (i + 1) rfl (by omega) rfl dL_law_1038 rfl ?_
  refine z_aload_n (n := 1040) hC dL_law_1039 rfl 3 rfl rfl ?_
  refine z_callsiH (R := room_1) (cells := 30 + 7 * j) (slots := 211 + 66 * j) (ws := (wH h ta sa ua T) ++ (wT ta cI b r) ++ (wS sa cI cZ sw st fa sc fi mi lf hi n) ++ (wS ua cI cZ sw2 st2 fa2 sc2 fi2 mi2 lf2 hi2 n2) ++ (wN ma cI th n sw st b r T sc fi mi fa K) ++ (wO o cJ ov)) (n := 1043) (As := [.ref h, .int (xs (i + 1)), .ref o]) (rest := []) hC hz (kx_L_rankOf_x l G cI cZ cJ h ta sa ua T b r sw st fa sc fi mi lf hi n sw2 st2 fa2 sc2 fi2 mi2 lf2 hi2 n2 o ov (xs (i + 1)) hl (by omega) (by omega) hb) kg_L_150 kd_yL_rankOf dL_law_1040 ⟨Nat.le_of_ble_eq_true rfl, Nat.le_of_ble_eq_true rfl⟩ [0, 1, 2, 3, 4, 5, 6, 7, 8, 9, 10, 11, 12, 13, 14, 15, 16, 17, 18, 19, 20, 21, 29] rfl (by decide) rfl (Nat.le_of_ble_eq_true rfl) ⟨by show _ ≤ 1080188; omega, by show _ ≤ 5855541; omega⟩ (ws2 := fun u1 => (wH h ta sa ua T) ++ (wT ta cI b r) ++ (wS sa cI cZ sw st fa sc fi mi lf hi n) ++ (wS ua cI cZ sw2 st2 fa2 sc2 fi2 mi2 lf2 hi2 n2) ++ (wN ma cI th n sw st b r T sc fi mi fa K) ++ (wO o cJ ov)) [22, 23, 24, 25, 26, 27, 28] (fun _ => rfl) (wN ma cI th n sw st b r T sc fi mi fa K) (fun _ => rfl) rfl (cv_of 30 (by decide +kernel) (fun _ => rfl)) [h, ta 0, ta 1, ta 2, sa 0, sa 1, sa 2, sa 3, sa 4, sa 5, sa 6, sa 7, sa 8, ua 0, ua 1, ua 2, ua 3, ua 4, ua 5, ua 6, ua 7, ua 8, o] (fun _ => rfl) rfl rfl rfl (fun r2 u1 h3 => ?_)
  subst h3
  refine z_istore (lv' := [(5, .int (nI 1)), (0, .ref b0), (1, .ref h), (2, .ref (ma 0)), (3, .ref o), (4, .int (nI i))]) (n := 1045) hC dL_law_1043 (by decide) rfl rfl ?_
  refine z_aload_n (n := 1046) hC dL_law_1045 rfl 3 rfl rfl ?_
  refine z_aload_n (n := 1047) hC dL_law_1046 rfl 1 rfl rfl ?_
  refine z_iload (n := 1049) hC dL_law_1047 5 rfl rfl ?_
  refine z_iconst (v := nI 1) (n := 1050) hC dL_law_1049 (by decide) rfl ?_
  refine z_iadd (v := nI (i + 1)) (n := 1051) hC dL_law_1050 (nI_add i 1) rfl ?_
  refine z_sld (v := xs (i + 1)) (n := 1052) hC hX hb0 hbA hL (i + 1) rfl (by omega) rfl dL_law_1051 rfl ?_
  refine z_calli (R := room_1) (cells := 30 + 7 * j + 1) (slots := 211 + 66 * j + 6) (ws := (wH h ta sa ua T) ++ (wT ta cI b r) ++ (wS sa cI cZ sw st fa sc fi mi lf hi n) ++ (wS ua cI cZ sw2 st2 fa2 sc2 fi2 mi2 lf2 hi2 n2) ++ (wN ma cI th n sw st b r T sc fi mi fa K) ++ (wO o cJ ov)) (n := 1055) (As := [.int (xs (i + 1))]) (rest := []) hC (k_X3_rankOf_x l G cI cZ cJ ma th n sw st b r T sc fi mi fa K (xs (i + 1)) (by omega) (by omega) hb) kg_L_152 kd_yX3_rankOf dL_law_1052 ⟨Nat.le_of_ble_eq_true rfl, Nat.le_of_ble_eq_true rfl⟩ 0 rfl rfl rfl [22, 23, 24, 25, 26, 27, 28] rfl (by decide) rfl (Nat.le_of_ble_eq_true rfl) ⟨by show _ ≤ 1080188; omega, by show _ ≤ 5855541; omega⟩ (ws2 := fun u4 => (wH h ta sa ua T) ++ (wT ta cI b r) ++ (wS sa cI cZ sw st fa sc fi mi lf hi n) ++ (wS ua cI cZ sw2 st2 fa2 sc2 fi2 mi2 lf2 hi2 n2) ++ (wN ma cI (nI 1) n sw st b r T sc fi mi fa K) ++ (wO o cJ ov)) [0, 1, 2, 3, 4, 5, 6, 7, 8, 9, 10, 11, 12, 13, 14, 15, 16, 17, 18, 19, 20, 21, 29] (fun _ => rfl) ((wH h ta sa ua T) ++ (wT ta cI b r) ++ (wS sa cI cZ sw st fa sc fi mi lf hi n) ++ (wS ua cI cZ sw2 st2 fa2 sc2 fi2 mi2 lf2 hi2 n2) ++ (wO o cJ ov)) (fun _ => rfl) rfl (cv_of 30 (by decide +kernel) (fun _ => rfl)) [ma 0, ma 1, ma 2, ma 3, ma 4, ma 5, ma 6] (fun _ => rfl) rfl rfl rfl (fun r5 u4 h6 => ?_)
  subst h6
  refine z_istore (lv' := [(6, .int (nI 0)), (5, .int (nI 1)), (0, .ref b0), (1, .ref h), (2, .ref (ma 0)), (3, .ref o), (4, .int (nI i))]) (n := 1057) hC dL_law_1055 (by decide) rfl rfl ?_
  refine z_aload_n (n := 1058) hC dL_law_1057 rfl 4 rfl rfl ?_
  refine z_calli (R := room_1) (cells := 30 + 7 * j + 1) (slots := 211 + 66 * j + 6) (ws := (wH h ta sa ua T) ++ (wT ta cI b r) ++ (wS sa cI cZ sw st fa sc fi mi lf hi n) ++ (wS ua cI cZ sw2 st2 fa2 sc2 fi2 mi2 lf2 hi2 n2) ++ (wN ma cI (nI 1) n sw st b r T sc fi mi fa K) ++ (wO o cJ ov)) (n := 1061) (As := []) (rest := []) hC (k_X3_thrown l G cI cZ cJ ma (nI 1) n sw st b r T sc fi mi fa K (by omega) (by omega)) kg_L_89 kd_yX3_thrown dL_law_1058 ⟨Nat.le_of_ble_eq_true rfl, Nat.le_of_ble_eq_true rfl⟩ 0 rfl rfl rfl [22, 23, 24, 25, 26, 27, 28] rfl (by decide) rfl (Nat.le_of_ble_eq_true rfl) ⟨by show _ ≤ 1080188; omega, by show _ ≤ 5855541; omega⟩ (ws2 := fun u7 => (wH h ta sa ua T) ++ (wT ta cI b r) ++ (wS sa cI cZ sw st fa sc fi mi lf hi n) ++ (wS ua cI cZ sw2 st2 fa2 sc2 fi2 mi2 lf2 hi2 n2) ++ (wN ma cI (nI 1) n sw st b r T sc fi mi fa K) ++ (wO o cJ ov)) [0, 1, 2, 3, 4, 5, 6, 7, 8, 9, 10, 11, 12, 13, 14, 15, 16, 17, 18, 19, 20, 21, 29] (fun _ => rfl) ((wH h ta sa ua T) ++ (wT ta cI b r) ++ (wS sa cI cZ sw st fa sc fi mi lf hi n) ++ (wS ua cI cZ sw2 st2 fa2 sc2 fi2 mi2 lf2 hi2 n2) ++ (wO o cJ ov)) (fun _ => rfl) rfl (cv_of 30 (by decide +kernel) (fun _ => rfl)) [ma 0, ma 1, ma 2, ma 3, ma 4, ma 5, ma 6] (fun _ => rfl) rfl rfl rfl (fun r8 u7 h9 => ?_)
  subst h9
  refine z_iload (n := 1063) hC dL_law_1061 1 rfl rfl ?_
  refine z_icmp_eq_n (tgt := 1068) (n := 1066) hC 1 1 rfl rfl (by omega) (by omega) dL_law_1063 (by decide) rfl (fun c10 => ?_) (fun c10 => absurd rfl c10)
  refine z_iload (n := 1070) hC dL_law_1068 1 rfl rfl ?_
  refine z_if_ne (tgt := 1085) (n := 1073) hC dL_law_1070 (by decide) rfl (fun c11 => ?_) (fun c11 => absurd c11 (by decide))
  refine z_goto (n := 1448) hC dL_law_1085 (by decide) ?_
  refine z_iinc (k0 := 6) (v := nI (i + 4)) (lv' := [(4, .int (nI (i + 4))), (6, .int (nI 0)), (5, .int (nI 1)), (0, .ref b0), (1, .ref h), (2, .ref (ma 0)), (3, .ref o)]) (n := 1451) hC dL_law_1448 rfl (nI_add i 4) (by decide) rfl rfl ?_
  refine z_goto (n := 23) hC dL_law_1451 (by decide) ?_
  refine z_lv [3, 4, 5, 6, 0] (lv' := [(0, .ref b0), (1, .ref h), (2, .ref (ma 0)), (3, .ref o), (4, .int (nI (i + 4)))]) rfl ?_
  refine z_wid (k1 := 30 + 7 * (j + 1)) (k2 := 211 + 66 * (j + 1)) (by omega) (by omega) ?_
  exact ih (i + 4) T b r sw st fa sc fi mi lf hi n sw2 st2 fa2 sc2 fi2 mi2 lf2 hi2 n2 (nI 1) K ov (by omega) (iv_same hI)

set_option maxRecDepth 100000 in
set_option maxHeartbeats 4000000 in
theorem c_turnsUntilMiss (p : Program) (l : Launch) (e : Env) (s : State) (m : MethodId) (args : Array Value) (below : List Frame) (meth : Method) (c : Code) (G : va_G) (A : Nat → Prop) (Q : State → Prop) (cI cZ cJ : ClassId) (b0 h o : Nat) (ta sa ua ma : Nat → Nat) (L : Nat) (xs : Nat → Int32) (i j : Nat) (T : Nat) (b r sw st fa sc fi mi : Nat → Int32) (lf hi : Nat → Bool) (n : Nat) (sw2 st2 fa2 sc2 fi2 mi2 : Nat → Int32) (lf2 hi2 : Nat → Bool) (n2 : Nat) (th : Int32) (K : Nat → Int32) (ov : Nat → Int64) (g : Nat) (hW : LX p l s m args c G A cI cZ cJ b0 L xs) (hI : iv j T n b r st fa mi) (hi0 : i = 4 * j) (hiL : i + 4 ≤ L) (he1 : xs (i + 1) = nI g) (hg : g < n) (ih : LPj p l e s m args below meth c G A Q cI cZ cJ b0 h o ta sa ua ma (j + 1)) : LZ p l e s m args below meth c G A Q cI cZ cJ b0 h o ta sa ua ma (30 + 7 * j) (211 + 66 * j) i 1156 T b r sw st fa sc fi mi lf hi n sw2 st2 fa2 sc2 fi2 mi2 lf2 hi2 n2 th K ov := by
  obtain ⟨hC, hl, hz, hX, hb0, hbA, hL⟩ := hW
  have hj : j ≤ 511 := by omega
  obtain ⟨hn, hT0, hst, hfa0, hmi0, hb9, hr9⟩ := id hI
  have hT : T < 2 ^ 29 := by omega
  have hfa : ∀ g : Nat, inN (fa g) (2 ^ 28) := fun g => inN_mono (hfa0 g) (by omega)
  have hmi : ∀ g : Nat, inN (mi g) (2 ^ 30) := fun g => inN_mono (hmi0 g) (by omega)
  have ham : ∀ (g zt : Nat), inN (amF b r zt g) 1000 := fun g zt => am_in hb9 hr9 zt g
  unfold LZ
  refine z_aload_n (n := 1157) hC dL_law_1156 rfl 1 rfl rfl ?_
  refine z_aload_n (n := 1158) hC dL_law_1157 rfl 0 rfl rfl ?_
  refine z_iload (n := 1160) hC dL_law_1158 4 rfl rfl ?_
  refine z_iconst (v := nI 1) (n := 1161) hC dL_law_1160 (by decide) rfl ?_
  refine z_iadd (v := nI (i + 1)) (n := 1162) hC dL_law_1161 (nI_add i 1) rfl ?_
  refine z_sld (v := nI g) (n := 1163) hC hX hb0 hbA hL (i + 1) rfl (by omega) he1 dL_law_1162 rfl ?_
  refine z_aload_n (n := 1164) hC dL_law_1163 rfl 3 rfl rfl ?_
  refine z_callsiH (R := room_1) (cells := 30 + 7 * j) (slots := 211 + 66 * j) (ws := (wH h ta sa ua T) ++ (wT ta cI b r) ++ (wS sa cI cZ sw st fa sc fi mi lf hi n) ++ (wS ua cI cZ sw2 st2 fa2 sc2 fi2 mi2 lf2 hi2 n2) ++ (wN ma cI th n sw st b r T sc fi mi fa K) ++ (wO o cJ ov)) (n := 1167) (As := [.ref h, .int (nI g), .ref o]) (rest := []) hC hz (k_L_turnsUntilMiss l G cI cZ cJ h ta sa ua T b r sw st fa sc fi mi lf hi n sw2 st2 fa2 sc2 fi2 mi2 lf2 hi2 n2 o ov g (by omega) (by omega) hg) kg_L_156 kd_yL_turnsUntilMiss dL_law_1164 ⟨Nat.le_of_ble_eq_true rfl, Nat.le_of_ble_eq_true rfl⟩ [0, 1, 2, 3, 4, 5, 6, 7, 8, 9, 10, 11, 12, 13, 14, 15, 16, 17, 18, 19, 20, 21, 29] rfl (by decide) rfl (Nat.le_of_ble_eq_true rfl) ⟨by show _ ≤ 1080188; omega, by show _ ≤ 5855541; omega⟩ (ws2 := fun u1 => (wH h ta sa ua T) ++ (wT ta cI b r) ++ (wS sa cI cZ sw st fa sc fi mi lf hi n) ++ (wS ua cI cZ sw2 st2 fa2 sc2 fi2 mi2 lf2 hi2 n2) ++ (wN ma cI th n sw st b r T sc fi mi fa K) ++ (wO o cJ (vp_updL ov 0 ((umF (miB sw b r T g) 100).toInt64)))) [22, 23, 24, 25, 26, 27, 28] (fun _ => rfl) (wN ma cI th n sw st b r T sc fi mi fa K) (fun _ => rfl) rfl (cv_of 30 (by decide +kernel) (fun _ => rfl)) [h, ta 0, ta 1, ta 2, sa 0, sa 1, sa 2, sa 3, sa 4, sa 5, sa 6, sa 7, sa 8, ua 0, ua 1, ua 2, ua 3, ua 4, ua 5, ua 6, ua 7, ua 8, o] (fun _ => rfl) rfl rfl rfl (fun r2 u1 h3 => ?_)
  subst h3
  refine z_istore (lv' := [(5, .int (nI 0)), (0, .ref b0), (1, .ref h), (2, .ref (ma 0)), (3, .ref o), (4, .int (nI i))]) (n := 1169) hC dL_law_1167 (by decide) rfl rfl ?_
  refine z_aload_n (n := 1170) hC dL_law_1169 rfl 3 rfl rfl ?_
  refine z_aload_n (n := 1171) hC dL_law_1170 rfl 1 rfl rfl ?_
  refine z_iload (n := 1173) hC dL_law_1171 5 rfl rfl ?_
  refine z_iconst (v := nI 1) (n := 1174) hC dL_law_1173 (by decide) rfl ?_
  refine z_iadd (v := nI (i + 1)) (n := 1175) hC dL_law_1174 (nI_add i 1) rfl ?_
  refine z_sld (v := nI g) (n := 1176) hC hX hb0 hbA hL (i + 1) rfl (by omega) he1 dL_law_1175 rfl ?_
  refine z_calli (R := room_1) (cells := 30 + 7 * j) (slots := 211 + 66 * j) (ws := (wH h ta sa ua T) ++ (wT ta cI b r) ++ (wS sa cI cZ sw st fa sc fi mi lf hi n) ++ (wS ua cI cZ sw2 st2 fa2 sc2 fi2 mi2 lf2 hi2 n2) ++ (wN ma cI th n sw st b r T sc fi mi fa K) ++ (wO o cJ (vp_updL ov 0 ((umF (miB sw b r T g) 100).toInt64)))) (n := 1179) (As := [.int (nI g)]) (rest := []) hC (k_X3_turnsUntilMiss l G cI cZ cJ ma th n sw st b r T sc fi mi fa K g (by omega) (by omega) hg hst (hfa g) (hmi g) (ham g)) kg_L_158 kd_yX3_turnsUntilMiss dL_law_1176 ⟨Nat.le_of_ble_eq_true rfl, Nat.le_of_ble_eq_true rfl⟩ 0 rfl rfl rfl [22, 23, 24, 25, 26, 27, 28] rfl (by decide) rfl (Nat.le_of_ble_eq_true rfl) ⟨by show _ ≤ 1080188; omega, by show _ ≤ 5855541; omega⟩ (ws2 := fun u4 => (wH h ta sa ua T) ++ (wT ta cI b r) ++ (wS sa cI cZ sw st fa sc fi mi lf hi n) ++ (wS ua cI cZ sw2 st2 fa2 sc2 fi2 mi2 lf2 hi2 n2) ++ (wN ma cI (nI 0) n sw st b r T sc fi mi fa (va_cpy (nowF T sc fi mi fa) K 0 0 25)) ++ (wO o cJ (vp_updL ov 0 ((umF (miB sw b r T g) 100).toInt64)))) [0, 1, 2, 3, 4, 5, 6, 7, 8, 9, 10, 11, 12, 13, 14, 15, 16, 17, 18, 19, 20, 21, 29] (fun _ => rfl) ((wH h ta sa ua T) ++ (wT ta cI b r) ++ (wS sa cI cZ sw st fa sc fi mi lf hi n) ++ (wS ua cI cZ sw2 st2 fa2 sc2 fi2 mi2 lf2 hi2 n2) ++ (wO o cJ (vp_updL ov 0 ((umF (miB sw b r T g) 100).toInt64)))) (fun _ => rfl) rfl (cv_of 30 (by decide +kernel) (fun _ => rfl)) [ma 0, ma 1, ma 2, ma 3, ma 4, ma 5, ma 6] (fun _ => rfl) rfl rfl rfl (fun r5 u4 h6 => ?_)
  rw [show r5 = umF (miB sw b r T g) 100 from h6]
  refine z_istore (lv' := [(6, .int (umF (miB sw b r T g) 100)), (5, .int (nI 0)), (0, .ref b0), (1, .ref h), (2, .ref (ma 0)), (3, .ref o), (4, .int (nI i))]) (n := 1181) hC dL_law_1179 (by decide) rfl rfl ?_
  refine z_aload_n (n := 1182) hC dL_law_1181 rfl 4 rfl rfl ?_
  refine z_calli (R := room_1) (cells := 30 + 7 * j) (slots := 211 + 66 * j) (ws := (wH h ta sa ua T) ++ (wT ta cI b r) ++ (wS sa cI cZ sw st fa sc fi mi lf hi n) ++ (wS ua cI cZ sw2 st2 fa2 sc2 fi2 mi2 lf2 hi2 n2) ++ (wN ma cI (nI 0) n sw st b r T sc fi mi fa (va_cpy (nowF T sc fi mi fa) K 0 0 25)) ++ (wO o cJ (vp_updL ov 0 ((umF (miB sw b r T g) 100).toInt64)))) (n := 1185) (As := []) (rest := []) hC (k_X3_thrown l G cI cZ cJ ma (nI 0) n sw st b r T sc fi mi fa (va_cpy (nowF T sc fi mi fa) K 0 0 25) (by omega) (by omega)) kg_L_89 kd_yX3_thrown dL_law_1182 ⟨Nat.le_of_ble_eq_true rfl, Nat.le_of_ble_eq_true rfl⟩ 0 rfl rfl rfl [22, 23, 24, 25, 26, 27, 28] rfl (by decide) rfl (Nat.le_of_ble_eq_true rfl) ⟨by show _ ≤ 1080188; omega, by show _ ≤ 5855541; omega⟩ (ws2 := fun u7 => (wH h ta sa ua T) ++ (wT ta cI b r) ++ (wS sa cI cZ sw st fa sc fi mi lf hi n) ++ (wS ua cI cZ sw2 st2 fa2 sc2 fi2 mi2 lf2 hi2 n2) ++ (wN ma cI (nI 0) n sw st b r T sc fi mi fa (va_cpy (nowF T sc fi mi fa) K 0 0 25)) ++ (wO o cJ (vp_updL ov 0 ((umF (miB sw b r T g) 100).toInt64)))) [0, 1, 2, 3, 4, 5, 6, 7, 8, 9, 10, 11, 12, 13, 14, 15, 16, 17, 18, 19, 20, 21, 29] (fun _ => rfl) ((wH h ta sa ua T) ++ (wT ta cI b r) ++ (wS sa cI cZ sw st fa sc fi mi lf hi n) ++ (wS ua cI cZ sw2 st2 fa2 sc2 fi2 mi2 lf2 hi2 n2) ++ (wO o cJ (vp_updL ov 0 ((umF (miB sw b r T g) 100).toInt64)))) (fun _ => rfl) rfl (cv_of 30 (by decide +kernel) (fun _ => rfl)) [ma 0, ma 1, ma 2, ma 3, ma 4, ma 5, ma 6] (fun _ => rfl) rfl rfl rfl (fun r8 u7 h9 => ?_)
  subst h9
  refine z_iload (n := 1187) hC dL_law_1185 1 rfl rfl ?_
  refine z_icmp_eq_n (tgt := 1192) (n := 1190) hC 0 0 rfl rfl (by omega) (by omega) dL_law_1187 (by decide) rfl (fun c10 => ?_) (fun c10 => absurd rfl c10)
  refine z_iload (n := 1194) hC dL_law_1192 1 rfl rfl ?_
  refine z_if_ne (tgt := 1209) (n := 1197) hC dL_law_1194 (by decide) rfl (fun c11 => absurd (nI_0) c11) (fun c11 => ?_)
  refine z_aload_n (n := 1198) hC dL_law_1197 rfl 5 rfl rfl ?_
  refine z_iconst (v := nI 0) (n := 1199) hC dL_law_1198 (by decide) rfl ?_
  refine z_lald (v := (umF (miB sw b r T g) 100).toInt64) (n := 1200) hC 29 2 0 rfl rfl rfl (by omega) (by decide) dL_law_1199 updL_at rfl ?_
  refine z_iload (n := 1202) hC dL_law_1200 0 rfl rfl ?_
  refine z_i2l (v := (umF (miB sw b r T g) 100).toInt64) (n := 1203) hC dL_law_1202 rfl rfl ?_
  refine z_lcmp (n := 1204) hC dL_law_1203 rfl ?_
  refine z_if_eq (tgt := 1209) (n := 1207) hC dL_law_1204 (by decide) rfl (fun c12 => ?_) (fun c12 => absurd (lg_self _) c12)
  refine z_goto (n := 1448) hC dL_law_1209 (by decide) ?_
  refine z_iinc (k0 := 6) (v := nI (i + 4)) (lv' := [(4, .int (nI (i + 4))), (6, .int (umF (miB sw b r T g) 100)), (5, .int (nI 0)), (0, .ref b0), (1, .ref h), (2, .ref (ma 0)), (3, .ref o)]) (n := 1451) hC dL_law_1448 rfl (nI_add i 4) (by decide) rfl rfl ?_
  refine z_goto (n := 23) hC dL_law_1451 (by decide) ?_
  refine z_lv [3, 4, 5, 6, 0] (lv' := [(0, .ref b0), (1, .ref h), (2, .ref (ma 0)), (3, .ref o), (4, .int (nI (i + 4)))]) rfl ?_
  refine z_wid (k1 := 30 + 7 * (j + 1)) (k2 := 211 + 66 * (j + 1)) (by omega) (by omega) ?_
  exact ih (i + 4) T b r sw st fa sc fi mi lf hi n sw2 st2 fa2 sc2 fi2 mi2 lf2 hi2 n2 (nI 0) (va_cpy (nowF T sc fi mi fa) K 0 0 25) (vp_updL ov 0 ((umF (miB sw b r T g) 100).toInt64)) (by omega) (iv_same hI)

set_option maxRecDepth 100000 in
set_option maxHeartbeats 4000000 in
theorem c_turnsUntilMiss_x (p : Program) (l : Launch) (e : Env) (s : State) (m : MethodId) (args : Array Value) (below : List Frame) (meth : Method) (c : Code) (G : va_G) (A : Nat → Prop) (Q : State → Prop) (cI cZ cJ : ClassId) (b0 h o : Nat) (ta sa ua ma : Nat → Nat) (L : Nat) (xs : Nat → Int32) (i j : Nat) (T : Nat) (b r sw st fa sc fi mi : Nat → Int32) (lf hi : Nat → Bool) (n : Nat) (sw2 st2 fa2 sc2 fi2 mi2 : Nat → Int32) (lf2 hi2 : Nat → Bool) (n2 : Nat) (th : Int32) (K : Nat → Int32) (ov : Nat → Int64)  (hW : LX p l s m args c G A cI cZ cJ b0 L xs) (hI : iv j T n b r st fa mi) (hi0 : i = 4 * j) (hiL : i + 4 ≤ L) (hb : xs (i + 1) < 0 ∨ nI n ≤ xs (i + 1)) (ih : LPj p l e s m args below meth c G A Q cI cZ cJ b0 h o ta sa ua ma (j + 1)) : LZ p l e s m args below meth c G A Q cI cZ cJ b0 h o ta sa ua ma (30 + 7 * j) (211 + 66 * j) i 1156 T b r sw st fa sc fi mi lf hi n sw2 st2 fa2 sc2 fi2 mi2 lf2 hi2 n2 th K ov := by
  obtain ⟨hC, hl, hz, hX, hb0, hbA, hL⟩ := hW
  have hj : j ≤ 511 := by omega
  obtain ⟨hn, hT0, hst, hfa0, hmi0, hb9, hr9⟩ := id hI
  have hT : T < 2 ^ 29 := by omega
  have hfa : ∀ g : Nat, inN (fa g) (2 ^ 28) := fun g => inN_mono (hfa0 g) (by omega)
  have hmi : ∀ g : Nat, inN (mi g) (2 ^ 30) := fun g => inN_mono (hmi0 g) (by omega)
  have ham : ∀ (g zt : Nat), inN (amF b r zt g) 1000 := fun g zt => am_in hb9 hr9 zt g
  unfold LZ
  refine z_aload_n (n := 1157) hC dL_law_1156 rfl 1 rfl rfl ?_
  refine z_aload_n (n := 1158) hC dL_law_1157 rfl 0 rfl rfl ?_
  refine z_iload (n := 1160) hC dL_law_1158 4 rfl rfl ?_
  refine z_iconst (v := nI 1) (n := 1161) hC dL_law_1160 (by decide) rfl ?_
  refine z_iadd (v := nI (i + 1)) (n := 1162) hC dL_law_1161 (nI_add i 1) rfl ?_
  refine z_sld (v := xs (i + 1)) (n := 1163) hC hX hb0 hbA hL (i + 1) rfl (by omega) rfl dL_law_1162 rfl ?_
  refine z_aload_n (n := 1164) hC dL_law_1163 rfl 3 rfl rfl ?_
  refine z_callsiH (R := room_1) (cells := 30 + 7 * j) (slots := 211 + 66 * j) (ws := (wH h ta sa ua T) ++ (wT ta cI b r) ++ (wS sa cI cZ sw st fa sc fi mi lf hi n) ++ (wS ua cI cZ sw2 st2 fa2 sc2 fi2 mi2 lf2 hi2 n2) ++ (wN ma cI th n sw st b r T sc fi mi fa K) ++ (wO o cJ ov)) (n := 1167) (As := [.ref h, .int (xs (i + 1)), .ref o]) (rest := []) hC hz (kx_L_turnsUntilMiss_x l G cI cZ cJ h ta sa ua T b r sw st fa sc fi mi lf hi n sw2 st2 fa2 sc2 fi2 mi2 lf2 hi2 n2 o ov (xs (i + 1)) hl (by omega) (by omega) hb) kg_L_156 kd_yL_turnsUntilMiss dL_law_1164 ⟨Nat.le_of_ble_eq_true rfl, Nat.le_of_ble_eq_true rfl⟩ [0, 1, 2, 3, 4, 5, 6, 7, 8, 9, 10, 11, 12, 13, 14, 15, 16, 17, 18, 19, 20, 21, 29] rfl (by decide) rfl (Nat.le_of_ble_eq_true rfl) ⟨by show _ ≤ 1080188; omega, by show _ ≤ 5855541; omega⟩ (ws2 := fun u1 => (wH h ta sa ua T) ++ (wT ta cI b r) ++ (wS sa cI cZ sw st fa sc fi mi lf hi n) ++ (wS ua cI cZ sw2 st2 fa2 sc2 fi2 mi2 lf2 hi2 n2) ++ (wN ma cI th n sw st b r T sc fi mi fa K) ++ (wO o cJ ov)) [22, 23, 24, 25, 26, 27, 28] (fun _ => rfl) (wN ma cI th n sw st b r T sc fi mi fa K) (fun _ => rfl) rfl (cv_of 30 (by decide +kernel) (fun _ => rfl)) [h, ta 0, ta 1, ta 2, sa 0, sa 1, sa 2, sa 3, sa 4, sa 5, sa 6, sa 7, sa 8, ua 0, ua 1, ua 2, ua 3, ua 4, ua 5, ua 6, ua 7, ua 8, o] (fun _ => rfl) rfl rfl rfl (fun r2 u1 h3 => ?_)
  subst h3
  refine z_istore (lv' := [(5, .int (nI 1)), (0, .ref b0), (1, .ref h), (2, .ref (ma 0)), (3, .ref o), (4, .int (nI i))]) (n := 1169) hC dL_law_1167 (by decide) rfl rfl ?_
  refine z_aload_n (n := 1170) hC dL_law_1169 rfl 3 rfl rfl ?_
  refine z_aload_n (n := 1171) hC dL_law_1170 rfl 1 rfl rfl ?_
  refine z_iload (n := 1173) hC dL_law_1171 5 rfl rfl ?_
  refine z_iconst (v := nI 1) (n := 1174) hC dL_law_1173 (by decide) rfl ?_
  refine z_iadd (v := nI (i + 1)) (n := 1175) hC dL_law_1174 (nI_add i 1) rfl ?_
  refine z_sld (v := xs (i + 1)) (n := 1176) hC hX hb0 hbA hL (i + 1) rfl (by omega) rfl dL_law_1175 rfl ?_
  refine z_calli (R := room_1) (cells := 30 + 7 * j + 1) (slots := 211 + 66 * j + 6) (ws := (wH h ta sa ua T) ++ (wT ta cI b r) ++ (wS sa cI cZ sw st fa sc fi mi lf hi n) ++ (wS ua cI cZ sw2 st2 fa2 sc2 fi2 mi2 lf2 hi2 n2) ++ (wN ma cI th n sw st b r T sc fi mi fa K) ++ (wO o cJ ov)) (n := 1179) (As := [.int (xs (i + 1))]) (rest := []) hC (k_X3_turnsUntilMiss_x l G cI cZ cJ ma th n sw st b r T sc fi mi fa K (xs (i + 1)) (by omega) (by omega) hb) kg_L_158 kd_yX3_turnsUntilMiss dL_law_1176 ⟨Nat.le_of_ble_eq_true rfl, Nat.le_of_ble_eq_true rfl⟩ 0 rfl rfl rfl [22, 23, 24, 25, 26, 27, 28] rfl (by decide) rfl (Nat.le_of_ble_eq_true rfl) ⟨by show _ ≤ 1080188; omega, by show _ ≤ 5855541; omega⟩ (ws2 := fun u4 => (wH h ta sa ua T) ++ (wT ta cI b r) ++ (wS sa cI cZ sw st fa sc fi mi lf hi n) ++ (wS ua cI cZ sw2 st2 fa2 sc2 fi2 mi2 lf2 hi2 n2) ++ (wN ma cI (nI 1) n sw st b r T sc fi mi fa K) ++ (wO o cJ ov)) [0, 1, 2, 3, 4, 5, 6, 7, 8, 9, 10, 11, 12, 13, 14, 15, 16, 17, 18, 19, 20, 21, 29] (fun _ => rfl) ((wH h ta sa ua T) ++ (wT ta cI b r) ++ (wS sa cI cZ sw st fa sc fi mi lf hi n) ++ (wS ua cI cZ sw2 st2 fa2 sc2 fi2 mi2 lf2 hi2 n2) ++ (wO o cJ ov)) (fun _ => rfl) rfl (cv_of 30 (by decide +kernel) (fun _ => rfl)) [ma 0, ma 1, ma 2, ma 3, ma 4, ma 5, ma 6] (fun _ => rfl) rfl rfl rfl (fun r5 u4 h6 => ?_)
  subst h6
  refine z_istore (lv' := [(6, .int (nI 0)), (5, .int (nI 1)), (0, .ref b0), (1, .ref h), (2, .ref (ma 0)), (3, .ref o), (4, .int (nI i))]) (n := 1181) hC dL_law_1179 (by decide) rfl rfl ?_
  refine z_aload_n (n := 1182) hC dL_law_1181 rfl 4 rfl rfl ?_
  refine z_calli (R := room_1) (cells := 30 + 7 * j + 1) (slots := 211 + 66 * j + 6) (ws := (wH h ta sa ua T) ++ (wT ta cI b r) ++ (wS sa cI cZ sw st fa sc fi mi lf hi n) ++ (wS ua cI cZ sw2 st2 fa2 sc2 fi2 mi2 lf2 hi2 n2) ++ (wN ma cI (nI 1) n sw st b r T sc fi mi fa K) ++ (wO o cJ ov)) (n := 1185) (As := []) (rest := []) hC (k_X3_thrown l G cI cZ cJ ma (nI 1) n sw st b r T sc fi mi fa K (by omega) (by omega)) kg_L_89 kd_yX3_thrown dL_law_1182 ⟨Nat.le_of_ble_eq_true rfl, Nat.le_of_ble_eq_true rfl⟩ 0 rfl rfl rfl [22, 23, 24, 25, 26, 27, 28] rfl (by decide) rfl (Nat.le_of_ble_eq_true rfl) ⟨by show _ ≤ 1080188; omega, by show _ ≤ 5855541; omega⟩ (ws2 := fun u7 => (wH h ta sa ua T) ++ (wT ta cI b r) ++ (wS sa cI cZ sw st fa sc fi mi lf hi n) ++ (wS ua cI cZ sw2 st2 fa2 sc2 fi2 mi2 lf2 hi2 n2) ++ (wN ma cI (nI 1) n sw st b r T sc fi mi fa K) ++ (wO o cJ ov)) [0, 1, 2, 3, 4, 5, 6, 7, 8, 9, 10, 11, 12, 13, 14, 15, 16, 17, 18, 19, 20, 21, 29] (fun _ => rfl) ((wH h ta sa ua T) ++ (wT ta cI b r) ++ (wS sa cI cZ sw st fa sc fi mi lf hi n) ++ (wS ua cI cZ sw2 st2 fa2 sc2 fi2 mi2 lf2 hi2 n2) ++ (wO o cJ ov)) (fun _ => rfl) rfl (cv_of 30 (by decide +kernel) (fun _ => rfl)) [ma 0, ma 1, ma 2, ma 3, ma 4, ma 5, ma 6] (fun _ => rfl) rfl rfl rfl (fun r8 u7 h9 => ?_)
  subst h9
  refine z_iload (n := 1187) hC dL_law_1185 1 rfl rfl ?_
  refine z_icmp_eq_n (tgt := 1192) (n := 1190) hC 1 1 rfl rfl (by omega) (by omega) dL_law_1187 (by decide) rfl (fun c10 => ?_) (fun c10 => absurd rfl c10)
  refine z_iload (n := 1194) hC dL_law_1192 1 rfl rfl ?_
  refine z_if_ne (tgt := 1209) (n := 1197) hC dL_law_1194 (by decide) rfl (fun c11 => ?_) (fun c11 => absurd c11 (by decide))
  refine z_goto (n := 1448) hC dL_law_1209 (by decide) ?_
  refine z_iinc (k0 := 6) (v := nI (i + 4)) (lv' := [(4, .int (nI (i + 4))), (6, .int (nI 0)), (5, .int (nI 1)), (0, .ref b0), (1, .ref h), (2, .ref (ma 0)), (3, .ref o)]) (n := 1451) hC dL_law_1448 rfl (nI_add i 4) (by decide) rfl rfl ?_
  refine z_goto (n := 23) hC dL_law_1451 (by decide) ?_
  refine z_lv [3, 4, 5, 6, 0] (lv' := [(0, .ref b0), (1, .ref h), (2, .ref (ma 0)), (3, .ref o), (4, .int (nI (i + 4)))]) rfl ?_
  refine z_wid (k1 := 30 + 7 * (j + 1)) (k2 := 211 + 66 * (j + 1)) (by omega) (by omega) ?_
  exact ih (i + 4) T b r sw st fa sc fi mi lf hi n sw2 st2 fa2 sc2 fi2 mi2 lf2 hi2 n2 (nI 1) K ov (by omega) (iv_same hI)

set_option maxRecDepth 100000 in
set_option maxHeartbeats 4000000 in
theorem c_bestRest (p : Program) (l : Launch) (e : Env) (s : State) (m : MethodId) (args : Array Value) (below : List Frame) (meth : Method) (c : Code) (G : va_G) (A : Nat → Prop) (Q : State → Prop) (cI cZ cJ : ClassId) (b0 h o : Nat) (ta sa ua ma : Nat → Nat) (L : Nat) (xs : Nat → Int32) (i j : Nat) (T : Nat) (b r sw st fa sc fi mi : Nat → Int32) (lf hi : Nat → Bool) (n : Nat) (sw2 st2 fa2 sc2 fi2 mi2 : Nat → Int32) (lf2 hi2 : Nat → Bool) (n2 : Nat) (th : Int32) (K : Nat → Int32) (ov : Nat → Int64) (g : Nat) (hW : LX p l s m args c G A cI cZ cJ b0 L xs) (hI : iv j T n b r st fa mi) (hi0 : i = 4 * j) (hiL : i + 4 ≤ L) (he1 : xs (i + 1) = nI g) (hg : g < n) (ih : LPj p l e s m args below meth c G A Q cI cZ cJ b0 h o ta sa ua ma (j + 1)) : LZ p l e s m args below meth c G A Q cI cZ cJ b0 h o ta sa ua ma (30 + 7 * j) (211 + 66 * j) i 1281 T b r sw st fa sc fi mi lf hi n sw2 st2 fa2 sc2 fi2 mi2 lf2 hi2 n2 th K ov := by
  obtain ⟨hC, hl, hz, hX, hb0, hbA, hL⟩ := hW
  have hj : j ≤ 511 := by omega
  obtain ⟨hn, hT0, hst, hfa0, hmi0, hb9, hr9⟩ := id hI
  have hT : T < 2 ^ 29 := by omega
  have hfa : ∀ g : Nat, inN (fa g) (2 ^ 28) := fun g => inN_mono (hfa0 g) (by omega)
  have hmi : ∀ g : Nat, inN (mi g) (2 ^ 30) := fun g => inN_mono (hmi0 g) (by omega)
  have ham : ∀ (g zt : Nat), inN (amF b r zt g) 1000 := fun g zt => am_in hb9 hr9 zt g
  unfold LZ
  refine z_aload_n (n := 1282) hC dL_law_1281 rfl 1 rfl rfl ?_
  refine z_aload_n (n := 1283) hC dL_law_1282 rfl 0 rfl rfl ?_
  refine z_iload (n := 1285) hC dL_law_1283 4 rfl rfl ?_
  refine z_iconst (v := nI 1) (n := 1286) hC dL_law_1285 (by decide) rfl ?_
  refine z_iadd (v := nI (i + 1)) (n := 1287) hC dL_law_1286 (nI_add i 1) rfl ?_
  refine z_sld (v := nI g) (n := 1288) hC hX hb0 hbA hL (i + 1) rfl (by omega) he1 dL_law_1287 rfl ?_
  refine z_aload_n (n := 1289) hC dL_law_1288 rfl 3 rfl rfl ?_
  refine z_callsiH (R := room_1) (cells := 30 + 7 * j) (slots := 211 + 66 * j) (ws := (wH h ta sa ua T) ++ (wT ta cI b r) ++ (wS sa cI cZ sw st fa sc fi mi lf hi n) ++ (wS ua cI cZ sw2 st2 fa2 sc2 fi2 mi2 lf2 hi2 n2) ++ (wN ma cI th n sw st b r T sc fi mi fa K) ++ (wO o cJ ov)) (n := 1292) (As := [.ref h, .int (nI g), .ref o]) (rest := []) hC hz (k_L_bestRest l G cI cZ cJ h ta sa ua T b r sw st fa sc fi mi lf hi n sw2 st2 fa2 sc2 fi2 mi2 lf2 hi2 n2 o ov g (by omega) (by omega) hg) kg_L_166 kd_yL_bestRest dL_law_1289 ⟨Nat.le_of_ble_eq_true rfl, Nat.le_of_ble_eq_true rfl⟩ [0, 1, 2, 3, 4, 5, 6, 7, 8, 9, 10, 11, 12, 13, 14, 15, 16, 17, 18, 19, 20, 21, 29] rfl (by decide) rfl (Nat.le_of_ble_eq_true rfl) ⟨by show _ ≤ 1080188; omega, by show _ ≤ 5855541; omega⟩ (ws2 := fun u1 => (wH h ta sa ua T) ++ (wT ta cI b r) ++ (wS sa cI cZ sw st fa sc fi mi lf hi n) ++ (wS ua cI cZ u1.1 u1.2.1 u1.2.2.1 u1.2.2.2.1 u1.2.2.2.2.1 u1.2.2.2.2.2.1 u1.2.2.2.2.2.2.1 u1.2.2.2.2.2.2.2 n) ++ (wN ma cI th n sw st b r T sc fi mi fa K) ++ (wO o cJ (vp_updL ov 0 ((nI (brF (reF sw st b r sc fi mi fa T g) 20)).toInt64)))) [22, 23, 24, 25, 26, 27, 28] (fun _ => rfl) (wN ma cI th n sw st b r T sc fi mi fa K) (fun _ => rfl) rfl (cv_of 30 (by decide +kernel) (fun _ => rfl)) [h, ta 0, ta 1, ta 2, sa 0, sa 1, sa 2, sa 3, sa 4, sa 5, sa 6, sa 7, sa 8, ua 0, ua 1, ua 2, ua 3, ua 4, ua 5, ua 6, ua 7, ua 8, o] (fun _ => rfl) rfl rfl rfl (fun r2 u1 h3 => ?_)
  subst h3
  refine z_istore (lv' := [(5, .int (nI 0)), (0, .ref b0), (1, .ref h), (2, .ref (ma 0)), (3, .ref o), (4, .int (nI i))]) (n := 1294) hC dL_law_1292 (by decide) rfl rfl ?_
  refine z_aload_n (n := 1295) hC dL_law_1294 rfl 3 rfl rfl ?_
  refine z_aload_n (n := 1296) hC dL_law_1295 rfl 1 rfl rfl ?_
  refine z_iload (n := 1298) hC dL_law_1296 5 rfl rfl ?_
  refine z_iconst (v := nI 1) (n := 1299) hC dL_law_1298 (by decide) rfl ?_
  refine z_iadd (v := nI (i + 1)) (n := 1300) hC dL_law_1299 (nI_add i 1) rfl ?_
  refine z_sld (v := nI g) (n := 1301) hC hX hb0 hbA hL (i + 1) rfl (by omega) he1 dL_law_1300 rfl ?_
  refine z_calli (R := room_1) (cells := 30 + 7 * j) (slots := 211 + 66 * j) (ws := (wH h ta sa ua T) ++ (wT ta cI b r) ++ (wS sa cI cZ sw st fa sc fi mi lf hi n) ++ (wS ua cI cZ u1.1 u1.2.1 u1.2.2.1 u1.2.2.2.1 u1.2.2.2.2.1 u1.2.2.2.2.2.1 u1.2.2.2.2.2.2.1 u1.2.2.2.2.2.2.2 n) ++ (wN ma cI th n sw st b r T sc fi mi fa K) ++ (wO o cJ (vp_updL ov 0 ((nI (brF (reF sw st b r sc fi mi fa T g) 20)).toInt64)))) (n := 1304) (As := [.int (nI g)]) (rest := []) hC (k_X3_bestRest l G cI cZ cJ ma th n sw st b r T sc fi mi fa K g (by omega) (by omega) hg hst) kg_L_168 kd_yX3_bestRest dL_law_1301 ⟨Nat.le_of_ble_eq_true rfl, Nat.le_of_ble_eq_true rfl⟩ 0 rfl rfl rfl [22, 23, 24, 25, 26, 27, 28] rfl (by decide) rfl (Nat.le_of_ble_eq_true rfl) ⟨by show _ ≤ 1080188; omega, by show _ ≤ 5855541; omega⟩ (ws2 := fun u4 => (wH h ta sa ua T) ++ (wT ta cI b r) ++ (wS sa cI cZ sw st fa sc fi mi lf hi n) ++ (wS ua cI cZ u1.1 u1.2.1 u1.2.2.1 u1.2.2.2.1 u1.2.2.2.2.1 u1.2.2.2.2.2.1 u1.2.2.2.2.2.2.1 u1.2.2.2.2.2.2.2 n) ++ (wN ma cI (nI 0) n sw st b r T sc fi mi fa (va_cpy (nowF T sc fi mi fa) K 0 0 25)) ++ (wO o cJ (vp_updL ov 0 ((nI (brF (reF sw st b r sc fi mi fa T g) 20)).toInt64)))) [0, 1, 2, 3, 4, 5, 6, 7, 8, 9, 10, 11, 12, 13, 14, 15, 16, 17, 18, 19, 20, 21, 29] (fun _ => rfl) ((wH h ta sa ua T) ++ (wT ta cI b r) ++ (wS sa cI cZ sw st fa sc fi mi lf hi n) ++ (wS ua cI cZ u1.1 u1.2.1 u1.2.2.1 u1.2.2.2.1 u1.2.2.2.2.1 u1.2.2.2.2.2.1 u1.2.2.2.2.2.2.1 u1.2.2.2.2.2.2.2 n) ++ (wO o cJ (vp_updL ov 0 ((nI (brF (reF sw st b r sc fi mi fa T g) 20)).toInt64)))) (fun _ => rfl) rfl (cv_of 30 (by decide +kernel) (fun _ => rfl)) [ma 0, ma 1, ma 2, ma 3, ma 4, ma 5, ma 6] (fun _ => rfl) rfl rfl rfl (fun r5 u4 h6 => ?_)
  subst h6
  refine z_istore (lv' := [(6, .int (nI (brF (reF sw st b r sc fi mi fa T g) 20))), (5, .int (nI 0)), (0, .ref b0), (1, .ref h), (2, .ref (ma 0)), (3, .ref o), (4, .int (nI i))]) (n := 1306) hC dL_law_1304 (by decide) rfl rfl ?_
  refine z_aload_n (n := 1307) hC dL_law_1306 rfl 4 rfl rfl ?_
  refine z_calli (R := room_1) (cells := 30 + 7 * j) (slots := 211 + 66 * j) (ws := (wH h ta sa ua T) ++ (wT ta cI b r) ++ (wS sa cI cZ sw st fa sc fi mi lf hi n) ++ (wS ua cI cZ u1.1 u1.2.1 u1.2.2.1 u1.2.2.2.1 u1.2.2.2.2.1 u1.2.2.2.2.2.1 u1.2.2.2.2.2.2.1 u1.2.2.2.2.2.2.2 n) ++ (wN ma cI (nI 0) n sw st b r T sc fi mi fa (va_cpy (nowF T sc fi mi fa) K 0 0 25)) ++ (wO o cJ (vp_updL ov 0 ((nI (brF (reF sw st b r sc fi mi fa T g) 20)).toInt64)))) (n := 1310) (As := []) (rest := []) hC (k_X3_thrown l G cI cZ cJ ma (nI 0) n sw st b r T sc fi mi fa (va_cpy (nowF T sc fi mi fa) K 0 0 25) (by omega) (by omega)) kg_L_89 kd_yX3_thrown dL_law_1307 ⟨Nat.le_of_ble_eq_true rfl, Nat.le_of_ble_eq_true rfl⟩ 0 rfl rfl rfl [22, 23, 24, 25, 26, 27, 28] rfl (by decide) rfl (Nat.le_of_ble_eq_true rfl) ⟨by show _ ≤ 1080188; omega, by show _ ≤ 5855541; omega⟩ (ws2 := fun u7 => (wH h ta sa ua T) ++ (wT ta cI b r) ++ (wS sa cI cZ sw st fa sc fi mi lf hi n) ++ (wS ua cI cZ u1.1 u1.2.1 u1.2.2.1 u1.2.2.2.1 u1.2.2.2.2.1 u1.2.2.2.2.2.1 u1.2.2.2.2.2.2.1 u1.2.2.2.2.2.2.2 n) ++ (wN ma cI (nI 0) n sw st b r T sc fi mi fa (va_cpy (nowF T sc fi mi fa) K 0 0 25)) ++ (wO o cJ (vp_updL ov 0 ((nI (brF (reF sw st b r sc fi mi fa T g) 20)).toInt64)))) [0, 1, 2, 3, 4, 5, 6, 7, 8, 9, 10, 11, 12, 13, 14, 15, 16, 17, 18, 19, 20, 21, 29] (fun _ => rfl) ((wH h ta sa ua T) ++ (wT ta cI b r) ++ (wS sa cI cZ sw st fa sc fi mi lf hi n) ++ (wS ua cI cZ u1.1 u1.2.1 u1.2.2.1 u1.2.2.2.1 u1.2.2.2.2.1 u1.2.2.2.2.2.1 u1.2.2.2.2.2.2.1 u1.2.2.2.2.2.2.2 n) ++ (wO o cJ (vp_updL ov 0 ((nI (brF (reF sw st b r sc fi mi fa T g) 20)).toInt64)))) (fun _ => rfl) rfl (cv_of 30 (by decide +kernel) (fun _ => rfl)) [ma 0, ma 1, ma 2, ma 3, ma 4, ma 5, ma 6] (fun _ => rfl) rfl rfl rfl (fun r8 u7 h9 => ?_)
  subst h9
  refine z_iload (n := 1312) hC dL_law_1310 1 rfl rfl ?_
  refine z_icmp_eq_n (tgt := 1317) (n := 1315) hC 0 0 rfl rfl (by omega) (by omega) dL_law_1312 (by decide) rfl (fun c10 => ?_) (fun c10 => absurd rfl c10)
  refine z_iload (n := 1319) hC dL_law_1317 1 rfl rfl ?_
  refine z_if_ne (tgt := 1334) (n := 1322) hC dL_law_1319 (by decide) rfl (fun c11 => absurd (nI_0) c11) (fun c11 => ?_)
  refine z_aload_n (n := 1323) hC dL_law_1322 rfl 5 rfl rfl ?_
  refine z_iconst (v := nI 0) (n := 1324) hC dL_law_1323 (by decide) rfl ?_
  refine z_lald (v := (nI (brF (reF sw st b r sc fi mi fa T g) 20)).toInt64) (n := 1325) hC 29 2 0 rfl rfl rfl (by omega) (by decide) dL_law_1324 updL_at rfl ?_
  refine z_iload (n := 1327) hC dL_law_1325 0 rfl rfl ?_
  refine z_i2l (v := (nI (brF (reF sw st b r sc fi mi fa T g) 20)).toInt64) (n := 1328) hC dL_law_1327 rfl rfl ?_
  refine z_lcmp (n := 1329) hC dL_law_1328 rfl ?_
  refine z_if_eq (tgt := 1334) (n := 1332) hC dL_law_1329 (by decide) rfl (fun c12 => ?_) (fun c12 => absurd (lg_self _) c12)
  refine z_goto (n := 1448) hC dL_law_1334 (by decide) ?_
  refine z_iinc (k0 := 6) (v := nI (i + 4)) (lv' := [(4, .int (nI (i + 4))), (6, .int (nI (brF (reF sw st b r sc fi mi fa T g) 20))), (5, .int (nI 0)), (0, .ref b0), (1, .ref h), (2, .ref (ma 0)), (3, .ref o)]) (n := 1451) hC dL_law_1448 rfl (nI_add i 4) (by decide) rfl rfl ?_
  refine z_goto (n := 23) hC dL_law_1451 (by decide) ?_
  refine z_lv [3, 4, 5, 6, 0] (lv' := [(0, .ref b0), (1, .ref h), (2, .ref (ma 0)), (3, .ref o), (4, .int (nI (i + 4)))]) rfl ?_
  refine z_wid (k1 := 30 + 7 * (j + 1)) (k2 := 211 + 66 * (j + 1)) (by omega) (by omega) ?_
  exact ih (i + 4) T b r sw st fa sc fi mi lf hi n u1.1 u1.2.1 u1.2.2.1 u1.2.2.2.1 u1.2.2.2.2.1 u1.2.2.2.2.2.1 u1.2.2.2.2.2.2.1 u1.2.2.2.2.2.2.2 n (nI 0) (va_cpy (nowF T sc fi mi fa) K 0 0 25) (vp_updL ov 0 ((nI (brF (reF sw st b r sc fi mi fa T g) 20)).toInt64)) (by omega) (iv_same hI)

set_option maxRecDepth 100000 in
set_option maxHeartbeats 4000000 in
theorem c_bestRest_x (p : Program) (l : Launch) (e : Env) (s : State) (m : MethodId) (args : Array Value) (below : List Frame) (meth : Method) (c : Code) (G : va_G) (A : Nat → Prop) (Q : State → Prop) (cI cZ cJ : ClassId) (b0 h o : Nat) (ta sa ua ma : Nat → Nat) (L : Nat) (xs : Nat → Int32) (i j : Nat) (T : Nat) (b r sw st fa sc fi mi : Nat → Int32) (lf hi : Nat → Bool) (n : Nat) (sw2 st2 fa2 sc2 fi2 mi2 : Nat → Int32) (lf2 hi2 : Nat → Bool) (n2 : Nat) (th : Int32) (K : Nat → Int32) (ov : Nat → Int64)  (hW : LX p l s m args c G A cI cZ cJ b0 L xs) (hI : iv j T n b r st fa mi) (hi0 : i = 4 * j) (hiL : i + 4 ≤ L) (hb : xs (i + 1) < 0 ∨ nI n ≤ xs (i + 1)) (ih : LPj p l e s m args below meth c G A Q cI cZ cJ b0 h o ta sa ua ma (j + 1)) : LZ p l e s m args below meth c G A Q cI cZ cJ b0 h o ta sa ua ma (30 + 7 * j) (211 + 66 * j) i 1281 T b r sw st fa sc fi mi lf hi n sw2 st2 fa2 sc2 fi2 mi2 lf2 hi2 n2 th K ov := by
  obtain ⟨hC, hl, hz, hX, hb0, hbA, hL⟩ := hW
  have hj : j ≤ 511 := by omega
  obtain ⟨hn, hT0, hst, hfa0, hmi0, hb9, hr9⟩ := id hI
  have hT : T < 2 ^ 29 := by omega
  have hfa : ∀ g : Nat, inN (fa g) (2 ^ 28) := fun g => inN_mono (hfa0 g) (by omega)
  have hmi : ∀ g : Nat, inN (mi g) (2 ^ 30) := fun g => inN_mono (hmi0 g) (by omega)
  have ham : ∀ (g zt : Nat), inN (amF b r zt g) 1000 := fun g zt => am_in hb9 hr9 zt g
  unfold LZ
  refine z_aload_n (n := 1282) hC dL_law_1281 rfl 1 rfl rfl ?_
  refine z_aload_n (n := 1283) hC dL_law_1282 rfl 0 rfl rfl ?_
  refine z_iload (n := 1285) hC dL_law_1283 4 rfl rfl ?_
  refine z_iconst (v := nI 1) (n := 1286) hC dL_law_1285 (by decide) rfl ?_
  refine z_iadd (v := nI (i + 1)) (n := 1287) hC dL_law_1286 (nI_add i 1) rfl ?_
  refine z_sld (v := xs (i + 1)) (n := 1288) hC hX hb0 hbA hL (i + 1) rfl (by omega) rfl dL_law_1287 rfl ?_
  refine z_aload_n (n := 1289) hC dL_law_1288 rfl 3 rfl rfl ?_
  refine z_callsiH (R := room_1) (cells := 30 + 7 * j) (slots := 211 + 66 * j) (ws := (wH h ta sa ua T) ++ (wT ta cI b r) ++ (wS sa cI cZ sw st fa sc fi mi lf hi n) ++ (wS ua cI cZ sw2 st2 fa2 sc2 fi2 mi2 lf2 hi2 n2) ++ (wN ma cI th n sw st b r T sc fi mi fa K) ++ (wO o cJ ov)) (n := 1292) (As := [.ref h, .int (xs (i + 1)), .ref o]) (rest := []) hC hz (kx_L_bestRest_x l G cI cZ cJ h ta sa ua T b r sw st fa sc fi mi lf hi n sw2 st2 fa2 sc2 fi2 mi2 lf2 hi2 n2 o ov (xs (i + 1)) hl (by omega) (by omega) hb) kg_L_166 kd_yL_bestRest dL_law_1289 ⟨Nat.le_of_ble_eq_true rfl, Nat.le_of_ble_eq_true rfl⟩ [0, 1, 2, 3, 4, 5, 6, 7, 8, 9, 10, 11, 12, 13, 14, 15, 16, 17, 18, 19, 20, 21, 29] rfl (by decide) rfl (Nat.le_of_ble_eq_true rfl) ⟨by show _ ≤ 1080188; omega, by show _ ≤ 5855541; omega⟩ (ws2 := fun u1 => (wH h ta sa ua T) ++ (wT ta cI b r) ++ (wS sa cI cZ sw st fa sc fi mi lf hi n) ++ (wS ua cI cZ sw2 st2 fa2 sc2 fi2 mi2 lf2 hi2 n2) ++ (wN ma cI th n sw st b r T sc fi mi fa K) ++ (wO o cJ ov)) [22, 23, 24, 25, 26, 27, 28] (fun _ => rfl) (wN ma cI th n sw st b r T sc fi mi fa K) (fun _ => rfl) rfl (cv_of 30 (by decide +kernel) (fun _ => rfl)) [h, ta 0, ta 1, ta 2, sa 0, sa 1, sa 2, sa 3, sa 4, sa 5, sa 6, sa 7, sa 8, ua 0, ua 1, ua 2, ua 3, ua 4, ua 5, ua 6, ua 7, ua 8, o] (fun _ => rfl) rfl rfl rfl (fun r2 u1 h3 => ?_)
  subst h3
  refine z_istore (lv' := [(5, .int (nI 1)), (0, .ref b0), (1, .ref h), (2, .ref (ma 0)), (3, .ref o), (4, .int (nI i))]) (n := 1294) hC dL_law_1292 (by decide) rfl rfl ?_
  refine z_aload_n (n := 1295) hC dL_law_1294 rfl 3 rfl rfl ?_
  refine z_aload_n (n := 1296) hC dL_law_1295 rfl 1 rfl rfl ?_
  refine z_iload (n := 1298) hC dL_law_1296 5 rfl rfl ?_
  refine z_iconst (v := nI 1) (n := 1299) hC dL_law_1298 (by decide) rfl ?_
  refine z_iadd (v := nI (i + 1)) (n := 1300) hC dL_law_1299 (nI_add i 1) rfl ?_
  refine z_sld (v := xs (i + 1)) (n := 1301) hC hX hb0 hbA hL (i + 1) rfl (by omega) rfl dL_law_1300 rfl ?_
  refine z_calli (R := room_1) (cells := 30 + 7 * j + 1) (slots := 211 + 66 * j + 6) (ws := (wH h ta sa ua T) ++ (wT ta cI b r) ++ (wS sa cI cZ sw st fa sc fi mi lf hi n) ++ (wS ua cI cZ sw2 st2 fa2 sc2 fi2 mi2 lf2 hi2 n2) ++ (wN ma cI th n sw st b r T sc fi mi fa K) ++ (wO o cJ ov)) (n := 1304) (As := [.int (xs (i + 1))]) (rest := []) hC (k_X3_bestRest_x l G cI cZ cJ ma th n sw st b r T sc fi mi fa K (xs (i + 1)) (by omega) (by omega) hb) kg_L_168 kd_yX3_bestRest dL_law_1301 ⟨Nat.le_of_ble_eq_true rfl, Nat.le_of_ble_eq_true rfl⟩ 0 rfl rfl rfl [22, 23, 24, 25, 26, 27, 28] rfl (by decide) rfl (Nat.le_of_ble_eq_true rfl) ⟨by show _ ≤ 1080188; omega, by show _ ≤ 5855541; omega⟩ (ws2 := fun u4 => (wH h ta sa ua T) ++ (wT ta cI b r) ++ (wS sa cI cZ sw st fa sc fi mi lf hi n) ++ (wS ua cI cZ sw2 st2 fa2 sc2 fi2 mi2 lf2 hi2 n2) ++ (wN ma cI (nI 1) n sw st b r T sc fi mi fa K) ++ (wO o cJ ov)) [0, 1, 2, 3, 4, 5, 6, 7, 8, 9, 10, 11, 12, 13, 14, 15, 16, 17, 18, 19, 20, 21, 29] (fun _ => rfl) ((wH h ta sa ua T) ++ (wT ta cI b r) ++ (wS sa cI cZ sw st fa sc fi mi lf hi n) ++ (wS ua cI cZ sw2 st2 fa2 sc2 fi2 mi2 lf2 hi2 n2) ++ (wO o cJ ov)) (fun _ => rfl) rfl (cv_of 30 (by decide +kernel) (fun _ => rfl)) [ma 0, ma 1, ma 2, ma 3, ma 4, ma 5, ma 6] (fun _ => rfl) rfl rfl rfl (fun r5 u4 h6 => ?_)
  subst h6
  refine z_istore (lv' := [(6, .int (nI 0)), (5, .int (nI 1)), (0, .ref b0), (1, .ref h), (2, .ref (ma 0)), (3, .ref o), (4, .int (nI i))]) (n := 1306) hC dL_law_1304 (by decide) rfl rfl ?_
  refine z_aload_n (n := 1307) hC dL_law_1306 rfl 4 rfl rfl ?_
  refine z_calli (R := room_1) (cells := 30 + 7 * j + 1) (slots := 211 + 66 * j + 6) (ws := (wH h ta sa ua T) ++ (wT ta cI b r) ++ (wS sa cI cZ sw st fa sc fi mi lf hi n) ++ (wS ua cI cZ sw2 st2 fa2 sc2 fi2 mi2 lf2 hi2 n2) ++ (wN ma cI (nI 1) n sw st b r T sc fi mi fa K) ++ (wO o cJ ov)) (n := 1310) (As := []) (rest := []) hC (k_X3_thrown l G cI cZ cJ ma (nI 1) n sw st b r T sc fi mi fa K (by omega) (by omega)) kg_L_89 kd_yX3_thrown dL_law_1307 ⟨Nat.le_of_ble_eq_true rfl, Nat.le_of_ble_eq_true rfl⟩ 0 rfl rfl rfl [22, 23, 24, 25, 26, 27, 28] rfl (by decide) rfl (Nat.le_of_ble_eq_true rfl) ⟨by show _ ≤ 1080188; omega, by show _ ≤ 5855541; omega⟩ (ws2 := fun u7 => (wH h ta sa ua T) ++ (wT ta cI b r) ++ (wS sa cI cZ sw st fa sc fi mi lf hi n) ++ (wS ua cI cZ sw2 st2 fa2 sc2 fi2 mi2 lf2 hi2 n2) ++ (wN ma cI (nI 1) n sw st b r T sc fi mi fa K) ++ (wO o cJ ov)) [0, 1, 2, 3, 4, 5, 6, 7, 8, 9, 10, 11, 12, 13, 14, 15, 16, 17, 18, 19, 20, 21, 29] (fun _ => rfl) ((wH h ta sa ua T) ++ (wT ta cI b r) ++ (wS sa cI cZ sw st fa sc fi mi lf hi n) ++ (wS ua cI cZ sw2 st2 fa2 sc2 fi2 mi2 lf2 hi2 n2) ++ (wO o cJ ov)) (fun _ => rfl) rfl (cv_of 30 (by decide +kernel) (fun _ => rfl)) [ma 0, ma 1, ma 2, ma 3, ma 4, ma 5, ma 6] (fun _ => rfl) rfl rfl rfl (fun r8 u7 h9 => ?_)
  subst h9
  refine z_iload (n := 1312) hC dL_law_1310 1 rfl rfl ?_
  refine z_icmp_eq_n (tgt := 1317) (n := 1315) hC 1 1 rfl rfl (by omega) (by omega) dL_law_1312 (by decide) rfl (fun c10 => ?_) (fun c10 => absurd rfl c10)
  refine z_iload (n := 1319) hC dL_law_1317 1 rfl rfl ?_
  refine z_if_ne (tgt := 1334) (n := 1322) hC dL_law_1319 (by decide) rfl (fun c11 => ?_) (fun c11 => absurd c11 (by decide))
  refine z_goto (n := 1448) hC dL_law_1334 (by decide) ?_
  refine z_iinc (k0 := 6) (v := nI (i + 4)) (lv' := [(4, .int (nI (i + 4))), (6, .int (nI 0)), (5, .int (nI 1)), (0, .ref b0), (1, .ref h), (2, .ref (ma 0)), (3, .ref o)]) (n := 1451) hC dL_law_1448 rfl (nI_add i 4) (by decide) rfl rfl ?_
  refine z_goto (n := 23) hC dL_law_1451 (by decide) ?_
  refine z_lv [3, 4, 5, 6, 0] (lv' := [(0, .ref b0), (1, .ref h), (2, .ref (ma 0)), (3, .ref o), (4, .int (nI (i + 4)))]) rfl ?_
  refine z_wid (k1 := 30 + 7 * (j + 1)) (k2 := 211 + 66 * (j + 1)) (by omega) (by omega) ?_
  exact ih (i + 4) T b r sw st fa sc fi mi lf hi n sw2 st2 fa2 sc2 fi2 mi2 lf2 hi2 n2 (nI 1) K ov (by omega) (iv_same hI)

set_option maxRecDepth 100000 in
set_option maxHeartbeats 4000000 in
theorem c_swingWanted (p : Program) (l : Launch) (e : Env) (s : State) (m : MethodId) (args : Array Value) (below : List Frame) (meth : Method) (c : Code) (G : va_G) (A : Nat → Prop) (Q : State → Prop) (cI cZ cJ : ClassId) (b0 h o : Nat) (ta sa ua ma : Nat → Nat) (L : Nat) (xs : Nat → Int32) (i j : Nat) (T : Nat) (b r sw st fa sc fi mi : Nat → Int32) (lf hi : Nat → Bool) (n : Nat) (sw2 st2 fa2 sc2 fi2 mi2 : Nat → Int32) (lf2 hi2 : Nat → Bool) (n2 : Nat) (th : Int32) (K : Nat → Int32) (ov : Nat → Int64) (g : Nat) (hW : LX p l s m args c G A cI cZ cJ b0 L xs) (hI : iv j T n b r st fa mi) (hi0 : i = 4 * j) (hiL : i + 4 ≤ L) (he1 : xs (i + 1) = nI g) (hg : g < n) (ih : LPj p l e s m args below meth c G A Q cI cZ cJ b0 h o ta sa ua ma (j + 1)) : LZ p l e s m args below meth c G A Q cI cZ cJ b0 h o ta sa ua ma (30 + 7 * j) (211 + 66 * j) i 1337 T b r sw st fa sc fi mi lf hi n sw2 st2 fa2 sc2 fi2 mi2 lf2 hi2 n2 th K ov := by
  obtain ⟨hC, hl, hz, hX, hb0, hbA, hL⟩ := hW
  have hj : j ≤ 511 := by omega
  obtain ⟨hn, hT0, hst, hfa0, hmi0, hb9, hr9⟩ := id hI
  have hT : T < 2 ^ 29 := by omega
  have hfa : ∀ g : Nat, inN (fa g) (2 ^ 28) := fun g => inN_mono (hfa0 g) (by omega)
  have hmi : ∀ g : Nat, inN (mi g) (2 ^ 30) := fun g => inN_mono (hmi0 g) (by omega)
  have ham : ∀ (g zt : Nat), inN (amF b r zt g) 1000 := fun g zt => am_in hb9 hr9 zt g
  unfold LZ
  refine z_aload_n (n := 1338) hC dL_law_1337 rfl 1 rfl rfl ?_
  refine z_aload_n (n := 1339) hC dL_law_1338 rfl 0 rfl rfl ?_
  refine z_iload (n := 1341) hC dL_law_1339 4 rfl rfl ?_
  refine z_iconst (v := nI 1) (n := 1342) hC dL_law_1341 (by decide) rfl ?_
  refine z_iadd (v := nI (i + 1)) (n := 1343) hC dL_law_1342 (nI_add i 1) rfl ?_
  refine z_sld (v := nI g) (n := 1344) hC hX hb0 hbA hL (i + 1) rfl (by omega) he1 dL_law_1343 rfl ?_
  refine z_aload_n (n := 1345) hC dL_law_1344 rfl 3 rfl rfl ?_
  refine z_callsiH (R := room_1) (cells := 30 + 7 * j) (slots := 211 + 66 * j) (ws := (wH h ta sa ua T) ++ (wT ta cI b r) ++ (wS sa cI cZ sw st fa sc fi mi lf hi n) ++ (wS ua cI cZ sw2 st2 fa2 sc2 fi2 mi2 lf2 hi2 n2) ++ (wN ma cI th n sw st b r T sc fi mi fa K) ++ (wO o cJ ov)) (n := 1348) (As := [.ref h, .int (nI g), .ref o]) (rest := []) hC hz (k_L_swingWanted l G cI cZ cJ h ta sa ua T b r sw st fa sc fi mi lf hi n sw2 st2 fa2 sc2 fi2 mi2 lf2 hi2 n2 o ov g (by omega) (by omega) hg) kg_L_169 kd_yL_swingWanted dL_law_1345 ⟨Nat.le_of_ble_eq_true rfl, Nat.le_of_ble_eq_true rfl⟩ [0, 1, 2, 3, 4, 5, 6, 7, 8, 9, 10, 11, 12, 13, 14, 15, 16, 17, 18, 19, 20, 21, 29] rfl (by decide) rfl (Nat.le_of_ble_eq_true rfl) ⟨by show _ ≤ 1080188; omega, by show _ ≤ 5855541; omega⟩ (ws2 := fun u1 => (wH h ta sa ua T) ++ (wT ta cI b r) ++ (wS sa cI cZ sw st fa sc fi mi lf hi n) ++ (wS ua cI cZ sw2 st2 fa2 sc2 fi2 mi2 lf2 hi2 n2) ++ (wN ma cI th n sw st b r T sc fi mi fa K) ++ (wO o cJ (vp_updL ov 0 ((swF b r).toInt64)))) [22, 23, 24, 25, 26, 27, 28] (fun _ => rfl) (wN ma cI th n sw st b r T sc fi mi fa K) (fun _ => rfl) rfl (cv_of 30 (by decide +kernel) (fun _ => rfl)) [h, ta 0, ta 1, ta 2, sa 0, sa 1, sa 2, sa 3, sa 4, sa 5, sa 6, sa 7, sa 8, ua 0, ua 1, ua 2, ua 3, ua 4, ua 5, ua 6, ua 7, ua 8, o] (fun _ => rfl) rfl rfl rfl (fun r2 u1 h3 => ?_)
  subst h3
  refine z_istore (lv' := [(5, .int (nI 0)), (0, .ref b0), (1, .ref h), (2, .ref (ma 0)), (3, .ref o), (4, .int (nI i))]) (n := 1350) hC dL_law_1348 (by decide) rfl rfl ?_
  refine z_aload_n (n := 1351) hC dL_law_1350 rfl 3 rfl rfl ?_
  refine z_aload_n (n := 1352) hC dL_law_1351 rfl 1 rfl rfl ?_
  refine z_iload (n := 1354) hC dL_law_1352 5 rfl rfl ?_
  refine z_iconst (v := nI 1) (n := 1355) hC dL_law_1354 (by decide) rfl ?_
  refine z_iadd (v := nI (i + 1)) (n := 1356) hC dL_law_1355 (nI_add i 1) rfl ?_
  refine z_sld (v := nI g) (n := 1357) hC hX hb0 hbA hL (i + 1) rfl (by omega) he1 dL_law_1356 rfl ?_
  refine z_calli (R := room_1) (cells := 30 + 7 * j) (slots := 211 + 66 * j) (ws := (wH h ta sa ua T) ++ (wT ta cI b r) ++ (wS sa cI cZ sw st fa sc fi mi lf hi n) ++ (wS ua cI cZ sw2 st2 fa2 sc2 fi2 mi2 lf2 hi2 n2) ++ (wN ma cI th n sw st b r T sc fi mi fa K) ++ (wO o cJ (vp_updL ov 0 ((swF b r).toInt64)))) (n := 1360) (As := [.int (nI g)]) (rest := []) hC (k_X3_swingWanted l G cI cZ cJ ma th n sw st b r T sc fi mi fa K g (by omega) (by omega) hg) kg_L_171 kd_yX3_swingWanted dL_law_1357 ⟨Nat.le_of_ble_eq_true rfl, Nat.le_of_ble_eq_true rfl⟩ 0 rfl rfl rfl [22, 23, 24, 25, 26, 27, 28] rfl (by decide) rfl (Nat.le_of_ble_eq_true rfl) ⟨by show _ ≤ 1080188; omega, by show _ ≤ 5855541; omega⟩ (ws2 := fun u4 => (wH h ta sa ua T) ++ (wT ta cI b r) ++ (wS sa cI cZ sw st fa sc fi mi lf hi n) ++ (wS ua cI cZ sw2 st2 fa2 sc2 fi2 mi2 lf2 hi2 n2) ++ (wN ma cI (nI 0) n sw st b r T sc fi mi fa K) ++ (wO o cJ (vp_updL ov 0 ((swF b r).toInt64)))) [0, 1, 2, 3, 4, 5, 6, 7, 8, 9, 10, 11, 12, 13, 14, 15, 16, 17, 18, 19, 20, 21, 29] (fun _ => rfl) ((wH h ta sa ua T) ++ (wT ta cI b r) ++ (wS sa cI cZ sw st fa sc fi mi lf hi n) ++ (wS ua cI cZ sw2 st2 fa2 sc2 fi2 mi2 lf2 hi2 n2) ++ (wO o cJ (vp_updL ov 0 ((swF b r).toInt64)))) (fun _ => rfl) rfl (cv_of 30 (by decide +kernel) (fun _ => rfl)) [ma 0, ma 1, ma 2, ma 3, ma 4, ma 5, ma 6] (fun _ => rfl) rfl rfl rfl (fun r5 u4 h6 => ?_)
  subst h6
  refine z_istore (lv' := [(6, .int (swF b r)), (5, .int (nI 0)), (0, .ref b0), (1, .ref h), (2, .ref (ma 0)), (3, .ref o), (4, .int (nI i))]) (n := 1362) hC dL_law_1360 (by decide) rfl rfl ?_
  refine z_aload_n (n := 1363) hC dL_law_1362 rfl 4 rfl rfl ?_
  refine z_calli (R := room_1) (cells := 30 + 7 * j) (slots := 211 + 66 * j) (ws := (wH h ta sa ua T) ++ (wT ta cI b r) ++ (wS sa cI cZ sw st fa sc fi mi lf hi n) ++ (wS ua cI cZ sw2 st2 fa2 sc2 fi2 mi2 lf2 hi2 n2) ++ (wN ma cI (nI 0) n sw st b r T sc fi mi fa K) ++ (wO o cJ (vp_updL ov 0 ((swF b r).toInt64)))) (n := 1366) (As := []) (rest := []) hC (k_X3_thrown l G cI cZ cJ ma (nI 0) n sw st b r T sc fi mi fa K (by omega) (by omega)) kg_L_89 kd_yX3_thrown dL_law_1363 ⟨Nat.le_of_ble_eq_true rfl, Nat.le_of_ble_eq_true rfl⟩ 0 rfl rfl rfl [22, 23, 24, 25, 26, 27, 28] rfl (by decide) rfl (Nat.le_of_ble_eq_true rfl) ⟨by show _ ≤ 1080188; omega, by show _ ≤ 5855541; omega⟩ (ws2 := fun u7 => (wH h ta sa ua T) ++ (wT ta cI b r) ++ (wS sa cI cZ sw st fa sc fi mi lf hi n) ++ (wS ua cI cZ sw2 st2 fa2 sc2 fi2 mi2 lf2 hi2 n2) ++ (wN ma cI (nI 0) n sw st b r T sc fi mi fa K) ++ (wO o cJ (vp_updL ov 0 ((swF b r).toInt64)))) [0, 1, 2, 3, 4, 5, 6, 7, 8, 9, 10, 11, 12, 13, 14, 15, 16, 17, 18, 19, 20, 21, 29] (fun _ => rfl) ((wH h ta sa ua T) ++ (wT ta cI b r) ++ (wS sa cI cZ sw st fa sc fi mi lf hi n) ++ (wS ua cI cZ sw2 st2 fa2 sc2 fi2 mi2 lf2 hi2 n2) ++ (wO o cJ (vp_updL ov 0 ((swF b r).toInt64)))) (fun _ => rfl) rfl (cv_of 30 (by decide +kernel) (fun _ => rfl)) [ma 0, ma 1, ma 2, ma 3, ma 4, ma 5, ma 6] (fun _ => rfl) rfl rfl rfl (fun r8 u7 h9 => ?_)
  subst h9
  refine z_iload (n := 1368) hC dL_law_1366 1 rfl rfl ?_
  refine z_icmp_eq_n (tgt := 1373) (n := 1371) hC 0 0 rfl rfl (by omega) (by omega) dL_law_1368 (by decide) rfl (fun c10 => ?_) (fun c10 => absurd rfl c10)
  refine z_iload (n := 1375) hC dL_law_1373 1 rfl rfl ?_
  refine z_if_ne (tgt := 1390) (n := 1378) hC dL_law_1375 (by decide) rfl (fun c11 => absurd (nI_0) c11) (fun c11 => ?_)
  refine z_aload_n (n := 1379) hC dL_law_1378 rfl 5 rfl rfl ?_
  refine z_iconst (v := nI 0) (n := 1380) hC dL_law_1379 (by decide) rfl ?_
  refine z_lald (v := (swF b r).toInt64) (n := 1381) hC 29 2 0 rfl rfl rfl (by omega) (by decide) dL_law_1380 updL_at rfl ?_
  refine z_iload (n := 1383) hC dL_law_1381 0 rfl rfl ?_
  refine z_i2l (v := (swF b r).toInt64) (n := 1384) hC dL_law_1383 rfl rfl ?_
  refine z_lcmp (n := 1385) hC dL_law_1384 rfl ?_
  refine z_if_eq (tgt := 1390) (n := 1388) hC dL_law_1385 (by decide) rfl (fun c12 => ?_) (fun c12 => absurd (lg_self _) c12)
  refine z_goto (n := 1448) hC dL_law_1390 (by decide) ?_
  refine z_iinc (k0 := 6) (v := nI (i + 4)) (lv' := [(4, .int (nI (i + 4))), (6, .int (swF b r)), (5, .int (nI 0)), (0, .ref b0), (1, .ref h), (2, .ref (ma 0)), (3, .ref o)]) (n := 1451) hC dL_law_1448 rfl (nI_add i 4) (by decide) rfl rfl ?_
  refine z_goto (n := 23) hC dL_law_1451 (by decide) ?_
  refine z_lv [3, 4, 5, 6, 0] (lv' := [(0, .ref b0), (1, .ref h), (2, .ref (ma 0)), (3, .ref o), (4, .int (nI (i + 4)))]) rfl ?_
  refine z_wid (k1 := 30 + 7 * (j + 1)) (k2 := 211 + 66 * (j + 1)) (by omega) (by omega) ?_
  exact ih (i + 4) T b r sw st fa sc fi mi lf hi n sw2 st2 fa2 sc2 fi2 mi2 lf2 hi2 n2 (nI 0) K (vp_updL ov 0 ((swF b r).toInt64)) (by omega) (iv_same hI)

set_option maxRecDepth 100000 in
set_option maxHeartbeats 4000000 in
theorem c_swingWanted_x (p : Program) (l : Launch) (e : Env) (s : State) (m : MethodId) (args : Array Value) (below : List Frame) (meth : Method) (c : Code) (G : va_G) (A : Nat → Prop) (Q : State → Prop) (cI cZ cJ : ClassId) (b0 h o : Nat) (ta sa ua ma : Nat → Nat) (L : Nat) (xs : Nat → Int32) (i j : Nat) (T : Nat) (b r sw st fa sc fi mi : Nat → Int32) (lf hi : Nat → Bool) (n : Nat) (sw2 st2 fa2 sc2 fi2 mi2 : Nat → Int32) (lf2 hi2 : Nat → Bool) (n2 : Nat) (th : Int32) (K : Nat → Int32) (ov : Nat → Int64)  (hW : LX p l s m args c G A cI cZ cJ b0 L xs) (hI : iv j T n b r st fa mi) (hi0 : i = 4 * j) (hiL : i + 4 ≤ L) (hb : xs (i + 1) < 0 ∨ nI n ≤ xs (i + 1)) (ih : LPj p l e s m args below meth c G A Q cI cZ cJ b0 h o ta sa ua ma (j + 1)) : LZ p l e s m args below meth c G A Q cI cZ cJ b0 h o ta sa ua ma (30 + 7 * j) (211 + 66 * j) i 1337 T b r sw st fa sc fi mi lf hi n sw2 st2 fa2 sc2 fi2 mi2 lf2 hi2 n2 th K ov := by
  obtain ⟨hC, hl, hz, hX, hb0, hbA, hL⟩ := hW
  have hj : j ≤ 511 := by omega
  obtain ⟨hn, hT0, hst, hfa0, hmi0, hb9, hr9⟩ := id hI
  have hT : T < 2 ^ 29 := by omega
  have hfa : ∀ g : Nat, inN (fa g) (2 ^ 28) := fun g => inN_mono (hfa0 g) (by omega)
  have hmi : ∀ g : Nat, inN (mi g) (2 ^ 30) := fun g => inN_mono (hmi0 g) (by omega)
  have ham : ∀ (g zt : Nat), inN (amF b r zt g) 1000 := fun g zt => am_in hb9 hr9 zt g
  unfold LZ
  refine z_aload_n (n := 1338) hC dL_law_1337 rfl 1 rfl rfl ?_
  refine z_aload_n (n := 1339) hC dL_law_1338 rfl 0 rfl rfl ?_
  refine z_iload (n := 1341) hC dL_law_1339 4 rfl rfl ?_
  refine z_iconst (v := nI 1) (n := 1342) hC dL_law_1341 (by decide) rfl ?_
  refine z_iadd (v := nI (i + 1)) (n := 1343) hC dL_law_1342 (nI_add i 1) rfl ?_
  refine z_sld (v := xs (i + 1)) (n := 1344) hC hX hb0 hbA hL (i + 1) rfl (by omega) rfl dL_law_1343 rfl ?_
  refine z_aload_n (n := 1345) hC dL_law_1344 rfl 3 rfl rfl ?_
  refine z_callsiH (R := room_1) (cells := 30 + 7 * j) (slots := 211 + 66 * j) (ws := (wH h ta sa ua T) ++ (wT ta cI b r) ++ (wS sa cI cZ sw st fa sc fi mi lf hi n) ++ (wS ua cI cZ sw2 st2 fa2 sc2 fi2 mi2 lf2 hi2 n2) ++ (wN ma cI th n sw st b r T sc fi mi fa K) ++ (wO o cJ ov)) (n := 1348) (As := [.ref h, .int (xs (i + 1)), .ref o]) (rest := []) hC hz (kx_L_swingWanted_x l G cI cZ cJ h ta sa ua T b r sw st fa sc fi mi lf hi n sw2 st2 fa2 sc2 fi2 mi2 lf2 hi2 n2 o ov (xs (i + 1)) hl (by omega) (by omega) hb) kg_L_169 kd_yL_swingWanted dL_law_1345 ⟨Nat.le_of_ble_eq_true rfl, Nat.le_of_ble_eq_true rfl⟩ [0, 1, 2, 3, 4, 5, 6, 7, 8, 9, 10, 11, 12, 13, 14, 15, 16, 17, 18, 19, 20, 21, 29] rfl (by decide) rfl (Nat.le_of_ble_eq_true rfl) ⟨by show _ ≤ 1080188; omega, by show _ ≤ 5855541; omega⟩ (ws2 := fun u1 => (wH h ta sa ua T) ++ (wT ta cI b r) ++ (wS sa cI cZ sw st fa sc fi mi lf hi n) ++ (wS ua cI cZ sw2 st2 fa2 sc2 fi2 mi2 lf2 hi2 n2) ++ (wN ma cI th n sw st b r T sc fi mi fa K) ++ (wO o cJ ov)) [22, 23, 24, 25, 26, 27, 28] (fun _ => rfl) (wN ma cI th n sw st b r T sc fi mi fa K) (fun _ => rfl) rfl (cv_of 30 (by decide +kernel) (fun _ => rfl)) [h, ta 0, ta 1, ta 2, sa 0, sa 1, sa 2, sa 3, sa 4, sa 5, sa 6, sa 7, sa 8, ua 0, ua 1, ua 2, ua 3, ua 4, ua 5, ua 6, ua 7, ua 8, o] (fun _ => rfl) rfl rfl rfl (fun r2 u1 h3 => ?_)
  subst h3
  refine z_istore (lv' := [(5, .int (nI 1)), (0, .ref b0), (1, .ref h), (2, .ref (ma 0)), (3, .ref o), (4, .int (nI i))]) (n := 1350) hC dL_law_1348 (by decide) rfl rfl ?_
  refine z_aload_n (n := 1351) hC dL_law_1350 rfl 3 rfl rfl ?_
  refine z_aload_n (n := 1352) hC dL_law_1351 rfl 1 rfl rfl ?_
  refine z_iload (n := 1354) hC dL_law_1352 5 rfl rfl ?_
  refine z_iconst (v := nI 1) (n := 1355) hC dL_law_1354 (by decide) rfl ?_
  refine z_iadd (v := nI (i + 1)) (n := 1356) hC dL_law_1355 (nI_add i 1) rfl ?_
  refine z_sld (v := xs (i + 1)) (n := 1357) hC hX hb0 hbA hL (i + 1) rfl (by omega) rfl dL_law_1356 rfl ?_
  refine z_calli (R := room_1) (cells := 30 + 7 * j + 1) (slots := 211 + 66 * j + 6) (ws := (wH h ta sa ua T) ++ (wT ta cI b r) ++ (wS sa cI cZ sw st fa sc fi mi lf hi n) ++ (wS ua cI cZ sw2 st2 fa2 sc2 fi2 mi2 lf2 hi2 n2) ++ (wN ma cI th n sw st b r T sc fi mi fa K) ++ (wO o cJ ov)) (n := 1360) (As := [.int (xs (i + 1))]) (rest := []) hC (k_X3_swingWanted_x l G cI cZ cJ ma th n sw st b r T sc fi mi fa K (xs (i + 1)) (by omega) (by omega) hb) kg_L_171 kd_yX3_swingWanted dL_law_1357 ⟨Nat.le_of_ble_eq_true rfl, Nat.le_of_ble_eq_true rfl⟩ 0 rfl rfl rfl [22, 23, 24, 25, 26, 27, 28] rfl (by decide) rfl (Nat.le_of_ble_eq_true rfl) ⟨by show _ ≤ 1080188; omega, by show _ ≤ 5855541; omega⟩ (ws2 := fun u4 => (wH h ta sa ua T) ++ (wT ta cI b r) ++ (wS sa cI cZ sw st fa sc fi mi lf hi n) ++ (wS ua cI cZ sw2 st2 fa2 sc2 fi2 mi2 lf2 hi2 n2) ++ (wN ma cI (nI 1) n sw st b r T sc fi mi fa K) ++ (wO o cJ ov)) [0, 1, 2, 3, 4, 5, 6, 7, 8, 9, 10, 11, 12, 13, 14, 15, 16, 17, 18, 19, 20, 21, 29] (fun _ => rfl) ((wH h ta sa ua T) ++ (wT ta cI b r) ++ (wS sa cI cZ sw st fa sc fi mi lf hi n) ++ (wS ua cI cZ sw2 st2 fa2 sc2 fi2 mi2 lf2 hi2 n2) ++ (wO o cJ ov)) (fun _ => rfl) rfl (cv_of 30 (by decide +kernel) (fun _ => rfl)) [ma 0, ma 1, ma 2, ma 3, ma 4, ma 5, ma 6] (fun _ => rfl) rfl rfl rfl (fun r5 u4 h6 => ?_)
  subst h6
  refine z_istore (lv' := [(6, .int (nI 0)), (5, .int (nI 1)), (0, .ref b0), (1, .ref h), (2, .ref (ma 0)), (3, .ref o), (4, .int (nI i))]) (n := 1362) hC dL_law_1360 (by decide) rfl rfl ?_
  refine z_aload_n (n := 1363) hC dL_law_1362 rfl 4 rfl rfl ?_
  refine z_calli (R := room_1) (cells := 30 + 7 * j + 1) (slots := 211 + 66 * j + 6) (ws := (wH h ta sa ua T) ++ (wT ta cI b r) ++ (wS sa cI cZ sw st fa sc fi mi lf hi n) ++ (wS ua cI cZ sw2 st2 fa2 sc2 fi2 mi2 lf2 hi2 n2) ++ (wN ma cI (nI 1) n sw st b r T sc fi mi fa K) ++ (wO o cJ ov)) (n := 1366) (As := []) (rest := []) hC (k_X3_thrown l G cI cZ cJ ma (nI 1) n sw st b r T sc fi mi fa K (by omega) (by omega)) kg_L_89 kd_yX3_thrown dL_law_1363 ⟨Nat.le_of_ble_eq_true rfl, Nat.le_of_ble_eq_true rfl⟩ 0 rfl rfl rfl [22, 23, 24, 25, 26, 27, 28] rfl (by decide) rfl (Nat.le_of_ble_eq_true rfl) ⟨by show _ ≤ 1080188; omega, by show _ ≤ 5855541; omega⟩ (ws2 := fun u7 => (wH h ta sa ua T) ++ (wT ta cI b r) ++ (wS sa cI cZ sw st fa sc fi mi lf hi n) ++ (wS ua cI cZ sw2 st2 fa2 sc2 fi2 mi2 lf2 hi2 n2) ++ (wN ma cI (nI 1) n sw st b r T sc fi mi fa K) ++ (wO o cJ ov)) [0, 1, 2, 3, 4, 5, 6, 7, 8, 9, 10, 11, 12, 13, 14, 15, 16, 17, 18, 19, 20, 21, 29] (fun _ => rfl) ((wH h ta sa ua T) ++ (wT ta cI b r) ++ (wS sa cI cZ sw st fa sc fi mi lf hi n) ++ (wS ua cI cZ sw2 st2 fa2 sc2 fi2 mi2 lf2 hi2 n2) ++ (wO o cJ ov)) (fun _ => rfl) rfl (cv_of 30 (by decide +kernel) (fun _ => rfl)) [ma 0, ma 1, ma 2, ma 3, ma 4, ma 5, ma 6] (fun _ => rfl) rfl rfl rfl (fun r8 u7 h9 => ?_)
  subst h9
  refine z_iload (n := 1368) hC dL_law_1366 1 rfl rfl ?_
  refine z_icmp_eq_n (tgt := 1373) (n := 1371) hC 1 1 rfl rfl (by omega) (by omega) dL_law_1368 (by decide) rfl (fun c10 => ?_) (fun c10 => absurd rfl c10)
  refine z_iload (n := 1375) hC dL_law_1373 1 rfl rfl ?_
  refine z_if_ne (tgt := 1390) (n := 1378) hC dL_law_1375 (by decide) rfl (fun c11 => ?_) (fun c11 => absurd c11 (by decide))
  refine z_goto (n := 1448) hC dL_law_1390 (by decide) ?_
  refine z_iinc (k0 := 6) (v := nI (i + 4)) (lv' := [(4, .int (nI (i + 4))), (6, .int (nI 0)), (5, .int (nI 1)), (0, .ref b0), (1, .ref h), (2, .ref (ma 0)), (3, .ref o)]) (n := 1451) hC dL_law_1448 rfl (nI_add i 4) (by decide) rfl rfl ?_
  refine z_goto (n := 23) hC dL_law_1451 (by decide) ?_
  refine z_lv [3, 4, 5, 6, 0] (lv' := [(0, .ref b0), (1, .ref h), (2, .ref (ma 0)), (3, .ref o), (4, .int (nI (i + 4)))]) rfl ?_
  refine z_wid (k1 := 30 + 7 * (j + 1)) (k2 := 211 + 66 * (j + 1)) (by omega) (by omega) ?_
  exact ih (i + 4) T b r sw st fa sc fi mi lf hi n sw2 st2 fa2 sc2 fi2 mi2 lf2 hi2 n2 (nI 1) K ov (by omega) (iv_same hI)

set_option maxRecDepth 100000 in
set_option maxHeartbeats 4000000 in
theorem c_guns (p : Program) (l : Launch) (e : Env) (s : State) (m : MethodId) (args : Array Value) (below : List Frame) (meth : Method) (c : Code) (G : va_G) (A : Nat → Prop) (Q : State → Prop) (cI cZ cJ : ClassId) (b0 h o : Nat) (ta sa ua ma : Nat → Nat) (L : Nat) (xs : Nat → Int32) (i j : Nat) (T : Nat) (b r sw st fa sc fi mi : Nat → Int32) (lf hi : Nat → Bool) (n : Nat) (sw2 st2 fa2 sc2 fi2 mi2 : Nat → Int32) (lf2 hi2 : Nat → Bool) (n2 : Nat) (th : Int32) (K : Nat → Int32) (ov : Nat → Int64)  (hW : LX p l s m args c G A cI cZ cJ b0 L xs) (hI : iv j T n b r st fa mi) (hi0 : i = 4 * j) (hiL : i + 4 ≤ L)  (ih : LPj p l e s m args below meth c G A Q cI cZ cJ b0 h o ta sa ua ma (j + 1)) : LZ p l e s m args below meth c G A Q cI cZ cJ b0 h o ta sa ua ma (30 + 7 * j) (211 + 66 * j) i 713 T b r sw st fa sc fi mi lf hi n sw2 st2 fa2 sc2 fi2 mi2 lf2 hi2 n2 th K ov := by
  obtain ⟨hC, hl, hz, hX, hb0, hbA, hL⟩ := hW
  have hj : j ≤ 511 := by omega
  obtain ⟨hn, hT0, hst, hfa0, hmi0, hb9, hr9⟩ := id hI
  have hT : T < 2 ^ 29 := by omega
  have hfa : ∀ g : Nat, inN (fa g) (2 ^ 28) := fun g => inN_mono (hfa0 g) (by omega)
  have hmi : ∀ g : Nat, inN (mi g) (2 ^ 30) := fun g => inN_mono (hmi0 g) (by omega)
  have ham : ∀ (g zt : Nat), inN (amF b r zt g) 1000 := fun g zt => am_in hb9 hr9 zt g
  unfold LZ
  refine z_aload_n (n := 714) hC dL_law_713 rfl 1 rfl rfl ?_
  refine z_calli (R := room_1) (cells := 30 + 7 * j) (slots := 211 + 66 * j) (ws := (wH h ta sa ua T) ++ (wT ta cI b r) ++ (wS sa cI cZ sw st fa sc fi mi lf hi n) ++ (wS ua cI cZ sw2 st2 fa2 sc2 fi2 mi2 lf2 hi2 n2) ++ (wN ma cI th n sw st b r T sc fi mi fa K) ++ (wO o cJ ov)) (n := 717) (As := []) (rest := []) hC (k_X2_guns l G cI cZ cJ h ta sa ua T b r sw st fa sc fi mi lf hi n sw2 st2 fa2 sc2 fi2 mi2 lf2 hi2 n2 (by omega) (by omega)) kg_L_123 kd_yX2_guns dL_law_714 ⟨Nat.le_of_ble_eq_true rfl, Nat.le_of_ble_eq_true rfl⟩ 0 rfl rfl rfl [0, 1, 2, 3, 4, 5, 6, 7, 8, 9, 10, 11, 12, 13, 14, 15, 16, 17, 18, 19, 20, 21] rfl (by decide) rfl (Nat.le_of_ble_eq_true rfl) ⟨by show _ ≤ 1080188; omega, by show _ ≤ 5855541; omega⟩ (ws2 := fun u1 => (wH h ta sa ua T) ++ (wT ta cI b r) ++ (wS sa cI cZ sw st fa sc fi mi lf hi n) ++ (wS ua cI cZ sw2 st2 fa2 sc2 fi2 mi2 lf2 hi2 n2) ++ (wN ma cI th n sw st b r T sc fi mi fa K) ++ (wO o cJ ov)) [22, 23, 24, 25, 26, 27, 28, 29] (fun _ => rfl) ((wN ma cI th n sw st b r T sc fi mi fa K) ++ (wO o cJ ov)) (fun _ => rfl) rfl (cv_of 30 (by decide +kernel) (fun _ => rfl)) [h, ta 0, ta 1, ta 2, sa 0, sa 1, sa 2, sa 3, sa 4, sa 5, sa 6, sa 7, sa 8, ua 0, ua 1, ua 2, ua 3, ua 4, ua 5, ua 6, ua 7, ua 8] (fun _ => rfl) rfl rfl rfl (fun r2 u1 h3 => ?_)
  subst h3
  refine z_aload_n (n := 718) hC dL_law_717 rfl 2 rfl rfl ?_
  refine z_calli (R := room_1) (cells := 30 + 7 * j) (slots := 211 + 66 * j) (ws := (wH h ta sa ua T) ++ (wT ta cI b r) ++ (wS sa cI cZ sw st fa sc fi mi lf hi n) ++ (wS ua cI cZ sw2 st2 fa2 sc2 fi2 mi2 lf2 hi2 n2) ++ (wN ma cI th n sw st b r T sc fi mi fa K) ++ (wO o cJ ov)) (n := 721) (As := []) (rest := [.int (nI n)]) hC (k_X3_guns l G cI cZ cJ ma th n sw st b r T sc fi mi fa K (by omega) (by omega)) kg_L_126 kd_yX3_guns dL_law_718 ⟨Nat.le_of_ble_eq_true rfl, Nat.le_of_ble_eq_true rfl⟩ 0 rfl rfl rfl [22, 23, 24, 25, 26, 27, 28] rfl (by decide) rfl (Nat.le_of_ble_eq_true rfl) ⟨by show _ ≤ 1080188; omega, by show _ ≤ 5855541; omega⟩ (ws2 := fun u4 => (wH h ta sa ua T) ++ (wT ta cI b r) ++ (wS sa cI cZ sw st fa sc fi mi lf hi n) ++ (wS ua cI cZ sw2 st2 fa2 sc2 fi2 mi2 lf2 hi2 n2) ++ (wN ma cI (nI 0) n sw st b r T sc fi mi fa K) ++ (wO o cJ ov)) [0, 1, 2, 3, 4, 5, 6, 7, 8, 9, 10, 11, 12, 13, 14, 15, 16, 17, 18, 19, 20, 21, 29] (fun _ => rfl) ((wH h ta sa ua T) ++ (wT ta cI b r) ++ (wS sa cI cZ sw st fa sc fi mi lf hi n) ++ (wS ua cI cZ sw2 st2 fa2 sc2 fi2 mi2 lf2 hi2 n2) ++ (wO o cJ ov)) (fun _ => rfl) rfl (cv_of 30 (by decide +kernel) (fun _ => rfl)) [ma 0, ma 1, ma 2, ma 3, ma 4, ma 5, ma 6] (fun _ => rfl) rfl rfl rfl (fun r5 u4 h6 => ?_)
  subst h6
  refine z_icmp_eq (tgt := 1448) (n := 724) hC dL_law_721 (by decide) rfl (fun c7 => ?_) (fun c7 => absurd rfl c7)
  refine z_iinc (k0 := 4) (v := nI (i + 4)) (lv' := [(4, .int (nI (i + 4))), (0, .ref b0), (1, .ref h), (2, .ref (ma 0)), (3, .ref o)]) (n := 1451) hC dL_law_1448 rfl (nI_add i 4) (by decide) rfl rfl ?_
  refine z_goto (n := 23) hC dL_law_1451 (by decide) ?_
  refine z_lv [1, 2, 3, 4, 0] (lv' := [(0, .ref b0), (1, .ref h), (2, .ref (ma 0)), (3, .ref o), (4, .int (nI (i + 4)))]) rfl ?_
  refine z_wid (k1 := 30 + 7 * (j + 1)) (k2 := 211 + 66 * (j + 1)) (by omega) (by omega) ?_
  exact ih (i + 4) T b r sw st fa sc fi mi lf hi n sw2 st2 fa2 sc2 fi2 mi2 lf2 hi2 n2 (nI 0) K ov (by omega) (iv_same hI)

set_option maxRecDepth 100000 in
set_option maxHeartbeats 4000000 in
theorem c_leader (p : Program) (l : Launch) (e : Env) (s : State) (m : MethodId) (args : Array Value) (below : List Frame) (meth : Method) (c : Code) (G : va_G) (A : Nat → Prop) (Q : State → Prop) (cI cZ cJ : ClassId) (b0 h o : Nat) (ta sa ua ma : Nat → Nat) (L : Nat) (xs : Nat → Int32) (i j : Nat) (T : Nat) (b r sw st fa sc fi mi : Nat → Int32) (lf hi : Nat → Bool) (n : Nat) (sw2 st2 fa2 sc2 fi2 mi2 : Nat → Int32) (lf2 hi2 : Nat → Bool) (n2 : Nat) (th : Int32) (K : Nat → Int32) (ov : Nat → Int64)  (hW : LX p l s m args c G A cI cZ cJ b0 L xs) (hI : iv j T n b r st fa mi) (hi0 : i = 4 * j) (hiL : i + 4 ≤ L)  (ih : LPj p l e s m args below meth c G A Q cI cZ cJ b0 h o ta sa ua ma (j + 1)) : LZ p l e s m args below meth c G A Q cI cZ cJ b0 h o ta sa ua ma (30 + 7 * j) (211 + 66 * j) i 1006 T b r sw st fa sc fi mi lf hi n sw2 st2 fa2 sc2 fi2 mi2 lf2 hi2 n2 th K ov := by
  obtain ⟨hC, hl, hz, hX, hb0, hbA, hL⟩ := hW
  have hj : j ≤ 511 := by omega
  obtain ⟨hn, hT0, hst, hfa0, hmi0, hb9, hr9⟩ := id hI
  have hT : T < 2 ^ 29 := by omega
  have hfa : ∀ g : Nat, inN (fa g) (2 ^ 28) := fun g => inN_mono (hfa0 g) (by omega)
  have hmi : ∀ g : Nat, inN (mi g) (2 ^ 30) := fun g => inN_mono (hmi0 g) (by omega)
  have ham : ∀ (g zt : Nat), inN (amF b r zt g) 1000 := fun g zt => am_in hb9 hr9 zt g
  unfold LZ
  refine z_aload_n (n := 1007) hC dL_law_1006 rfl 1 rfl rfl ?_
  refine z_calli (R := room_1) (cells := 30 + 7 * j) (slots := 211 + 66 * j) (ws := (wH h ta sa ua T) ++ (wT ta cI b r) ++ (wS sa cI cZ sw st fa sc fi mi lf hi n) ++ (wS ua cI cZ sw2 st2 fa2 sc2 fi2 mi2 lf2 hi2 n2) ++ (wN ma cI th n sw st b r T sc fi mi fa K) ++ (wO o cJ ov)) (n := 1010) (As := []) (rest := []) hC (k_X2_leader l G cI cZ cJ h ta sa ua T b r sw st fa sc fi mi lf hi n sw2 st2 fa2 sc2 fi2 mi2 lf2 hi2 n2 (by omega) (by omega)) kg_L_142 kd_yX2_leader dL_law_1007 ⟨Nat.le_of_ble_eq_true rfl, Nat.le_of_ble_eq_true rfl⟩ 0 rfl rfl rfl [0, 1, 2, 3, 4, 5, 6, 7, 8, 9, 10, 11, 12, 13, 14, 15, 16, 17, 18, 19, 20, 21] rfl (by decide) rfl (Nat.le_of_ble_eq_true rfl) ⟨by show _ ≤ 1080188; omega, by show _ ≤ 5855541; omega⟩ (ws2 := fun u1 => (wH h ta sa ua T) ++ (wT ta cI b r) ++ (wS sa cI cZ sw st fa sc fi mi lf hi n) ++ (wS ua cI cZ sw2 st2 fa2 sc2 fi2 mi2 lf2 hi2 n2) ++ (wN ma cI th n sw st b r T sc fi mi fa K) ++ (wO o cJ ov)) [22, 23, 24, 25, 26, 27, 28, 29] (fun _ => rfl) ((wN ma cI th n sw st b r T sc fi mi fa K) ++ (wO o cJ ov)) (fun _ => rfl) rfl (cv_of 30 (by decide +kernel) (fun _ => rfl)) [h, ta 0, ta 1, ta 2, sa 0, sa 1, sa 2, sa 3, sa 4, sa 5, sa 6, sa 7, sa 8, ua 0, ua 1, ua 2, ua 3, ua 4, ua 5, ua 6, ua 7, ua 8] (fun _ => rfl) rfl rfl rfl (fun r2 u1 h3 => ?_)
  subst h3
  refine z_aload_n (n := 1011) hC dL_law_1010 rfl 2 rfl rfl ?_
  refine z_calli (R := room_1) (cells := 30 + 7 * j) (slots := 211 + 66 * j) (ws := (wH h ta sa ua T) ++ (wT ta cI b r) ++ (wS sa cI cZ sw st fa sc fi mi lf hi n) ++ (wS ua cI cZ sw2 st2 fa2 sc2 fi2 mi2 lf2 hi2 n2) ++ (wN ma cI th n sw st b r T sc fi mi fa K) ++ (wO o cJ ov)) (n := 1014) (As := []) (rest := [.int (ldF sc n)]) hC (k_X3_leader l G cI cZ cJ ma th n sw st b r T sc fi mi fa K (by omega) (by omega)) kg_L_145 kd_yX3_leader dL_law_1011 ⟨Nat.le_of_ble_eq_true rfl, Nat.le_of_ble_eq_true rfl⟩ 0 rfl rfl rfl [22, 23, 24, 25, 26, 27, 28] rfl (by decide) rfl (Nat.le_of_ble_eq_true rfl) ⟨by show _ ≤ 1080188; omega, by show _ ≤ 5855541; omega⟩ (ws2 := fun u4 => (wH h ta sa ua T) ++ (wT ta cI b r) ++ (wS sa cI cZ sw st fa sc fi mi lf hi n) ++ (wS ua cI cZ sw2 st2 fa2 sc2 fi2 mi2 lf2 hi2 n2) ++ (wN ma cI (nI 0) n sw st b r T sc fi mi fa K) ++ (wO o cJ ov)) [0, 1, 2, 3, 4, 5, 6, 7, 8, 9, 10, 11, 12, 13, 14, 15, 16, 17, 18, 19, 20, 21, 29] (fun _ => rfl) ((wH h ta sa ua T) ++ (wT ta cI b r) ++ (wS sa cI cZ sw st fa sc fi mi lf hi n) ++ (wS ua cI cZ sw2 st2 fa2 sc2 fi2 mi2 lf2 hi2 n2) ++ (wO o cJ ov)) (fun _ => rfl) rfl (cv_of 30 (by decide +kernel) (fun _ => rfl)) [ma 0, ma 1, ma 2, ma 3, ma 4, ma 5, ma 6] (fun _ => rfl) rfl rfl rfl (fun r5 u4 h6 => ?_)
  subst h6
  refine z_icmp_eq (tgt := 1448) (n := 1017) hC dL_law_1014 (by decide) rfl (fun c7 => ?_) (fun c7 => absurd rfl c7)
  refine z_iinc (k0 := 4) (v := nI (i + 4)) (lv' := [(4, .int (nI (i + 4))), (0, .ref b0), (1, .ref h), (2, .ref (ma 0)), (3, .ref o)]) (n := 1451) hC dL_law_1448 rfl (nI_add i 4) (by decide) rfl rfl ?_
  refine z_goto (n := 23) hC dL_law_1451 (by decide) ?_
  refine z_lv [1, 2, 3, 4, 0] (lv' := [(0, .ref b0), (1, .ref h), (2, .ref (ma 0)), (3, .ref o), (4, .int (nI (i + 4)))]) rfl ?_
  refine z_wid (k1 := 30 + 7 * (j + 1)) (k2 := 211 + 66 * (j + 1)) (by omega) (by omega) ?_
  exact ih (i + 4) T b r sw st fa sc fi mi lf hi n sw2 st2 fa2 sc2 fi2 mi2 lf2 hi2 n2 (nI 0) K ov (by omega) (iv_same hI)

set_option maxRecDepth 100000 in
set_option maxHeartbeats 4000000 in
theorem c_tied (p : Program) (l : Launch) (e : Env) (s : State) (m : MethodId) (args : Array Value) (below : List Frame) (meth : Method) (c : Code) (G : va_G) (A : Nat → Prop) (Q : State → Prop) (cI cZ cJ : ClassId) (b0 h o : Nat) (ta sa ua ma : Nat → Nat) (L : Nat) (xs : Nat → Int32) (i j : Nat) (T : Nat) (b r sw st fa sc fi mi : Nat → Int32) (lf hi : Nat → Bool) (n : Nat) (sw2 st2 fa2 sc2 fi2 mi2 : Nat → Int32) (lf2 hi2 : Nat → Bool) (n2 : Nat) (th : Int32) (K : Nat → Int32) (ov : Nat → Int64)  (hW : LX p l s m args c G A cI cZ cJ b0 L xs) (hI : iv j T n b r st fa mi) (hi0 : i = 4 * j) (hiL : i + 4 ≤ L)  (ih : LPj p l e s m args below meth c G A Q cI cZ cJ b0 h o ta sa ua ma (j + 1)) : LZ p l e s m args below meth c G A Q cI cZ cJ b0 h o ta sa ua ma (30 + 7 * j) (211 + 66 * j) i 1019 T b r sw st fa sc fi mi lf hi n sw2 st2 fa2 sc2 fi2 mi2 lf2 hi2 n2 th K ov := by
  obtain ⟨hC, hl, hz, hX, hb0, hbA, hL⟩ := hW
  have hj : j ≤ 511 := by omega
  obtain ⟨hn, hT0, hst, hfa0, hmi0, hb9, hr9⟩ := id hI
  have hT : T < 2 ^ 29 := by omega
  have hfa : ∀ g : Nat, inN (fa g) (2 ^ 28) := fun g => inN_mono (hfa0 g) (by omega)
  have hmi : ∀ g : Nat, inN (mi g) (2 ^ 30) := fun g => inN_mono (hmi0 g) (by omega)
  have ham : ∀ (g zt : Nat), inN (amF b r zt g) 1000 := fun g zt => am_in hb9 hr9 zt g
  unfold LZ
  refine z_aload_n (n := 1020) hC dL_law_1019 rfl 1 rfl rfl ?_
  refine z_calli (R := room_1) (cells := 30 + 7 * j) (slots := 211 + 66 * j) (ws := (wH h ta sa ua T) ++ (wT ta cI b r) ++ (wS sa cI cZ sw st fa sc fi mi lf hi n) ++ (wS ua cI cZ sw2 st2 fa2 sc2 fi2 mi2 lf2 hi2 n2) ++ (wN ma cI th n sw st b r T sc fi mi fa K) ++ (wO o cJ ov)) (n := 1023) (As := []) (rest := []) hC (k_X2_tied l G cI cZ cJ h ta sa ua T b r sw st fa sc fi mi lf hi n sw2 st2 fa2 sc2 fi2 mi2 lf2 hi2 n2 (by omega) (by omega)) kg_L_146 kd_yX2_tied dL_law_1020 ⟨Nat.le_of_ble_eq_true rfl, Nat.le_of_ble_eq_true rfl⟩ 0 rfl rfl rfl [0, 1, 2, 3, 4, 5, 6, 7, 8, 9, 10, 11, 12, 13, 14, 15, 16, 17, 18, 19, 20, 21] rfl (by decide) rfl (Nat.le_of_ble_eq_true rfl) ⟨by show _ ≤ 1080188; omega, by show _ ≤ 5855541; omega⟩ (ws2 := fun u1 => (wH h ta sa ua T) ++ (wT ta cI b r) ++ (wS sa cI cZ sw st fa sc fi mi lf hi n) ++ (wS ua cI cZ sw2 st2 fa2 sc2 fi2 mi2 lf2 hi2 n2) ++ (wN ma cI th n sw st b r T sc fi mi fa K) ++ (wO o cJ ov)) [22, 23, 24, 25, 26, 27, 28, 29] (fun _ => rfl) ((wN ma cI th n sw st b r T sc fi mi fa K) ++ (wO o cJ ov)) (fun _ => rfl) rfl (cv_of 30 (by decide +kernel) (fun _ => rfl)) [h, ta 0, ta 1, ta 2, sa 0, sa 1, sa 2, sa 3, sa 4, sa 5, sa 6, sa 7, sa 8, ua 0, ua 1, ua 2, ua 3, ua 4, ua 5, ua 6, ua 7, ua 8] (fun _ => rfl) rfl rfl rfl (fun r2 u1 h3 => ?_)
  subst h3
  refine z_aload_n (n := 1024) hC dL_law_1023 rfl 2 rfl rfl ?_
  refine z_calli (R := room_1) (cells := 30 + 7 * j) (slots := 211 + 66 * j) (ws := (wH h ta sa ua T) ++ (wT ta cI b r) ++ (wS sa cI cZ sw st fa sc fi mi lf hi n) ++ (wS ua cI cZ sw2 st2 fa2 sc2 fi2 mi2 lf2 hi2 n2) ++ (wN ma cI th n sw st b r T sc fi mi fa K) ++ (wO o cJ ov)) (n := 1027) (As := []) (rest := [.int (nI (ctF (fun zj => decide (sc zj = sc (leF sc (n - 1)))) n))]) hC (k_X3_tied l G cI cZ cJ ma th n sw st b r T sc fi mi fa K (by omega) (by omega)) kg_L_149 kd_yX3_tied dL_law_1024 ⟨Nat.le_of_ble_eq_true rfl, Nat.le_of_ble_eq_true rfl⟩ 0 rfl rfl rfl [22, 23, 24, 25, 26, 27, 28] rfl (by decide) rfl (Nat.le_of_ble_eq_true rfl) ⟨by show _ ≤ 1080188; omega, by show _ ≤ 5855541; omega⟩ (ws2 := fun u4 => (wH h ta sa ua T) ++ (wT ta cI b r) ++ (wS sa cI cZ sw st fa sc fi mi lf hi n) ++ (wS ua cI cZ sw2 st2 fa2 sc2 fi2 mi2 lf2 hi2 n2) ++ (wN ma cI (nI 0) n sw st b r T sc fi mi fa K) ++ (wO o cJ ov)) [0, 1, 2, 3, 4, 5, 6, 7, 8, 9, 10, 11, 12, 13, 14, 15, 16, 17, 18, 19, 20, 21, 29] (fun _ => rfl) ((wH h ta sa ua T) ++ (wT ta cI b r) ++ (wS sa cI cZ sw st fa sc fi mi lf hi n) ++ (wS ua cI cZ sw2 st2 fa2 sc2 fi2 mi2 lf2 hi2 n2) ++ (wO o cJ ov)) (fun _ => rfl) rfl (cv_of 30 (by decide +kernel) (fun _ => rfl)) [ma 0, ma 1, ma 2, ma 3, ma 4, ma 5, ma 6] (fun _ => rfl) rfl rfl rfl (fun r5 u4 h6 => ?_)
  subst h6
  refine z_icmp_eq (tgt := 1448) (n := 1030) hC dL_law_1027 (by decide) rfl (fun c7 => ?_) (fun c7 => absurd rfl c7)
  refine z_iinc (k0 := 4) (v := nI (i + 4)) (lv' := [(4, .int (nI (i + 4))), (0, .ref b0), (1, .ref h), (2, .ref (ma 0)), (3, .ref o)]) (n := 1451) hC dL_law_1448 rfl (nI_add i 4) (by decide) rfl rfl ?_
  refine z_goto (n := 23) hC dL_law_1451 (by decide) ?_
  refine z_lv [1, 2, 3, 4, 0] (lv' := [(0, .ref b0), (1, .ref h), (2, .ref (ma 0)), (3, .ref o), (4, .int (nI (i + 4)))]) rfl ?_
  refine z_wid (k1 := 30 + 7 * (j + 1)) (k2 := 211 + 66 * (j + 1)) (by omega) (by omega) ?_
  exact ih (i + 4) T b r sw st fa sc fi mi lf hi n sw2 st2 fa2 sc2 fi2 mi2 lf2 hi2 n2 (nI 0) K ov (by omega) (iv_same hI)
