set_option maxRecDepth 100000 in
set_option maxHeartbeats 4000000 in
theorem c_scoreIn (p : Program) (l : Launch) (e : Env) (s : State) (m : MethodId) (args : Array Value) (below : List Frame) (meth : Method) (c : Code) (G : va_G) (A : Nat → Prop) (Q : State → Prop) (cI cZ cJ : ClassId) (b0 h o : Nat) (ta sa ua ma : Nat → Nat) (L : Nat) (xs : Nat → Int32) (i j : Nat) (T : Nat) (b r sw st fa sc fi mi : Nat → Int32) (lf hi : Nat → Bool) (n : Nat) (sw2 st2 fa2 sc2 fi2 mi2 : Nat → Int32) (lf2 hi2 : Nat → Bool) (n2 : Nat) (th : Int32) (K : Nat → Int32) (ov : Nat → Int64) (g : Nat) (k : Nat) (hW : LX p l s m args c G A cI cZ cJ b0 L xs) (hI : iv j T n b r st fa mi) (hi0 : i = 4 * j) (hiL : i + 4 ≤ L) (he1 : xs (i + 1) = nI g) (hg : g < n) (he2 : xs (i + 2) = nI k) (hk1 : 1 ≤ k) (hk2 : k ≤ 50) (ih : LPj p l e s m args below meth c G A Q cI cZ cJ b0 h o ta sa ua ma (j + 1)) : LZ p l e s m args below meth c G A Q cI cZ cJ b0 h o ta sa ua ma (30 + 7 * j) (211 + 66 * j) i 1088 T b r sw st fa sc fi mi lf hi n sw2 st2 fa2 sc2 fi2 mi2 lf2 hi2 n2 th K ov := by
  obtain ⟨hC, hl, hz, hX, hb0, hbA, hL⟩ := hW
  have hj : j ≤ 511 := by omega
  obtain ⟨hn, hT0, hst, hfa0, hmi0, hb9, hr9⟩ := id hI
  have hT : T < 2 ^ 29 := by omega
  have hfa : ∀ g : Nat, inN (fa g) (2 ^ 28) := fun g => inN_mono (hfa0 g) (by omega)
  have hmi : ∀ g : Nat, inN (mi g) (2 ^ 30) := fun g => inN_mono (hmi0 g) (by omega)
  have ham : ∀ (g zt : Nat), inN (amF b r zt g) 1000 := fun g zt => am_in hb9 hr9 zt g
  unfold LZ
  refine z_aload_n (n := 1089) hC dL_law_1088 rfl 1 rfl rfl ?_
  refine z_aload_n (n := 1090) hC dL_law_1089 rfl 0 rfl rfl ?_
  refine z_iload (n := 1092) hC dL_law_1090 4 rfl rfl ?_
  refine z_iconst (v := nI 1) (n := 1093) hC dL_law_1092 (by decide) rfl ?_
  refine z_iadd (v := nI (i + 1)) (n := 1094) hC dL_law_1093 (nI_add i 1) rfl ?_
  refine z_sld (v := nI g) (n := 1095) hC hX hb0 hbA hL (i + 1) rfl (by omega) he1 dL_law_1094 rfl ?_
  refine z_aload_n (n := 1096) hC dL_law_1095 rfl 0 rfl rfl ?_
  refine z_iload (n := 1098) hC dL_law_1096 4 rfl rfl ?_
  refine z_iconst (v := nI 2) (n := 1099) hC dL_law_1098 (by decide) rfl ?_
  refine z_iadd (v := nI (i + 2)) (n := 1100) hC dL_law_1099 (nI_add i 2) rfl ?_
  refine z_sld (v := nI k) (n := 1101) hC hX hb0 hbA hL (i + 2) rfl (by omega) he2 dL_law_1100 rfl ?_
  refine z_aload_n (n := 1102) hC dL_law_1101 rfl 3 rfl rfl ?_
  refine z_callsiH (R := room_1) (cells := 30 + 7 * j) (slots := 211 + 66 * j) (ws := (wH h ta sa ua T) ++ (wT ta cI b r) ++ (wS sa cI cZ sw st fa sc fi mi lf hi n) ++ (wS ua cI cZ sw2 st2 fa2 sc2 fi2 mi2 lf2 hi2 n2) ++ (wN ma cI th n sw st b r T sc fi mi fa K) ++ (wO o cJ ov)) (n := 1105) (As := [.ref h, .int (nI g), .int (nI k), .ref o]) (rest := []) hC hz (k_L_scoreIn l G cI cZ cJ h ta sa ua T b r sw st fa sc fi mi lf hi n sw2 st2 fa2 sc2 fi2 mi2 lf2 hi2 n2 o ov g k (by omega) (by omega) hg hk1 hk2) kg_L_153 kd_yL_scoreIn dL_law_1102 ⟨Nat.le_of_ble_eq_true rfl, Nat.le_of_ble_eq_true rfl⟩ [0, 1, 2, 3, 4, 5, 6, 7, 8, 9, 10, 11, 12, 13, 14, 15, 16, 17, 18, 19, 20, 21, 29] rfl (by decide) rfl (Nat.le_of_ble_eq_true rfl) ⟨by show _ ≤ 1080188; omega, by show _ ≤ 5855541; omega⟩ (ws2 := fun u1 => (wH h ta sa ua T) ++ (wT ta cI b r) ++ (wS sa cI cZ sw st fa sc fi mi lf hi n) ++ (wS ua cI cZ u1.1 u1.2.1 u1.2.2.1 u1.2.2.2.1 u1.2.2.2.2.1 u1.2.2.2.2.2.1 u1.2.2.2.2.2.2.1 u1.2.2.2.2.2.2.2 n) ++ (wN ma cI th n sw st b r T sc fi mi fa K) ++ (wO o cJ (vp_updL ov 0 ((plS sw st b r sc fi mi fa T k g).toInt64)))) [22, 23, 24, 25, 26, 27, 28] (fun _ => rfl) (wN ma cI th n sw st b r T sc fi mi fa K) (fun _ => rfl) rfl (cv_of 30 (by decide +kernel) (fun _ => rfl)) [h, ta 0, ta 1, ta 2, sa 0, sa 1, sa 2, sa 3, sa 4, sa 5, sa 6, sa 7, sa 8, ua 0, ua 1, ua 2, ua 3, ua 4, ua 5, ua 6, ua 7, ua 8, o] (fun _ => rfl) rfl rfl rfl (fun r2 u1 h3 => ?_)
  subst h3
  refine z_istore (lv' := [(5, .int (nI 0)), (0, .ref b0), (1, .ref h), (2, .ref (ma 0)), (3, .ref o), (4, .int (nI i))]) (n := 1107) hC dL_law_1105 (by decide) rfl rfl ?_
  refine z_aload_n (n := 1108) hC dL_law_1107 rfl 3 rfl rfl ?_
  refine z_aload_n (n := 1109) hC dL_law_1108 rfl 1 rfl rfl ?_
  refine z_iload (n := 1111) hC dL_law_1109 5 rfl rfl ?_
  refine z_iconst (v := nI 1) (n := 1112) hC dL_law_1111 (by decide) rfl ?_
  refine z_iadd (v := nI (i + 1)) (n := 1113) hC dL_law_1112 (nI_add i 1) rfl ?_
  refine z_sld (v := nI g) (n := 1114) hC hX hb0 hbA hL (i + 1) rfl (by omega) he1 dL_law_1113 rfl ?_
  refine z_aload_n (n := 1115) hC dL_law_1114 rfl 1 rfl rfl ?_
  refine z_iload (n := 1117) hC dL_law_1115 5 rfl rfl ?_
  refine z_iconst (v := nI 2) (n := 1118) hC dL_law_1117 (by decide) rfl ?_
  refine z_iadd (v := nI (i + 2)) (n := 1119) hC dL_law_1118 (nI_add i 2) rfl ?_
  refine z_sld (v := nI k) (n := 1120) hC hX hb0 hbA hL (i + 2) rfl (by omega) he2 dL_law_1119 rfl ?_
  refine z_calli (R := room_1) (cells := 30 + 7 * j) (slots := 211 + 66 * j) (ws := (wH h ta sa ua T) ++ (wT ta cI b r) ++ (wS sa cI cZ sw st fa sc fi mi lf hi n) ++ (wS ua cI cZ u1.1 u1.2.1 u1.2.2.1 u1.2.2.2.1 u1.2.2.2.2.1 u1.2.2.2.2.2.1 u1.2.2.2.2.2.2.1 u1.2.2.2.2.2.2.2 n) ++ (wN ma cI th n sw st b r T sc fi mi fa K) ++ (wO o cJ (vp_updL ov 0 ((plS sw st b r sc fi mi fa T k g).toInt64)))) (n := 1123) (As := [.int (nI g), .int (nI k)]) (rest := []) hC (k_X3_scoreIn l G cI cZ cJ ma th n sw st b r T sc fi mi fa K g k (by omega) (by omega) hg hk1 hk2 hst) kg_L_155 kd_yX3_scoreIn dL_law_1120 ⟨Nat.le_of_ble_eq_true rfl, Nat.le_of_ble_eq_true rfl⟩ 0 rfl rfl rfl [22, 23, 24, 25, 26, 27, 28] rfl (by decide) rfl (Nat.le_of_ble_eq_true rfl) ⟨by show _ ≤ 1080188; omega, by show _ ≤ 5855541; omega⟩ (ws2 := fun u4 => (wH h ta sa ua T) ++ (wT ta cI b r) ++ (wS sa cI cZ sw st fa sc fi mi lf hi n) ++ (wS ua cI cZ u1.1 u1.2.1 u1.2.2.1 u1.2.2.2.1 u1.2.2.2.2.1 u1.2.2.2.2.2.1 u1.2.2.2.2.2.2.1 u1.2.2.2.2.2.2.2 n) ++ (wN ma cI (nI 0) n sw st b r T sc fi mi fa (va_cpy (nowF T sc fi mi fa) K 0 0 25)) ++ (wO o cJ (vp_updL ov 0 ((plS sw st b r sc fi mi fa T k g).toInt64)))) [0, 1, 2, 3, 4, 5, 6, 7, 8, 9, 10, 11, 12, 13, 14, 15, 16, 17, 18, 19, 20, 21, 29] (fun _ => rfl) ((wH h ta sa ua T) ++ (wT ta cI b r) ++ (wS sa cI cZ sw st fa sc fi mi lf hi n) ++ (wS ua cI cZ u1.1 u1.2.1 u1.2.2.1 u1.2.2.2.1 u1.2.2.2.2.1 u1.2.2.2.2.2.1 u1.2.2.2.2.2.2.1 u1.2.2.2.2.2.2.2 n) ++ (wO o cJ (vp_updL ov 0 ((plS sw st b r sc fi mi fa T k g).toInt64)))) (fun _ => rfl) rfl (cv_of 30 (by decide +kernel) (fun _ => rfl)) [ma 0, ma 1, ma 2, ma 3, ma 4, ma 5, ma 6] (fun _ => rfl) rfl rfl rfl (fun r5 u4 h6 => ?_)
  subst h6
  refine z_istore (lv' := [(6, .int (plS sw st b r sc fi mi fa T k g)), (5, .int (nI 0)), (0, .ref b0), (1, .ref h), (2, .ref (ma 0)), (3, .ref o), (4, .int (nI i))]) (n := 1125) hC dL_law_1123 (by decide) rfl rfl ?_
  refine z_aload_n (n := 1126) hC dL_law_1125 rfl 4 rfl rfl ?_
  refine z_calli (R := room_1) (cells := 30 + 7 * j) (slots := 211 + 66 * j) (ws := (wH h ta sa ua T) ++ (wT ta cI b r) ++ (wS sa cI cZ sw st fa sc fi mi lf hi n) ++ (wS ua cI cZ u1.1 u1.2.1 u1.2.2.1 u1.2.2.2.1 u1.2.2.2.2.1 u1.2.2.2.2.2.1 u1.2.2.2.2.2.2.1 u1.2.2.2.2.2.2.2 n) ++ (wN ma cI (nI 0) n sw st b r T sc fi mi fa (va_cpy (nowF T sc fi mi fa) K 0 0 25)) ++ (wO o cJ (vp_updL ov 0 ((plS sw st b r sc fi mi fa T k g).toInt64)))) (n := 1129) (As := []) (rest := []) hC (k_X3_thrown l G cI cZ cJ ma (nI 0) n sw st b r T sc fi mi fa (va_cpy (nowF T sc fi mi fa) K 0 0 25) (by omega) (by omega)) kg_L_89 kd_yX3_thrown dL_law_1126 ⟨Nat.le_of_ble_eq_true rfl, Nat.le_of_ble_eq_true rfl⟩ 0 rfl rfl rfl [22, 23, 24, 25, 26, 27, 28] rfl (by decide) rfl (Nat.le_of_ble_eq_true rfl) ⟨by show _ ≤ 1080188; omega, by show _ ≤ 5855541; omega⟩ (ws2 := fun u7 => (wH h ta sa ua T) ++ (wT ta cI b r) ++ (wS sa cI cZ sw st fa sc fi mi lf hi n) ++ (wS ua cI cZ u1.1 u1.2.1 u1.2.2.1 u1.2.2.2.1 u1.2.2.2.2.1 u1.2.2.2.2.2.1 u1.2.2.2.2.2.2.1 u1.2.2.2.2.2.2.2 n) ++ (wN ma cI (nI 0) n sw st b r T sc fi mi fa (va_cpy (nowF T sc fi mi fa) K 0 0 25)) ++ (wO o cJ (vp_updL ov 0 ((plS sw st b r sc fi mi fa T k g).toInt64)))) [0, 1, 2, 3, 4, 5, 6, 7, 8, 9, 10, 11, 12, 13, 14, 15, 16, 17, 18, 19, 20, 21, 29] (fun _ => rfl) ((wH h ta sa ua T) ++ (wT ta cI b r) ++ (wS sa cI cZ sw st fa sc fi mi lf hi n) ++ (wS ua cI cZ u1.1 u1.2.1 u1.2.2.1 u1.2.2.2.1 u1.2.2.2.2.1 u1.2.2.2.2.2.1 u1.2.2.2.2.2.2.1 u1.2.2.2.2.2.2.2 n) ++ (wO o cJ (vp_updL ov 0 ((plS sw st b r sc fi mi fa T k g).toInt64)))) (fun _ => rfl) rfl (cv_of 30 (by decide +kernel) (fun _ => rfl)) [ma 0, ma 1, ma 2, ma 3, ma 4, ma 5, ma 6] (fun _ => rfl) rfl rfl rfl (fun r8 u7 h9 => ?_)
  subst h9
  refine z_iload (n := 1131) hC dL_law_1129 1 rfl rfl ?_
  refine z_icmp_eq_n (tgt := 1136) (n := 1134) hC 0 0 rfl rfl (by omega) (by omega) dL_law_1131 (by decide) rfl (fun c10 => ?_) (fun c10 => absurd rfl c10)
  refine z_iload (n := 1138) hC dL_law_1136 1 rfl rfl ?_
  refine z_if_ne (tgt := 1153) (n := 1141) hC dL_law_1138 (by decide) rfl (fun c11 => absurd (nI_0) c11) (fun c11 => ?_)
  refine z_aload_n (n := 1142) hC dL_law_1141 rfl 5 rfl rfl ?_
  refine z_iconst (v := nI 0) (n := 1143) hC dL_law_1142 (by decide) rfl ?_
  refine z_lald (v := (plS sw st b r sc fi mi fa T k g).toInt64) (n := 1144) hC 29 2 0 rfl rfl rfl (by omega) (by decide) dL_law_1143 updL_at rfl ?_
  refine z_iload (n := 1146) hC dL_law_1144 0 rfl rfl ?_
  refine z_i2l (v := (plS sw st b r sc fi mi fa T k g).toInt64) (n := 1147) hC dL_law_1146 rfl rfl ?_
  refine z_lcmp (n := 1148) hC dL_law_1147 rfl ?_
  refine z_if_eq (tgt := 1153) (n := 1151) hC dL_law_1148 (by decide) rfl (fun c12 => ?_) (fun c12 => absurd (lg_self _) c12)
  refine z_goto (n := 1448) hC dL_law_1153 (by decide) ?_
  refine z_iinc (k0 := 6) (v := nI (i + 4)) (lv' := [(4, .int (nI (i + 4))), (6, .int (plS sw st b r sc fi mi fa T k g)), (5, .int (nI 0)), (0, .ref b0), (1, .ref h), (2, .ref (ma 0)), (3, .ref o)]) (n := 1451) hC dL_law_1448 rfl (nI_add i 4) (by decide) rfl rfl ?_
  refine z_goto (n := 23) hC dL_law_1451 (by decide) ?_
  refine z_lv [3, 4, 5, 6, 0] (lv' := [(0, .ref b0), (1, .ref h), (2, .ref (ma 0)), (3, .ref o), (4, .int (nI (i + 4)))]) rfl ?_
  refine z_wid (k1 := 30 + 7 * (j + 1)) (k2 := 211 + 66 * (j + 1)) (by omega) (by omega) ?_
  exact ih (i + 4) T b r sw st fa sc fi mi lf hi n u1.1 u1.2.1 u1.2.2.1 u1.2.2.2.1 u1.2.2.2.2.1 u1.2.2.2.2.2.1 u1.2.2.2.2.2.2.1 u1.2.2.2.2.2.2.2 n (nI 0) (va_cpy (nowF T sc fi mi fa) K 0 0 25) (vp_updL ov 0 ((plS sw st b r sc fi mi fa T k g).toInt64)) (by omega) (iv_same hI)

set_option maxRecDepth 100000 in
set_option maxHeartbeats 4000000 in
theorem c_scoreIn_a (p : Program) (l : Launch) (e : Env) (s : State) (m : MethodId) (args : Array Value) (below : List Frame) (meth : Method) (c : Code) (G : va_G) (A : Nat → Prop) (Q : State → Prop) (cI cZ cJ : ClassId) (b0 h o : Nat) (ta sa ua ma : Nat → Nat) (L : Nat) (xs : Nat → Int32) (i j : Nat) (T : Nat) (b r sw st fa sc fi mi : Nat → Int32) (lf hi : Nat → Bool) (n : Nat) (sw2 st2 fa2 sc2 fi2 mi2 : Nat → Int32) (lf2 hi2 : Nat → Bool) (n2 : Nat) (th : Int32) (K : Nat → Int32) (ov : Nat → Int64)  (hW : LX p l s m args c G A cI cZ cJ b0 L xs) (hI : iv j T n b r st fa mi) (hi0 : i = 4 * j) (hiL : i + 4 ≤ L) (hb : xs (i + 1) < 0 ∨ nI n ≤ xs (i + 1)) (ih : LPj p l e s m args below meth c G A Q cI cZ cJ b0 h o ta sa ua ma (j + 1)) : LZ p l e s m args below meth c G A Q cI cZ cJ b0 h o ta sa ua ma (30 + 7 * j) (211 + 66 * j) i 1088 T b r sw st fa sc fi mi lf hi n sw2 st2 fa2 sc2 fi2 mi2 lf2 hi2 n2 th K ov := by
  obtain ⟨hC, hl, hz, hX, hb0, hbA, hL⟩ := hW
  have hj : j ≤ 511 := by omega
  obtain ⟨hn, hT0, hst, hfa0, hmi0, hb9, hr9⟩ := id hI
  have hT : T < 2 ^ 29 := by omega
  have hfa : ∀ g : Nat, inN (fa g) (2 ^ 28) := fun g => inN_mono (hfa0 g) (by omega)
  have hmi : ∀ g : Nat, inN (mi g) (2 ^ 30) := fun g => inN_mono (hmi0 g) (by omega)
  have ham : ∀ (g zt : Nat), inN (amF b r zt g) 1000 := fun g zt => am_in hb9 hr9 zt g
  unfold LZ
  refine z_aload_n (n := 1089) hC dL_law_1088 rfl 1 rfl rfl ?_
  refine z_aload_n (n := 1090) hC dL_law_1089 rfl 0 rfl rfl ?_
  refine z_iload (n := 1092) hC dL_law_1090 4 rfl rfl ?_
  refine z_iconst (v := nI 1) (n := 1093) hC dL_law_1092 (by decide) rfl ?_
  refine z_iadd (v := nI (i + 1)) (n := 1094) hC dL_law_1093 (nI_add i 1) rfl ?_
  refine z_sld (v := xs (i + 1)) (n := 1095) hC hX hb0 hbA hL (i + 1) rfl (by omega) rfl dL_law_1094 rfl ?_
  refine z_aload_n (n := 1096) hC dL_law_1095 rfl 0 rfl rfl ?_
  refine z_iload (n := 1098) hC dL_law_1096 4 rfl rfl ?_
  refine z_iconst (v := nI 2) (n := 1099) hC dL_law_1098 (by decide) rfl ?_
  refine z_iadd (v := nI (i + 2)) (n := 1100) hC dL_law_1099 (nI_add i 2) rfl ?_
  refine z_sld (v := xs (i + 2)) (n := 1101) hC hX hb0 hbA hL (i + 2) rfl (by omega) rfl dL_law_1100 rfl ?_
  refine z_aload_n (n := 1102) hC dL_law_1101 rfl 3 rfl rfl ?_
  refine z_callsiH (R := room_1) (cells := 30 + 7 * j) (slots := 211 + 66 * j) (ws := (wH h ta sa ua T) ++ (wT ta cI b r) ++ (wS sa cI cZ sw st fa sc fi mi lf hi n) ++ (wS ua cI cZ sw2 st2 fa2 sc2 fi2 mi2 lf2 hi2 n2) ++ (wN ma cI th n sw st b r T sc fi mi fa K) ++ (wO o cJ ov)) (n := 1105) (As := [.ref h, .int (xs (i + 1)), .int (xs (i + 2)), .ref o]) (rest := []) hC hz (kx_L_scoreIn_a l G cI cZ cJ h ta sa ua T b r sw st fa sc fi mi lf hi n sw2 st2 fa2 sc2 fi2 mi2 lf2 hi2 n2 o ov (xs (i + 1)) (xs (i + 2)) hl (by omega) (by omega) hb) kg_L_153 kd_yL_scoreIn dL_law_1102 ⟨Nat.le_of_ble_eq_true rfl, Nat.le_of_ble_eq_true rfl⟩ [0, 1, 2, 3, 4, 5, 6, 7, 8, 9, 10, 11, 12, 13, 14, 15, 16, 17, 18, 19, 20, 21, 29] rfl (by decide) rfl (Nat.le_of_ble_eq_true rfl) ⟨by show _ ≤ 1080188; omega, by show _ ≤ 5855541; omega⟩ (ws2 := fun u1 => (wH h ta sa ua T) ++ (wT ta cI b r) ++ (wS sa cI cZ sw st fa sc fi mi lf hi n) ++ (wS ua cI cZ sw2 st2 fa2 sc2 fi2 mi2 lf2 hi2 n2) ++ (wN ma cI th n sw st b r T sc fi mi fa K) ++ (wO o cJ ov)) [22, 23, 24, 25, 26, 27, 28] (fun _ => rfl) (wN ma cI th n sw st b r T sc fi mi fa K) (fun _ => rfl) rfl (cv_of 30 (by decide +kernel) (fun _ => rfl)) [h, ta 0, ta 1, ta 2, sa 0, sa 1, sa 2, sa 3, sa 4, sa 5, sa 6, sa 7, sa 8, ua 0, ua 1, ua 2, ua 3, ua 4, ua 5, ua 6, ua 7, ua 8, o] (fun _ => rfl) rfl rfl rfl (fun r2 u1 h3 => ?_)
  subst h3
  refine z_istore (lv' := [(5, .int (nI 1)), (0, .ref b0), (1, .ref h), (2, .ref (ma 0)), (3, .ref o), (4, .int (nI i))]) (n := 1107) hC dL_law_1105 (by decide) rfl rfl ?_
  refine z_aload_n (n := 1108) hC dL_law_1107 rfl 3 rfl rfl ?_
  refine z_aload_n (n := 1109) hC dL_law_1108 rfl 1 rfl rfl ?_
  refine z_iload (n := 1111) hC dL_law_1109 5 rfl rfl ?_
  refine z_iconst (v := nI 1) (n := 1112) hC dL_law_1111 (by decide) rfl ?_
  refine z_iadd (v := nI (i + 1)) (n := 1113) hC dL_law_1112 (nI_add i 1) rfl ?_
  refine z_sld (v := xs (i + 1)) (n := 1114) hC hX hb0 hbA hL (i + 1) rfl (by omega) rfl dL_law_1113 rfl ?_
  refine z_aload_n (n := 1115) hC dL_law_1114 rfl 1 rfl rfl ?_
  refine z_iload (n := 1117) hC dL_law_1115 5 rfl rfl ?_
  refine z_iconst (v := nI 2) (n := 1118) hC dL_law_1117 (by decide) rfl ?_
  refine z_iadd (v := nI (i + 2)) (n := 1119) hC dL_law_1118 (nI_add i 2) rfl ?_
  refine z_sld (v := xs (i + 2)) (n := 1120) hC hX hb0 hbA hL (i + 2) rfl (by omega) rfl dL_law_1119 rfl ?_
  refine z_calli (R := room_1) (cells := 30 + 7 * j + 1) (slots := 211 + 66 * j + 6) (ws := (wH h ta sa ua T) ++ (wT ta cI b r) ++ (wS sa cI cZ sw st fa sc fi mi lf hi n) ++ (wS ua cI cZ sw2 st2 fa2 sc2 fi2 mi2 lf2 hi2 n2) ++ (wN ma cI th n sw st b r T sc fi mi fa K) ++ (wO o cJ ov)) (n := 1123) (As := [.int (xs (i + 1)), .int (xs (i + 2))]) (rest := []) hC (k_X3_scoreIn_xa l G cI cZ cJ ma th n sw st b r T sc fi mi fa K (xs (i + 1)) (xs (i + 2)) (by omega) (by omega) hb) kg_L_155 kd_yX3_scoreIn dL_law_1120 ⟨Nat.le_of_ble_eq_true rfl, Nat.le_of_ble_eq_true rfl⟩ 0 rfl rfl rfl [22, 23, 24, 25, 26, 27, 28] rfl (by decide) rfl (Nat.le_of_ble_eq_true rfl) ⟨by show _ ≤ 1080188; omega, by show _ ≤ 5855541; omega⟩ (ws2 := fun u4 => (wH h ta sa ua T) ++ (wT ta cI b r) ++ (wS sa cI cZ sw st fa sc fi mi lf hi n) ++ (wS ua cI cZ sw2 st2 fa2 sc2 fi2 mi2 lf2 hi2 n2) ++ (wN ma cI (nI 1) n sw st b r T sc fi mi fa K) ++ (wO o cJ ov)) [0, 1, 2, 3, 4, 5, 6, 7, 8, 9, 10, 11, 12, 13, 14, 15, 16, 17, 18, 19, 20, 21, 29] (fun _ => rfl) ((wH h ta sa ua T) ++ (wT ta cI b r) ++ (wS sa cI cZ sw st fa sc fi mi lf hi n) ++ (wS ua cI cZ sw2 st2 fa2 sc2 fi2 mi2 lf2 hi2 n2) ++ (wO o cJ ov)) (fun _ => rfl) rfl (cv_of 30 (by decide +kernel) (fun _ => rfl)) [ma 0, ma 1, ma 2, ma 3, ma 4, ma 5, ma 6] (fun _ => rfl) rfl rfl rfl (fun r5 u4 h6 => ?_)
  subst h6
  refine z_istore (lv' := [(6, .int (nI 0)), (5, .int (nI 1)), (0, .ref b0), (1, .ref h), (2, .ref (ma 0)), (3, .ref o), (4, .int (nI i))]) (n := 1125) hC dL_law_1123 (by decide) rfl rfl ?_
  refine z_aload_n (n := 1126) hC dL_law_1125 rfl 4 rfl rfl ?_
  refine z_calli (R := room_1) (cells := 30 + 7 * j + 1) (slots := 211 + 66 * j + 6) (ws := (wH h ta sa ua T) ++ (wT ta cI b r) ++ (wS sa cI cZ sw st fa sc fi mi lf hi n) ++ (wS ua cI cZ sw2 st2 fa2 sc2 fi2 mi2 lf2 hi2 n2) ++ (wN ma cI (nI 1) n sw st b r T sc fi mi fa K) ++ (wO o cJ ov)) (n := 1129) (As := []) (rest := []) hC (k_X3_thrown l G cI cZ cJ ma (nI 1) n sw st b r T sc fi mi fa K (by omega) (by omega)) kg_L_89 kd_yX3_thrown dL_law_1126 ⟨Nat.le_of_ble_eq_true rfl, Nat.le_of_ble_eq_true rfl⟩ 0 rfl rfl rfl [22, 23, 24, 25, 26, 27, 28] rfl (by decide) rfl (Nat.le_of_ble_eq_true rfl) ⟨by show _ ≤ 1080188; omega, by show _ ≤ 5855541; omega⟩ (ws2 := fun u7 => (wH h ta sa ua T) ++ (wT ta cI b r) ++ (wS sa cI cZ sw st fa sc fi mi lf hi n) ++ (wS ua cI cZ sw2 st2 fa2 sc2 fi2 mi2 lf2 hi2 n2) ++ (wN ma cI (nI 1) n sw st b r T sc fi mi fa K) ++ (wO o cJ ov)) [0, 1, 2, 3, 4, 5, 6, 7, 8, 9, 10, 11, 12, 13, 14, 15, 16, 17, 18, 19, 20, 21, 29] (fun _ => rfl) ((wH h ta sa ua T) ++ (wT ta cI b r) ++ (wS sa cI cZ sw st fa sc fi mi lf hi n) ++ (wS ua cI cZ sw2 st2 fa2 sc2 fi2 mi2 lf2 hi2 n2) ++ (wO o cJ ov)) (fun _ => rfl) rfl (cv_of 30 (by decide +kernel) (fun _ => rfl)) [ma 0, ma 1, ma 2, ma 3, ma 4, ma 5, ma 6] (fun _ => rfl) rfl rfl rfl (fun r8 u7 h9 => ?_)
  subst h9
  refine z_iload (n := 1131) hC dL_law_1129 1 rfl rfl ?_
  refine z_icmp_eq_n (tgt := 1136) (n := 1134) hC 1 1 rfl rfl (by omega) (by omega) dL_law_1131 (by decide) rfl (fun c10 => ?_) (fun c10 => absurd rfl c10)
  refine z_iload (n := 1138) hC dL_law_1136 1 rfl rfl ?_
  refine z_if_ne (tgt := 1153) (n := 1141) hC dL_law_1138 (by decide) rfl (fun c11 => ?_) (fun c11 => absurd c11 (by decide))
  refine z_goto (n := 1448) hC dL_law_1153 (by decide) ?_
  refine z_iinc (k0 := 6) (v := nI (i + 4)) (lv' := [(4, .int (nI (i + 4))), (6, .int (nI 0)), (5, .int (nI 1)), (0, .ref b0), (1, .ref h), (2, .ref (ma 0)), (3, .ref o)]) (n := 1451) hC dL_law_1448 rfl (nI_add i 4) (by decide) rfl rfl ?_
  refine z_goto (n := 23) hC dL_law_1451 (by decide) ?_
  refine z_lv [3, 4, 5, 6, 0] (lv' := [(0, .ref b0), (1, .ref h), (2, .ref (ma 0)), (3, .ref o), (4, .int (nI (i + 4)))]) rfl ?_
  refine z_wid (k1 := 30 + 7 * (j + 1)) (k2 := 211 + 66 * (j + 1)) (by omega) (by omega) ?_
  exact ih (i + 4) T b r sw st fa sc fi mi lf hi n sw2 st2 fa2 sc2 fi2 mi2 lf2 hi2 n2 (nI 1) K ov (by omega) (iv_same hI)

set_option maxRecDepth 100000 in
set_option maxHeartbeats 4000000 in
theorem c_scoreIn_b (p : Program) (l : Launch) (e : Env) (s : State) (m : MethodId) (args : Array Value) (below : List Frame) (meth : Method) (c : Code) (G : va_G) (A : Nat → Prop) (Q : State → Prop) (cI cZ cJ : ClassId) (b0 h o : Nat) (ta sa ua ma : Nat → Nat) (L : Nat) (xs : Nat → Int32) (i j : Nat) (T : Nat) (b r sw st fa sc fi mi : Nat → Int32) (lf hi : Nat → Bool) (n : Nat) (sw2 st2 fa2 sc2 fi2 mi2 : Nat → Int32) (lf2 hi2 : Nat → Bool) (n2 : Nat) (th : Int32) (K : Nat → Int32) (ov : Nat → Int64) (g : Nat) (hW : LX p l s m args c G A cI cZ cJ b0 L xs) (hI : iv j T n b r st fa mi) (hi0 : i = 4 * j) (hiL : i + 4 ≤ L) (he1 : xs (i + 1) = nI g) (hg : g < n) (hb : xs (i + 2) < nI 1 ∨ nI 50 < xs (i + 2)) (ih : LPj p l e s m args below meth c G A Q cI cZ cJ b0 h o ta sa ua ma (j + 1)) : LZ p l e s m args below meth c G A Q cI cZ cJ b0 h o ta sa ua ma (30 + 7 * j) (211 + 66 * j) i 1088 T b r sw st fa sc fi mi lf hi n sw2 st2 fa2 sc2 fi2 mi2 lf2 hi2 n2 th K ov := by
  obtain ⟨hC, hl, hz, hX, hb0, hbA, hL⟩ := hW
  have hj : j ≤ 511 := by omega
  obtain ⟨hn, hT0, hst, hfa0, hmi0, hb9, hr9⟩ := id hI
  have hT : T < 2 ^ 29 := by omega
  have hfa : ∀ g : Nat, inN (fa g) (2 ^ 28) := fun g => inN_mono (hfa0 g) (by omega)
  have hmi : ∀ g : Nat, inN (mi g) (2 ^ 30) := fun g => inN_mono (hmi0 g) (by omega)
  have ham : ∀ (g zt : Nat), inN (amF b r zt g) 1000 := fun g zt => am_in hb9 hr9 zt g
  unfold LZ
  refine z_aload_n (n := 1089) hC dL_law_1088 rfl 1 rfl rfl ?_
  refine z_aload_n (n := 1090) hC dL_law_1089 rfl 0 rfl rfl ?_
  refine z_iload (n := 1092) hC dL_law_1090 4 rfl rfl ?_
  refine z_iconst (v := nI 1) (n := 1093) hC dL_law_1092 (by decide) rfl ?_
  refine z_iadd (v := nI (i + 1)) (n := 1094) hC dL_law_1093 (nI_add i 1) rfl ?_
  refine z_sld (v := nI g) (n := 1095) hC hX hb0 hbA hL (i + 1) rfl (by omega) he1 dL_law_1094 rfl ?_
  refine z_aload_n (n := 1096) hC dL_law_1095 rfl 0 rfl rfl ?_
  refine z_iload (n := 1098) hC dL_law_1096 4 rfl rfl ?_
  refine z_iconst (v := nI 2) (n := 1099) hC dL_law_1098 (by decide) rfl ?_
  refine z_iadd (v := nI (i + 2)) (n := 1100) hC dL_law_1099 (nI_add i 2) rfl ?_
  refine z_sld (v := xs (i + 2)) (n := 1101) hC hX hb0 hbA hL (i + 2) rfl (by omega) rfl dL_law_1100 rfl ?_
  refine z_aload_n (n := 1102) hC dL_law_1101 rfl 3 rfl rfl ?_
  refine z_callsiH (R := room_1) (cells := 30 + 7 * j) (slots := 211 + 66 * j) (ws := (wH h ta sa ua T) ++ (wT ta cI b r) ++ (wS sa cI cZ sw st fa sc fi mi lf hi n) ++ (wS ua cI cZ sw2 st2 fa2 sc2 fi2 mi2 lf2 hi2 n2) ++ (wN ma cI th n sw st b r T sc fi mi fa K) ++ (wO o cJ ov)) (n := 1105) (As := [.ref h, .int (nI g), .int (xs (i + 2)), .ref o]) (rest := []) hC hz (kx_L_scoreIn_b l G cI cZ cJ h ta sa ua T b r sw st fa sc fi mi lf hi n sw2 st2 fa2 sc2 fi2 mi2 lf2 hi2 n2 o ov g (xs (i + 2)) hl (by omega) (by omega) hg hb) kg_L_153 kd_yL_scoreIn dL_law_1102 ⟨Nat.le_of_ble_eq_true rfl, Nat.le_of_ble_eq_true rfl⟩ [0, 1, 2, 3, 4, 5, 6, 7, 8, 9, 10, 11, 12, 13, 14, 15, 16, 17, 18, 19, 20, 21, 29] rfl (by decide) rfl (Nat.le_of_ble_eq_true rfl) ⟨by show _ ≤ 1080188; omega, by show _ ≤ 5855541; omega⟩ (ws2 := fun u1 => (wH h ta sa ua T) ++ (wT ta cI b r) ++ (wS sa cI cZ sw st fa sc fi mi lf hi n) ++ (wS ua cI cZ sw2 st2 fa2 sc2 fi2 mi2 lf2 hi2 n2) ++ (wN ma cI th n sw st b r T sc fi mi fa K) ++ (wO o cJ ov)) [22, 23, 24, 25, 26, 27, 28] (fun _ => rfl) (wN ma cI th n sw st b r T sc fi mi fa K) (fun _ => rfl) rfl (cv_of 30 (by decide +kernel) (fun _ => rfl)) [h, ta 0, ta 1, ta 2, sa 0, sa 1, sa 2, sa 3, sa 4, sa 5, sa 6, sa 7, sa 8, ua 0, ua 1, ua 2, ua 3, ua 4, ua 5, ua 6, ua 7, ua 8, o] (fun _ => rfl) rfl rfl rfl (fun r2 u1 h3 => ?_)
  subst h3
  refine z_istore (lv' := [(5, .int (nI 2)), (0, .ref b0), (1, .ref h), (2, .ref (ma 0)), (3, .ref o), (4, .int (nI i))]) (n := 1107) hC dL_law_1105 (by decide) rfl rfl ?_
  refine z_aload_n (n := 1108) hC dL_law_1107 rfl 3 rfl rfl ?_
  refine z_aload_n (n := 1109) hC dL_law_1108 rfl 1 rfl rfl ?_
  refine z_iload (n := 1111) hC dL_law_1109 5 rfl rfl ?_
  refine z_iconst (v := nI 1) (n := 1112) hC dL_law_1111 (by decide) rfl ?_
  refine z_iadd (v := nI (i + 1)) (n := 1113) hC dL_law_1112 (nI_add i 1) rfl ?_
  refine z_sld (v := nI g) (n := 1114) hC hX hb0 hbA hL (i + 1) rfl (by omega) he1 dL_law_1113 rfl ?_
  refine z_aload_n (n := 1115) hC dL_law_1114 rfl 1 rfl rfl ?_
  refine z_iload (n := 1117) hC dL_law_1115 5 rfl rfl ?_
  refine z_iconst (v := nI 2) (n := 1118) hC dL_law_1117 (by decide) rfl ?_
  refine z_iadd (v := nI (i + 2)) (n := 1119) hC dL_law_1118 (nI_add i 2) rfl ?_
  refine z_sld (v := xs (i + 2)) (n := 1120) hC hX hb0 hbA hL (i + 2) rfl (by omega) rfl dL_law_1119 rfl ?_
  refine z_calli (R := room_1) (cells := 30 + 7 * j + 1) (slots := 211 + 66 * j + 6) (ws := (wH h ta sa ua T) ++ (wT ta cI b r) ++ (wS sa cI cZ sw st fa sc fi mi lf hi n) ++ (wS ua cI cZ sw2 st2 fa2 sc2 fi2 mi2 lf2 hi2 n2) ++ (wN ma cI th n sw st b r T sc fi mi fa K) ++ (wO o cJ ov)) (n := 1123) (As := [.int (nI g), .int (xs (i + 2))]) (rest := []) hC (k_X3_scoreIn_xb l G cI cZ cJ ma th n sw st b r T sc fi mi fa K g (xs (i + 2)) (by omega) (by omega) hg hb) kg_L_155 kd_yX3_scoreIn dL_law_1120 ⟨Nat.le_of_ble_eq_true rfl, Nat.le_of_ble_eq_true rfl⟩ 0 rfl rfl rfl [22, 23, 24, 25, 26, 27, 28] rfl (by decide) rfl (Nat.le_of_ble_eq_true rfl) ⟨by show _ ≤ 1080188; omega, by show _ ≤ 5855541; omega⟩ (ws2 := fun u4 => (wH h ta sa ua T) ++ (wT ta cI b r) ++ (wS sa cI cZ sw st fa sc fi mi lf hi n) ++ (wS ua cI cZ sw2 st2 fa2 sc2 fi2 mi2 lf2 hi2 n2) ++ (wN ma cI (nI 2) n sw st b r T sc fi mi fa K) ++ (wO o cJ ov)) [0, 1, 2, 3, 4, 5, 6, 7, 8, 9, 10, 11, 12, 13, 14, 15, 16, 17, 18, 19, 20, 21, 29] (fun _ => rfl) ((wH h ta sa ua T) ++ (wT ta cI b r) ++ (wS sa cI cZ sw st fa sc fi mi lf hi n) ++ (wS ua cI cZ sw2 st2 fa2 sc2 fi2 mi2 lf2 hi2 n2) ++ (wO o cJ ov)) (fun _ => rfl) rfl (cv_of 30 (by decide +kernel) (fun _ => rfl)) [ma 0, ma 1, ma 2, ma 3, ma 4, ma 5, ma 6] (fun _ => rfl) rfl rfl rfl (fun r5 u4 h6 => ?_)
  subst h6
  refine z_istore (lv' := [(6, .int (nI 0)), (5, .int (nI 2)), (0, .ref b0), (1, .ref h), (2, .ref (ma 0)), (3, .ref o), (4, .int (nI i))]) (n := 1125) hC dL_law_1123 (by decide) rfl rfl ?_
  refine z_aload_n (n := 1126) hC dL_law_1125 rfl 4 rfl rfl ?_
  refine z_calli (R := room_1) (cells := 30 + 7 * j + 1) (slots := 211 + 66 * j + 6) (ws := (wH h ta sa ua T) ++ (wT ta cI b r) ++ (wS sa cI cZ sw st fa sc fi mi lf hi n) ++ (wS ua cI cZ sw2 st2 fa2 sc2 fi2 mi2 lf2 hi2 n2) ++ (wN ma cI (nI 2) n sw st b r T sc fi mi fa K) ++ (wO o cJ ov)) (n := 1129) (As := []) (rest := []) hC (k_X3_thrown l G cI cZ cJ ma (nI 2) n sw st b r T sc fi mi fa K (by omega) (by omega)) kg_L_89 kd_yX3_thrown dL_law_1126 ⟨Nat.le_of_ble_eq_true rfl, Nat.le_of_ble_eq_true rfl⟩ 0 rfl rfl rfl [22, 23, 24, 25, 26, 27, 28] rfl (by decide) rfl (Nat.le_of_ble_eq_true rfl) ⟨by show _ ≤ 1080188; omega, by show _ ≤ 5855541; omega⟩ (ws2 := fun u7 => (wH h ta sa ua T) ++ (wT ta cI b r) ++ (wS sa cI cZ sw st fa sc fi mi lf hi n) ++ (wS ua cI cZ sw2 st2 fa2 sc2 fi2 mi2 lf2 hi2 n2) ++ (wN ma cI (nI 2) n sw st b r T sc fi mi fa K) ++ (wO o cJ ov)) [0, 1, 2, 3, 4, 5, 6, 7, 8, 9, 10, 11, 12, 13, 14, 15, 16, 17, 18, 19, 20, 21, 29] (fun _ => rfl) ((wH h ta sa ua T) ++ (wT ta cI b r) ++ (wS sa cI cZ sw st fa sc fi mi lf hi n) ++ (wS ua cI cZ sw2 st2 fa2 sc2 fi2 mi2 lf2 hi2 n2) ++ (wO o cJ ov)) (fun _ => rfl) rfl (cv_of 30 (by decide +kernel) (fun _ => rfl)) [ma 0, ma 1, ma 2, ma 3, ma 4, ma 5, ma 6] (fun _ => rfl) rfl rfl rfl (fun r8 u7 h9 => ?_)
  subst h9
  refine z_iload (n := 1131) hC dL_law_1129 1 rfl rfl ?_
  refine z_icmp_eq_n (tgt := 1136) (n := 1134) hC 2 2 rfl rfl (by omega) (by omega) dL_law_1131 (by decide) rfl (fun c10 => ?_) (fun c10 => absurd rfl c10)
  refine z_iload (n := 1138) hC dL_law_1136 1 rfl rfl ?_
  refine z_if_ne (tgt := 1153) (n := 1141) hC dL_law_1138 (by decide) rfl (fun c11 => ?_) (fun c11 => absurd c11 (by decide))
  refine z_goto (n := 1448) hC dL_law_1153 (by decide) ?_
  refine z_iinc (k0 := 6) (v := nI (i + 4)) (lv' := [(4, .int (nI (i + 4))), (6, .int (nI 0)), (5, .int (nI 2)), (0, .ref b0), (1, .ref h), (2, .ref (ma 0)), (3, .ref o)]) (n := 1451) hC dL_law_1448 rfl (nI_add i 4) (by decide) rfl rfl ?_
  refine z_goto (n := 23) hC dL_law_1451 (by decide) ?_
  refine z_lv [3, 4, 5, 6, 0] (lv' := [(0, .ref b0), (1, .ref h), (2, .ref (ma 0)), (3, .ref o), (4, .int (nI (i + 4)))]) rfl ?_
  refine z_wid (k1 := 30 + 7 * (j + 1)) (k2 := 211 + 66 * (j + 1)) (by omega) (by omega) ?_
  exact ih (i + 4) T b r sw st fa sc fi mi lf hi n sw2 st2 fa2 sc2 fi2 mi2 lf2 hi2 n2 (nI 2) K ov (by omega) (iv_same hI)

set_option maxRecDepth 100000 in
set_option maxHeartbeats 4000000 in
theorem c_leaderIn (p : Program) (l : Launch) (e : Env) (s : State) (m : MethodId) (args : Array Value) (below : List Frame) (meth : Method) (c : Code) (G : va_G) (A : Nat → Prop) (Q : State → Prop) (cI cZ cJ : ClassId) (b0 h o : Nat) (ta sa ua ma : Nat → Nat) (L : Nat) (xs : Nat → Int32) (i j : Nat) (T : Nat) (b r sw st fa sc fi mi : Nat → Int32) (lf hi : Nat → Bool) (n : Nat) (sw2 st2 fa2 sc2 fi2 mi2 : Nat → Int32) (lf2 hi2 : Nat → Bool) (n2 : Nat) (th : Int32) (K : Nat → Int32) (ov : Nat → Int64) (k : Nat) (hW : LX p l s m args c G A cI cZ cJ b0 L xs) (hI : iv j T n b r st fa mi) (hi0 : i = 4 * j) (hiL : i + 4 ≤ L) (he1 : xs (i + 1) = nI k) (hk1 : 1 ≤ k) (hk2 : k ≤ 50) (ih : LPj p l e s m args below meth c G A Q cI cZ cJ b0 h o ta sa ua ma (j + 1)) : LZ p l e s m args below meth c G A Q cI cZ cJ b0 h o ta sa ua ma (30 + 7 * j) (211 + 66 * j) i 1212 T b r sw st fa sc fi mi lf hi n sw2 st2 fa2 sc2 fi2 mi2 lf2 hi2 n2 th K ov := by
  obtain ⟨hC, hl, hz, hX, hb0, hbA, hL⟩ := hW
  have hj : j ≤ 511 := by omega
  obtain ⟨hn, hT0, hst, hfa0, hmi0, hb9, hr9⟩ := id hI
  have hT : T < 2 ^ 29 := by omega
  have hfa : ∀ g : Nat, inN (fa g) (2 ^ 28) := fun g => inN_mono (hfa0 g) (by omega)
  have hmi : ∀ g : Nat, inN (mi g) (2 ^ 30) := fun g => inN_mono (hmi0 g) (by omega)
  have ham : ∀ (g zt : Nat), inN (amF b r zt g) 1000 := fun g zt => am_in hb9 hr9 zt g
  unfold LZ
  refine z_aload_n (n := 1213) hC dL_law_1212 rfl 1 rfl rfl ?_
  refine z_aload_n (n := 1214) hC dL_law_1213 rfl 0 rfl rfl ?_
  refine z_iload (n := 1216) hC dL_law_1214 4 rfl rfl ?_
  refine z_iconst (v := nI 1) (n := 1217) hC dL_law_1216 (by decide) rfl ?_
  refine z_iadd (v := nI (i + 1)) (n := 1218) hC dL_law_1217 (nI_add i 1) rfl ?_
  refine z_sld (v := nI k) (n := 1219) hC hX hb0 hbA hL (i + 1) rfl (by omega) he1 dL_law_1218 rfl ?_
  refine z_aload_n (n := 1220) hC dL_law_1219 rfl 3 rfl rfl ?_
  refine z_callsiH (R := room_1) (cells := 30 + 7 * j) (slots := 211 + 66 * j) (ws := (wH h ta sa ua T) ++ (wT ta cI b r) ++ (wS sa cI cZ sw st fa sc fi mi lf hi n) ++ (wS ua cI cZ sw2 st2 fa2 sc2 fi2 mi2 lf2 hi2 n2) ++ (wN ma cI th n sw st b r T sc fi mi fa K) ++ (wO o cJ ov)) (n := 1223) (As := [.ref h, .int (nI k), .ref o]) (rest := []) hC hz (k_L_leaderIn l G cI cZ cJ h ta sa ua T b r sw st fa sc fi mi lf hi n sw2 st2 fa2 sc2 fi2 mi2 lf2 hi2 n2 o ov k (by omega) (by omega) hk1 hk2) kg_L_159 kd_yL_leaderIn dL_law_1220 ⟨Nat.le_of_ble_eq_true rfl, Nat.le_of_ble_eq_true rfl⟩ [0, 1, 2, 3, 4, 5, 6, 7, 8, 9, 10, 11, 12, 13, 14, 15, 16, 17, 18, 19, 20, 21, 29] rfl (by decide) rfl (Nat.le_of_ble_eq_true rfl) ⟨by show _ ≤ 1080188; omega, by show _ ≤ 5855541; omega⟩ (ws2 := fun u1 => (wH h ta sa ua T) ++ (wT ta cI b r) ++ (wS sa cI cZ sw st fa sc fi mi lf hi n) ++ (wS ua cI cZ u1.1 u1.2.1 u1.2.2.1 u1.2.2.2.1 u1.2.2.2.2.1 u1.2.2.2.2.2.1 u1.2.2.2.2.2.2.1 u1.2.2.2.2.2.2.2 n) ++ (wN ma cI th n sw st b r T sc fi mi fa K) ++ (wO o cJ (vp_updL ov 0 ((ldF (plS sw st b r sc fi mi fa T k) n).toInt64)))) [22, 23, 24, 25, 26, 27, 28] (fun _ => rfl) (wN ma cI th n sw st b r T sc fi mi fa K) (fun _ => rfl) rfl (cv_of 30 (by decide +kernel) (fun _ => rfl)) [h, ta 0, ta 1, ta 2, sa 0, sa 1, sa 2, sa 3, sa 4, sa 5, sa 6, sa 7, sa 8, ua 0, ua 1, ua 2, ua 3, ua 4, ua 5, ua 6, ua 7, ua 8, o] (fun _ => rfl) rfl rfl rfl (fun r2 u1 h3 => ?_)
  subst h3
  refine z_istore (lv' := [(5, .int (nI 0)), (0, .ref b0), (1, .ref h), (2, .ref (ma 0)), (3, .ref o), (4, .int (nI i))]) (n := 1225) hC dL_law_1223 (by decide) rfl rfl ?_
  refine z_aload_n (n := 1226) hC dL_law_1225 rfl 3 rfl rfl ?_
  refine z_aload_n (n := 1227) hC dL_law_1226 rfl 1 rfl rfl ?_
  refine z_iload (n := 1229) hC dL_law_1227 5 rfl rfl ?_
  refine z_iconst (v := nI 1) (n := 1230) hC dL_law_1229 (by decide) rfl ?_
  refine z_iadd (v := nI (i + 1)) (n := 1231) hC dL_law_1230 (nI_add i 1) rfl ?_
  refine z_sld (v := nI k) (n := 1232) hC hX hb0 hbA hL (i + 1) rfl (by omega) he1 dL_law_1231 rfl ?_
  refine z_calli (R := room_1) (cells := 30 + 7 * j) (slots := 211 + 66 * j) (ws := (wH h ta sa ua T) ++ (wT ta cI b r) ++ (wS sa cI cZ sw st fa sc fi mi lf hi n) ++ (wS ua cI cZ u1.1 u1.2.1 u1.2.2.1 u1.2.2.2.1 u1.2.2.2.2.1 u1.2.2.2.2.2.1 u1.2.2.2.2.2.2.1 u1.2.2.2.2.2.2.2 n) ++ (wN ma cI th n sw st b r T sc fi mi fa K) ++ (wO o cJ (vp_updL ov 0 ((ldF (plS sw st b r sc fi mi fa T k) n).toInt64)))) (n := 1235) (As := [.int (nI k)]) (rest := []) hC (k_X3_leaderIn l G cI cZ cJ ma th n sw st b r T sc fi mi fa K k (by omega) (by omega) hk1 hk2 hst) kg_L_161 kd_yX3_leaderIn dL_law_1232 ⟨Nat.le_of_ble_eq_true rfl, Nat.le_of_ble_eq_true rfl⟩ 0 rfl rfl rfl [22, 23, 24, 25, 26, 27, 28] rfl (by decide) rfl (Nat.le_of_ble_eq_true rfl) ⟨by show _ ≤ 1080188; omega, by show _ ≤ 5855541; omega⟩ (ws2 := fun u4 => (wH h ta sa ua T) ++ (wT ta cI b r) ++ (wS sa cI cZ sw st fa sc fi mi lf hi n) ++ (wS ua cI cZ u1.1 u1.2.1 u1.2.2.1 u1.2.2.2.1 u1.2.2.2.2.1 u1.2.2.2.2.2.1 u1.2.2.2.2.2.2.1 u1.2.2.2.2.2.2.2 n) ++ (wN ma cI (nI 0) n sw st b r T sc fi mi fa (va_cpy (nowF T sc fi mi fa) K 0 0 25)) ++ (wO o cJ (vp_updL ov 0 ((ldF (plS sw st b r sc fi mi fa T k) n).toInt64)))) [0, 1, 2, 3, 4, 5, 6, 7, 8, 9, 10, 11, 12, 13, 14, 15, 16, 17, 18, 19, 20, 21, 29] (fun _ => rfl) ((wH h ta sa ua T) ++ (wT ta cI b r) ++ (wS sa cI cZ sw st fa sc fi mi lf hi n) ++ (wS ua cI cZ u1.1 u1.2.1 u1.2.2.1 u1.2.2.2.1 u1.2.2.2.2.1 u1.2.2.2.2.2.1 u1.2.2.2.2.2.2.1 u1.2.2.2.2.2.2.2 n) ++ (wO o cJ (vp_updL ov 0 ((ldF (plS sw st b r sc fi mi fa T k) n).toInt64)))) (fun _ => rfl) rfl (cv_of 30 (by decide +kernel) (fun _ => rfl)) [ma 0, ma 1, ma 2, ma 3, ma 4, ma 5, ma 6] (fun _ => rfl) rfl rfl rfl (fun r5 u4 h6 => ?_)
  subst h6
  refine z_istore (lv' := [(6, .int (ldF (plS sw st b r sc fi mi fa T k) n)), (5, .int (nI 0)), (0, .ref b0), (1, .ref h), (2, .ref (ma 0)), (3, .ref o), (4, .int (nI i))]) (n := 1237) hC dL_law_1235 (by decide) rfl rfl ?_
  refine z_aload_n (n := 1238) hC dL_law_1237 rfl 4 rfl rfl ?_
  refine z_calli (R := room_1) (cells := 30 + 7 * j) (slots := 211 + 66 * j) (ws := (wH h ta sa ua T) ++ (wT ta cI b r) ++ (wS sa cI cZ sw st fa sc fi mi lf hi n) ++ (wS ua cI cZ u1.1 u1.2.1 u1.2.2.1 u1.2.2.2.1 u1.2.2.2.2.1 u1.2.2.2.2.2.1 u1.2.2.2.2.2.2.1 u1.2.2.2.2.2.2.2 n) ++ (wN ma cI (nI 0) n sw st b r T sc fi mi fa (va_cpy (nowF T sc fi mi fa) K 0 0 25)) ++ (wO o cJ (vp_updL ov 0 ((ldF (plS sw st b r sc fi mi fa T k) n).toInt64)))) (n := 1241) (As := []) (rest := []) hC (k_X3_thrown l G cI cZ cJ ma (nI 0) n sw st b r T sc fi mi fa (va_cpy (nowF T sc fi mi fa) K 0 0 25) (by omega) (by omega)) kg_L_89 kd_yX3_thrown dL_law_1238 ⟨Nat.le_of_ble_eq_true rfl, Nat.le_of_ble_eq_true rfl⟩ 0 rfl rfl rfl [22, 23, 24, 25, 26, 27, 28] rfl (by decide) rfl (Nat.le_of_ble_eq_true rfl) ⟨by show _ ≤ 1080188; omega, by show _ ≤ 5855541; omega⟩ (ws2 := fun u7 => (wH h ta sa ua T) ++ (wT ta cI b r) ++ (wS sa cI cZ sw st fa sc fi mi lf hi n) ++ (wS ua cI cZ u1.1 u1.2.1 u1.2.2.1 u1.2.2.2.1 u1.2.2.2.2.1 u1.2.2.2.2.2.1 u1.2.2.2.2.2.2.1 u1.2.2.2.2.2.2.2 n) ++ (wN ma cI (nI 0) n sw st b r T sc fi mi fa (va_cpy (nowF T sc fi mi fa) K 0 0 25)) ++ (wO o cJ (vp_updL ov 0 ((ldF (plS sw st b r sc fi mi fa T k) n).toInt64)))) [0, 1, 2, 3, 4, 5, 6, 7, 8, 9, 10, 11, 12, 13, 14, 15, 16, 17, 18, 19, 20, 21, 29] (fun _ => rfl) ((wH h ta sa ua T) ++ (wT ta cI b r) ++ (wS sa cI cZ sw st fa sc fi mi lf hi n) ++ (wS ua cI cZ u1.1 u1.2.1 u1.2.2.1 u1.2.2.2.1 u1.2.2.2.2.1 u1.2.2.2.2.2.1 u1.2.2.2.2.2.2.1 u1.2.2.2.2.2.2.2 n) ++ (wO o cJ (vp_updL ov 0 ((ldF (plS sw st b r sc fi mi fa T k) n).toInt64)))) (fun _ => rfl) rfl (cv_of 30 (by decide +kernel) (fun _ => rfl)) [ma 0, ma 1, ma 2, ma 3, ma 4, ma 5, ma 6] (fun _ => rfl) rfl rfl rfl (fun r8 u7 h9 => ?_)
  subst h9
  refine z_iload (n := 1243) hC dL_law_1241 1 rfl rfl ?_
  refine z_icmp_eq_n (tgt := 1248) (n := 1246) hC 0 0 rfl rfl (by omega) (by omega) dL_law_1243 (by decide) rfl (fun c10 => ?_) (fun c10 => absurd rfl c10)
  refine z_iload (n := 1250) hC dL_law_1248 1 rfl rfl ?_
  refine z_if_ne (tgt := 1265) (n := 1253) hC dL_law_1250 (by decide) rfl (fun c11 => absurd (nI_0) c11) (fun c11 => ?_)
  refine z_aload_n (n := 1254) hC dL_law_1253 rfl 5 rfl rfl ?_
  refine z_iconst (v := nI 0) (n := 1255) hC dL_law_1254 (by decide) rfl ?_
  refine z_lald (v := (ldF (plS sw st b r sc fi mi fa T k) n).toInt64) (n := 1256) hC 29 2 0 rfl rfl rfl (by omega) (by decide) dL_law_1255 updL_at rfl ?_
  refine z_iload (n := 1258) hC dL_law_1256 0 rfl rfl ?_
  refine z_i2l (v := (ldF (plS sw st b r sc fi mi fa T k) n).toInt64) (n := 1259) hC dL_law_1258 rfl rfl ?_
  refine z_lcmp (n := 1260) hC dL_law_1259 rfl ?_
  refine z_if_eq (tgt := 1265) (n := 1263) hC dL_law_1260 (by decide) rfl (fun c12 => ?_) (fun c12 => absurd (lg_self _) c12)
  refine z_goto (n := 1448) hC dL_law_1265 (by decide) ?_
  refine z_iinc (k0 := 6) (v := nI (i + 4)) (lv' := [(4, .int (nI (i + 4))), (6, .int (ldF (plS sw st b r sc fi mi fa T k) n)), (5, .int (nI 0)), (0, .ref b0), (1, .ref h), (2, .ref (ma 0)), (3, .ref o)]) (n := 1451) hC dL_law_1448 rfl (nI_add i 4) (by decide) rfl rfl ?_
  refine z_goto (n := 23) hC dL_law_1451 (by decide) ?_
  refine z_lv [3, 4, 5, 6, 0] (lv' := [(0, .ref b0), (1, .ref h), (2, .ref (ma 0)), (3, .ref o), (4, .int (nI (i + 4)))]) rfl ?_
  refine z_wid (k1 := 30 + 7 * (j + 1)) (k2 := 211 + 66 * (j + 1)) (by omega) (by omega) ?_
  exact ih (i + 4) T b r sw st fa sc fi mi lf hi n u1.1 u1.2.1 u1.2.2.1 u1.2.2.2.1 u1.2.2.2.2.1 u1.2.2.2.2.2.1 u1.2.2.2.2.2.2.1 u1.2.2.2.2.2.2.2 n (nI 0) (va_cpy (nowF T sc fi mi fa) K 0 0 25) (vp_updL ov 0 ((ldF (plS sw st b r sc fi mi fa T k) n).toInt64)) (by omega) (iv_same hI)

set_option maxRecDepth 100000 in
set_option maxHeartbeats 4000000 in
theorem c_leaderIn_x (p : Program) (l : Launch) (e : Env) (s : State) (m : MethodId) (args : Array Value) (below : List Frame) (meth : Method) (c : Code) (G : va_G) (A : Nat → Prop) (Q : State → Prop) (cI cZ cJ : ClassId) (b0 h o : Nat) (ta sa ua ma : Nat → Nat) (L : Nat) (xs : Nat → Int32) (i j : Nat) (T : Nat) (b r sw st fa sc fi mi : Nat → Int32) (lf hi : Nat → Bool) (n : Nat) (sw2 st2 fa2 sc2 fi2 mi2 : Nat → Int32) (lf2 hi2 : Nat → Bool) (n2 : Nat) (th : Int32) (K : Nat → Int32) (ov : Nat → Int64)  (hW : LX p l s m args c G A cI cZ cJ b0 L xs) (hI : iv j T n b r st fa mi) (hi0 : i = 4 * j) (hiL : i + 4 ≤ L) (hb : xs (i + 1) < nI 1 ∨ nI 50 < xs (i + 1)) (ih : LPj p l e s m args below meth c G A Q cI cZ cJ b0 h o ta sa ua ma (j + 1)) : LZ p l e s m args below meth c G A Q cI cZ cJ b0 h o ta sa ua ma (30 + 7 * j) (211 + 66 * j) i 1212 T b r sw st fa sc fi mi lf hi n sw2 st2 fa2 sc2 fi2 mi2 lf2 hi2 n2 th K ov := by
  obtain ⟨hC, hl, hz, hX, hb0, hbA, hL⟩ := hW
  have hj : j ≤ 511 := by omega
  obtain ⟨hn, hT0, hst, hfa0, hmi0, hb9, hr9⟩ := id hI
  have hT : T < 2 ^ 29 := by omega
  have hfa : ∀ g : Nat, inN (fa g) (2 ^ 28) := fun g => inN_mono (hfa0 g) (by omega)
  have hmi : ∀ g : Nat, inN (mi g) (2 ^ 30) := fun g => inN_mono (hmi0 g) (by omega)
  have ham : ∀ (g zt : Nat), inN (amF b r zt g) 1000 := fun g zt => am_in hb9 hr9 zt g
  unfold LZ
  refine z_aload_n (n := 1213) hC dL_law_1212 rfl 1 rfl rfl ?_
  refine z_aload_n (n := 1214) hC dL_law_1213 rfl 0 rfl rfl ?_
  refine z_iload (n := 1216) hC dL_law_1214 4 rfl rfl ?_
  refine z_iconst (v := nI 1) (n := 1217) hC dL_law_1216 (by decide) rfl ?_
  refine z_iadd (v := nI (i + 1)) (n := 1218) hC dL_law_1217 (nI_add i 1) rfl ?_
  refine z_sld (v := xs (i + 1)) (n := 1219) hC hX hb0 hbA hL (i + 1) rfl (by omega) rfl dL_law_1218 rfl ?_
  refine z_aload_n (n := 1220) hC dL_law_1219 rfl 3 rfl rfl ?_
  refine z_callsiH (R := room_1) (cells := 30 + 7 * j) (slots := 211 + 66 * j) (ws := (wH h ta sa ua T) ++ (wT ta cI b r) ++ (wS sa cI cZ sw st fa sc fi mi lf hi n) ++ (wS ua cI cZ sw2 st2 fa2 sc2 fi2 mi2 lf2 hi2 n2) ++ (wN ma cI th n sw st b r T sc fi mi fa K) ++ (wO o cJ ov)) (n := 1223) (As := [.ref h, .int (xs (i + 1)), .ref o]) (rest := []) hC hz (kx_L_leaderIn_x l G cI cZ cJ h ta sa ua T b r sw st fa sc fi mi lf hi n sw2 st2 fa2 sc2 fi2 mi2 lf2 hi2 n2 o ov (xs (i + 1)) hl (by omega) (by omega) hb) kg_L_159 kd_yL_leaderIn dL_law_1220 ⟨Nat.le_of_ble_eq_true rfl, Nat.le_of_ble_eq_true rfl⟩ [0, 1, 2, 3, 4, 5, 6, 7, 8, 9, 10, 11, 12, 13, 14, 15, 16, 17, 18, 19, 20, 21, 29] rfl (by decide) rfl (Nat.le_of_ble_eq_true rfl) ⟨by show _ ≤ 1080188; omega, by show _ ≤ 5855541; omega⟩ (ws2 := fun u1 => (wH h ta sa ua T) ++ (wT ta cI b r) ++ (wS sa cI cZ sw st fa sc fi mi lf hi n) ++ (wS ua cI cZ sw2 st2 fa2 sc2 fi2 mi2 lf2 hi2 n2) ++ (wN ma cI th n sw st b r T sc fi mi fa K) ++ (wO o cJ ov)) [22, 23, 24, 25, 26, 27, 28] (fun _ => rfl) (wN ma cI th n sw st b r T sc fi mi fa K) (fun _ => rfl) rfl (cv_of 30 (by decide +kernel) (fun _ => rfl)) [h, ta 0, ta 1, ta 2, sa 0, sa 1, sa 2, sa 3, sa 4, sa 5, sa 6, sa 7, sa 8, ua 0, ua 1, ua 2, ua 3, ua 4, ua 5, ua 6, ua 7, ua 8, o] (fun _ => rfl) rfl rfl rfl (fun r2 u1 h3 => ?_)
  subst h3
  refine z_istore (lv' := [(5, .int (nI 1)), (0, .ref b0), (1, .ref h), (2, .ref (ma 0)), (3, .ref o), (4, .int (nI i))]) (n := 1225) hC dL_law_1223 (by decide) rfl rfl ?_
  refine z_aload_n (n := 1226) hC dL_law_1225 rfl 3 rfl rfl ?_
  refine z_aload_n (n := 1227) hC dL_law_1226 rfl 1 rfl rfl ?_
  refine z_iload (n := 1229) hC dL_law_1227 5 rfl rfl ?_
  refine z_iconst (v := nI 1) (n := 1230) hC dL_law_1229 (by decide) rfl ?_
  refine z_iadd (v := nI (i + 1)) (n := 1231) hC dL_law_1230 (nI_add i 1) rfl ?_
  refine z_sld (v := xs (i + 1)) (n := 1232) hC hX hb0 hbA hL (i + 1) rfl (by omega) rfl dL_law_1231 rfl ?_
  refine z_calli (R := room_1) (cells := 30 + 7 * j + 1) (slots := 211 + 66 * j + 6) (ws := (wH h ta sa ua T) ++ (wT ta cI b r) ++ (wS sa cI cZ sw st fa sc fi mi lf hi n) ++ (wS ua cI cZ sw2 st2 fa2 sc2 fi2 mi2 lf2 hi2 n2) ++ (wN ma cI th n sw st b r T sc fi mi fa K) ++ (wO o cJ ov)) (n := 1235) (As := [.int (xs (i + 1))]) (rest := []) hC (k_X3_leaderIn_x l G cI cZ cJ ma th n sw st b r T sc fi mi fa K (xs (i + 1)) (by omega) (by omega) hb) kg_L_161 kd_yX3_leaderIn dL_law_1232 ⟨Nat.le_of_ble_eq_true rfl, Nat.le_of_ble_eq_true rfl⟩ 0 rfl rfl rfl [22, 23, 24, 25, 26, 27, 28] rfl (by decide) rfl (Nat.le_of_ble_eq_true rfl) ⟨by show _ ≤ 1080188; omega, by show _ ≤ 5855541; omega⟩ (ws2 := fun u4 => (wH h ta sa ua T) ++ (wT ta cI b r) ++ (wS sa cI cZ sw st fa sc fi mi lf hi n) ++ (wS ua cI cZ sw2 st2 fa2 sc2 fi2 mi2 lf2 hi2 n2) ++ (wN ma cI (nI 1) n sw st b r T sc fi mi fa K) ++ (wO o cJ ov)) [0, 1, 2, 3, 4, 5, 6, 7, 8, 9, 10, 11, 12, 13, 14, 15, 16, 17, 18, 19, 20, 21, 29] (fun _ => rfl) ((wH h ta sa ua T) ++ (wT ta cI b r) ++ (wS sa cI cZ sw st fa sc fi mi lf hi n) ++ (wS ua cI cZ sw2 st2 fa2 sc2 fi2 mi2 lf2 hi2 n2) ++ (wO o cJ ov)) (fun _ => rfl) rfl (cv_of 30 (by decide +kernel) (fun _ => rfl)) [ma 0, ma 1, ma 2, ma 3, ma 4, ma 5, ma 6] (fun _ => rfl) rfl rfl rfl (fun r5 u4 h6 => ?_)
  subst h6
  refine z_istore (lv' := [(6, .int (nI 0)), (5, .int (nI 1)), (0, .ref b0), (1, .ref h), (2, .ref (ma 0)), (3, .ref o), (4, .int (nI i))]) (n := 1237) hC dL_law_1235 (by decide) rfl rfl ?_
  refine z_aload_n (n := 1238) hC dL_law_1237 rfl 4 rfl rfl ?_
  refine z_calli (R := room_1) (cells := 30 + 7 * j + 1) (slots := 211 + 66 * j + 6) (ws := (wH h ta sa ua T) ++ (wT ta cI b r) ++ (wS sa cI cZ sw st fa sc fi mi lf hi n) ++ (wS ua cI cZ sw2 st2 fa2 sc2 fi2 mi2 lf2 hi2 n2) ++ (wN ma cI (nI 1) n sw st b r T sc fi mi fa K) ++ (wO o cJ ov)) (n := 1241) (As := []) (rest := []) hC (k_X3_thrown l G cI cZ cJ ma (nI 1) n sw st b r T sc fi mi fa K (by omega) (by omega)) kg_L_89 kd_yX3_thrown dL_law_1238 ⟨Nat.le_of_ble_eq_true rfl, Nat.le_of_ble_eq_true rfl⟩ 0 rfl rfl rfl [22, 23, 24, 25, 26, 27, 28] rfl (by decide) rfl (Nat.le_of_ble_eq_true rfl) ⟨by show _ ≤ 1080188; omega, by show _ ≤ 5855541; omega⟩ (ws2 := fun u7 => (wH h ta sa ua T) ++ (wT ta cI b r) ++ (wS sa cI cZ sw st fa sc fi mi lf hi n) ++ (wS ua cI cZ sw2 st2 fa2 sc2 fi2 mi2 lf2 hi2 n2) ++ (wN ma cI (nI 1) n sw st b r T sc fi mi fa K) ++ (wO o cJ ov)) [0, 1, 2, 3, 4, 5, 6, 7, 8, 9, 10, 11, 12, 13, 14, 15, 16, 17, 18, 19, 20, 21, 29] (fun _ => rfl) ((wH h ta sa ua T) ++ (wT ta cI b r) ++ (wS sa cI cZ sw st fa sc fi mi lf hi n) ++ (wS ua cI cZ sw2 st2 fa2 sc2 fi2 mi2 lf2 hi2 n2) ++ (wO o cJ ov)) (fun _ => rfl) rfl (cv_of 30 (by decide +kernel) (fun _ => rfl)) [ma 0, ma 1, ma 2, ma 3, ma 4, ma 5, ma 6] (fun _ => rfl) rfl rfl rfl (fun r8 u7 h9 => ?_)
  subst h9
  refine z_iload (n := 1243) hC dL_law_1241 1 rfl rfl ?_
  refine z_icmp_eq_n (tgt := 1248) (n := 1246) hC 1 1 rfl rfl (by omega) (by omega) dL_law_1243 (by decide) rfl (fun c10 => ?_) (fun c10 => absurd rfl c10)
  refine z_iload (n := 1250) hC dL_law_1248 1 rfl rfl ?_
  refine z_if_ne (tgt := 1265) (n := 1253) hC dL_law_1250 (by decide) rfl (fun c11 => ?_) (fun c11 => absurd c11 (by decide))
  refine z_goto (n := 1448) hC dL_law_1265 (by decide) ?_
  refine z_iinc (k0 := 6) (v := nI (i + 4)) (lv' := [(4, .int (nI (i + 4))), (6, .int (nI 0)), (5, .int (nI 1)), (0, .ref b0), (1, .ref h), (2, .ref (ma 0)), (3, .ref o)]) (n := 1451) hC dL_law_1448 rfl (nI_add i 4) (by decide) rfl rfl ?_
  refine z_goto (n := 23) hC dL_law_1451 (by decide) ?_
  refine z_lv [3, 4, 5, 6, 0] (lv' := [(0, .ref b0), (1, .ref h), (2, .ref (ma 0)), (3, .ref o), (4, .int (nI (i + 4)))]) rfl ?_
  refine z_wid (k1 := 30 + 7 * (j + 1)) (k2 := 211 + 66 * (j + 1)) (by omega) (by omega) ?_
  exact ih (i + 4) T b r sw st fa sc fi mi lf hi n sw2 st2 fa2 sc2 fi2 mi2 lf2 hi2 n2 (nI 1) K ov (by omega) (iv_same hI)

set_option maxRecDepth 100000 in
set_option maxHeartbeats 4000000 in
theorem c_wouldWin (p : Program) (l : Launch) (e : Env) (s : State) (m : MethodId) (args : Array Value) (below : List Frame) (meth : Method) (c : Code) (G : va_G) (A : Nat → Prop) (Q : State → Prop) (cI cZ cJ : ClassId) (b0 h o : Nat) (ta sa ua ma : Nat → Nat) (L : Nat) (xs : Nat → Int32) (i j : Nat) (T : Nat) (b r sw st fa sc fi mi : Nat → Int32) (lf hi : Nat → Bool) (n : Nat) (sw2 st2 fa2 sc2 fi2 mi2 : Nat → Int32) (lf2 hi2 : Nat → Bool) (n2 : Nat) (th : Int32) (K : Nat → Int32) (ov : Nat → Int64)  (hW : LX p l s m args c G A cI cZ cJ b0 L xs) (hI : iv j T n b r st fa mi) (hi0 : i = 4 * j) (hiL : i + 4 ≤ L) (hn0 : 0 < n) (ih : LPj p l e s m args below meth c G A Q cI cZ cJ b0 h o ta sa ua ma (j + 1)) : LZ p l e s m args below meth c G A Q cI cZ cJ b0 h o ta sa ua ma (30 + 7 * j) (211 + 66 * j) i 1268 T b r sw st fa sc fi mi lf hi n sw2 st2 fa2 sc2 fi2 mi2 lf2 hi2 n2 th K ov := by
  obtain ⟨hC, hl, hz, hX, hb0, hbA, hL⟩ := hW
  have hj : j ≤ 511 := by omega
  obtain ⟨hn, hT0, hst, hfa0, hmi0, hb9, hr9⟩ := id hI
  have hT : T < 2 ^ 29 := by omega
  have hfa : ∀ g : Nat, inN (fa g) (2 ^ 28) := fun g => inN_mono (hfa0 g) (by omega)
  have hmi : ∀ g : Nat, inN (mi g) (2 ^ 30) := fun g => inN_mono (hmi0 g) (by omega)
  have ham : ∀ (g zt : Nat), inN (amF b r zt g) 1000 := fun g zt => am_in hb9 hr9 zt g
  unfold LZ
  refine z_aload_n (n := 1269) hC dL_law_1268 rfl 1 rfl rfl ?_
  refine z_calli (R := room_1) (cells := 30 + 7 * j) (slots := 211 + 66 * j) (ws := (wH h ta sa ua T) ++ (wT ta cI b r) ++ (wS sa cI cZ sw st fa sc fi mi lf hi n) ++ (wS ua cI cZ sw2 st2 fa2 sc2 fi2 mi2 lf2 hi2 n2) ++ (wN ma cI th n sw st b r T sc fi mi fa K) ++ (wO o cJ ov)) (n := 1272) (As := []) (rest := []) hC (k_X2_wouldWin_a l G cI cZ cJ h ta sa ua T b r sw st fa sc fi mi lf hi n sw2 st2 fa2 sc2 fi2 mi2 lf2 hi2 n2 (by omega) (by omega)) kg_L_162 kd_yX2_wouldWin dL_law_1269 ⟨Nat.le_of_ble_eq_true rfl, Nat.le_of_ble_eq_true rfl⟩ 0 rfl rfl rfl [0, 1, 2, 3, 4, 5, 6, 7, 8, 9, 10, 11, 12, 13, 14, 15, 16, 17, 18, 19, 20, 21] rfl (by decide) rfl (Nat.le_of_ble_eq_true rfl) ⟨by show _ ≤ 1080188; omega, by show _ ≤ 5855541; omega⟩ (ws2 := fun u1 => (wH h ta sa ua T) ++ (wT ta cI b r) ++ (wS sa cI cZ sw st fa sc fi mi lf hi n) ++ (wS ua cI cZ u1.1 u1.2.1 u1.2.2.1 u1.2.2.2.1 u1.2.2.2.2.1 u1.2.2.2.2.2.1 u1.2.2.2.2.2.2.1 u1.2.2.2.2.2.2.2 n) ++ (wN ma cI th n sw st b r T sc fi mi fa K) ++ (wO o cJ ov)) [22, 23, 24, 25, 26, 27, 28, 29] (fun _ => rfl) ((wN ma cI th n sw st b r T sc fi mi fa K) ++ (wO o cJ ov)) (fun _ => rfl) rfl (cv_of 30 (by decide +kernel) (fun _ => rfl)) [h, ta 0, ta 1, ta 2, sa 0, sa 1, sa 2, sa 3, sa 4, sa 5, sa 6, sa 7, sa 8, ua 0, ua 1, ua 2, ua 3, ua 4, ua 5, ua 6, ua 7, ua 8] (fun _ => rfl) rfl rfl rfl (fun r2 u1 h3 => ?_)
  subst h3
  refine z_aload_n (n := 1273) hC dL_law_1272 rfl 2 rfl rfl ?_
  refine z_calli (R := room_1) (cells := 30 + 7 * j) (slots := 211 + 66 * j) (ws := (wH h ta sa ua T) ++ (wT ta cI b r) ++ (wS sa cI cZ sw st fa sc fi mi lf hi n) ++ (wS ua cI cZ u1.1 u1.2.1 u1.2.2.1 u1.2.2.2.1 u1.2.2.2.2.1 u1.2.2.2.2.2.1 u1.2.2.2.2.2.2.1 u1.2.2.2.2.2.2.2 n) ++ (wN ma cI th n sw st b r T sc fi mi fa K) ++ (wO o cJ ov)) (n := 1276) (As := []) (rest := [.int (wwF sw st sc fa n)]) hC (k_X3_wouldWin l G cI cZ cJ ma th n sw st b r T sc fi mi fa K (by omega) (by omega) hn0 hst) kg_L_165 kd_yX3_wouldWin dL_law_1273 ⟨Nat.le_of_ble_eq_true rfl, Nat.le_of_ble_eq_true rfl⟩ 0 rfl rfl rfl [22, 23, 24, 25, 26, 27, 28] rfl (by decide) rfl (Nat.le_of_ble_eq_true rfl) ⟨by show _ ≤ 1080188; omega, by show _ ≤ 5855541; omega⟩ (ws2 := fun u4 => (wH h ta sa ua T) ++ (wT ta cI b r) ++ (wS sa cI cZ sw st fa sc fi mi lf hi n) ++ (wS ua cI cZ u1.1 u1.2.1 u1.2.2.1 u1.2.2.2.1 u1.2.2.2.2.1 u1.2.2.2.2.2.1 u1.2.2.2.2.2.2.1 u1.2.2.2.2.2.2.2 n) ++ (wN ma cI (nI 0) n sw st b r T sc fi mi fa (va_cpy (nowF T sc fi mi fa) K 0 0 25)) ++ (wO o cJ ov)) [0, 1, 2, 3, 4, 5, 6, 7, 8, 9, 10, 11, 12, 13, 14, 15, 16, 17, 18, 19, 20, 21, 29] (fun _ => rfl) ((wH h ta sa ua T) ++ (wT ta cI b r) ++ (wS sa cI cZ sw st fa sc fi mi lf hi n) ++ (wS ua cI cZ u1.1 u1.2.1 u1.2.2.1 u1.2.2.2.1 u1.2.2.2.2.1 u1.2.2.2.2.2.1 u1.2.2.2.2.2.2.1 u1.2.2.2.2.2.2.2 n) ++ (wO o cJ ov)) (fun _ => rfl) rfl (cv_of 30 (by decide +kernel) (fun _ => rfl)) [ma 0, ma 1, ma 2, ma 3, ma 4, ma 5, ma 6] (fun _ => rfl) rfl rfl rfl (fun r5 u4 h6 => ?_)
  subst h6
  refine z_icmp_eq (tgt := 1448) (n := 1279) hC dL_law_1276 (by decide) rfl (fun c7 => ?_) (fun c7 => absurd rfl c7)
  refine z_iinc (k0 := 4) (v := nI (i + 4)) (lv' := [(4, .int (nI (i + 4))), (0, .ref b0), (1, .ref h), (2, .ref (ma 0)), (3, .ref o)]) (n := 1451) hC dL_law_1448 rfl (nI_add i 4) (by decide) rfl rfl ?_
  refine z_goto (n := 23) hC dL_law_1451 (by decide) ?_
  refine z_lv [1, 2, 3, 4, 0] (lv' := [(0, .ref b0), (1, .ref h), (2, .ref (ma 0)), (3, .ref o), (4, .int (nI (i + 4)))]) rfl ?_
  refine z_wid (k1 := 30 + 7 * (j + 1)) (k2 := 211 + 66 * (j + 1)) (by omega) (by omega) ?_
  exact ih (i + 4) T b r sw st fa sc fi mi lf hi n u1.1 u1.2.1 u1.2.2.1 u1.2.2.2.1 u1.2.2.2.2.1 u1.2.2.2.2.2.1 u1.2.2.2.2.2.2.1 u1.2.2.2.2.2.2.2 n (nI 0) (va_cpy (nowF T sc fi mi fa) K 0 0 25) ov (by omega) (iv_same hI)

set_option maxRecDepth 100000 in
set_option maxHeartbeats 4000000 in
theorem c_wouldWin_0 (p : Program) (l : Launch) (e : Env) (s : State) (m : MethodId) (args : Array Value) (below : List Frame) (meth : Method) (c : Code) (G : va_G) (A : Nat → Prop) (Q : State → Prop) (cI cZ cJ : ClassId) (b0 h o : Nat) (ta sa ua ma : Nat → Nat) (L : Nat) (xs : Nat → Int32) (i j : Nat) (T : Nat) (b r sw st fa sc fi mi : Nat → Int32) (lf hi : Nat → Bool) (n : Nat) (sw2 st2 fa2 sc2 fi2 mi2 : Nat → Int32) (lf2 hi2 : Nat → Bool) (n2 : Nat) (th : Int32) (K : Nat → Int32) (ov : Nat → Int64)  (hW : LX p l s m args c G A cI cZ cJ b0 L xs) (hI : iv j T n b r st fa mi) (hi0 : i = 4 * j) (hiL : i + 4 ≤ L) (hn0 : n = 0) (ih : LPj p l e s m args below meth c G A Q cI cZ cJ b0 h o ta sa ua ma (j + 1)) : LZ p l e s m args below meth c G A Q cI cZ cJ b0 h o ta sa ua ma (30 + 7 * j) (211 + 66 * j) i 1268 T b r sw st fa sc fi mi lf hi n sw2 st2 fa2 sc2 fi2 mi2 lf2 hi2 n2 th K ov := by
  obtain ⟨hC, hl, hz, hX, hb0, hbA, hL⟩ := hW
  have hj : j ≤ 511 := by omega
  obtain ⟨hn, hT0, hst, hfa0, hmi0, hb9, hr9⟩ := id hI
  have hT : T < 2 ^ 29 := by omega
  have hfa : ∀ g : Nat, inN (fa g) (2 ^ 28) := fun g => inN_mono (hfa0 g) (by omega)
  have hmi : ∀ g : Nat, inN (mi g) (2 ^ 30) := fun g => inN_mono (hmi0 g) (by omega)
  have ham : ∀ (g zt : Nat), inN (amF b r zt g) 1000 := fun g zt => am_in hb9 hr9 zt g
  unfold LZ
  refine z_aload_n (n := 1269) hC dL_law_1268 rfl 1 rfl rfl ?_
  refine z_calli (R := room_1) (cells := 30 + 7 * j) (slots := 211 + 66 * j) (ws := (wH h ta sa ua T) ++ (wT ta cI b r) ++ (wS sa cI cZ sw st fa sc fi mi lf hi n) ++ (wS ua cI cZ sw2 st2 fa2 sc2 fi2 mi2 lf2 hi2 n2) ++ (wN ma cI th n sw st b r T sc fi mi fa K) ++ (wO o cJ ov)) (n := 1272) (As := []) (rest := []) hC (k_X2_wouldWin_a l G cI cZ cJ h ta sa ua T b r sw st fa sc fi mi lf hi n sw2 st2 fa2 sc2 fi2 mi2 lf2 hi2 n2 (by omega) (by omega)) kg_L_162 kd_yX2_wouldWin dL_law_1269 ⟨Nat.le_of_ble_eq_true rfl, Nat.le_of_ble_eq_true rfl⟩ 0 rfl rfl rfl [0, 1, 2, 3, 4, 5, 6, 7, 8, 9, 10, 11, 12, 13, 14, 15, 16, 17, 18, 19, 20, 21] rfl (by decide) rfl (Nat.le_of_ble_eq_true rfl) ⟨by show _ ≤ 1080188; omega, by show _ ≤ 5855541; omega⟩ (ws2 := fun u1 => (wH h ta sa ua T) ++ (wT ta cI b r) ++ (wS sa cI cZ sw st fa sc fi mi lf hi n) ++ (wS ua cI cZ u1.1 u1.2.1 u1.2.2.1 u1.2.2.2.1 u1.2.2.2.2.1 u1.2.2.2.2.2.1 u1.2.2.2.2.2.2.1 u1.2.2.2.2.2.2.2 n) ++ (wN ma cI th n sw st b r T sc fi mi fa K) ++ (wO o cJ ov)) [22, 23, 24, 25, 26, 27, 28, 29] (fun _ => rfl) ((wN ma cI th n sw st b r T sc fi mi fa K) ++ (wO o cJ ov)) (fun _ => rfl) rfl (cv_of 30 (by decide +kernel) (fun _ => rfl)) [h, ta 0, ta 1, ta 2, sa 0, sa 1, sa 2, sa 3, sa 4, sa 5, sa 6, sa 7, sa 8, ua 0, ua 1, ua 2, ua 3, ua 4, ua 5, ua 6, ua 7, ua 8] (fun _ => rfl) rfl rfl rfl (fun r2 u1 h3 => ?_)
  subst h3
  refine z_aload_n (n := 1273) hC dL_law_1272 rfl 2 rfl rfl ?_
  refine z_calli (R := room_1) (cells := 30 + 7 * j) (slots := 211 + 66 * j) (ws := (wH h ta sa ua T) ++ (wT ta cI b r) ++ (wS sa cI cZ sw st fa sc fi mi lf hi n) ++ (wS ua cI cZ u1.1 u1.2.1 u1.2.2.1 u1.2.2.2.1 u1.2.2.2.2.1 u1.2.2.2.2.2.1 u1.2.2.2.2.2.2.1 u1.2.2.2.2.2.2.2 n) ++ (wN ma cI th n sw st b r T sc fi mi fa K) ++ (wO o cJ ov)) (n := 1276) (As := []) (rest := [.int (wwF sw st sc fa n)]) hC (k_X3_wouldWin_0 l G cI cZ cJ ma th n sw st b r T sc fi mi fa K (by omega) (by omega) hn0) kg_L_165 kd_yX3_wouldWin dL_law_1273 ⟨Nat.le_of_ble_eq_true rfl, Nat.le_of_ble_eq_true rfl⟩ 0 rfl rfl rfl [22, 23, 24, 25, 26, 27, 28] rfl (by decide) rfl (Nat.le_of_ble_eq_true rfl) ⟨by show _ ≤ 1080188; omega, by show _ ≤ 5855541; omega⟩ (ws2 := fun u4 => (wH h ta sa ua T) ++ (wT ta cI b r) ++ (wS sa cI cZ sw st fa sc fi mi lf hi n) ++ (wS ua cI cZ u1.1 u1.2.1 u1.2.2.1 u1.2.2.2.1 u1.2.2.2.2.1 u1.2.2.2.2.2.1 u1.2.2.2.2.2.2.1 u1.2.2.2.2.2.2.2 n) ++ (wN ma cI (nI 0) n sw st b r T sc fi mi fa K) ++ (wO o cJ ov)) [0, 1, 2, 3, 4, 5, 6, 7, 8, 9, 10, 11, 12, 13, 14, 15, 16, 17, 18, 19, 20, 21, 29] (fun _ => rfl) ((wH h ta sa ua T) ++ (wT ta cI b r) ++ (wS sa cI cZ sw st fa sc fi mi lf hi n) ++ (wS ua cI cZ u1.1 u1.2.1 u1.2.2.1 u1.2.2.2.1 u1.2.2.2.2.1 u1.2.2.2.2.2.1 u1.2.2.2.2.2.2.1 u1.2.2.2.2.2.2.2 n) ++ (wO o cJ ov)) (fun _ => rfl) rfl (cv_of 30 (by decide +kernel) (fun _ => rfl)) [ma 0, ma 1, ma 2, ma 3, ma 4, ma 5, ma 6] (fun _ => rfl) rfl rfl rfl (fun r5 u4 h6 => ?_)
  subst h6
  refine z_icmp_eq (tgt := 1448) (n := 1279) hC dL_law_1276 (by decide) rfl (fun c7 => ?_) (fun c7 => absurd rfl c7)
  refine z_iinc (k0 := 4) (v := nI (i + 4)) (lv' := [(4, .int (nI (i + 4))), (0, .ref b0), (1, .ref h), (2, .ref (ma 0)), (3, .ref o)]) (n := 1451) hC dL_law_1448 rfl (nI_add i 4) (by decide) rfl rfl ?_
  refine z_goto (n := 23) hC dL_law_1451 (by decide) ?_
  refine z_lv [1, 2, 3, 4, 0] (lv' := [(0, .ref b0), (1, .ref h), (2, .ref (ma 0)), (3, .ref o), (4, .int (nI (i + 4)))]) rfl ?_
  refine z_wid (k1 := 30 + 7 * (j + 1)) (k2 := 211 + 66 * (j + 1)) (by omega) (by omega) ?_
  exact ih (i + 4) T b r sw st fa sc fi mi lf hi n u1.1 u1.2.1 u1.2.2.1 u1.2.2.2.1 u1.2.2.2.2.1 u1.2.2.2.2.2.1 u1.2.2.2.2.2.2.1 u1.2.2.2.2.2.2.2 n (nI 0) K ov (by omega) (iv_same hI)

set_option maxRecDepth 100000 in
set_option maxHeartbeats 4000000 in
theorem c_meanScore (p : Program) (l : Launch) (e : Env) (s : State) (m : MethodId) (args : Array Value) (below : List Frame) (meth : Method) (c : Code) (G : va_G) (A : Nat → Prop) (Q : State → Prop) (cI cZ cJ : ClassId) (b0 h o : Nat) (ta sa ua ma : Nat → Nat) (L : Nat) (xs : Nat → Int32) (i j : Nat) (T : Nat) (b r sw st fa sc fi mi : Nat → Int32) (lf hi : Nat → Bool) (n : Nat) (sw2 st2 fa2 sc2 fi2 mi2 : Nat → Int32) (lf2 hi2 : Nat → Bool) (n2 : Nat) (th : Int32) (K : Nat → Int32) (ov : Nat → Int64)  (hW : LX p l s m args c G A cI cZ cJ b0 L xs) (hI : iv j T n b r st fa mi) (hi0 : i = 4 * j) (hiL : i + 4 ≤ L) (hn0 : 0 < n) (ih : LPj p l e s m args below meth c G A Q cI cZ cJ b0 h o ta sa ua ma (j + 1)) : LZ p l e s m args below meth c G A Q cI cZ cJ b0 h o ta sa ua ma (30 + 7 * j) (211 + 66 * j) i 1393 T b r sw st fa sc fi mi lf hi n sw2 st2 fa2 sc2 fi2 mi2 lf2 hi2 n2 th K ov := by
  obtain ⟨hC, hl, hz, hX, hb0, hbA, hL⟩ := hW
  have hj : j ≤ 511 := by omega
  obtain ⟨hn, hT0, hst, hfa0, hmi0, hb9, hr9⟩ := id hI
  have hT : T < 2 ^ 29 := by omega
  have hfa : ∀ g : Nat, inN (fa g) (2 ^ 28) := fun g => inN_mono (hfa0 g) (by omega)
  have hmi : ∀ g : Nat, inN (mi g) (2 ^ 30) := fun g => inN_mono (hmi0 g) (by omega)
  have ham : ∀ (g zt : Nat), inN (amF b r zt g) 1000 := fun g zt => am_in hb9 hr9 zt g
  unfold LZ
  refine z_aload_n (n := 1394) hC dL_law_1393 rfl 1 rfl rfl ?_
  refine z_calld (R := room_1) (cells := 30 + 7 * j) (slots := 211 + 66 * j) (ws := (wH h ta sa ua T) ++ (wT ta cI b r) ++ (wS sa cI cZ sw st fa sc fi mi lf hi n) ++ (wS ua cI cZ sw2 st2 fa2 sc2 fi2 mi2 lf2 hi2 n2) ++ (wN ma cI th n sw st b r T sc fi mi fa K) ++ (wO o cJ ov)) (n := 1397) (As := []) (rest := []) hC (k_X2_meanScore l G cI cZ cJ h ta sa ua T b r sw st fa sc fi mi lf hi n sw2 st2 fa2 sc2 fi2 mi2 lf2 hi2 n2 (by omega) (by omega) hn0) kg_L_172 kd_yX2_meanScore dL_law_1394 ⟨Nat.le_of_ble_eq_true rfl, Nat.le_of_ble_eq_true rfl⟩ 0 rfl rfl rfl [0, 1, 2, 3, 4, 5, 6, 7, 8, 9, 10, 11, 12, 13, 14, 15, 16, 17, 18, 19, 20, 21] rfl (by decide) rfl (Nat.le_of_ble_eq_true rfl) ⟨by show _ ≤ 1080188; omega, by show _ ≤ 5855541; omega⟩ (ws2 := fun u1 => (wH h ta sa ua T) ++ (wT ta cI b r) ++ (wS sa cI cZ sw st fa sc fi mi lf hi n) ++ (wS ua cI cZ sw2 st2 fa2 sc2 fi2 mi2 lf2 hi2 n2) ++ (wN ma cI th n sw st b r T sc fi mi fa K) ++ (wO o cJ ov)) [22, 23, 24, 25, 26, 27, 28, 29] (fun _ => rfl) ((wN ma cI th n sw st b r T sc fi mi fa K) ++ (wO o cJ ov)) (fun _ => rfl) rfl (cv_of 30 (by decide +kernel) (fun _ => rfl)) [h, ta 0, ta 1, ta 2, sa 0, sa 1, sa 2, sa 3, sa 4, sa 5, sa 6, sa 7, sa 8, ua 0, ua 1, ua 2, ua 3, ua 4, ua 5, ua 6, ua 7, ua 8] (fun _ => rfl) rfl rfl rfl (fun r2 u1 h3 => ?_)
  subst h3
  refine z_dstore (lv' := [(5, .double (meF sc n)), (0, .ref b0), (1, .ref h), (2, .ref (ma 0)), (3, .ref o), (4, .int (nI i))]) (n := 1399) hC dL_law_1397 (by decide) rfl rfl ?_
  refine z_aload_n (n := 1400) hC dL_law_1399 rfl 3 rfl rfl ?_
  refine z_calld (R := room_1) (cells := 30 + 7 * j) (slots := 211 + 66 * j) (ws := (wH h ta sa ua T) ++ (wT ta cI b r) ++ (wS sa cI cZ sw st fa sc fi mi lf hi n) ++ (wS ua cI cZ sw2 st2 fa2 sc2 fi2 mi2 lf2 hi2 n2) ++ (wN ma cI th n sw st b r T sc fi mi fa K) ++ (wO o cJ ov)) (n := 1403) (As := []) (rest := []) hC (k_X3_meanScore l G cI cZ cJ ma th n sw st b r T sc fi mi fa K (by omega) (by omega) hn0) kg_L_176 kd_yX3_meanScore dL_law_1400 ⟨Nat.le_of_ble_eq_true rfl, Nat.le_of_ble_eq_true rfl⟩ 0 rfl rfl rfl [22, 23, 24, 25, 26, 27, 28] rfl (by decide) rfl (Nat.le_of_ble_eq_true rfl) ⟨by show _ ≤ 1080188; omega, by show _ ≤ 5855541; omega⟩ (ws2 := fun u4 => (wH h ta sa ua T) ++ (wT ta cI b r) ++ (wS sa cI cZ sw st fa sc fi mi lf hi n) ++ (wS ua cI cZ sw2 st2 fa2 sc2 fi2 mi2 lf2 hi2 n2) ++ (wN ma cI (nI 0) n sw st b r T sc fi mi fa K) ++ (wO o cJ ov)) [0, 1, 2, 3, 4, 5, 6, 7, 8, 9, 10, 11, 12, 13, 14, 15, 16, 17, 18, 19, 20, 21, 29] (fun _ => rfl) ((wH h ta sa ua T) ++ (wT ta cI b r) ++ (wS sa cI cZ sw st fa sc fi mi lf hi n) ++ (wS ua cI cZ sw2 st2 fa2 sc2 fi2 mi2 lf2 hi2 n2) ++ (wO o cJ ov)) (fun _ => rfl) rfl (cv_of 30 (by decide +kernel) (fun _ => rfl)) [ma 0, ma 1, ma 2, ma 3, ma 4, ma 5, ma 6] (fun _ => rfl) rfl rfl rfl (fun r5 u4 h6 => ?_)
  subst h6
  refine z_dstore (lv' := [(7, .double (meF sc n)), (5, .double (meF sc n)), (0, .ref b0), (1, .ref h), (2, .ref (ma 0)), (3, .ref o), (4, .int (nI i))]) (n := 1405) hC dL_law_1403 (by decide) rfl rfl ?_
  refine z_dload (n := 1407) hC dL_law_1405 1 rfl rfl ?_
  refine z_dload (n := 1409) hC dL_law_1407 0 rfl rfl ?_
  refine z_dcmp (n := 1410) hC dL_law_1409 rfl ?_
  refine z_if_eq (tgt := 1431) (n := 1413) hC dL_law_1410 (by decide) rfl (fun c7 => ?_) (fun c7 => ?_)
  · refine z_goto (n := 1448) hC dL_law_1431 (by decide) ?_
    refine z_iinc (k0 := 6) (v := nI (i + 4)) (lv' := [(4, .int (nI (i + 4))), (7, .double (meF sc n)), (5, .double (meF sc n)), (0, .ref b0), (1, .ref h), (2, .ref (ma 0)), (3, .ref o)]) (n := 1451) hC dL_law_1448 rfl (nI_add i 4) (by decide) rfl rfl ?_
    refine z_goto (n := 23) hC dL_law_1451 (by decide) ?_
    refine z_lv [3, 4, 5, 6, 0] (lv' := [(0, .ref b0), (1, .ref h), (2, .ref (ma 0)), (3, .ref o), (4, .int (nI (i + 4)))]) rfl ?_
    refine z_wid (k1 := 30 + 7 * (j + 1)) (k2 := 211 + 66 * (j + 1)) (by omega) (by omega) ?_
    exact ih (i + 4) T b r sw st fa sc fi mi lf hi n sw2 st2 fa2 sc2 fi2 mi2 lf2 hi2 n2 (nI 0) K ov (by omega) (iv_same hI)
  · refine z_dload (n := 1415) hC dL_law_1413 1 rfl rfl ?_
    refine z_dload (n := 1417) hC dL_law_1415 1 rfl rfl ?_
    refine z_dcmp (n := 1418) hC dL_law_1417 rfl ?_
    refine z_if_eq (tgt := 1429) (n := 1421) hC dL_law_1418 (by decide) rfl (fun c8 => absurd c8 c7) (fun c8 => ?_)
    refine z_dload (n := 1423) hC dL_law_1421 0 rfl rfl ?_
    refine z_dload (n := 1425) hC dL_law_1423 0 rfl rfl ?_
    refine z_dcmp (n := 1426) hC dL_law_1425 rfl ?_
    refine z_if_ne (tgt := 1431) (n := 1429) hC dL_law_1426 (by decide) rfl (fun c9 => ?_) (fun c9 => absurd c9 c7)
    refine z_goto (n := 1448) hC dL_law_1431 (by decide) ?_
    refine z_iinc (k0 := 6) (v := nI (i + 4)) (lv' := [(4, .int (nI (i + 4))), (7, .double (meF sc n)), (5, .double (meF sc n)), (0, .ref b0), (1, .ref h), (2, .ref (ma 0)), (3, .ref o)]) (n := 1451) hC dL_law_1448 rfl (nI_add i 4) (by decide) rfl rfl ?_
    refine z_goto (n := 23) hC dL_law_1451 (by decide) ?_
    refine z_lv [3, 4, 5, 6, 0] (lv' := [(0, .ref b0), (1, .ref h), (2, .ref (ma 0)), (3, .ref o), (4, .int (nI (i + 4)))]) rfl ?_
    refine z_wid (k1 := 30 + 7 * (j + 1)) (k2 := 211 + 66 * (j + 1)) (by omega) (by omega) ?_
    exact ih (i + 4) T b r sw st fa sc fi mi lf hi n sw2 st2 fa2 sc2 fi2 mi2 lf2 hi2 n2 (nI 0) K ov (by omega) (iv_same hI)

set_option maxRecDepth 100000 in
set_option maxHeartbeats 4000000 in
theorem c_meanScore_0 (p : Program) (l : Launch) (e : Env) (s : State) (m : MethodId) (args : Array Value) (below : List Frame) (meth : Method) (c : Code) (G : va_G) (A : Nat → Prop) (Q : State → Prop) (cI cZ cJ : ClassId) (b0 h o : Nat) (ta sa ua ma : Nat → Nat) (L : Nat) (xs : Nat → Int32) (i j : Nat) (T : Nat) (b r sw st fa sc fi mi : Nat → Int32) (lf hi : Nat → Bool) (n : Nat) (sw2 st2 fa2 sc2 fi2 mi2 : Nat → Int32) (lf2 hi2 : Nat → Bool) (n2 : Nat) (th : Int32) (K : Nat → Int32) (ov : Nat → Int64)  (hW : LX p l s m args c G A cI cZ cJ b0 L xs) (hI : iv j T n b r st fa mi) (hi0 : i = 4 * j) (hiL : i + 4 ≤ L) (hn0 : n = 0) (ih : LPj p l e s m args below meth c G A Q cI cZ cJ b0 h o ta sa ua ma (j + 1)) : LZ p l e s m args below meth c G A Q cI cZ cJ b0 h o ta sa ua ma (30 + 7 * j) (211 + 66 * j) i 1393 T b r sw st fa sc fi mi lf hi n sw2 st2 fa2 sc2 fi2 mi2 lf2 hi2 n2 th K ov := by
  obtain ⟨hC, hl, hz, hX, hb0, hbA, hL⟩ := hW
  have hj : j ≤ 511 := by omega
  obtain ⟨hn, hT0, hst, hfa0, hmi0, hb9, hr9⟩ := id hI
  have hT : T < 2 ^ 29 := by omega
  have hfa : ∀ g : Nat, inN (fa g) (2 ^ 28) := fun g => inN_mono (hfa0 g) (by omega)
  have hmi : ∀ g : Nat, inN (mi g) (2 ^ 30) := fun g => inN_mono (hmi0 g) (by omega)
  have ham : ∀ (g zt : Nat), inN (amF b r zt g) 1000 := fun g zt => am_in hb9 hr9 zt g
  unfold LZ
  refine z_aload_n (n := 1394) hC dL_law_1393 rfl 1 rfl rfl ?_
  refine z_calld (R := room_1) (cells := 30 + 7 * j) (slots := 211 + 66 * j) (ws := (wH h ta sa ua T) ++ (wT ta cI b r) ++ (wS sa cI cZ sw st fa sc fi mi lf hi n) ++ (wS ua cI cZ sw2 st2 fa2 sc2 fi2 mi2 lf2 hi2 n2) ++ (wN ma cI th n sw st b r T sc fi mi fa K) ++ (wO o cJ ov)) (n := 1397) (As := []) (rest := []) hC (k_X2_meanScore_0 l G cI cZ cJ h ta sa ua T b r sw st fa sc fi mi lf hi n sw2 st2 fa2 sc2 fi2 mi2 lf2 hi2 n2 (by omega) (by omega) hn0) kg_L_172 kd_yX2_meanScore dL_law_1394 ⟨Nat.le_of_ble_eq_true rfl, Nat.le_of_ble_eq_true rfl⟩ 0 rfl rfl rfl [0, 1, 2, 3, 4, 5, 6, 7, 8, 9, 10, 11, 12, 13, 14, 15, 16, 17, 18, 19, 20, 21] rfl (by decide) rfl (Nat.le_of_ble_eq_true rfl) ⟨by show _ ≤ 1080188; omega, by show _ ≤ 5855541; omega⟩ (ws2 := fun u1 => (wH h ta sa ua T) ++ (wT ta cI b r) ++ (wS sa cI cZ sw st fa sc fi mi lf hi n) ++ (wS ua cI cZ sw2 st2 fa2 sc2 fi2 mi2 lf2 hi2 n2) ++ (wN ma cI th n sw st b r T sc fi mi fa K) ++ (wO o cJ ov)) [22, 23, 24, 25, 26, 27, 28, 29] (fun _ => rfl) ((wN ma cI th n sw st b r T sc fi mi fa K) ++ (wO o cJ ov)) (fun _ => rfl) rfl (cv_of 30 (by decide +kernel) (fun _ => rfl)) [h, ta 0, ta 1, ta 2, sa 0, sa 1, sa 2, sa 3, sa 4, sa 5, sa 6, sa 7, sa 8, ua 0, ua 1, ua 2, ua 3, ua 4, ua 5, ua 6, ua 7, ua 8] (fun _ => rfl) rfl rfl rfl (fun r2 u1 h3 => ?_)
  subst h3
  refine z_dstore (lv' := [(5, .double (meF sc n)), (0, .ref b0), (1, .ref h), (2, .ref (ma 0)), (3, .ref o), (4, .int (nI i))]) (n := 1399) hC dL_law_1397 (by decide) rfl rfl ?_
  refine z_aload_n (n := 1400) hC dL_law_1399 rfl 3 rfl rfl ?_
  refine z_calld (R := room_1) (cells := 30 + 7 * j) (slots := 211 + 66 * j) (ws := (wH h ta sa ua T) ++ (wT ta cI b r) ++ (wS sa cI cZ sw st fa sc fi mi lf hi n) ++ (wS ua cI cZ sw2 st2 fa2 sc2 fi2 mi2 lf2 hi2 n2) ++ (wN ma cI th n sw st b r T sc fi mi fa K) ++ (wO o cJ ov)) (n := 1403) (As := []) (rest := []) hC (k_X3_meanScore_0 l G cI cZ cJ ma th n sw st b r T sc fi mi fa K (by omega) (by omega) hn0) kg_L_176 kd_yX3_meanScore dL_law_1400 ⟨Nat.le_of_ble_eq_true rfl, Nat.le_of_ble_eq_true rfl⟩ 0 rfl rfl rfl [22, 23, 24, 25, 26, 27, 28] rfl (by decide) rfl (Nat.le_of_ble_eq_true rfl) ⟨by show _ ≤ 1080188; omega, by show _ ≤ 5855541; omega⟩ (ws2 := fun u4 => (wH h ta sa ua T) ++ (wT ta cI b r) ++ (wS sa cI cZ sw st fa sc fi mi lf hi n) ++ (wS ua cI cZ sw2 st2 fa2 sc2 fi2 mi2 lf2 hi2 n2) ++ (wN ma cI (nI 0) n sw st b r T sc fi mi fa K) ++ (wO o cJ ov)) [0, 1, 2, 3, 4, 5, 6, 7, 8, 9, 10, 11, 12, 13, 14, 15, 16, 17, 18, 19, 20, 21, 29] (fun _ => rfl) ((wH h ta sa ua T) ++ (wT ta cI b r) ++ (wS sa cI cZ sw st fa sc fi mi lf hi n) ++ (wS ua cI cZ sw2 st2 fa2 sc2 fi2 mi2 lf2 hi2 n2) ++ (wO o cJ ov)) (fun _ => rfl) rfl (cv_of 30 (by decide +kernel) (fun _ => rfl)) [ma 0, ma 1, ma 2, ma 3, ma 4, ma 5, ma 6] (fun _ => rfl) rfl rfl rfl (fun r5 u4 h6 => ?_)
  subst h6
  refine z_dstore (lv' := [(7, .double (meF sc n)), (5, .double (meF sc n)), (0, .ref b0), (1, .ref h), (2, .ref (ma 0)), (3, .ref o), (4, .int (nI i))]) (n := 1405) hC dL_law_1403 (by decide) rfl rfl ?_
  refine z_dload (n := 1407) hC dL_law_1405 1 rfl rfl ?_
  refine z_dload (n := 1409) hC dL_law_1407 0 rfl rfl ?_
  refine z_dcmp (n := 1410) hC dL_law_1409 rfl ?_
  refine z_if_eq (tgt := 1431) (n := 1413) hC dL_law_1410 (by decide) rfl (fun c7 => ?_) (fun c7 => ?_)
  · refine z_goto (n := 1448) hC dL_law_1431 (by decide) ?_
    refine z_iinc (k0 := 6) (v := nI (i + 4)) (lv' := [(4, .int (nI (i + 4))), (7, .double (meF sc n)), (5, .double (meF sc n)), (0, .ref b0), (1, .ref h), (2, .ref (ma 0)), (3, .ref o)]) (n := 1451) hC dL_law_1448 rfl (nI_add i 4) (by decide) rfl rfl ?_
    refine z_goto (n := 23) hC dL_law_1451 (by decide) ?_
    refine z_lv [3, 4, 5, 6, 0] (lv' := [(0, .ref b0), (1, .ref h), (2, .ref (ma 0)), (3, .ref o), (4, .int (nI (i + 4)))]) rfl ?_
    refine z_wid (k1 := 30 + 7 * (j + 1)) (k2 := 211 + 66 * (j + 1)) (by omega) (by omega) ?_
    exact ih (i + 4) T b r sw st fa sc fi mi lf hi n sw2 st2 fa2 sc2 fi2 mi2 lf2 hi2 n2 (nI 0) K ov (by omega) (iv_same hI)
  · refine z_dload (n := 1415) hC dL_law_1413 1 rfl rfl ?_
    refine z_dload (n := 1417) hC dL_law_1415 1 rfl rfl ?_
    refine z_dcmp (n := 1418) hC dL_law_1417 rfl ?_
    refine z_if_eq (tgt := 1429) (n := 1421) hC dL_law_1418 (by decide) rfl (fun c8 => absurd c8 c7) (fun c8 => ?_)
    refine z_dload (n := 1423) hC dL_law_1421 0 rfl rfl ?_
    refine z_dload (n := 1425) hC dL_law_1423 0 rfl rfl ?_
    refine z_dcmp (n := 1426) hC dL_law_1425 rfl ?_
    refine z_if_ne (tgt := 1431) (n := 1429) hC dL_law_1426 (by decide) rfl (fun c9 => ?_) (fun c9 => absurd c9 c7)
    refine z_goto (n := 1448) hC dL_law_1431 (by decide) ?_
    refine z_iinc (k0 := 6) (v := nI (i + 4)) (lv' := [(4, .int (nI (i + 4))), (7, .double (meF sc n)), (5, .double (meF sc n)), (0, .ref b0), (1, .ref h), (2, .ref (ma 0)), (3, .ref o)]) (n := 1451) hC dL_law_1448 rfl (nI_add i 4) (by decide) rfl rfl ?_
    refine z_goto (n := 23) hC dL_law_1451 (by decide) ?_
    refine z_lv [3, 4, 5, 6, 0] (lv' := [(0, .ref b0), (1, .ref h), (2, .ref (ma 0)), (3, .ref o), (4, .int (nI (i + 4)))]) rfl ?_
    refine z_wid (k1 := 30 + 7 * (j + 1)) (k2 := 211 + 66 * (j + 1)) (by omega) (by omega) ?_
    exact ih (i + 4) T b r sw st fa sc fi mi lf hi n sw2 st2 fa2 sc2 fi2 mi2 lf2 hi2 n2 (nI 0) K ov (by omega) (iv_same hI)

set_option maxRecDepth 100000 in
set_option maxHeartbeats 4000000 in
theorem c_digest (p : Program) (l : Launch) (e : Env) (s : State) (m : MethodId) (args : Array Value) (below : List Frame) (meth : Method) (c : Code) (G : va_G) (A : Nat → Prop) (Q : State → Prop) (cI cZ cJ : ClassId) (b0 h o : Nat) (ta sa ua ma : Nat → Nat) (L : Nat) (xs : Nat → Int32) (i j : Nat) (T : Nat) (b r sw st fa sc fi mi : Nat → Int32) (lf hi : Nat → Bool) (n : Nat) (sw2 st2 fa2 sc2 fi2 mi2 : Nat → Int32) (lf2 hi2 : Nat → Bool) (n2 : Nat) (th : Int32) (K : Nat → Int32) (ov : Nat → Int64)  (hW : LX p l s m args c G A cI cZ cJ b0 L xs) (hI : iv j T n b r st fa mi) (hi0 : i = 4 * j) (hiL : i + 4 ≤ L) (hn0 : 0 < n) (ih : LPj p l e s m args below meth c G A Q cI cZ cJ b0 h o ta sa ua ma (j + 1)) : LZ p l e s m args below meth c G A Q cI cZ cJ b0 h o ta sa ua ma (30 + 7 * j) (211 + 66 * j) i 1434 T b r sw st fa sc fi mi lf hi n sw2 st2 fa2 sc2 fi2 mi2 lf2 hi2 n2 th K ov := by
  obtain ⟨hC, hl, hz, hX, hb0, hbA, hL⟩ := hW
  have hj : j ≤ 511 := by omega
  obtain ⟨hn, hT0, hst, hfa0, hmi0, hb9, hr9⟩ := id hI
  have hT : T < 2 ^ 29 := by omega
  have hfa : ∀ g : Nat, inN (fa g) (2 ^ 28) := fun g => inN_mono (hfa0 g) (by omega)
  have hmi : ∀ g : Nat, inN (mi g) (2 ^ 30) := fun g => inN_mono (hmi0 g) (by omega)
  have ham : ∀ (g zt : Nat), inN (amF b r zt g) 1000 := fun g zt => am_in hb9 hr9 zt g
  unfold LZ
  refine z_aload_n (n := 1435) hC dL_law_1434 rfl 1 rfl rfl ?_
  refine z_calll (R := room_1) (cells := 30 + 7 * j) (slots := 211 + 66 * j) (ws := (wH h ta sa ua T) ++ (wT ta cI b r) ++ (wS sa cI cZ sw st fa sc fi mi lf hi n) ++ (wS ua cI cZ sw2 st2 fa2 sc2 fi2 mi2 lf2 hi2 n2) ++ (wN ma cI th n sw st b r T sc fi mi fa K) ++ (wO o cJ ov)) (n := 1438) (As := []) (rest := []) hC (k_X2_digest l G cI cZ cJ h ta sa ua T b r sw st fa sc fi mi lf hi n sw2 st2 fa2 sc2 fi2 mi2 lf2 hi2 n2 (by omega) (by omega)) kg_L_177 kd_yX2_digest dL_law_1435 ⟨Nat.le_of_ble_eq_true rfl, Nat.le_of_ble_eq_true rfl⟩ 0 rfl rfl rfl [0, 1, 2, 3, 4, 5, 6, 7, 8, 9, 10, 11, 12, 13, 14, 15, 16, 17, 18, 19, 20, 21] rfl (by decide) rfl (Nat.le_of_ble_eq_true rfl) ⟨by show _ ≤ 1080188; omega, by show _ ≤ 5855541; omega⟩ (ws2 := fun u1 => (wH h ta sa ua T) ++ (wT ta cI b r) ++ (wS sa cI cZ sw st fa sc fi mi lf hi n) ++ (wS ua cI cZ u1.1 u1.2.1 u1.2.2.1 u1.2.2.2.1 u1.2.2.2.2.1 u1.2.2.2.2.2.1 u1.2.2.2.2.2.2.1 u1.2.2.2.2.2.2.2 n) ++ (wN ma cI th n sw st b r T sc fi mi fa K) ++ (wO o cJ ov)) [22, 23, 24, 25, 26, 27, 28, 29] (fun _ => rfl) ((wN ma cI th n sw st b r T sc fi mi fa K) ++ (wO o cJ ov)) (fun _ => rfl) rfl (cv_of 30 (by decide +kernel) (fun _ => rfl)) [h, ta 0, ta 1, ta 2, sa 0, sa 1, sa 2, sa 3, sa 4, sa 5, sa 6, sa 7, sa 8, ua 0, ua 1, ua 2, ua 3, ua 4, ua 5, ua 6, ua 7, ua 8] (fun _ => rfl) rfl rfl rfl (fun r2 u1 h3 => ?_)
  subst h3
  refine z_aload_n (n := 1439) hC dL_law_1438 rfl 2 rfl rfl ?_
  refine z_calll (R := room_1) (cells := 30 + 7 * j) (slots := 211 + 66 * j) (ws := (wH h ta sa ua T) ++ (wT ta cI b r) ++ (wS sa cI cZ sw st fa sc fi mi lf hi n) ++ (wS ua cI cZ u1.1 u1.2.1 u1.2.2.1 u1.2.2.2.1 u1.2.2.2.2.1 u1.2.2.2.2.2.1 u1.2.2.2.2.2.2.1 u1.2.2.2.2.2.2.2 n) ++ (wN ma cI th n sw st b r T sc fi mi fa K) ++ (wO o cJ ov)) (n := 1442) (As := []) (rest := [.long (dgF sw st b r sc fi mi fa T n)]) hC (k_X3_digest l G cI cZ cJ ma th n sw st b r T sc fi mi fa K (by omega) (by omega) hn0 hst (fun g _ => hfa g) (fun g _ => hmi g) (fun g _ => ham g)) kg_L_181 kd_yX3_digest dL_law_1439 ⟨Nat.le_of_ble_eq_true rfl, Nat.le_of_ble_eq_true rfl⟩ 0 rfl rfl rfl [22, 23, 24, 25, 26, 27, 28] rfl (by decide) rfl (Nat.le_of_ble_eq_true rfl) ⟨by show _ ≤ 1080188; omega, by show _ ≤ 5855541; omega⟩ (ws2 := fun u4 => (wH h ta sa ua T) ++ (wT ta cI b r) ++ (wS sa cI cZ sw st fa sc fi mi lf hi n) ++ (wS ua cI cZ u1.1 u1.2.1 u1.2.2.1 u1.2.2.2.1 u1.2.2.2.2.1 u1.2.2.2.2.2.1 u1.2.2.2.2.2.2.1 u1.2.2.2.2.2.2.2 n) ++ (wN ma cI (nI 0) n sw st b r T sc fi mi fa (va_cpy (nowF T sc fi mi fa) K 0 0 25)) ++ (wO o cJ ov)) [0, 1, 2, 3, 4, 5, 6, 7, 8, 9, 10, 11, 12, 13, 14, 15, 16, 17, 18, 19, 20, 21, 29] (fun _ => rfl) ((wH h ta sa ua T) ++ (wT ta cI b r) ++ (wS sa cI cZ sw st fa sc fi mi lf hi n) ++ (wS ua cI cZ u1.1 u1.2.1 u1.2.2.1 u1.2.2.2.1 u1.2.2.2.2.1 u1.2.2.2.2.2.1 u1.2.2.2.2.2.2.1 u1.2.2.2.2.2.2.2 n) ++ (wO o cJ ov)) (fun _ => rfl) rfl (cv_of 30 (by decide +kernel) (fun _ => rfl)) [ma 0, ma 1, ma 2, ma 3, ma 4, ma 5, ma 6] (fun _ => rfl) rfl rfl rfl (fun r5 u4 h6 => ?_)
  subst h6
  refine z_lcmp (n := 1443) hC dL_law_1442 rfl ?_
  refine z_if_eq (tgt := 1448) (n := 1446) hC dL_law_1443 (by decide) rfl (fun c7 => ?_) (fun c7 => absurd (lg_self _) c7)
  refine z_iinc (k0 := 4) (v := nI (i + 4)) (lv' := [(4, .int (nI (i + 4))), (0, .ref b0), (1, .ref h), (2, .ref (ma 0)), (3, .ref o)]) (n := 1451) hC dL_law_1448 rfl (nI_add i 4) (by decide) rfl rfl ?_
  refine z_goto (n := 23) hC dL_law_1451 (by decide) ?_
  refine z_lv [1, 2, 3, 4, 0] (lv' := [(0, .ref b0), (1, .ref h), (2, .ref (ma 0)), (3, .ref o), (4, .int (nI (i + 4)))]) rfl ?_
  refine z_wid (k1 := 30 + 7 * (j + 1)) (k2 := 211 + 66 * (j + 1)) (by omega) (by omega) ?_
  exact ih (i + 4) T b r sw st fa sc fi mi lf hi n u1.1 u1.2.1 u1.2.2.1 u1.2.2.2.1 u1.2.2.2.2.1 u1.2.2.2.2.2.1 u1.2.2.2.2.2.2.1 u1.2.2.2.2.2.2.2 n (nI 0) (va_cpy (nowF T sc fi mi fa) K 0 0 25) ov (by omega) (iv_same hI)

set_option maxRecDepth 100000 in
set_option maxHeartbeats 4000000 in
theorem c_digest_0 (p : Program) (l : Launch) (e : Env) (s : State) (m : MethodId) (args : Array Value) (below : List Frame) (meth : Method) (c : Code) (G : va_G) (A : Nat → Prop) (Q : State → Prop) (cI cZ cJ : ClassId) (b0 h o : Nat) (ta sa ua ma : Nat → Nat) (L : Nat) (xs : Nat → Int32) (i j : Nat) (T : Nat) (b r sw st fa sc fi mi : Nat → Int32) (lf hi : Nat → Bool) (n : Nat) (sw2 st2 fa2 sc2 fi2 mi2 : Nat → Int32) (lf2 hi2 : Nat → Bool) (n2 : Nat) (th : Int32) (K : Nat → Int32) (ov : Nat → Int64)  (hW : LX p l s m args c G A cI cZ cJ b0 L xs) (hI : iv j T n b r st fa mi) (hi0 : i = 4 * j) (hiL : i + 4 ≤ L) (hn0 : n = 0) (ih : LPj p l e s m args below meth c G A Q cI cZ cJ b0 h o ta sa ua ma (j + 1)) : LZ p l e s m args below meth c G A Q cI cZ cJ b0 h o ta sa ua ma (30 + 7 * j) (211 + 66 * j) i 1434 T b r sw st fa sc fi mi lf hi n sw2 st2 fa2 sc2 fi2 mi2 lf2 hi2 n2 th K ov := by
  obtain ⟨hC, hl, hz, hX, hb0, hbA, hL⟩ := hW
  have hj : j ≤ 511 := by omega
  obtain ⟨hn, hT0, hst, hfa0, hmi0, hb9, hr9⟩ := id hI
  have hT : T < 2 ^ 29 := by omega
  have hfa : ∀ g : Nat, inN (fa g) (2 ^ 28) := fun g => inN_mono (hfa0 g) (by omega)
  have hmi : ∀ g : Nat, inN (mi g) (2 ^ 30) := fun g => inN_mono (hmi0 g) (by omega)
  have ham : ∀ (g zt : Nat), inN (amF b r zt g) 1000 := fun g zt => am_in hb9 hr9 zt g
  unfold LZ
  refine z_aload_n (n := 1435) hC dL_law_1434 rfl 1 rfl rfl ?_
  refine z_calll (R := room_1) (cells := 30 + 7 * j) (slots := 211 + 66 * j) (ws := (wH h ta sa ua T) ++ (wT ta cI b r) ++ (wS sa cI cZ sw st fa sc fi mi lf hi n) ++ (wS ua cI cZ sw2 st2 fa2 sc2 fi2 mi2 lf2 hi2 n2) ++ (wN ma cI th n sw st b r T sc fi mi fa K) ++ (wO o cJ ov)) (n := 1438) (As := []) (rest := []) hC (k_X2_digest l G cI cZ cJ h ta sa ua T b r sw st fa sc fi mi lf hi n sw2 st2 fa2 sc2 fi2 mi2 lf2 hi2 n2 (by omega) (by omega)) kg_L_177 kd_yX2_digest dL_law_1435 ⟨Nat.le_of_ble_eq_true rfl, Nat.le_of_ble_eq_true rfl⟩ 0 rfl rfl rfl [0, 1, 2, 3, 4, 5, 6, 7, 8, 9, 10, 11, 12, 13, 14, 15, 16, 17, 18, 19, 20, 21] rfl (by decide) rfl (Nat.le_of_ble_eq_true rfl) ⟨by show _ ≤ 1080188; omega, by show _ ≤ 5855541; omega⟩ (ws2 := fun u1 => (wH h ta sa ua T) ++ (wT ta cI b r) ++ (wS sa cI cZ sw st fa sc fi mi lf hi n) ++ (wS ua cI cZ u1.1 u1.2.1 u1.2.2.1 u1.2.2.2.1 u1.2.2.2.2.1 u1.2.2.2.2.2.1 u1.2.2.2.2.2.2.1 u1.2.2.2.2.2.2.2 n) ++ (wN ma cI th n sw st b r T sc fi mi fa K) ++ (wO o cJ ov)) [22, 23, 24, 25, 26, 27, 28, 29] (fun _ => rfl) ((wN ma cI th n sw st b r T sc fi mi fa K) ++ (wO o cJ ov)) (fun _ => rfl) rfl (cv_of 30 (by decide +kernel) (fun _ => rfl)) [h, ta 0, ta 1, ta 2, sa 0, sa 1, sa 2, sa 3, sa 4, sa 5, sa 6, sa 7, sa 8, ua 0, ua 1, ua 2, ua 3, ua 4, ua 5, ua 6, ua 7, ua 8] (fun _ => rfl) rfl rfl rfl (fun r2 u1 h3 => ?_)
  subst h3
  refine z_aload_n (n := 1439) hC dL_law_1438 rfl 2 rfl rfl ?_
  refine z_calll (R := room_1) (cells := 30 + 7 * j) (slots := 211 + 66 * j) (ws := (wH h ta sa ua T) ++ (wT ta cI b r) ++ (wS sa cI cZ sw st fa sc fi mi lf hi n) ++ (wS ua cI cZ u1.1 u1.2.1 u1.2.2.1 u1.2.2.2.1 u1.2.2.2.2.1 u1.2.2.2.2.2.1 u1.2.2.2.2.2.2.1 u1.2.2.2.2.2.2.2 n) ++ (wN ma cI th n sw st b r T sc fi mi fa K) ++ (wO o cJ ov)) (n := 1442) (As := []) (rest := [.long (dgF sw st b r sc fi mi fa T n)]) hC (k_X3_digest_0 l G cI cZ cJ ma th n sw st b r T sc fi mi fa K (by omega) (by omega) hn0 hst (fun g _ => hfa g) (fun g _ => hmi g) (fun g _ => ham g)) kg_L_181 kd_yX3_digest dL_law_1439 ⟨Nat.le_of_ble_eq_true rfl, Nat.le_of_ble_eq_true rfl⟩ 0 rfl rfl rfl [22, 23, 24, 25, 26, 27, 28] rfl (by decide) rfl (Nat.le_of_ble_eq_true rfl) ⟨by show _ ≤ 1080188; omega, by show _ ≤ 5855541; omega⟩ (ws2 := fun u4 => (wH h ta sa ua T) ++ (wT ta cI b r) ++ (wS sa cI cZ sw st fa sc fi mi lf hi n) ++ (wS ua cI cZ u1.1 u1.2.1 u1.2.2.1 u1.2.2.2.1 u1.2.2.2.2.1 u1.2.2.2.2.2.1 u1.2.2.2.2.2.2.1 u1.2.2.2.2.2.2.2 n) ++ (wN ma cI (nI 0) n sw st b r T sc fi mi fa (va_cpy (nowF T sc fi mi fa) K 0 0 25)) ++ (wO o cJ ov)) [0, 1, 2, 3, 4, 5, 6, 7, 8, 9, 10, 11, 12, 13, 14, 15, 16, 17, 18, 19, 20, 21, 29] (fun _ => rfl) ((wH h ta sa ua T) ++ (wT ta cI b r) ++ (wS sa cI cZ sw st fa sc fi mi lf hi n) ++ (wS ua cI cZ u1.1 u1.2.1 u1.2.2.1 u1.2.2.2.1 u1.2.2.2.2.1 u1.2.2.2.2.2.1 u1.2.2.2.2.2.2.1 u1.2.2.2.2.2.2.2 n) ++ (wO o cJ ov)) (fun _ => rfl) rfl (cv_of 30 (by decide +kernel) (fun _ => rfl)) [ma 0, ma 1, ma 2, ma 3, ma 4, ma 5, ma 6] (fun _ => rfl) rfl rfl rfl (fun r5 u4 h6 => ?_)
  subst h6
  refine z_lcmp (n := 1443) hC dL_law_1442 rfl ?_
  refine z_if_eq (tgt := 1448) (n := 1446) hC dL_law_1443 (by decide) rfl (fun c7 => ?_) (fun c7 => absurd (lg_self _) c7)
  refine z_iinc (k0 := 4) (v := nI (i + 4)) (lv' := [(4, .int (nI (i + 4))), (0, .ref b0), (1, .ref h), (2, .ref (ma 0)), (3, .ref o)]) (n := 1451) hC dL_law_1448 rfl (nI_add i 4) (by decide) rfl rfl ?_
  refine z_goto (n := 23) hC dL_law_1451 (by decide) ?_
  refine z_lv [1, 2, 3, 4, 0] (lv' := [(0, .ref b0), (1, .ref h), (2, .ref (ma 0)), (3, .ref o), (4, .int (nI (i + 4)))]) rfl ?_
  refine z_wid (k1 := 30 + 7 * (j + 1)) (k2 := 211 + 66 * (j + 1)) (by omega) (by omega) ?_
  exact ih (i + 4) T b r sw st fa sc fi mi lf hi n u1.1 u1.2.1 u1.2.2.1 u1.2.2.2.1 u1.2.2.2.2.1 u1.2.2.2.2.2.1 u1.2.2.2.2.2.2.1 u1.2.2.2.2.2.2.2 n (nI 0) (va_cpy (nowF T sc fi mi fa) K 0 0 25) ov (by omega) (iv_same hI)

set_option maxRecDepth 100000 in
set_option maxHeartbeats 4000000 in
theorem c_none (p : Program) (l : Launch) (e : Env) (s : State) (m : MethodId) (args : Array Value) (below : List Frame) (meth : Method) (c : Code) (G : va_G) (A : Nat → Prop) (Q : State → Prop) (cI cZ cJ : ClassId) (b0 h o : Nat) (ta sa ua ma : Nat → Nat) (L : Nat) (xs : Nat → Int32) (i j : Nat) (T : Nat) (b r sw st fa sc fi mi : Nat → Int32) (lf hi : Nat → Bool) (n : Nat) (sw2 st2 fa2 sc2 fi2 mi2 : Nat → Int32) (lf2 hi2 : Nat → Bool) (n2 : Nat) (th : Int32) (K : Nat → Int32) (ov : Nat → Int64)  (hW : LX p l s m args c G A cI cZ cJ b0 L xs) (hI : iv j T n b r st fa mi) (hi0 : i = 4 * j) (hiL : i + 4 ≤ L)  (ih : LPj p l e s m args below meth c G A Q cI cZ cJ b0 h o ta sa ua ma (j + 1)) : LZ p l e s m args below meth c G A Q cI cZ cJ b0 h o ta sa ua ma (30 + 7 * j) (211 + 66 * j) i 1448 T b r sw st fa sc fi mi lf hi n sw2 st2 fa2 sc2 fi2 mi2 lf2 hi2 n2 th K ov := by
  obtain ⟨hC, hl, hz, hX, hb0, hbA, hL⟩ := hW
  have hj : j ≤ 511 := by omega
  obtain ⟨hn, hT0, hst, hfa0, hmi0, hb9, hr9⟩ := id hI
  have hT : T < 2 ^ 29 := by omega
  have hfa : ∀ g : Nat, inN (fa g) (2 ^ 28) := fun g => inN_mono (hfa0 g) (by omega)
  have hmi : ∀ g : Nat, inN (mi g) (2 ^ 30) := fun g => inN_mono (hmi0 g) (by omega)
  have ham : ∀ (g zt : Nat), inN (amF b r zt g) 1000 := fun g zt => am_in hb9 hr9 zt g
  unfold LZ
  refine z_iinc (k0 := 4) (v := nI (i + 4)) (lv' := [(4, .int (nI (i + 4))), (0, .ref b0), (1, .ref h), (2, .ref (ma 0)), (3, .ref o)]) (n := 1451) hC dL_law_1448 rfl (nI_add i 4) (by decide) rfl rfl ?_
  refine z_goto (n := 23) hC dL_law_1451 (by decide) ?_
  refine z_lv [1, 2, 3, 4, 0] (lv' := [(0, .ref b0), (1, .ref h), (2, .ref (ma 0)), (3, .ref o), (4, .int (nI (i + 4)))]) rfl ?_
  refine z_wid (k1 := 30 + 7 * (j + 1)) (k2 := 211 + 66 * (j + 1)) (by omega) (by omega) ?_
  exact ih (i + 4) T b r sw st fa sc fi mi lf hi n sw2 st2 fa2 sc2 fi2 mi2 lf2 hi2 n2 th K ov (by omega) (iv_same hI)
