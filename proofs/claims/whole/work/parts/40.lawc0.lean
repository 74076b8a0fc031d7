set_option maxRecDepth 100000 in
set_option maxHeartbeats 4000000 in
theorem c_addGun (p : Program) (l : Launch) (e : Env) (s : State) (m : MethodId) (args : Array Value) (below : List Frame) (meth : Method) (c : Code) (G : va_G) (A : Nat → Prop) (Q : State → Prop) (cI cZ cJ : ClassId) (b0 h o : Nat) (ta sa ua ma : Nat → Nat) (L : Nat) (xs : Nat → Int32) (i j : Nat) (T : Nat) (b r sw st fa sc fi mi : Nat → Int32) (lf hi : Nat → Bool) (n : Nat) (sw2 st2 fa2 sc2 fi2 mi2 : Nat → Int32) (lf2 hi2 : Nat → Bool) (n2 : Nat) (th : Int32) (K : Nat → Int32) (ov : Nat → Int64)  (hW : LX p l s m args c G A cI cZ cJ b0 L xs) (hI : iv j T n b r st fa mi) (hi0 : i = 4 * j) (hiL : i + 4 ≤ L) (hn6 : n < 6) (hx1 : ¬ xs (i + 1) < nI 5) (hx2 : xs (i + 1) ≤ nI 60) (hy1 : ¬ xs (i + 2) < nI 1) (hy2 : xs (i + 2) ≤ nI 9) (ih : LPj p l e s m args below meth c G A Q cI cZ cJ b0 h o ta sa ua ma (j + 1)) : LZ p l e s m args below meth c G A Q cI cZ cJ b0 h o ta sa ua ma (30 + 7 * j) (211 + 66 * j) i 160 T b r sw st fa sc fi mi lf hi n sw2 st2 fa2 sc2 fi2 mi2 lf2 hi2 n2 th K ov := by
  obtain ⟨hC, hl, hz, hX, hb0, hbA, hL⟩ := hW
  have hj : j ≤ 511 := by omega
  obtain ⟨hn, hT0, hst, hfa0, hmi0, hb9, hr9⟩ := id hI
  have hT : T < 2 ^ 29 := by omega
  have hfa : ∀ g : Nat, inN (fa g) (2 ^ 28) := fun g => inN_mono (hfa0 g) (by omega)
  have hmi : ∀ g : Nat, inN (mi g) (2 ^ 30) := fun g => inN_mono (hmi0 g) (by omega)
  have ham : ∀ (g zt : Nat), inN (amF b r zt g) 1000 := fun g zt => am_in hb9 hr9 zt g
  unfold LZ
  refine z_aload_n (n := 161) hC dL_law_160 rfl 1 rfl rfl ?_
  refine z_aload_n (n := 162) hC dL_law_161 rfl 0 rfl rfl ?_
  refine z_iload (n := 164) hC dL_law_162 4 rfl rfl ?_
  refine z_iconst (v := nI 1) (n := 165) hC dL_law_164 (by decide) rfl ?_
  refine z_iadd (v := nI (i + 1)) (n := 166) hC dL_law_165 (nI_add i 1) rfl ?_
  refine z_sld (v := xs (i + 1)) (n := 167) hC hX hb0 hbA hL (i + 1) rfl (by omega) rfl dL_law_166 rfl ?_
  refine z_aload_n (n := 168) hC dL_law_167 rfl 0 rfl rfl ?_
  refine z_iload (n := 170) hC dL_law_168 4 rfl rfl ?_
  refine z_iconst (v := nI 2) (n := 171) hC dL_law_170 (by decide) rfl ?_
  refine z_iadd (v := nI (i + 2)) (n := 172) hC dL_law_171 (nI_add i 2) rfl ?_
  refine z_sld (v := xs (i + 2)) (n := 173) hC hX hb0 hbA hL (i + 2) rfl (by omega) rfl dL_law_172 rfl ?_
  refine z_aload_n (n := 174) hC dL_law_173 rfl 3 rfl rfl ?_
  refine z_callsiH (R := room_1) (cells := 30 + 7 * j) (slots := 211 + 66 * j) (ws := (wH h ta sa ua T) ++ (wT ta cI b r) ++ (wS sa cI cZ sw st fa sc fi mi lf hi n) ++ (wS ua cI cZ sw2 st2 fa2 sc2 fi2 mi2 lf2 hi2 n2) ++ (wN ma cI th n sw st b r T sc fi mi fa K) ++ (wO o cJ ov)) (n := 177) (As := [.ref h, .int (xs (i + 1)), .int (xs (i + 2)), .ref o]) (rest := []) hC hz (k_L_addGun l G cI cZ cJ h ta sa ua T b r sw st fa sc fi mi lf hi n sw2 st2 fa2 sc2 fi2 mi2 lf2 hi2 n2 o ov (xs (i + 1)) (xs (i + 2)) (by omega) (by omega) hn6 hx1 hx2 hy1 hy2) kg_L_83 kd_yL_addGun dL_law_174 ⟨Nat.le_of_ble_eq_true rfl, Nat.le_of_ble_eq_true rfl⟩ [0, 1, 2, 3, 4, 5, 6, 7, 8, 9, 10, 11, 12, 13, 14, 15, 16, 17, 18, 19, 20, 21, 29] rfl (by decide) rfl (Nat.le_of_ble_eq_true rfl) ⟨by show _ ≤ 1080188; omega, by show _ ≤ 5855541; omega⟩ (ws2 := fun u1 => (wH h ta sa ua T) ++ (wT ta cI b r) ++ (wS sa cI cZ (upd sw n (xs (i + 1))) (upd st n (xs (i + 2))) fa sc fi mi lf hi (n + 1)) ++ (wS ua cI cZ sw2 st2 fa2 sc2 fi2 mi2 lf2 hi2 n2) ++ (wN ma cI th n sw st b r T sc fi mi fa K) ++ (wO o cJ (vp_updL ov 0 ((nI n).toInt64)))) [22, 23, 24, 25, 26, 27, 28] (fun _ => rfl) (wN ma cI th n sw st b r T sc fi mi fa K) (fun _ => rfl) rfl (cv_of 30 (by decide +kernel) (fun _ => rfl)) [h, ta 0, ta 1, ta 2, sa 0, sa 1, sa 2, sa 3, sa 4, sa 5, sa 6, sa 7, sa 8, ua 0, ua 1, ua 2, ua 3, ua 4, ua 5, ua 6, ua 7, ua 8, o] (fun _ => rfl) rfl rfl rfl (fun r2 u1 h3 => ?_)
  subst h3
  refine z_istore (lv' := [(5, .int (nI 0)), (0, .ref b0), (1, .ref h), (2, .ref (ma 0)), (3, .ref o), (4, .int (nI i))]) (n := 179) hC dL_law_177 (by decide) rfl rfl ?_
  refine z_aload_n (n := 180) hC dL_law_179 rfl 3 rfl rfl ?_
  refine z_aload_n (n := 181) hC dL_law_180 rfl 1 rfl rfl ?_
  refine z_iload (n := 183) hC dL_law_181 5 rfl rfl ?_
  refine z_iconst (v := nI 1) (n := 184) hC dL_law_183 (by decide) rfl ?_
  refine z_iadd (v := nI (i + 1)) (n := 185) hC dL_law_184 (nI_add i 1) rfl ?_
  refine z_sld (v := xs (i + 1)) (n := 186) hC hX hb0 hbA hL (i + 1) rfl (by omega) rfl dL_law_185 rfl ?_
  refine z_aload_n (n := 187) hC dL_law_186 rfl 1 rfl rfl ?_
  refine z_iload (n := 189) hC dL_law_187 5 rfl rfl ?_
  refine z_iconst (v := nI 2) (n := 190) hC dL_law_189 (by decide) rfl ?_
  refine z_iadd (v := nI (i + 2)) (n := 191) hC dL_law_190 (nI_add i 2) rfl ?_
  refine z_sld (v := xs (i + 2)) (n := 192) hC hX hb0 hbA hL (i + 2) rfl (by omega) rfl dL_law_191 rfl ?_
  refine z_calli (R := room_1) (cells := 30 + 7 * j) (slots := 211 + 66 * j) (ws := (wH h ta sa ua T) ++ (wT ta cI b r) ++ (wS sa cI cZ (upd sw n (xs (i + 1))) (upd st n (xs (i + 2))) fa sc fi mi lf hi (n + 1)) ++ (wS ua cI cZ sw2 st2 fa2 sc2 fi2 mi2 lf2 hi2 n2) ++ (wN ma cI th n sw st b r T sc fi mi fa K) ++ (wO o cJ (vp_updL ov 0 ((nI n).toInt64)))) (n := 195) (As := [.int (xs (i + 1)), .int (xs (i + 2))]) (rest := []) hC (k_X3_addGun l G cI cZ cJ ma th n sw st b r T sc fi mi fa K (xs (i + 1)) (xs (i + 2)) (by omega) (by omega) hn6 hx1 hx2 hy1 hy2) kg_L_88 kd_yX3_addGun dL_law_192 ⟨Nat.le_of_ble_eq_true rfl, Nat.le_of_ble_eq_true rfl⟩ 0 rfl rfl rfl [22, 23, 24, 25, 26, 27, 28] rfl (by decide) rfl (Nat.le_of_ble_eq_true rfl) ⟨by show _ ≤ 1080188; omega, by show _ ≤ 5855541; omega⟩ (ws2 := fun u4 => (wH h ta sa ua T) ++ (wT ta cI b r) ++ (wS sa cI cZ (upd sw n (xs (i + 1))) (upd st n (xs (i + 2))) fa sc fi mi lf hi (n + 1)) ++ (wS ua cI cZ sw2 st2 fa2 sc2 fi2 mi2 lf2 hi2 n2) ++ (wN ma cI (nI 0) (n + 1) (upd sw n (xs (i + 1))) (upd st n (xs (i + 2))) b r T sc fi mi fa K) ++ (wO o cJ (vp_updL ov 0 ((nI n).toInt64)))) [0, 1, 2, 3, 4, 5, 6, 7, 8, 9, 10, 11, 12, 13, 14, 15, 16, 17, 18, 19, 20, 21, 29] (fun _ => rfl) ((wH h ta sa ua T) ++ (wT ta cI b r) ++ (wS sa cI cZ (upd sw n (xs (i + 1))) (upd st n (xs (i + 2))) fa sc fi mi lf hi (n + 1)) ++ (wS ua cI cZ sw2 st2 fa2 sc2 fi2 mi2 lf2 hi2 n2) ++ (wO o cJ (vp_updL ov 0 ((nI n).toInt64)))) (fun _ => rfl) rfl (cv_of 30 (by decide +kernel) (fun _ => rfl)) [ma 0, ma 1, ma 2, ma 3, ma 4, ma 5, ma 6] (fun _ => rfl) rfl rfl rfl (fun r5 u4 h6 => ?_)
  subst h6
  refine z_istore (lv' := [(6, .int (nI n)), (5, .int (nI 0)), (0, .ref b0), (1, .ref h), (2, .ref (ma 0)), (3, .ref o), (4, .int (nI i))]) (n := 197) hC dL_law_195 (by decide) rfl rfl ?_
  refine z_aload_n (n := 198) hC dL_law_197 rfl 4 rfl rfl ?_
  refine z_calli (R := room_1) (cells := 30 + 7 * j) (slots := 211 + 66 * j) (ws := (wH h ta sa ua T) ++ (wT ta cI b r) ++ (wS sa cI cZ (upd sw n (xs (i + 1))) (upd st n (xs (i + 2))) fa sc fi mi lf hi (n + 1)) ++ (wS ua cI cZ sw2 st2 fa2 sc2 fi2 mi2 lf2 hi2 n2) ++ (wN ma cI (nI 0) (n + 1) (upd sw n (xs (i + 1))) (upd st n (xs (i + 2))) b r T sc fi mi fa K) ++ (wO o cJ (vp_updL ov 0 ((nI n).toInt64)))) (n := 201) (As := []) (rest := []) hC (k_X3_thrown l G cI cZ cJ ma (nI 0) (n + 1) (upd sw n (xs (i + 1))) (upd st n (xs (i + 2))) b r T sc fi mi fa K (by omega) (by omega)) kg_L_89 kd_yX3_thrown dL_law_198 ⟨Nat.le_of_ble_eq_true rfl, Nat.le_of_ble_eq_true rfl⟩ 0 rfl rfl rfl [22, 23, 24, 25, 26, 27, 28] rfl (by decide) rfl (Nat.le_of_ble_eq_true rfl) ⟨by show _ ≤ 1080188; omega, by show _ ≤ 5855541; omega⟩ (ws2 := fun u7 => (wH h ta sa ua T) ++ (wT ta cI b r) ++ (wS sa cI cZ (upd sw n (xs (i + 1))) (upd st n (xs (i + 2))) fa sc fi mi lf hi (n + 1)) ++ (wS ua cI cZ sw2 st2 fa2 sc2 fi2 mi2 lf2 hi2 n2) ++ (wN ma cI (nI 0) (n + 1) (upd sw n (xs (i + 1))) (upd st n (xs (i + 2))) b r T sc fi mi fa K) ++ (wO o cJ (vp_updL ov 0 ((nI n).toInt64)))) [0, 1, 2, 3, 4, 5, 6, 7, 8, 9, 10, 11, 12, 13, 14, 15, 16, 17, 18, 19, 20, 21, 29] (fun _ => rfl) ((wH h ta sa ua T) ++ (wT ta cI b r) ++ (wS sa cI cZ (upd sw n (xs (i + 1))) (upd st n (xs (i + 2))) fa sc fi mi lf hi (n + 1)) ++ (wS ua cI cZ sw2 st2 fa2 sc2 fi2 mi2 lf2 hi2 n2) ++ (wO o cJ (vp_updL ov 0 ((nI n).toInt64)))) (fun _ => rfl) rfl (cv_of 30 (by decide +kernel) (fun _ => rfl)) [ma 0, ma 1, ma 2, ma 3, ma 4, ma 5, ma 6] (fun _ => rfl) rfl rfl rfl (fun r8 u7 h9 => ?_)
  subst h9
  refine z_iload (n := 203) hC dL_law_201 1 rfl rfl ?_
  refine z_icmp_eq_n (tgt := 208) (n := 206) hC 0 0 rfl rfl (by omega) (by omega) dL_law_203 (by decide) rfl (fun c10 => ?_) (fun c10 => absurd rfl c10)
  refine z_iload (n := 210) hC dL_law_208 1 rfl rfl ?_
  refine z_if_ne (tgt := 225) (n := 213) hC dL_law_210 (by decide) rfl (fun c11 => absurd (nI_0) c11) (fun c11 => ?_)
  refine z_aload_n (n := 214) hC dL_law_213 rfl 5 rfl rfl ?_
  refine z_iconst (v := nI 0) (n := 215) hC dL_law_214 (by decide) rfl ?_
  refine z_lald (v := (nI n).toInt64) (n := 216) hC 29 2 0 rfl rfl rfl (by omega) (by decide) dL_law_215 updL_at rfl ?_
  refine z_iload (n := 218) hC dL_law_216 0 rfl rfl ?_
  refine z_i2l (v := (nI n).toInt64) (n := 219) hC dL_law_218 rfl rfl ?_
  refine z_lcmp (n := 220) hC dL_law_219 rfl ?_
  refine z_if_eq (tgt := 225) (n := 223) hC dL_law_220 (by decide) rfl (fun c12 => ?_) (fun c12 => absurd (lg_self _) c12)
  refine z_goto (n := 1448) hC dL_law_225 (by decide) ?_
  refine z_iinc (k0 := 6) (v := nI (i + 4)) (lv' := [(4, .int (nI (i + 4))), (6, .int (nI n)), (5, .int (nI 0)), (0, .ref b0), (1, .ref h), (2, .ref (ma 0)), (3, .ref o)]) (n := 1451) hC dL_law_1448 rfl (nI_add i 4) (by decide) rfl rfl ?_
  refine z_goto (n := 23) hC dL_law_1451 (by decide) ?_
  refine z_lv [3, 4, 5, 6, 0] (lv' := [(0, .ref b0), (1, .ref h), (2, .ref (ma 0)), (3, .ref o), (4, .int (nI (i + 4)))]) rfl ?_
  refine z_wid (k1 := 30 + 7 * (j + 1)) (k2 := 211 + 66 * (j + 1)) (by omega) (by omega) ?_
  exact ih (i + 4) T b r (upd sw n (xs (i + 1))) (upd st n (xs (i + 2))) fa sc fi mi lf hi (n + 1) sw2 st2 fa2 sc2 fi2 mi2 lf2 hi2 n2 (nI 0) K (vp_updL ov 0 ((nI n).toInt64)) (by omega) (iv_add hI hn6 hy1)

set_option maxRecDepth 100000 in
set_option maxHeartbeats 4000000 in
theorem c_addGun_a (p : Program) (l : Launch) (e : Env) (s : State) (m : MethodId) (args : Array Value) (below : List Frame) (meth : Method) (c : Code) (G : va_G) (A : Nat → Prop) (Q : State → Prop) (cI cZ cJ : ClassId) (b0 h o : Nat) (ta sa ua ma : Nat → Nat) (L : Nat) (xs : Nat → Int32) (i j : Nat) (T : Nat) (b r sw st fa sc fi mi : Nat → Int32) (lf hi : Nat → Bool) (n : Nat) (sw2 st2 fa2 sc2 fi2 mi2 : Nat → Int32) (lf2 hi2 : Nat → Bool) (n2 : Nat) (th : Int32) (K : Nat → Int32) (ov : Nat → Int64)  (hW : LX p l s m args c G A cI cZ cJ b0 L xs) (hI : iv j T n b r st fa mi) (hi0 : i = 4 * j) (hiL : i + 4 ≤ L) (hb : xs (i + 1) < nI 5 ∨ nI 60 < xs (i + 1)) (ih : LPj p l e s m args below meth c G A Q cI cZ cJ b0 h o ta sa ua ma (j + 1)) : LZ p l e s m args below meth c G A Q cI cZ cJ b0 h o ta sa ua ma (30 + 7 * j) (211 + 66 * j) i 160 T b r sw st fa sc fi mi lf hi n sw2 st2 fa2 sc2 fi2 mi2 lf2 hi2 n2 th K ov := by
  obtain ⟨hC, hl, hz, hX, hb0, hbA, hL⟩ := hW
  have hj : j ≤ 511 := by omega
  obtain ⟨hn, hT0, hst, hfa0, hmi0, hb9, hr9⟩ := id hI
  have hT : T < 2 ^ 29 := by omega
  have hfa : ∀ g : Nat, inN (fa g) (2 ^ 28) := fun g => inN_mono (hfa0 g) (by omega)
  have hmi : ∀ g : Nat, inN (mi g) (2 ^ 30) := fun g => inN_mono (hmi0 g) (by omega)
  have ham : ∀ (g zt : Nat), inN (amF b r zt g) 1000 := fun g zt => am_in hb9 hr9 zt g
  unfold LZ
  refine z_aload_n (n := 161) hC dL_law_160 rfl 1 rfl rfl ?_
  refine z_aload_n (n := 162) hC dL_law_161 rfl 0 rfl rfl ?_
  refine z_iload (n := 164) hC dL_law_162 4 rfl rfl ?_
  refine z_iconst (v := nI 1) (n := 165) hC dL_law_164 (by decide) rfl ?_
  refine z_iadd (v := nI (i + 1)) (n := 166) hC dL_law_165 (nI_add i 1) rfl ?_
  refine z_sld (v := xs (i + 1)) (n := 167) hC hX hb0 hbA hL (i + 1) rfl (by omega) rfl dL_law_166 rfl ?_
  refine z_aload_n (n := 168) hC dL_law_167 rfl 0 rfl rfl ?_
  refine z_iload (n := 170) hC dL_law_168 4 rfl rfl ?_
  refine z_iconst (v := nI 2) (n := 171) hC dL_law_170 (by decide) rfl ?_
  refine z_iadd (v := nI (i + 2)) (n := 172) hC dL_law_171 (nI_add i 2) rfl ?_
  refine z_sld (v := xs (i + 2)) (n := 173) hC hX hb0 hbA hL (i + 2) rfl (by omega) rfl dL_law_172 rfl ?_
  refine z_aload_n (n := 174) hC dL_law_173 rfl 3 rfl rfl ?_
  refine z_callsiH (R := room_1) (cells := 30 + 7 * j) (slots := 211 + 66 * j) (ws := (wH h ta sa ua T) ++ (wT ta cI b r) ++ (wS sa cI cZ sw st fa sc fi mi lf hi n) ++ (wS ua cI cZ sw2 st2 fa2 sc2 fi2 mi2 lf2 hi2 n2) ++ (wN ma cI th n sw st b r T sc fi mi fa K) ++ (wO o cJ ov)) (n := 177) (As := [.ref h, .int (xs (i + 1)), .int (xs (i + 2)), .ref o]) (rest := []) hC hz (kx_L_addGun_a l G cI cZ cJ h ta sa ua T b r sw st fa sc fi mi lf hi n sw2 st2 fa2 sc2 fi2 mi2 lf2 hi2 n2 o ov (xs (i + 1)) (xs (i + 2)) hl (by omega) (by omega) hb) kg_L_83 kd_yL_addGun dL_law_174 ⟨Nat.le_of_ble_eq_true rfl, Nat.le_of_ble_eq_true rfl⟩ [0, 1, 2, 3, 4, 5, 6, 7, 8, 9, 10, 11, 12, 13, 14, 15, 16, 17, 18, 19, 20, 21, 29] rfl (by decide) rfl (Nat.le_of_ble_eq_true rfl) ⟨by show _ ≤ 1080188; omega, by show _ ≤ 5855541; omega⟩ (ws2 := fun u1 => (wH h ta sa ua T) ++ (wT ta cI b r) ++ (wS sa cI cZ sw st fa sc fi mi lf hi n) ++ (wS ua cI cZ sw2 st2 fa2 sc2 fi2 mi2 lf2 hi2 n2) ++ (wN ma cI th n sw st b r T sc fi mi fa K) ++ (wO o cJ ov)) [22, 23, 24, 25, 26, 27, 28] (fun _ => rfl) (wN ma cI th n sw st b r T sc fi mi fa K) (fun _ => rfl) rfl (cv_of 30 (by decide +kernel) (fun _ => rfl)) [h, ta 0, ta 1, ta 2, sa 0, sa 1, sa 2, sa 3, sa 4, sa 5, sa 6, sa 7, sa 8, ua 0, ua 1, ua 2, ua 3, ua 4, ua 5, ua 6, ua 7, ua 8, o] (fun _ => rfl) rfl rfl rfl (fun r2 u1 h3 => ?_)
  subst h3
  refine z_istore (lv' := [(5, .int (nI 1)), (0, .ref b0), (1, .ref h), (2, .ref (ma 0)), (3, .ref o), (4, .int (nI i))]) (n := 179) hC dL_law_177 (by decide) rfl rfl ?_
  refine z_aload_n (n := 180) hC dL_law_179 rfl 3 rfl rfl ?_
  refine z_aload_n (n := 181) hC dL_law_180 rfl 1 rfl rfl ?_
  refine z_iload (n := 183) hC dL_law_181 5 rfl rfl ?_
  refine z_iconst (v := nI 1) (n := 184) hC dL_law_183 (by decide) rfl ?_
  refine z_iadd (v := nI (i + 1)) (n := 185) hC dL_law_184 (nI_add i 1) rfl ?_
  refine z_sld (v := xs (i + 1)) (n := 186) hC hX hb0 hbA hL (i + 1) rfl (by omega) rfl dL_law_185 rfl ?_
  refine z_aload_n (n := 187) hC dL_law_186 rfl 1 rfl rfl ?_
  refine z_iload (n := 189) hC dL_law_187 5 rfl rfl ?_
  refine z_iconst (v := nI 2) (n := 190) hC dL_law_189 (by decide) rfl ?_
  refine z_iadd (v := nI (i + 2)) (n := 191) hC dL_law_190 (nI_add i 2) rfl ?_
  refine z_sld (v := xs (i + 2)) (n := 192) hC hX hb0 hbA hL (i + 2) rfl (by omega) rfl dL_law_191 rfl ?_
  refine z_calli (R := room_1) (cells := 30 + 7 * j + 1) (slots := 211 + 66 * j + 6) (ws := (wH h ta sa ua T) ++ (wT ta cI b r) ++ (wS sa cI cZ sw st fa sc fi mi lf hi n) ++ (wS ua cI cZ sw2 st2 fa2 sc2 fi2 mi2 lf2 hi2 n2) ++ (wN ma cI th n sw st b r T sc fi mi fa K) ++ (wO o cJ ov)) (n := 195) (As := [.int (xs (i + 1)), .int (xs (i + 2))]) (rest := []) hC (k_X3_addGun_xa l G cI cZ cJ ma th n sw st b r T sc fi mi fa K (xs (i + 1)) (xs (i + 2)) (by omega) (by omega) hb) kg_L_88 kd_yX3_addGun dL_law_192 ⟨Nat.le_of_ble_eq_true rfl, Nat.le_of_ble_eq_true rfl⟩ 0 rfl rfl rfl [22, 23, 24, 25, 26, 27, 28] rfl (by decide) rfl (Nat.le_of_ble_eq_true rfl) ⟨by show _ ≤ 1080188; omega, by show _ ≤ 5855541; omega⟩ (ws2 := fun u4 => (wH h ta sa ua T) ++ (wT ta cI b r) ++ (wS sa cI cZ sw st fa sc fi mi lf hi n) ++ (wS ua cI cZ sw2 st2 fa2 sc2 fi2 mi2 lf2 hi2 n2) ++ (wN ma cI (nI 1) n sw st b r T sc fi mi fa K) ++ (wO o cJ ov)) [0, 1, 2, 3, 4, 5, 6, 7, 8, 9, 10, 11, 12, 13, 14, 15, 16, 17, 18, 19, 20, 21, 29] (fun _ => rfl) ((wH h ta sa ua T) ++ (wT ta cI b r) ++ (wS sa cI cZ sw st fa sc fi mi lf hi n) ++ (wS ua cI cZ sw2 st2 fa2 sc2 fi2 mi2 lf2 hi2 n2) ++ (wO o cJ ov)) (fun _ => rfl) rfl (cv_of 30 (by decide +kernel) (fun _ => rfl)) [ma 0, ma 1, ma 2, ma 3, ma 4, ma 5, ma 6] (fun _ => rfl) rfl rfl rfl (fun r5 u4 h6 => ?_)
  subst h6
  refine z_istore (lv' := [(6, .int (nI 0)), (5, .int (nI 1)), (0, .ref b0), (1, .ref h), (2, .ref (ma 0)), (3, .ref o), (4, .int (nI i))]) (n := 197) hC dL_law_195 (by decide) rfl rfl ?_
  refine z_aload_n (n := 198) hC dL_law_197 rfl 4 rfl rfl ?_
  refine z_calli (R := room_1) (cells := 30 + 7 * j + 1) (slots := 211 + 66 * j + 6) (ws := (wH h ta sa ua T) ++ (wT ta cI b r) ++ (wS sa cI cZ sw st fa sc fi mi lf hi n) ++ (wS ua cI cZ sw2 st2 fa2 sc2 fi2 mi2 lf2 hi2 n2) ++ (wN ma cI (nI 1) n sw st b r T sc fi mi fa K) ++ (wO o cJ ov)) (n := 201) (As := []) (rest := []) hC (k_X3_thrown l G cI cZ cJ ma (nI 1) n sw st b r T sc fi mi fa K (by omega) (by omega)) kg_L_89 kd_yX3_thrown dL_law_198 ⟨Nat.le_of_ble_eq_true rfl, Nat.le_of_ble_eq_true rfl⟩ 0 rfl rfl rfl [22, 23, 24, 25, 26, 27, 28] rfl (by decide) rfl (Nat.le_of_ble_eq_true rfl) ⟨by show _ ≤ 1080188; omega, by show _ ≤ 5855541; omega⟩ (ws2 := fun u7 => (wH h ta sa ua T) ++ (wT ta cI b r) ++ (wS sa cI cZ sw st fa sc fi mi lf hi n) ++ (wS ua cI cZ sw2 st2 fa2 sc2 fi2 mi2 lf2 hi2 n2) ++ (wN ma cI (nI 1) n sw st b r T sc fi mi fa K) ++ (wO o cJ ov)) [0, 1, 2, 3, 4, 5, 6, 7, 8, 9, 10, 11, 12, 13, 14, 15, 16, 17, 18, 19, 20, 21, 29] (fun _ => rfl) ((wH h ta sa ua T) ++ (wT ta cI b r) ++ (wS sa cI cZ sw st fa sc fi mi lf hi n) ++ (wS ua cI cZ sw2 st2 fa2 sc2 fi2 mi2 lf2 hi2 n2) ++ (wO o cJ ov)) (fun _ => rfl) rfl (cv_of 30 (by decide +kernel) (fun _ => rfl)) [ma 0, ma 1, ma 2, ma 3, ma 4, ma 5, ma 6] (fun _ => rfl) rfl rfl rfl (fun r8 u7 h9 => ?_)
  subst h9
  refine z_iload (n := 203) hC dL_law_201 1 rfl rfl ?_
  refine z_icmp_eq_n (tgt := 208) (n := 206) hC 1 1 rfl rfl (by omega) (by omega) dL_law_203 (by decide) rfl (fun c10 => ?_) (fun c10 => absurd rfl c10)
  refine z_iload (n := 210) hC dL_law_208 1 rfl rfl ?_
  refine z_if_ne (tgt := 225) (n := 213) hC dL_law_210 (by decide) rfl (fun c11 => ?_) (fun c11 => absurd c11 (by decide))
  refine z_goto (n := 1448) hC dL_law_225 (by decide) ?_
  refine z_iinc (k0 := 6) (v := nI (i + 4)) (lv' := [(4, .int (nI (i + 4))), (6, .int (nI 0)), (5, .int (nI 1)), (0, .ref b0), (1, .ref h), (2, .ref (ma 0)), (3, .ref o)]) (n := 1451) hC dL_law_1448 rfl (nI_add i 4) (by decide) rfl rfl ?_
  refine z_goto (n := 23) hC dL_law_1451 (by decide) ?_
  refine z_lv [3, 4, 5, 6, 0] (lv' := [(0, .ref b0), (1, .ref h), (2, .ref (ma 0)), (3, .ref o), (4, .int (nI (i + 4)))]) rfl ?_
  refine z_wid (k1 := 30 + 7 * (j + 1)) (k2 := 211 + 66 * (j + 1)) (by omega) (by omega) ?_
  exact ih (i + 4) T b r sw st fa sc fi mi lf hi n sw2 st2 fa2 sc2 fi2 mi2 lf2 hi2 n2 (nI 1) K ov (by omega) (iv_same hI)

set_option maxRecDepth 100000 in
set_option maxHeartbeats 4000000 in
theorem c_addGun_b (p : Program) (l : Launch) (e : Env) (s : State) (m : MethodId) (args : Array Value) (below : List Frame) (meth : Method) (c : Code) (G : va_G) (A : Nat → Prop) (Q : State → Prop) (cI cZ cJ : ClassId) (b0 h o : Nat) (ta sa ua ma : Nat → Nat) (L : Nat) (xs : Nat → Int32) (i j : Nat) (T : Nat) (b r sw st fa sc fi mi : Nat → Int32) (lf hi : Nat → Bool) (n : Nat) (sw2 st2 fa2 sc2 fi2 mi2 : Nat → Int32) (lf2 hi2 : Nat → Bool) (n2 : Nat) (th : Int32) (K : Nat → Int32) (ov : Nat → Int64)  (hW : LX p l s m args c G A cI cZ cJ b0 L xs) (hI : iv j T n b r st fa mi) (hi0 : i = 4 * j) (hiL : i + 4 ≤ L) (hx1 : ¬ xs (i + 1) < nI 5) (hx2 : xs (i + 1) ≤ nI 60) (hb : xs (i + 2) < nI 1 ∨ nI 9 < xs (i + 2)) (ih : LPj p l e s m args below meth c G A Q cI cZ cJ b0 h o ta sa ua ma (j + 1)) : LZ p l e s m args below meth c G A Q cI cZ cJ b0 h o ta sa ua ma (30 + 7 * j) (211 + 66 * j) i 160 T b r sw st fa sc fi mi lf hi n sw2 st2 fa2 sc2 fi2 mi2 lf2 hi2 n2 th K ov := by
  obtain ⟨hC, hl, hz, hX, hb0, hbA, hL⟩ := hW
  have hj : j ≤ 511 := by omega
  obtain ⟨hn, hT0, hst, hfa0, hmi0, hb9, hr9⟩ := id hI
  have hT : T < 2 ^ 29 := by omega
  have hfa : ∀ g : Nat, inN (fa g) (2 ^ 28) := fun g => inN_mono (hfa0 g) (by omega)
  have hmi : ∀ g : Nat, inN (mi g) (2 ^ 30) := fun g => inN_mono (hmi0 g) (by omega)
  have ham : ∀ (g zt : Nat), inN (amF b r zt g) 1000 := fun g zt => am_in hb9 hr9 zt g
  unfold LZ
  refine z_aload_n (n := 161) hC dL_law_160 rfl 1 rfl rfl ?_
  refine z_aload_n (n := 162) hC dL_law_161 rfl 0 rfl rfl ?_
  refine z_iload (n := 164) hC dL_law_162 4 rfl rfl ?_
  refine z_iconst (v := nI 1) (n := 165) hC dL_law_164 (by decide) rfl ?_
  refine z_iadd (v := nI (i + 1)) (n := 166) hC dL_law_165 (nI_add i 1) rfl ?_
  refine z_sld (v := xs (i + 1)) (n := 167) hC hX hb0 hbA hL (i + 1) rfl (by omega) rfl dL_law_166 rfl ?_
  refine z_aload_n (n := 168) hC dL_law_167 rfl 0 rfl rfl ?_
  refine z_iload (n := 170) hC dL_law_168 4 rfl rfl ?_
  refine z_iconst (v := nI 2) (n := 171) hC dL_law_170 (by decide) rfl ?_
  refine z_iadd (v := nI (i + 2)) (n := 172) hC dL_law_171 (nI_add i 2) rfl ?_
  refine z_sld (v := xs (i + 2)) (n := 173) hC hX hb0 hbA hL (i + 2) rfl (by omega) rfl dL_law_172 rfl ?_
  refine z_aload_n (n := 174) hC dL_law_173 rfl 3 rfl rfl ?_
  refine z_callsiH (R := room_1) (cells := 30 + 7 * j) (slots := 211 + 66 * j) (ws := (wH h ta sa ua T) ++ (wT ta cI b r) ++ (wS sa cI cZ sw st fa sc fi mi lf hi n) ++ (wS ua cI cZ sw2 st2 fa2 sc2 fi2 mi2 lf2 hi2 n2) ++ (wN ma cI th n sw st b r T sc fi mi fa K) ++ (wO o cJ ov)) (n := 177) (As := [.ref h, .int (xs (i + 1)), .int (xs (i + 2)), .ref o]) (rest := []) hC hz (kx_L_addGun_b l G cI cZ cJ h ta sa ua T b r sw st fa sc fi mi lf hi n sw2 st2 fa2 sc2 fi2 mi2 lf2 hi2 n2 o ov (xs (i + 1)) (xs (i + 2)) hl (by omega) (by omega) hx1 hx2 hb) kg_L_83 kd_yL_addGun dL_law_174 ⟨Nat.le_of_ble_eq_true rfl, Nat.le_of_ble_eq_true rfl⟩ [0, 1, 2, 3, 4, 5, 6, 7, 8, 9, 10, 11, 12, 13, 14, 15, 16, 17, 18, 19, 20, 21, 29] rfl (by decide) rfl (Nat.le_of_ble_eq_true rfl) ⟨by show _ ≤ 1080188; omega, by show _ ≤ 5855541; omega⟩ (ws2 := fun u1 => (wH h ta sa ua T) ++ (wT ta cI b r) ++ (wS sa cI cZ sw st fa sc fi mi lf hi n) ++ (wS ua cI cZ sw2 st2 fa2 sc2 fi2 mi2 lf2 hi2 n2) ++ (wN ma cI th n sw st b r T sc fi mi fa K) ++ (wO o cJ ov)) [22, 23, 24, 25, 26, 27, 28] (fun _ => rfl) (wN ma cI th n sw st b r T sc fi mi fa K) (fun _ => rfl) rfl (cv_of 30 (by decide +kernel) (fun _ => rfl)) [h, ta 0, ta 1, ta 2, sa 0, sa 1, sa 2, sa 3, sa 4, sa 5, sa 6, sa 7, sa 8, ua 0, ua 1, ua 2, ua 3, ua 4, ua 5, ua 6, ua 7, ua 8, o] (fun _ => rfl) rfl rfl rfl (fun r2 u1 h3 => ?_)
  subst h3
  refine z_istore (lv' := [(5, .int (nI 1)), (0, .ref b0), (1, .ref h), (2, .ref (ma 0)), (3, .ref o), (4, .int (nI i))]) (n := 179) hC dL_law_177 (by decide) rfl rfl ?_
  refine z_aload_n (n := 180) hC dL_law_179 rfl 3 rfl rfl ?_
  refine z_aload_n (n := 181) hC dL_law_180 rfl 1 rfl rfl ?_
  refine z_iload (n := 183) hC dL_law_181 5 rfl rfl ?_
  refine z_iconst (v := nI 1) (n := 184) hC dL_law_183 (by decide) rfl ?_
  refine z_iadd (v := nI (i + 1)) (n := 185) hC dL_law_184 (nI_add i 1) rfl ?_
  refine z_sld (v := xs (i + 1)) (n := 186) hC hX hb0 hbA hL (i + 1) rfl (by omega) rfl dL_law_185 rfl ?_
  refine z_aload_n (n := 187) hC dL_law_186 rfl 1 rfl rfl ?_
  refine z_iload (n := 189) hC dL_law_187 5 rfl rfl ?_
  refine z_iconst (v := nI 2) (n := 190) hC dL_law_189 (by decide) rfl ?_
  refine z_iadd (v := nI (i + 2)) (n := 191) hC dL_law_190 (nI_add i 2) rfl ?_
  refine z_sld (v := xs (i + 2)) (n := 192) hC hX hb0 hbA hL (i + 2) rfl (by omega) rfl dL_law_191 rfl ?_
  refine z_calli (R := room_1) (cells := 30 + 7 * j + 1) (slots := 211 + 66 * j + 6) (ws := (wH h ta sa ua T) ++ (wT ta cI b r) ++ (wS sa cI cZ sw st fa sc fi mi lf hi n) ++ (wS ua cI cZ sw2 st2 fa2 sc2 fi2 mi2 lf2 hi2 n2) ++ (wN ma cI th n sw st b r T sc fi mi fa K) ++ (wO o cJ ov)) (n := 195) (As := [.int (xs (i + 1)), .int (xs (i + 2))]) (rest := []) hC (k_X3_addGun_xb l G cI cZ cJ ma th n sw st b r T sc fi mi fa K (xs (i + 1)) (xs (i + 2)) (by omega) (by omega) hx1 hx2 hb) kg_L_88 kd_yX3_addGun dL_law_192 ⟨Nat.le_of_ble_eq_true rfl, Nat.le_of_ble_eq_true rfl⟩ 0 rfl rfl rfl [22, 23, 24, 25, 26, 27, 28] rfl (by decide) rfl (Nat.le_of_ble_eq_true rfl) ⟨by show _ ≤ 1080188; omega, by show _ ≤ 5855541; omega⟩ (ws2 := fun u4 => (wH h ta sa ua T) ++ (wT ta cI b r) ++ (wS sa cI cZ sw st fa sc fi mi lf hi n) ++ (wS ua cI cZ sw2 st2 fa2 sc2 fi2 mi2 lf2 hi2 n2) ++ (wN ma cI (nI 1) n sw st b r T sc fi mi fa K) ++ (wO o cJ ov)) [0, 1, 2, 3, 4, 5, 6, 7, 8, 9, 10, 11, 12, 13, 14, 15, 16, 17, 18, 19, 20, 21, 29] (fun _ => rfl) ((wH h ta sa ua T) ++ (wT ta cI b r) ++ (wS sa cI cZ sw st fa sc fi mi lf hi n) ++ (wS ua cI cZ sw2 st2 fa2 sc2 fi2 mi2 lf2 hi2 n2) ++ (wO o cJ ov)) (fun _ => rfl) rfl (cv_of 30 (by decide +kernel) (fun _ => rfl)) [ma 0, ma 1, ma 2, ma 3, ma 4, ma 5, ma 6] (fun _ => rfl) rfl rfl rfl (fun r5 u4 h6 => ?_)
  subst h6
  refine z_istore (lv' := [(6, .int (nI 0)), (5, .int (nI 1)), (0, .ref b0), (1, .ref h), (2, .ref (ma 0)), (3, .ref o), (4, .int (nI i))]) (n := 197) hC dL_law_195 (by decide) rfl rfl ?_
  refine z_aload_n (n := 198) hC dL_law_197 rfl 4 rfl rfl ?_
  refine z_calli (R := room_1) (cells := 30 + 7 * j + 1) (slots := 211 + 66 * j + 6) (ws := (wH h ta sa ua T) ++ (wT ta cI b r) ++ (wS sa cI cZ sw st fa sc fi mi lf hi n) ++ (wS ua cI cZ sw2 st2 fa2 sc2 fi2 mi2 lf2 hi2 n2) ++ (wN ma cI (nI 1) n sw st b r T sc fi mi fa K) ++ (wO o cJ ov)) (n := 201) (As := []) (rest := []) hC (k_X3_thrown l G cI cZ cJ ma (nI 1) n sw st b r T sc fi mi fa K (by omega) (by omega)) kg_L_89 kd_yX3_thrown dL_law_198 ⟨Nat.le_of_ble_eq_true rfl, Nat.le_of_ble_eq_true rfl⟩ 0 rfl rfl rfl [22, 23, 24, 25, 26, 27, 28] rfl (by decide) rfl (Nat.le_of_ble_eq_true rfl) ⟨by show _ ≤ 1080188; omega, by show _ ≤ 5855541; omega⟩ (ws2 := fun u7 => (wH h ta sa ua T) ++ (wT ta cI b r) ++ (wS sa cI cZ sw st fa sc fi mi lf hi n) ++ (wS ua cI cZ sw2 st2 fa2 sc2 fi2 mi2 lf2 hi2 n2) ++ (wN ma cI (nI 1) n sw st b r T sc fi mi fa K) ++ (wO o cJ ov)) [0, 1, 2, 3, 4, 5, 6, 7, 8, 9, 10, 11, 12, 13, 14, 15, 16, 17, 18, 19, 20, 21, 29] (fun _ => rfl) ((wH h ta sa ua T) ++ (wT ta cI b r) ++ (wS sa cI cZ sw st fa sc fi mi lf hi n) ++ (wS ua cI cZ sw2 st2 fa2 sc2 fi2 mi2 lf2 hi2 n2) ++ (wO o cJ ov)) (fun _ => rfl) rfl (cv_of 30 (by decide +kernel) (fun _ => rfl)) [ma 0, ma 1, ma 2, ma 3, ma 4, ma 5, ma 6] (fun _ => rfl) rfl rfl rfl (fun r8 u7 h9 => ?_)
  subst h9
  refine z_iload (n := 203) hC dL_law_201 1 rfl rfl ?_
  refine z_icmp_eq_n (tgt := 208) (n := 206) hC 1 1 rfl rfl (by omega) (by omega) dL_law_203 (by decide) rfl (fun c10 => ?_) (fun c10 => absurd rfl c10)
  refine z_iload (n := 210) hC dL_law_208 1 rfl rfl ?_
  refine z_if_ne (tgt := 225) (n := 213) hC dL_law_210 (by decide) rfl (fun c11 => ?_) (fun c11 => absurd c11 (by decide))
  refine z_goto (n := 1448) hC dL_law_225 (by decide) ?_
  refine z_iinc (k0 := 6) (v := nI (i + 4)) (lv' := [(4, .int (nI (i + 4))), (6, .int (nI 0)), (5, .int (nI 1)), (0, .ref b0), (1, .ref h), (2, .ref (ma 0)), (3, .ref o)]) (n := 1451) hC dL_law_1448 rfl (nI_add i 4) (by decide) rfl rfl ?_
  refine z_goto (n := 23) hC dL_law_1451 (by decide) ?_
  refine z_lv [3, 4, 5, 6, 0] (lv' := [(0, .ref b0), (1, .ref h), (2, .ref (ma 0)), (3, .ref o), (4, .int (nI (i + 4)))]) rfl ?_
  refine z_wid (k1 := 30 + 7 * (j + 1)) (k2 := 211 + 66 * (j + 1)) (by omega) (by omega) ?_
  exact ih (i + 4) T b r sw st fa sc fi mi lf hi n sw2 st2 fa2 sc2 fi2 mi2 lf2 hi2 n2 (nI 1) K ov (by omega) (iv_same hI)

set_option maxRecDepth 100000 in
set_option maxHeartbeats 4000000 in
theorem c_addGun_c (p : Program) (l : Launch) (e : Env) (s : State) (m : MethodId) (args : Array Value) (below : List Frame) (meth : Method) (c : Code) (G : va_G) (A : Nat → Prop) (Q : State → Prop) (cI cZ cJ : ClassId) (b0 h o : Nat) (ta sa ua ma : Nat → Nat) (L : Nat) (xs : Nat → Int32) (i j : Nat) (T : Nat) (b r sw st fa sc fi mi : Nat → Int32) (lf hi : Nat → Bool) (n : Nat) (sw2 st2 fa2 sc2 fi2 mi2 : Nat → Int32) (lf2 hi2 : Nat → Bool) (n2 : Nat) (th : Int32) (K : Nat → Int32) (ov : Nat → Int64)  (hW : LX p l s m args c G A cI cZ cJ b0 L xs) (hI : iv j T n b r st fa mi) (hi0 : i = 4 * j) (hiL : i + 4 ≤ L) (hn6 : n = 6) (hx1 : ¬ xs (i + 1) < nI 5) (hx2 : xs (i + 1) ≤ nI 60) (hy1 : ¬ xs (i + 2) < nI 1) (hy2 : xs (i + 2) ≤ nI 9) (ih : LPj p l e s m args below meth c G A Q cI cZ cJ b0 h o ta sa ua ma (j + 1)) : LZ p l e s m args below meth c G A Q cI cZ cJ b0 h o ta sa ua ma (30 + 7 * j) (211 + 66 * j) i 160 T b r sw st fa sc fi mi lf hi n sw2 st2 fa2 sc2 fi2 mi2 lf2 hi2 n2 th K ov := by
  obtain ⟨hC, hl, hz, hX, hb0, hbA, hL⟩ := hW
  have hj : j ≤ 511 := by omega
  obtain ⟨hn, hT0, hst, hfa0, hmi0, hb9, hr9⟩ := id hI
  have hT : T < 2 ^ 29 := by omega
  have hfa : ∀ g : Nat, inN (fa g) (2 ^ 28) := fun g => inN_mono (hfa0 g) (by omega)
  have hmi : ∀ g : Nat, inN (mi g) (2 ^ 30) := fun g => inN_mono (hmi0 g) (by omega)
  have ham : ∀ (g zt : Nat), inN (amF b r zt g) 1000 := fun g zt => am_in hb9 hr9 zt g
  unfold LZ
  refine z_aload_n (n := 161) hC dL_law_160 rfl 1 rfl rfl ?_
  refine z_aload_n (n := 162) hC dL_law_161 rfl 0 rfl rfl ?_
  refine z_iload (n := 164) hC dL_law_162 4 rfl rfl ?_
  refine z_iconst (v := nI 1) (n := 165) hC dL_law_164 (by decide) rfl ?_
  refine z_iadd (v := nI (i + 1)) (n := 166) hC dL_law_165 (nI_add i 1) rfl ?_
  refine z_sld (v := xs (i + 1)) (n := 167) hC hX hb0 hbA hL (i + 1) rfl (by omega) rfl dL_law_166 rfl ?_
  refine z_aload_n (n := 168) hC dL_law_167 rfl 0 rfl rfl ?_
  refine z_iload (n := 170) hC dL_law_168 4 rfl rfl ?_
  refine z_iconst (v := nI 2) (n := 171) hC dL_law_170 (by decide) rfl ?_
  refine z_iadd (v := nI (i + 2)) (n := 172) hC dL_law_171 (nI_add i 2) rfl ?_
  refine z_sld (v := xs (i + 2)) (n := 173) hC hX hb0 hbA hL (i + 2) rfl (by omega) rfl dL_law_172 rfl ?_
  refine z_aload_n (n := 174) hC dL_law_173 rfl 3 rfl rfl ?_
  refine z_callsiH (R := room_1) (cells := 30 + 7 * j) (slots := 211 + 66 * j) (ws := (wH h ta sa ua T) ++ (wT ta cI b r) ++ (wS sa cI cZ sw st fa sc fi mi lf hi n) ++ (wS ua cI cZ sw2 st2 fa2 sc2 fi2 mi2 lf2 hi2 n2) ++ (wN ma cI th n sw st b r T sc fi mi fa K) ++ (wO o cJ ov)) (n := 177) (As := [.ref h, .int (xs (i + 1)), .int (xs (i + 2)), .ref o]) (rest := []) hC hz (kx_L_addGun_c l G cI cZ cJ h ta sa ua T b r sw st fa sc fi mi lf hi n sw2 st2 fa2 sc2 fi2 mi2 lf2 hi2 n2 o ov (xs (i + 1)) (xs (i + 2)) hl (by omega) (by omega) hn6 hx1 hx2 hy1 hy2) kg_L_83 kd_yL_addGun dL_law_174 ⟨Nat.le_of_ble_eq_true rfl, Nat.le_of_ble_eq_true rfl⟩ [0, 1, 2, 3, 4, 5, 6, 7, 8, 9, 10, 11, 12, 13, 14, 15, 16, 17, 18, 19, 20, 21, 29] rfl (by decide) rfl (Nat.le_of_ble_eq_true rfl) ⟨by show _ ≤ 1080188; omega, by show _ ≤ 5855541; omega⟩ (ws2 := fun u1 => (wH h ta sa ua T) ++ (wT ta cI b r) ++ (wS sa cI cZ sw st fa sc fi mi lf hi n) ++ (wS ua cI cZ sw2 st2 fa2 sc2 fi2 mi2 lf2 hi2 n2) ++ (wN ma cI th n sw st b r T sc fi mi fa K) ++ (wO o cJ ov)) [22, 23, 24, 25, 26, 27, 28] (fun _ => rfl) (wN ma cI th n sw st b r T sc fi mi fa K) (fun _ => rfl) rfl (cv_of 30 (by decide +kernel) (fun _ => rfl)) [h, ta 0, ta 1, ta 2, sa 0, sa 1, sa 2, sa 3, sa 4, sa 5, sa 6, sa 7, sa 8, ua 0, ua 1, ua 2, ua 3, ua 4, ua 5, ua 6, ua 7, ua 8, o] (fun _ => rfl) rfl rfl rfl (fun r2 u1 h3 => ?_)
  subst h3
  refine z_istore (lv' := [(5, .int (nI 2)), (0, .ref b0), (1, .ref h), (2, .ref (ma 0)), (3, .ref o), (4, .int (nI i))]) (n := 179) hC dL_law_177 (by decide) rfl rfl ?_
  refine z_aload_n (n := 180) hC dL_law_179 rfl 3 rfl rfl ?_
  refine z_aload_n (n := 181) hC dL_law_180 rfl 1 rfl rfl ?_
  refine z_iload (n := 183) hC dL_law_181 5 rfl rfl ?_
  refine z_iconst (v := nI 1) (n := 184) hC dL_law_183 (by decide) rfl ?_
  refine z_iadd (v := nI (i + 1)) (n := 185) hC dL_law_184 (nI_add i 1) rfl ?_
  refine z_sld (v := xs (i + 1)) (n := 186) hC hX hb0 hbA hL (i + 1) rfl (by omega) rfl dL_law_185 rfl ?_
  refine z_aload_n (n := 187) hC dL_law_186 rfl 1 rfl rfl ?_
  refine z_iload (n := 189) hC dL_law_187 5 rfl rfl ?_
  refine z_iconst (v := nI 2) (n := 190) hC dL_law_189 (by decide) rfl ?_
  refine z_iadd (v := nI (i + 2)) (n := 191) hC dL_law_190 (nI_add i 2) rfl ?_
  refine z_sld (v := xs (i + 2)) (n := 192) hC hX hb0 hbA hL (i + 2) rfl (by omega) rfl dL_law_191 rfl ?_
  refine z_calli (R := room_1) (cells := 30 + 7 * j + 1) (slots := 211 + 66 * j + 6) (ws := (wH h ta sa ua T) ++ (wT ta cI b r) ++ (wS sa cI cZ sw st fa sc fi mi lf hi n) ++ (wS ua cI cZ sw2 st2 fa2 sc2 fi2 mi2 lf2 hi2 n2) ++ (wN ma cI th n sw st b r T sc fi mi fa K) ++ (wO o cJ ov)) (n := 195) (As := [.int (xs (i + 1)), .int (xs (i + 2))]) (rest := []) hC (k_X3_addGun_xc l G cI cZ cJ ma th n sw st b r T sc fi mi fa K (xs (i + 1)) (xs (i + 2)) (by omega) (by omega) hn6 hx1 hx2 hy1 hy2) kg_L_88 kd_yX3_addGun dL_law_192 ⟨Nat.le_of_ble_eq_true rfl, Nat.le_of_ble_eq_true rfl⟩ 0 rfl rfl rfl [22, 23, 24, 25, 26, 27, 28] rfl (by decide) rfl (Nat.le_of_ble_eq_true rfl) ⟨by show _ ≤ 1080188; omega, by show _ ≤ 5855541; omega⟩ (ws2 := fun u4 => (wH h ta sa ua T) ++ (wT ta cI b r) ++ (wS sa cI cZ sw st fa sc fi mi lf hi n) ++ (wS ua cI cZ sw2 st2 fa2 sc2 fi2 mi2 lf2 hi2 n2) ++ (wN ma cI (nI 2) n sw st b r T sc fi mi fa K) ++ (wO o cJ ov)) [0, 1, 2, 3, 4, 5, 6, 7, 8, 9, 10, 11, 12, 13, 14, 15, 16, 17, 18, 19, 20, 21, 29] (fun _ => rfl) ((wH h ta sa ua T) ++ (wT ta cI b r) ++ (wS sa cI cZ sw st fa sc fi mi lf hi n) ++ (wS ua cI cZ sw2 st2 fa2 sc2 fi2 mi2 lf2 hi2 n2) ++ (wO o cJ ov)) (fun _ => rfl) rfl (cv_of 30 (by decide +kernel) (fun _ => rfl)) [ma 0, ma 1, ma 2, ma 3, ma 4, ma 5, ma 6] (fun _ => rfl) rfl rfl rfl (fun r5 u4 h6 => ?_)
  subst h6
  refine z_istore (lv' := [(6, .int (nI 0)), (5, .int (nI 2)), (0, .ref b0), (1, .ref h), (2, .ref (ma 0)), (3, .ref o), (4, .int (nI i))]) (n := 197) hC dL_law_195 (by decide) rfl rfl ?_
  refine z_aload_n (n := 198) hC dL_law_197 rfl 4 rfl rfl ?_
  refine z_calli (R := room_1) (cells := 30 + 7 * j + 1) (slots := 211 + 66 * j + 6) (ws := (wH h ta sa ua T) ++ (wT ta cI b r) ++ (wS sa cI cZ sw st fa sc fi mi lf hi n) ++ (wS ua cI cZ sw2 st2 fa2 sc2 fi2 mi2 lf2 hi2 n2) ++ (wN ma cI (nI 2) n sw st b r T sc fi mi fa K) ++ (wO o cJ ov)) (n := 201) (As := []) (rest := []) hC (k_X3_thrown l G cI cZ cJ ma (nI 2) n sw st b r T sc fi mi fa K (by omega) (by omega)) kg_L_89 kd_yX3_thrown dL_law_198 ⟨Nat.le_of_ble_eq_true rfl, Nat.le_of_ble_eq_true rfl⟩ 0 rfl rfl rfl [22, 23, 24, 25, 26, 27, 28] rfl (by decide) rfl (Nat.le_of_ble_eq_true rfl) ⟨by show _ ≤ 1080188; omega, by show _ ≤ 5855541; omega⟩ (ws2 := fun u7 => (wH h ta sa ua T) ++ (wT ta cI b r) ++ (wS sa cI cZ sw st fa sc fi mi lf hi n) ++ (wS ua cI cZ sw2 st2 fa2 sc2 fi2 mi2 lf2 hi2 n2) ++ (wN ma cI (nI 2) n sw st b r T sc fi mi fa K) ++ (wO o cJ ov)) [0, 1, 2, 3, 4, 5, 6, 7, 8, 9, 10, 11, 12, 13, 14, 15, 16, 17, 18, 19, 20, 21, 29] (fun _ => rfl) ((wH h ta sa ua T) ++ (wT ta cI b r) ++ (wS sa cI cZ sw st fa sc fi mi lf hi n) ++ (wS ua cI cZ sw2 st2 fa2 sc2 fi2 mi2 lf2 hi2 n2) ++ (wO o cJ ov)) (fun _ => rfl) rfl (cv_of 30 (by decide +kernel) (fun _ => rfl)) [ma 0, ma 1, ma 2, ma 3, ma 4, ma 5, ma 6] (fun _ => rfl) rfl rfl rfl (fun r8 u7 h9 => ?_)
  subst h9
  refine z_iload (n := 203) hC dL_law_201 1 rfl rfl ?_
  refine z_icmp_eq_n (tgt := 208) (n := 206) hC 2 2 rfl rfl (by omega) (by omega) dL_law_203 (by decide) rfl (fun c10 => ?_) (fun c10 => absurd rfl c10)
  refine z_iload (n := 210) hC dL_law_208 1 rfl rfl ?_
  refine z_if_ne (tgt := 225) (n := 213) hC dL_law_210 (by decide) rfl (fun c11 => ?_) (fun c11 => absurd c11 (by decide))
  refine z_goto (n := 1448) hC dL_law_225 (by decide) ?_
  refine z_iinc (k0 := 6) (v := nI (i + 4)) (lv' := [(4, .int (nI (i + 4))), (6, .int (nI 0)), (5, .int (nI 2)), (0, .ref b0), (1, .ref h), (2, .ref (ma 0)), (3, .ref o)]) (n := 1451) hC dL_law_1448 rfl (nI_add i 4) (by decide) rfl rfl ?_
  refine z_goto (n := 23) hC dL_law_1451 (by decide) ?_
  refine z_lv [3, 4, 5, 6, 0] (lv' := [(0, .ref b0), (1, .ref h), (2, .ref (ma 0)), (3, .ref o), (4, .int (nI (i + 4)))]) rfl ?_
  refine z_wid (k1 := 30 + 7 * (j + 1)) (k2 := 211 + 66 * (j + 1)) (by omega) (by omega) ?_
  exact ih (i + 4) T b r sw st fa sc fi mi lf hi n sw2 st2 fa2 sc2 fi2 mi2 lf2 hi2 n2 (nI 2) K ov (by omega) (iv_same hI)

set_option maxRecDepth 100000 in
set_option maxHeartbeats 4000000 in
theorem c_setTrap (p : Program) (l : Launch) (e : Env) (s : State) (m : MethodId) (args : Array Value) (below : List Frame) (meth : Method) (c : Code) (G : va_G) (A : Nat → Prop) (Q : State → Prop) (cI cZ cJ : ClassId) (b0 h o : Nat) (ta sa ua ma : Nat → Nat) (L : Nat) (xs : Nat → Int32) (i j : Nat) (T : Nat) (b r sw st fa sc fi mi : Nat → Int32) (lf hi : Nat → Bool) (n : Nat) (sw2 st2 fa2 sc2 fi2 mi2 : Nat → Int32) (lf2 hi2 : Nat → Bool) (n2 : Nat) (th : Int32) (K : Nat → Int32) (ov : Nat → Int64) (s0 : Nat) (hW : LX p l s m args c G A cI cZ cJ b0 L xs) (hI : iv j T n b r st fa mi) (hi0 : i = 4 * j) (hiL : i + 4 ≤ L) (he1 : xs (i + 1) = nI s0) (hs : s0 < 5) (hx1 : ¬ xs (i + 2) < (-45)) (hx2 : xs (i + 2) ≤ nI 45) (hy1 : ¬ xs (i + 3) < 0) (hy2 : xs (i + 3) ≤ nI 45) (ih : LPj p l e s m args below meth c G A Q cI cZ cJ b0 h o ta sa ua ma (j + 1)) : LZ p l e s m args below meth c G A Q cI cZ cJ b0 h o ta sa ua ma (30 + 7 * j) (211 + 66 * j) i 228 T b r sw st fa sc fi mi lf hi n sw2 st2 fa2 sc2 fi2 mi2 lf2 hi2 n2 th K ov := by
  obtain ⟨hC, hl, hz, hX, hb0, hbA, hL⟩ := hW
  have hj : j ≤ 511 := by omega
  obtain ⟨hn, hT0, hst, hfa0, hmi0, hb9, hr9⟩ := id hI
  have hT : T < 2 ^ 29 := by omega
  have hfa : ∀ g : Nat, inN (fa g) (2 ^ 28) := fun g => inN_mono (hfa0 g) (by omega)
  have hmi : ∀ g : Nat, inN (mi g) (2 ^ 30) := fun g => inN_mono (hmi0 g) (by omega)
  have ham : ∀ (g zt : Nat), inN (amF b r zt g) 1000 := fun g zt => am_in hb9 hr9 zt g
  unfold LZ
  refine z_aload_n (n := 229) hC dL_law_228 rfl 1 rfl rfl ?_
  refine z_aload_n (n := 230) hC dL_law_229 rfl 0 rfl rfl ?_
  refine z_iload (n := 232) hC dL_law_230 4 rfl rfl ?_
  refine z_iconst (v := nI 1) (n := 233) hC dL_law_232 (by decide) rfl ?_
  refine z_iadd (v := nI (i + 1)) (n := 234) hC dL_law_233 (nI_add i 1) rfl ?_
  refine z_sld (v := nI s0) (n := 235) hC hX hb0 hbA hL (i + 1) rfl (by omega) he1 dL_law_234 rfl ?_
  refine z_aload_n (n := 236) hC dL_law_235 rfl 0 rfl rfl ?_
  refine z_iload (n := 238) hC dL_law_236 4 rfl rfl ?_
  refine z_iconst (v := nI 2) (n := 239) hC dL_law_238 (by decide) rfl ?_
  refine z_iadd (v := nI (i + 2)) (n := 240) hC dL_law_239 (nI_add i 2) rfl ?_
  refine z_sld (v := xs (i + 2)) (n := 241) hC hX hb0 hbA hL (i + 2) rfl (by omega) rfl dL_law_240 rfl ?_
  refine z_aload_n (n := 242) hC dL_law_241 rfl 0 rfl rfl ?_
  refine z_iload (n := 244) hC dL_law_242 4 rfl rfl ?_
  refine z_iconst (v := nI 3) (n := 245) hC dL_law_244 (by decide) rfl ?_
  refine z_iadd (v := nI (i + 3)) (n := 246) hC dL_law_245 (nI_add i 3) rfl ?_
  refine z_sld (v := xs (i + 3)) (n := 247) hC hX hb0 hbA hL (i + 3) rfl (by omega) rfl dL_law_246 rfl ?_
  refine z_aload_n (n := 248) hC dL_law_247 rfl 3 rfl rfl ?_
  refine z_callsiH (R := room_1) (cells := 30 + 7 * j) (slots := 211 + 66 * j) (ws := (wH h ta sa ua T) ++ (wT ta cI b r) ++ (wS sa cI cZ sw st fa sc fi mi lf hi n) ++ (wS ua cI cZ sw2 st2 fa2 sc2 fi2 mi2 lf2 hi2 n2) ++ (wN ma cI th n sw st b r T sc fi mi fa K) ++ (wO o cJ ov)) (n := 251) (As := [.ref h, .int (nI s0), .int (xs (i + 2)), .int (xs (i + 3)), .ref o]) (rest := []) hC hz (k_L_setTrap l G cI cZ cJ h ta sa ua T b r sw st fa sc fi mi lf hi n sw2 st2 fa2 sc2 fi2 mi2 lf2 hi2 n2 o ov s0 (xs (i + 2)) (xs (i + 3)) (by omega) (by omega) hs hx1 hx2 hy1 hy2) kg_L_92 kd_yL_setTrap dL_law_248 ⟨Nat.le_of_ble_eq_true rfl, Nat.le_of_ble_eq_true rfl⟩ [0, 1, 2, 3, 4, 5, 6, 7, 8, 9, 10, 11, 12, 13, 14, 15, 16, 17, 18, 19, 20, 21, 29] rfl (by decide) rfl (Nat.le_of_ble_eq_true rfl) ⟨by show _ ≤ 1080188; omega, by show _ ≤ 5855541; omega⟩ (ws2 := fun u1 => (wH h ta sa ua T) ++ (wT ta cI (upd b s0 (xs (i + 2))) (upd r s0 (xs (i + 3)))) ++ (wS sa cI cZ sw st fa sc fi mi lf hi n) ++ (wS ua cI cZ sw2 st2 fa2 sc2 fi2 mi2 lf2 hi2 n2) ++ (wN ma cI th n sw st b r T sc fi mi fa K) ++ (wO o cJ (vp_updL ov 0 ((b s0).toInt64)))) [22, 23, 24, 25, 26, 27, 28] (fun _ => rfl) (wN ma cI th n sw st b r T sc fi mi fa K) (fun _ => rfl) rfl (cv_of 30 (by decide +kernel) (fun _ => rfl)) [h, ta 0, ta 1, ta 2, sa 0, sa 1, sa 2, sa 3, sa 4, sa 5, sa 6, sa 7, sa 8, ua 0, ua 1, ua 2, ua 3, ua 4, ua 5, ua 6, ua 7, ua 8, o] (fun _ => rfl) rfl rfl rfl (fun r2 u1 h3 => ?_)
  subst h3
  refine z_istore (lv' := [(5, .int (nI 0)), (0, .ref b0), (1, .ref h), (2, .ref (ma 0)), (3, .ref o), (4, .int (nI i))]) (n := 253) hC dL_law_251 (by decide) rfl rfl ?_
  refine z_aload_n (n := 254) hC dL_law_253 rfl 3 rfl rfl ?_
  refine z_aload_n (n := 255) hC dL_law_254 rfl 1 rfl rfl ?_
  refine z_iload (n := 257) hC dL_law_255 5 rfl rfl ?_
  refine z_iconst (v := nI 1) (n := 258) hC dL_law_257 (by decide) rfl ?_
  refine z_iadd (v := nI (i + 1)) (n := 259) hC dL_law_258 (nI_add i 1) rfl ?_
  refine z_sld (v := nI s0) (n := 260) hC hX hb0 hbA hL (i + 1) rfl (by omega) he1 dL_law_259 rfl ?_
  refine z_aload_n (n := 261) hC dL_law_260 rfl 1 rfl rfl ?_
  refine z_iload (n := 263) hC dL_law_261 5 rfl rfl ?_
  refine z_iconst (v := nI 2) (n := 264) hC dL_law_263 (by decide) rfl ?_
  refine z_iadd (v := nI (i + 2)) (n := 265) hC dL_law_264 (nI_add i 2) rfl ?_
  refine z_sld (v := xs (i + 2)) (n := 266) hC hX hb0 hbA hL (i + 2) rfl (by omega) rfl dL_law_265 rfl ?_
  refine z_aload_n (n := 267) hC dL_law_266 rfl 1 rfl rfl ?_
  refine z_iload (n := 269) hC dL_law_267 5 rfl rfl ?_
  refine z_iconst (v := nI 3) (n := 270) hC dL_law_269 (by decide) rfl ?_
  refine z_iadd (v := nI (i + 3)) (n := 271) hC dL_law_270 (nI_add i 3) rfl ?_
  refine z_sld (v := xs (i + 3)) (n := 272) hC hX hb0 hbA hL (i + 3) rfl (by omega) rfl dL_law_271 rfl ?_
  refine z_calli (R := room_1) (cells := 30 + 7 * j) (slots := 211 + 66 * j) (ws := (wH h ta sa ua T) ++ (wT ta cI (upd b s0 (xs (i + 2))) (upd r s0 (xs (i + 3)))) ++ (wS sa cI cZ sw st fa sc fi mi lf hi n) ++ (wS ua cI cZ sw2 st2 fa2 sc2 fi2 mi2 lf2 hi2 n2) ++ (wN ma cI th n sw st b r T sc fi mi fa K) ++ (wO o cJ (vp_updL ov 0 ((b s0).toInt64)))) (n := 275) (As := [.int (nI s0), .int (xs (i + 2)), .int (xs (i + 3))]) (rest := []) hC (k_X3_setTrap l G cI cZ cJ ma th n sw st b r T sc fi mi fa K s0 (xs (i + 2)) (xs (i + 3)) (by omega) (by omega) hs hx1 hx2 hy1 hy2) kg_L_95 kd_yX3_setTrap dL_law_272 ⟨Nat.le_of_ble_eq_true rfl, Nat.le_of_ble_eq_true rfl⟩ 0 rfl rfl rfl [22, 23, 24, 25, 26, 27, 28] rfl (by decide) rfl (Nat.le_of_ble_eq_true rfl) ⟨by show _ ≤ 1080188; omega, by show _ ≤ 5855541; omega⟩ (ws2 := fun u4 => (wH h ta sa ua T) ++ (wT ta cI (upd b s0 (xs (i + 2))) (upd r s0 (xs (i + 3)))) ++ (wS sa cI cZ sw st fa sc fi mi lf hi n) ++ (wS ua cI cZ sw2 st2 fa2 sc2 fi2 mi2 lf2 hi2 n2) ++ (wN ma cI (nI 0) n sw st (upd b s0 (xs (i + 2))) (upd r s0 (xs (i + 3))) T sc fi mi fa K) ++ (wO o cJ (vp_updL ov 0 ((b s0).toInt64)))) [0, 1, 2, 3, 4, 5, 6, 7, 8, 9, 10, 11, 12, 13, 14, 15, 16, 17, 18, 19, 20, 21, 29] (fun _ => rfl) ((wH h ta sa ua T) ++ (wT ta cI (upd b s0 (xs (i + 2))) (upd r s0 (xs (i + 3)))) ++ (wS sa cI cZ sw st fa sc fi mi lf hi n) ++ (wS ua cI cZ sw2 st2 fa2 sc2 fi2 mi2 lf2 hi2 n2) ++ (wO o cJ (vp_updL ov 0 ((b s0).toInt64)))) (fun _ => rfl) rfl (cv_of 30 (by decide +kernel) (fun _ => rfl)) [ma 0, ma 1, ma 2, ma 3, ma 4, ma 5, ma 6] (fun _ => rfl) rfl rfl rfl (fun r5 u4 h6 => ?_)
  subst h6
  refine z_istore (lv' := [(6, .int (b s0)), (5, .int (nI 0)), (0, .ref b0), (1, .ref h), (2, .ref (ma 0)), (3, .ref o), (4, .int (nI i))]) (n := 277) hC dL_law_275 (by decide) rfl rfl ?_
  refine z_aload_n (n := 278) hC dL_law_277 rfl 4 rfl rfl ?_
  refine z_calli (R := room_1) (cells := 30 + 7 * j) (slots := 211 + 66 * j) (ws := (wH h ta sa ua T) ++ (wT ta cI (upd b s0 (xs (i + 2))) (upd r s0 (xs (i + 3)))) ++ (wS sa cI cZ sw st fa sc fi mi lf hi n) ++ (wS ua cI cZ sw2 st2 fa2 sc2 fi2 mi2 lf2 hi2 n2) ++ (wN ma cI (nI 0) n sw st (upd b s0 (xs (i + 2))) (upd r s0 (xs (i + 3))) T sc fi mi fa K) ++ (wO o cJ (vp_updL ov 0 ((b s0).toInt64)))) (n := 281) (As := []) (rest := []) hC (k_X3_thrown l G cI cZ cJ ma (nI 0) n sw st (upd b s0 (xs (i + 2))) (upd r s0 (xs (i + 3))) T sc fi mi fa K (by omega) (by omega)) kg_L_89 kd_yX3_thrown dL_law_278 ⟨Nat.le_of_ble_eq_true rfl, Nat.le_of_ble_eq_true rfl⟩ 0 rfl rfl rfl [22, 23, 24, 25, 26, 27, 28] rfl (by decide) rfl (Nat.le_of_ble_eq_true rfl) ⟨by show _ ≤ 1080188; omega, by show _ ≤ 5855541; omega⟩ (ws2 := fun u7 => (wH h ta sa ua T) ++ (wT ta cI (upd b s0 (xs (i + 2))) (upd r s0 (xs (i + 3)))) ++ (wS sa cI cZ sw st fa sc fi mi lf hi n) ++ (wS ua cI cZ sw2 st2 fa2 sc2 fi2 mi2 lf2 hi2 n2) ++ (wN ma cI (nI 0) n sw st (upd b s0 (xs (i + 2))) (upd r s0 (xs (i + 3))) T sc fi mi fa K) ++ (wO o cJ (vp_updL ov 0 ((b s0).toInt64)))) [0, 1, 2, 3, 4, 5, 6, 7, 8, 9, 10, 11, 12, 13, 14, 15, 16, 17, 18, 19, 20, 21, 29] (fun _ => rfl) ((wH h ta sa ua T) ++ (wT ta cI (upd b s0 (xs (i + 2))) (upd r s0 (xs (i + 3)))) ++ (wS sa cI cZ sw st fa sc fi mi lf hi n) ++ (wS ua cI cZ sw2 st2 fa2 sc2 fi2 mi2 lf2 hi2 n2) ++ (wO o cJ (vp_updL ov 0 ((b s0).toInt64)))) (fun _ => rfl) rfl (cv_of 30 (by decide +kernel) (fun _ => rfl)) [ma 0, ma 1, ma 2, ma 3, ma 4, ma 5, ma 6] (fun _ => rfl) rfl rfl rfl (fun r8 u7 h9 => ?_)
  subst h9
  refine z_iload (n := 283) hC dL_law_281 1 rfl rfl ?_
  refine z_icmp_eq_n (tgt := 288) (n := 286) hC 0 0 rfl rfl (by omega) (by omega) dL_law_283 (by decide) rfl (fun c10 => ?_) (fun c10 => absurd rfl c10)
  refine z_iload (n := 290) hC dL_law_288 1 rfl rfl ?_
  refine z_if_ne (tgt := 305) (n := 293) hC dL_law_290 (by decide) rfl (fun c11 => absurd (nI_0) c11) (fun c11 => ?_)
  refine z_aload_n (n := 294) hC dL_law_293 rfl 5 rfl rfl ?_
  refine z_iconst (v := nI 0) (n := 295) hC dL_law_294 (by decide) rfl ?_
  refine z_lald (v := (b s0).toInt64) (n := 296) hC 29 2 0 rfl rfl rfl (by omega) (by decide) dL_law_295 updL_at rfl ?_
  refine z_iload (n := 298) hC dL_law_296 0 rfl rfl ?_
  refine z_i2l (v := (b s0).toInt64) (n := 299) hC dL_law_298 rfl rfl ?_
  refine z_lcmp (n := 300) hC dL_law_299 rfl ?_
  refine z_if_eq (tgt := 305) (n := 303) hC dL_law_300 (by decide) rfl (fun c12 => ?_) (fun c12 => absurd (lg_self _) c12)
  refine z_goto (n := 1448) hC dL_law_305 (by decide) ?_
  refine z_iinc (k0 := 6) (v := nI (i + 4)) (lv' := [(4, .int (nI (i + 4))), (6, .int (b s0)), (5, .int (nI 0)), (0, .ref b0), (1, .ref h), (2, .ref (ma 0)), (3, .ref o)]) (n := 1451) hC dL_law_1448 rfl (nI_add i 4) (by decide) rfl rfl ?_
  refine z_goto (n := 23) hC dL_law_1451 (by decide) ?_
  refine z_lv [3, 4, 5, 6, 0] (lv' := [(0, .ref b0), (1, .ref h), (2, .ref (ma 0)), (3, .ref o), (4, .int (nI (i + 4)))]) rfl ?_
  refine z_wid (k1 := 30 + 7 * (j + 1)) (k2 := 211 + 66 * (j + 1)) (by omega) (by omega) ?_
  exact ih (i + 4) T (upd b s0 (xs (i + 2))) (upd r s0 (xs (i + 3))) sw st fa sc fi mi lf hi n sw2 st2 fa2 sc2 fi2 mi2 lf2 hi2 n2 (nI 0) K (vp_updL ov 0 ((b s0).toInt64)) (by omega) (iv_trap hI hx1 hx2 hy1 hy2)

set_option maxRecDepth 100000 in
set_option maxHeartbeats 4000000 in
theorem c_setTrap_a (p : Program) (l : Launch) (e : Env) (s : State) (m : MethodId) (args : Array Value) (below : List Frame) (meth : Method) (c : Code) (G : va_G) (A : Nat → Prop) (Q : State → Prop) (cI cZ cJ : ClassId) (b0 h o : Nat) (ta sa ua ma : Nat → Nat) (L : Nat) (xs : Nat → Int32) (i j : Nat) (T : Nat) (b r sw st fa sc fi mi : Nat → Int32) (lf hi : Nat → Bool) (n : Nat) (sw2 st2 fa2 sc2 fi2 mi2 : Nat → Int32) (lf2 hi2 : Nat → Bool) (n2 : Nat) (th : Int32) (K : Nat → Int32) (ov : Nat → Int64)  (hW : LX p l s m args c G A cI cZ cJ b0 L xs) (hI : iv j T n b r st fa mi) (hi0 : i = 4 * j) (hiL : i + 4 ≤ L) (hb : xs (i + 1) < 0 ∨ nI 5 ≤ xs (i + 1)) (ih : LPj p l e s m args below meth c G A Q cI cZ cJ b0 h o ta sa ua ma (j + 1)) : LZ p l e s m args below meth c G A Q cI cZ cJ b0 h o ta sa ua ma (30 + 7 * j) (211 + 66 * j) i 228 T b r sw st fa sc fi mi lf hi n sw2 st2 fa2 sc2 fi2 mi2 lf2 hi2 n2 th K ov := by
  obtain ⟨hC, hl, hz, hX, hb0, hbA, hL⟩ := hW
  have hj : j ≤ 511 := by omega
  obtain ⟨hn, hT0, hst, hfa0, hmi0, hb9, hr9⟩ := id hI
  have hT : T < 2 ^ 29 := by omega
  have hfa : ∀ g : Nat, inN (fa g) (2 ^ 28) := fun g => inN_mono (hfa0 g) (by omega)
  have hmi : ∀ g : Nat, inN (mi g) (2 ^ 30) := fun g => inN_mono (hmi0 g) (by omega)
  have ham : ∀ (g zt : Nat), inN (amF b r zt g) 1000 := fun g zt => am_in hb9 hr9 zt g
  unfold LZ
  refine z_aload_n (n := 229) hC dL_law_228 rfl 1 rfl rfl ?_
  refine z_aload_n (n := 230) hC dL_law_229 rfl 0 rfl rfl ?_
  refine z_iload (n := 232) hC dL_law_230 4 rfl rfl ?_
  refine z_iconst (v := nI 1) (n := 233) hC dL_law_232 (by decide) rfl ?_
  refine z_iadd (v := nI (i + 1)) (n := 234) hC dL_law_233 (nI_add i 1) rfl ?_
  refine z_sld (v := xs (i + 1)) (n := 235) hC hX hb0 hbA hL (i + 1) rfl (by omega) rfl dL_law_234 rfl ?_
  refine z_aload_n (n := 236) hC dL_law_235 rfl 0 rfl rfl ?_
  refine z_iload (n := 238) hC dL_law_236 4 rfl rfl ?_
  refine z_iconst (v := nI 2) (n := 239) hC dL_law_238 (by decide) rfl ?_
  refine z_iadd (v := nI (i + 2)) (n := 240) hC dL_law_239 (nI_add i 2) rfl ?_
  refine z_sld (v := xs (i + 2)) (n := 241) hC hX hb0 hbA hL (i + 2) rfl (by omega) rfl dL_law_240 rfl ?_
  refine z_aload_n (n := 242) hC dL_law_241 rfl 0 rfl rfl ?_
  refine z_iload (n := 244) hC dL_law_242 4 rfl rfl ?_
  refine z_iconst (v := nI 3) (n := 245) hC dL_law_244 (by decide) rfl ?_
  refine z_iadd (v := nI (i + 3)) (n := 246) hC dL_law_245 (nI_add i 3) rfl ?_
  refine z_sld (v := xs (i + 3)) (n := 247) hC hX hb0 hbA hL (i + 3) rfl (by omega) rfl dL_law_246 rfl ?_
  refine z_aload_n (n := 248) hC dL_law_247 rfl 3 rfl rfl ?_
  refine z_callsiH (R := room_1) (cells := 30 + 7 * j) (slots := 211 + 66 * j) (ws := (wH h ta sa ua T) ++ (wT ta cI b r) ++ (wS sa cI cZ sw st fa sc fi mi lf hi n) ++ (wS ua cI cZ sw2 st2 fa2 sc2 fi2 mi2 lf2 hi2 n2) ++ (wN ma cI th n sw st b r T sc fi mi fa K) ++ (wO o cJ ov)) (n := 251) (As := [.ref h, .int (xs (i + 1)), .int (xs (i + 2)), .int (xs (i + 3)), .ref o]) (rest := []) hC hz (kx_L_setTrap_a l G cI cZ cJ h ta sa ua T b r sw st fa sc fi mi lf hi n sw2 st2 fa2 sc2 fi2 mi2 lf2 hi2 n2 o ov (xs (i + 1)) (xs (i + 2)) (xs (i + 3)) hl (by omega) (by omega) hb) kg_L_92 kd_yL_setTrap dL_law_248 ⟨Nat.le_of_ble_eq_true rfl, Nat.le_of_ble_eq_true rfl⟩ [0, 1, 2, 3, 4, 5, 6, 7, 8, 9, 10, 11, 12, 13, 14, 15, 16, 17, 18, 19, 20, 21, 29] rfl (by decide) rfl (Nat.le_of_ble_eq_true rfl) ⟨by show _ ≤ 1080188; omega, by show _ ≤ 5855541; omega⟩ (ws2 := fun u1 => (wH h ta sa ua T) ++ (wT ta cI b r) ++ (wS sa cI cZ sw st fa sc fi mi lf hi n) ++ (wS ua cI cZ sw2 st2 fa2 sc2 fi2 mi2 lf2 hi2 n2) ++ (wN ma cI th n sw st b r T sc fi mi fa K) ++ (wO o cJ ov)) [22, 23, 24, 25, 26, 27, 28] (fun _ => rfl) (wN ma cI th n sw st b r T sc fi mi fa K) (fun _ => rfl) rfl (cv_of 30 (by decide +kernel) (fun _ => rfl)) [h, ta 0, ta 1, ta 2, sa 0, sa 1, sa 2, sa 3, sa 4, sa 5, sa 6, sa 7, sa 8, ua 0, ua 1, ua 2, ua 3, ua 4, ua 5, ua 6, ua 7, ua 8, o] (fun _ => rfl) rfl rfl rfl (fun r2 u1 h3 => ?_)
  subst h3
  refine z_istore (lv' := [(5, .int (nI 1)), (0, .ref b0), (1, .ref h), (2, .ref (ma 0)), (3, .ref o), (4, .int (nI i))]) (n := 253) hC dL_law_251 (by decide) rfl rfl ?_
  refine z_aload_n (n := 254) hC dL_law_253 rfl 3 rfl rfl ?_
  refine z_aload_n (n := 255) hC dL_law_254 rfl 1 rfl rfl ?_
  refine z_iload (n := 257) hC dL_law_255 5 rfl rfl ?_
  refine z_iconst (v := nI 1) (n := 258) hC dL_law_257 (by decide) rfl ?_
  refine z_iadd (v := nI (i + 1)) (n := 259) hC dL_law_258 (nI_add i 1) rfl ?_
  refine z_sld (v := xs (i + 1)) (n := 260) hC hX hb0 hbA hL (i + 1) rfl (by omega) rfl dL_law_259 rfl ?_
  refine z_aload_n (n := 261) hC dL_law_260 rfl 1 rfl rfl ?_
  refine z_iload (n := 263) hC dL_law_261 5 rfl rfl ?_
  refine z_iconst (v := nI 2) (n := 264) hC dL_law_263 (by decide) rfl ?_
  refine z_iadd (v := nI (i + 2)) (n := 265) hC dL_law_264 (nI_add i 2) rfl ?_
  refine z_sld (v := xs (i + 2)) (n := 266) hC hX hb0 hbA hL (i + 2) rfl (by omega) rfl dL_law_265 rfl ?_
  refine z_aload_n (n := 267) hC dL_law_266 rfl 1 rfl rfl ?_
  refine z_iload (n := 269) hC dL_law_267 5 rfl rfl ?_
  refine z_iconst (v := nI 3) (n := 270) hC dL_law_269 (by decide) rfl ?_
  refine z_iadd (v := nI (i + 3)) (n := 271) hC dL_law_270 (nI_add i 3) rfl ?_
  refine z_sld (v := xs (i + 3)) (n := 272) hC hX hb0 hbA hL (i + 3) rfl (by omega) rfl dL_law_271 rfl ?_
  refine z_calli (R := room_1) (cells := 30 + 7 * j + 1) (slots := 211 + 66 * j + 6) (ws := (wH h ta sa ua T) ++ (wT ta cI b r) ++ (wS sa cI cZ sw st fa sc fi mi lf hi n) ++ (wS ua cI cZ sw2 st2 fa2 sc2 fi2 mi2 lf2 hi2 n2) ++ (wN ma cI th n sw st b r T sc fi mi fa K) ++ (wO o cJ ov)) (n := 275) (As := [.int (xs (i + 1)), .int (xs (i + 2)), .int (xs (i + 3))]) (rest := []) hC (k_X3_setTrap_xa l G cI cZ cJ ma th n sw st b r T sc fi mi fa K (xs (i + 1)) (xs (i + 2)) (xs (i + 3)) (by omega) (by omega) hb) kg_L_95 kd_yX3_setTrap dL_law_272 ⟨Nat.le_of_ble_eq_true rfl, Nat.le_of_ble_eq_true rfl⟩ 0 rfl rfl rfl [22, 23, 24, 25, 26, 27, 28] rfl (by decide) rfl (Nat.le_of_ble_eq_true rfl) ⟨by show _ ≤ 1080188; omega, by show _ ≤ 5855541; omega⟩ (ws2 := fun u4 => (wH h ta sa ua T) ++ (wT ta cI b r) ++ (wS sa cI cZ sw st fa sc fi mi lf hi n) ++ (wS ua cI cZ sw2 st2 fa2 sc2 fi2 mi2 lf2 hi2 n2) ++ (wN ma cI (nI 1) n sw st b r T sc fi mi fa K) ++ (wO o cJ ov)) [0, 1, 2, 3, 4, 5, 6, 7, 8, 9, 10, 11, 12, 13, 14, 15, 16, 17, 18, 19, 20, 21, 29] (fun _ => rfl) ((wH h ta sa ua T) ++ (wT ta cI b r) ++ (wS sa cI cZ sw st fa sc fi mi lf hi n) ++ (wS ua cI cZ sw2 st2 fa2 sc2 fi2 mi2 lf2 hi2 n2) ++ (wO o cJ ov)) (fun _ => rfl) rfl (cv_of 30 (by decide +kernel) (fun _ => rfl)) [ma 0, ma 1, ma 2, ma 3, ma 4, ma 5, ma 6] (fun _ => rfl) rfl rfl rfl (fun r5 u4 h6 => ?_)
  subst h6
  refine z_istore (lv' := [(6, .int (nI 0)), (5, .int (nI 1)), (0, .ref b0), (1, .ref h), (2, .ref (ma 0)), (3, .ref o), (4, .int (nI i))]) (n := 277) hC dL_law_275 (by decide) rfl rfl ?_
  refine z_aload_n (n := 278) hC dL_law_277 rfl 4 rfl rfl ?_
  refine z_calli (R := room_1) (cells := 30 + 7 * j + 1) (slots := 211 + 66 * j + 6) (ws := (wH h ta sa ua T) ++ (wT ta cI b r) ++ (wS sa cI cZ sw st fa sc fi mi lf hi n) ++ (wS ua cI cZ sw2 st2 fa2 sc2 fi2 mi2 lf2 hi2 n2) ++ (wN ma cI (nI 1) n sw st b r T sc fi mi fa K) ++ (wO o cJ ov)) (n := 281) (As := []) (rest := []) hC (k_X3_thrown l G cI cZ cJ ma (nI 1) n sw st b r T sc fi mi fa K (by omega) (by omega)) kg_L_89 kd_yX3_thrown dL_law_278 ⟨Nat.le_of_ble_eq_true rfl, Nat.le_of_ble_eq_true rfl⟩ 0 rfl rfl rfl [22, 23, 24, 25, 26, 27, 28] rfl (by decide) rfl (Nat.le_of_ble_eq_true rfl) ⟨by show _ ≤ 1080188; omega, by show _ ≤ 5855541; omega⟩ (ws2 := fun u7 => (wH h ta sa ua T) ++ (wT ta cI b r) ++ (wS sa cI cZ sw st fa sc fi mi lf hi n) ++ (wS ua cI cZ sw2 st2 fa2 sc2 fi2 mi2 lf2 hi2 n2) ++ (wN ma cI (nI 1) n sw st b r T sc fi mi fa K) ++ (wO o cJ ov)) [0, 1, 2, 3, 4, 5, 6, 7, 8, 9, 10, 11, 12, 13, 14, 15, 16, 17, 18, 19, 20, 21, 29] (fun _ => rfl) ((wH h ta sa ua T) ++ (wT ta cI b r) ++ (wS sa cI cZ sw st fa sc fi mi lf hi n) ++ (wS ua cI cZ sw2 st2 fa2 sc2 fi2 mi2 lf2 hi2 n2) ++ (wO o cJ ov)) (fun _ => rfl) rfl (cv_of 30 (by decide +kernel) (fun _ => rfl)) [ma 0, ma 1, ma 2, ma 3, ma 4, ma 5, ma 6] (fun _ => rfl) rfl rfl rfl (fun r8 u7 h9 => ?_)
  subst h9
  refine z_iload (n := 283) hC dL_law_281 1 rfl rfl ?_
  refine z_icmp_eq_n (tgt := 288) (n := 286) hC 1 1 rfl rfl (by omega) (by omega) dL_law_283 (by decide) rfl (fun c10 => ?_) (fun c10 => absurd rfl c10)
  refine z_iload (n := 290) hC dL_law_288 1 rfl rfl ?_
  refine z_if_ne (tgt := 305) (n := 293) hC dL_law_290 (by decide) rfl (fun c11 => ?_) (fun c11 => absurd c11 (by decide))
  refine z_goto (n := 1448) hC dL_law_305 (by decide) ?_
  refine z_iinc (k0 := 6) (v := nI (i + 4)) (lv' := [(4, .int (nI (i + 4))), (6, .int (nI 0)), (5, .int (nI 1)), (0, .ref b0), (1, .ref h), (2, .ref (ma 0)), (3, .ref o)]) (n := 1451) hC dL_law_1448 rfl (nI_add i 4) (by decide) rfl rfl ?_
  refine z_goto (n := 23) hC dL_law_1451 (by decide) ?_
  refine z_lv [3, 4, 5, 6, 0] (lv' := [(0, .ref b0), (1, .ref h), (2, .ref (ma 0)), (3, .ref o), (4, .int (nI (i + 4)))]) rfl ?_
  refine z_wid (k1 := 30 + 7 * (j + 1)) (k2 := 211 + 66 * (j + 1)) (by omega) (by omega) ?_
  exact ih (i + 4) T b r sw st fa sc fi mi lf hi n sw2 st2 fa2 sc2 fi2 mi2 lf2 hi2 n2 (nI 1) K ov (by omega) (iv_same hI)

set_option maxRecDepth 100000 in
set_option maxHeartbeats 4000000 in
theorem c_setTrap_b (p : Program) (l : Launch) (e : Env) (s : State) (m : MethodId) (args : Array Value) (below : List Frame) (meth : Method) (c : Code) (G : va_G) (A : Nat → Prop) (Q : State → Prop) (cI cZ cJ : ClassId) (b0 h o : Nat) (ta sa ua ma : Nat → Nat) (L : Nat) (xs : Nat → Int32) (i j : Nat) (T : Nat) (b r sw st fa sc fi mi : Nat → Int32) (lf hi : Nat → Bool) (n : Nat) (sw2 st2 fa2 sc2 fi2 mi2 : Nat → Int32) (lf2 hi2 : Nat → Bool) (n2 : Nat) (th : Int32) (K : Nat → Int32) (ov : Nat → Int64) (s0 : Nat) (hW : LX p l s m args c G A cI cZ cJ b0 L xs) (hI : iv j T n b r st fa mi) (hi0 : i = 4 * j) (hiL : i + 4 ≤ L) (he1 : xs (i + 1) = nI s0) (hs : s0 < 5) (hb : xs (i + 2) < (-45) ∨ nI 45 < xs (i + 2)) (ih : LPj p l e s m args below meth c G A Q cI cZ cJ b0 h o ta sa ua ma (j + 1)) : LZ p l e s m args below meth c G A Q cI cZ cJ b0 h o ta sa ua ma (30 + 7 * j) (211 + 66 * j) i 228 T b r sw st fa sc fi mi lf hi n sw2 st2 fa2 sc2 fi2 mi2 lf2 hi2 n2 th K ov := by
  obtain ⟨hC, hl, hz, hX, hb0, hbA, hL⟩ := hW
  have hj : j ≤ 511 := by omega
  obtain ⟨hn, hT0, hst, hfa0, hmi0, hb9, hr9⟩ := id hI
  have hT : T < 2 ^ 29 := by omega
  have hfa : ∀ g : Nat, inN (fa g) (2 ^ 28) := fun g => inN_mono (hfa0 g) (by omega)
  have hmi : ∀ g : Nat, inN (mi g) (2 ^ 30) := fun g => inN_mono (hmi0 g) (by omega)
  have ham : ∀ (g zt : Nat), inN (amF b r zt g) 1000 := fun g zt => am_in hb9 hr9 zt g
  unfold LZ
  refine z_aload_n (n := 229) hC dL_law_228 rfl 1 rfl rfl ?_
  refine z_aload_n (n := 230) hC dL_law_229 rfl 0 rfl rfl ?_
  refine z_iload (n := 232) hC dL_law_230 4 rfl rfl ?_
  refine z_iconst (v := nI 1) (n := 233) hC dL_law_232 (by decide) rfl ?_
  refine z_iadd (v := nI (i + 1)) (n := 234) hC dL_law_233 (nI_add i 1) rfl ?_
  refine z_sld (v := nI s0) (n := 235) hC hX hb0 hbA hL (i + 1) rfl (by omega) he1 dL_law_234 rfl ?_
  refine z_aload_n (n := 236) hC dL_law_235 rfl 0 rfl rfl ?_
  refine z_iload (n := 238) hC dL_law_236 4 rfl rfl ?_
  refine z_iconst (v := nI 2) (n := 239) hC dL_law_238 (by decide) rfl ?_
  refine z_iadd (v := nI (i + 2)) (n := 240) hC dL_law_239 (nI_add i 2) rfl ?_
  refine z_sld (v := xs (i + 2)) (n := 241) hC hX hb0 hbA hL (i + 2) rfl (by omega) rfl dL_law_240 rfl ?_
  refine z_aload_n (n := 242) hC dL_law_241 rfl 0 rfl rfl ?_
  refine z_iload (n := 244) hC dL_law_242 4 rfl rfl ?_
  refine z_iconst (v := nI 3) (n := 245) hC dL_law_244 (by decide) rfl ?_
  refine z_iadd (v := nI (i + 3)) (n := 246) hC dL_law_245 (nI_add i 3) rfl ?_
  refine z_sld (v := xs (i + 3)) (n := 247) hC hX hb0 hbA hL (i + 3) rfl (by omega) rfl dL_law_246 rfl ?_
  refine z_aload_n (n := 248) hC dL_law_247 rfl 3 rfl rfl ?_
  refine z_callsiH (R := room_1) (cells := 30 + 7 * j) (slots := 211 + 66 * j) (ws := (wH h ta sa ua T) ++ (wT ta cI b r) ++ (wS sa cI cZ sw st fa sc fi mi lf hi n) ++ (wS ua cI cZ sw2 st2 fa2 sc2 fi2 mi2 lf2 hi2 n2) ++ (wN ma cI th n sw st b r T sc fi mi fa K) ++ (wO o cJ ov)) (n := 251) (As := [.ref h, .int (nI s0), .int (xs (i + 2)), .int (xs (i + 3)), .ref o]) (rest := []) hC hz (kx_L_setTrap_b l G cI cZ cJ h ta sa ua T b r sw st fa sc fi mi lf hi n sw2 st2 fa2 sc2 fi2 mi2 lf2 hi2 n2 o ov s0 (xs (i + 2)) (xs (i + 3)) hl (by omega) (by omega) hs hb) kg_L_92 kd_yL_setTrap dL_law_248 ⟨Nat.le_of_ble_eq_true rfl, Nat.le_of_ble_eq_true rfl⟩ [0, 1, 2, 3, 4, 5, 6, 7, 8, 9, 10, 11, 12, 13, 14, 15, 16, 17, 18, 19, 20, 21, 29] rfl (by decide) rfl (Nat.le_of_ble_eq_true rfl) ⟨by show _ ≤ 1080188; omega, by show _ ≤ 5855541; omega⟩ (ws2 := fun u1 => (wH h ta sa ua T) ++ (wT ta cI b r) ++ (wS sa cI cZ sw st fa sc fi mi lf hi n) ++ (wS ua cI cZ sw2 st2 fa2 sc2 fi2 mi2 lf2 hi2 n2) ++ (wN ma cI th n sw st b r T sc fi mi fa K) ++ (wO o cJ ov)) [22, 23, 24, 25, 26, 27, 28] (fun _ => rfl) (wN ma cI th n sw st b r T sc fi mi fa K) (fun _ => rfl) rfl (cv_of 30 (by decide +kernel) (fun _ => rfl)) [h, ta 0, ta 1, ta 2, sa 0, sa 1, sa 2, sa 3, sa 4, sa 5, sa 6, sa 7, sa 8, ua 0, ua 1, ua 2, ua 3, ua 4, ua 5, ua 6, ua 7, ua 8, o] (fun _ => rfl) rfl rfl rfl (fun r2 u1 h3 => ?_)
  subst h3
  refine z_istore (lv' := [(5, .int (nI 2)), (0, .ref b0), (1, .ref h), (2, .ref (ma 0)), (3, .ref o), (4, .int (nI i))]) (n := 253) hC dL_law_251 (by decide) rfl rfl ?_
  refine z_aload_n (n := 254) hC dL_law_253 rfl 3 rfl rfl ?_
  refine z_aload_n (n := 255) hC dL_law_254 rfl 1 rfl rfl ?_
  refine z_iload (n := 257) hC dL_law_255 5 rfl rfl ?_
  refine z_iconst (v := nI 1) (n := 258) hC dL_law_257 (by decide) rfl ?_
  refine z_iadd (v := nI (i + 1)) (n := 259) hC dL_law_258 (nI_add i 1) rfl ?_
  refine z_sld (v := nI s0) (n := 260) hC hX hb0 hbA hL (i + 1) rfl (by omega) he1 dL_law_259 rfl ?_
  refine z_aload_n (n := 261) hC dL_law_260 rfl 1 rfl rfl ?_
  refine z_iload (n := 263) hC dL_law_261 5 rfl rfl ?_
  refine z_iconst (v := nI 2) (n := 264) hC dL_law_263 (by decide) rfl ?_
  refine z_iadd (v := nI (i + 2)) (n := 265) hC dL_law_264 (nI_add i 2) rfl ?_
  refine z_sld (v := xs (i + 2)) (n := 266) hC hX hb0 hbA hL (i + 2) rfl (by omega) rfl dL_law_265 rfl ?_
  refine z_aload_n (n := 267) hC dL_law_266 rfl 1 rfl rfl ?_
  refine z_iload (n := 269) hC dL_law_267 5 rfl rfl ?_
  refine z_iconst (v := nI 3) (n := 270) hC dL_law_269 (by decide) rfl ?_
  refine z_iadd (v := nI (i + 3)) (n := 271) hC dL_law_270 (nI_add i 3) rfl ?_
  refine z_sld (v := xs (i + 3)) (n := 272) hC hX hb0 hbA hL (i + 3) rfl (by omega) rfl dL_law_271 rfl ?_
  refine z_calli (R := room_1) (cells := 30 + 7 * j + 1) (slots := 211 + 66 * j + 6) (ws := (wH h ta sa ua T) ++ (wT ta cI b r) ++ (wS sa cI cZ sw st fa sc fi mi lf hi n) ++ (wS ua cI cZ sw2 st2 fa2 sc2 fi2 mi2 lf2 hi2 n2) ++ (wN ma cI th n sw st b r T sc fi mi fa K) ++ (wO o cJ ov)) (n := 275) (As := [.int (nI s0), .int (xs (i + 2)), .int (xs (i + 3))]) (rest := []) hC (k_X3_setTrap_xb l G cI cZ cJ ma th n sw st b r T sc fi mi fa K s0 (xs (i + 2)) (xs (i + 3)) (by omega) (by omega) hs hb) kg_L_95 kd_yX3_setTrap dL_law_272 ⟨Nat.le_of_ble_eq_true rfl, Nat.le_of_ble_eq_true rfl⟩ 0 rfl rfl rfl [22, 23, 24, 25, 26, 27, 28] rfl (by decide) rfl (Nat.le_of_ble_eq_true rfl) ⟨by show _ ≤ 1080188; omega, by show _ ≤ 5855541; omega⟩ (ws2 := fun u4 => (wH h ta sa ua T) ++ (wT ta cI b r) ++ (wS sa cI cZ sw st fa sc fi mi lf hi n) ++ (wS ua cI cZ sw2 st2 fa2 sc2 fi2 mi2 lf2 hi2 n2) ++ (wN ma cI (nI 2) n sw st b r T sc fi mi fa K) ++ (wO o cJ ov)) [0, 1, 2, 3, 4, 5, 6, 7, 8, 9, 10, 11, 12, 13, 14, 15, 16, 17, 18, 19, 20, 21, 29] (fun _ => rfl) ((wH h ta sa ua T) ++ (wT ta cI b r) ++ (wS sa cI cZ sw st fa sc fi mi lf hi n) ++ (wS ua cI cZ sw2 st2 fa2 sc2 fi2 mi2 lf2 hi2 n2) ++ (wO o cJ ov)) (fun _ => rfl) rfl (cv_of 30 (by decide +kernel) (fun _ => rfl)) [ma 0, ma 1, ma 2, ma 3, ma 4, ma 5, ma 6] (fun _ => rfl) rfl rfl rfl (fun r5 u4 h6 => ?_)
  subst h6
  refine z_istore (lv' := [(6, .int (nI 0)), (5, .int (nI 2)), (0, .ref b0), (1, .ref h), (2, .ref (ma 0)), (3, .ref o), (4, .int (nI i))]) (n := 277) hC dL_law_275 (by decide) rfl rfl ?_
  refine z_aload_n (n := 278) hC dL_law_277 rfl 4 rfl rfl ?_
  refine z_calli (R := room_1) (cells := 30 + 7 * j + 1) (slots := 211 + 66 * j + 6) (ws := (wH h ta sa ua T) ++ (wT ta cI b r) ++ (wS sa cI cZ sw st fa sc fi mi lf hi n) ++ (wS ua cI cZ sw2 st2 fa2 sc2 fi2 mi2 lf2 hi2 n2) ++ (wN ma cI (nI 2) n sw st b r T sc fi mi fa K) ++ (wO o cJ ov)) (n := 281) (As := []) (rest := []) hC (k_X3_thrown l G cI cZ cJ ma (nI 2) n sw st b r T sc fi mi fa K (by omega) (by omega)) kg_L_89 kd_yX3_thrown dL_law_278 ⟨Nat.le_of_ble_eq_true rfl, Nat.le_of_ble_eq_true rfl⟩ 0 rfl rfl rfl [22, 23, 24, 25, 26, 27, 28] rfl (by decide) rfl (Nat.le_of_ble_eq_true rfl) ⟨by show _ ≤ 1080188; omega, by show _ ≤ 5855541; omega⟩ (ws2 := fun u7 => (wH h ta sa ua T) ++ (wT ta cI b r) ++ (wS sa cI cZ sw st fa sc fi mi lf hi n) ++ (wS ua cI cZ sw2 st2 fa2 sc2 fi2 mi2 lf2 hi2 n2) ++ (wN ma cI (nI 2) n sw st b r T sc fi mi fa K) ++ (wO o cJ ov)) [0, 1, 2, 3, 4, 5, 6, 7, 8, 9, 10, 11, 12, 13, 14, 15, 16, 17, 18, 19, 20, 21, 29] (fun _ => rfl) ((wH h ta sa ua T) ++ (wT ta cI b r) ++ (wS sa cI cZ sw st fa sc fi mi lf hi n) ++ (wS ua cI cZ sw2 st2 fa2 sc2 fi2 mi2 lf2 hi2 n2) ++ (wO o cJ ov)) (fun _ => rfl) rfl (cv_of 30 (by decide +kernel) (fun _ => rfl)) [ma 0, ma 1, ma 2, ma 3, ma 4, ma 5, ma 6] (fun _ => rfl) rfl rfl rfl (fun r8 u7 h9 => ?_)
  subst h9
  refine z_iload (n := 283) hC dL_law_281 1 rfl rfl ?_
  refine z_icmp_eq_n (tgt := 288) (n := 286) hC 2 2 rfl rfl (by omega) (by omega) dL_law_283 (by decide) rfl (fun c10 => ?_) (fun c10 => absurd rfl c10)
  refine z_iload (n := 290) hC dL_law_288 1 rfl rfl ?_
  refine z_if_ne (tgt := 305) (n := 293) hC dL_law_290 (by decide) rfl (fun c11 => ?_) (fun c11 => absurd c11 (by decide))
  refine z_goto (n := 1448) hC dL_law_305 (by decide) ?_
  refine z_iinc (k0 := 6) (v := nI (i + 4)) (lv' := [(4, .int (nI (i + 4))), (6, .int (nI 0)), (5, .int (nI 2)), (0, .ref b0), (1, .ref h), (2, .ref (ma 0)), (3, .ref o)]) (n := 1451) hC dL_law_1448 rfl (nI_add i 4) (by decide) rfl rfl ?_
  refine z_goto (n := 23) hC dL_law_1451 (by decide) ?_
  refine z_lv [3, 4, 5, 6, 0] (lv' := [(0, .ref b0), (1, .ref h), (2, .ref (ma 0)), (3, .ref o), (4, .int (nI (i + 4)))]) rfl ?_
  refine z_wid (k1 := 30 + 7 * (j + 1)) (k2 := 211 + 66 * (j + 1)) (by omega) (by omega) ?_
  exact ih (i + 4) T b r sw st fa sc fi mi lf hi n sw2 st2 fa2 sc2 fi2 mi2 lf2 hi2 n2 (nI 2) K ov (by omega) (iv_same hI)

set_option maxRecDepth 100000 in
set_option maxHeartbeats 4000000 in
theorem c_setTrap_c (p : Program) (l : Launch) (e : Env) (s : State) (m : MethodId) (args : Array Value) (below : List Frame) (meth : Method) (c : Code) (G : va_G) (A : Nat → Prop) (Q : State → Prop) (cI cZ cJ : ClassId) (b0 h o : Nat) (ta sa ua ma : Nat → Nat) (L : Nat) (xs : Nat → Int32) (i j : Nat) (T : Nat) (b r sw st fa sc fi mi : Nat → Int32) (lf hi : Nat → Bool) (n : Nat) (sw2 st2 fa2 sc2 fi2 mi2 : Nat → Int32) (lf2 hi2 : Nat → Bool) (n2 : Nat) (th : Int32) (K : Nat → Int32) (ov : Nat → Int64) (s0 : Nat) (hW : LX p l s m args c G A cI cZ cJ b0 L xs) (hI : iv j T n b r st fa mi) (hi0 : i = 4 * j) (hiL : i + 4 ≤ L) (he1 : xs (i + 1) = nI s0) (hs : s0 < 5) (hx1 : ¬ xs (i + 2) < (-45)) (hx2 : xs (i + 2) ≤ nI 45) (hb : xs (i + 3) < 0 ∨ nI 45 < xs (i + 3)) (ih : LPj p l e s m args below meth c G A Q cI cZ cJ b0 h o ta sa ua ma (j + 1)) : LZ p l e s m args below meth c G A Q cI cZ cJ b0 h o ta sa ua ma (30 + 7 * j) (211 + 66 * j) i 228 T b r sw st fa sc fi mi lf hi n sw2 st2 fa2 sc2 fi2 mi2 lf2 hi2 n2 th K ov := by
  obtain ⟨hC, hl, hz, hX, hb0, hbA, hL⟩ := hW
  have hj : j ≤ 511 := by omega
  obtain ⟨hn, hT0, hst, hfa0, hmi0, hb9, hr9⟩ := id hI
  have hT : T < 2 ^ 29 := by omega
  have hfa : ∀ g : Nat, inN (fa g) (2 ^ 28) := fun g => inN_mono (hfa0 g) (by omega)
  have hmi : ∀ g : Nat, inN (mi g) (2 ^ 30) := fun g => inN_mono (hmi0 g) (by omega)
  have ham : ∀ (g zt : Nat), inN (amF b r zt g) 1000 := fun g zt => am_in hb9 hr9 zt g
  unfold LZ
  refine z_aload_n (n := 229) hC dL_law_228 rfl 1 rfl rfl ?_
  refine z_aload_n (n := 230) hC dL_law_229 rfl 0 rfl rfl ?_
  refine z_iload (n := 232) hC dL_law_230 4 rfl rfl ?_
  refine z_iconst (v := nI 1) (n := 233) hC dL_law_232 (by decide) rfl ?_
  refine z_iadd (v := nI (i + 1)) (n := 234) hC dL_law_233 (nI_add i 1) rfl ?_
  refine z_sld (v := nI s0) (n := 235) hC hX hb0 hbA hL (i + 1) rfl (by omega) he1 dL_law_234 rfl ?_
  refine z_aload_n (n := 236) hC dL_law_235 rfl 0 rfl rfl ?_
  refine z_iload (n := 238) hC dL_law_236 4 rfl rfl ?_
  refine z_iconst (v := nI 2) (n := 239) hC dL_law_238 (by decide) rfl ?_
  refine z_iadd (v := nI (i + 2)) (n := 240) hC dL_law_239 (nI_add i 2) rfl ?_
  refine z_sld (v := xs (i + 2)) (n := 241) hC hX hb0 hbA hL (i + 2) rfl (by omega) rfl dL_law_240 rfl ?_
  refine z_aload_n (n := 242) hC dL_law_241 rfl 0 rfl rfl ?_
  refine z_iload (n := 244) hC dL_law_242 4 rfl rfl ?_
  refine z_iconst (v := nI 3) (n := 245) hC dL_law_244 (by decide) rfl ?_
  refine z_iadd (v := nI (i + 3)) (n := 246) hC dL_law_245 (nI_add i 3) rfl ?_
  refine z_sld (v := xs (i + 3)) (n := 247) hC hX hb0 hbA hL (i + 3) rfl (by omega) rfl dL_law_246 rfl ?_
  refine z_aload_n (n := 248) hC dL_law_247 rfl 3 rfl rfl ?_
  refine z_callsiH (R := room_1) (cells := 30 + 7 * j) (slots := 211 + 66 * j) (ws := (wH h ta sa ua T) ++ (wT ta cI b r) ++ (wS sa cI cZ sw st fa sc fi mi lf hi n) ++ (wS ua cI cZ sw2 st2 fa2 sc2 fi2 mi2 lf2 hi2 n2) ++ (wN ma cI th n sw st b r T sc fi mi fa K) ++ (wO o cJ ov)) (n := 251) (As := [.ref h, .int (nI s0), .int (xs (i + 2)), .int (xs (i + 3)), .ref o]) (rest := []) hC hz (kx_L_setTrap_c l G cI cZ cJ h ta sa ua T b r sw st fa sc fi mi lf hi n sw2 st2 fa2 sc2 fi2 mi2 lf2 hi2 n2 o ov s0 (xs (i + 2)) (xs (i + 3)) hl (by omega) (by omega) hs hx1 hx2 hb) kg_L_92 kd_yL_setTrap dL_law_248 ⟨Nat.le_of_ble_eq_true rfl, Nat.le_of_ble_eq_true rfl⟩ [0, 1, 2, 3, 4, 5, 6, 7, 8, 9, 10, 11, 12, 13, 14, 15, 16, 17, 18, 19, 20, 21, 29] rfl (by decide) rfl (Nat.le_of_ble_eq_true rfl) ⟨by show _ ≤ 1080188; omega, by show _ ≤ 5855541; omega⟩ (ws2 := fun u1 => (wH h ta sa ua T) ++ (wT ta cI b r) ++ (wS sa cI cZ sw st fa sc fi mi lf hi n) ++ (wS ua cI cZ sw2 st2 fa2 sc2 fi2 mi2 lf2 hi2 n2) ++ (wN ma cI th n sw st b r T sc fi mi fa K) ++ (wO o cJ ov)) [22, 23, 24, 25, 26, 27, 28] (fun _ => rfl) (wN ma cI th n sw st b r T sc fi mi fa K) (fun _ => rfl) rfl (cv_of 30 (by decide +kernel) (fun _ => rfl)) [h, ta 0, ta 1, ta 2, sa 0, sa 1, sa 2, sa 3, sa 4, sa 5, sa 6, sa 7, sa 8, ua 0, ua 1, ua 2, ua 3, ua 4, ua 5, ua 6, ua 7, ua 8, o] (fun _ => rfl) rfl rfl rfl (fun r2 u1 h3 => ?_)
  subst h3
  refine z_istore (lv' := [(5, .int (nI 2)), (0, .ref b0), (1, .ref h), (2, .ref (ma 0)), (3, .ref o), (4, .int (nI i))]) (n := 253) hC dL_law_251 (by decide) rfl rfl ?_
  refine z_aload_n (n := 254) hC dL_law_253 rfl 3 rfl rfl ?_
  refine z_aload_n (n := 255) hC dL_law_254 rfl 1 rfl rfl ?_
  refine z_iload (n := 257) hC dL_law_255 5 rfl rfl ?_
  refine z_iconst (v := nI 1) (n := 258) hC dL_law_257 (by decide) rfl ?_
  refine z_iadd (v := nI (i + 1)) (n := 259) hC dL_law_258 (nI_add i 1) rfl ?_
  refine z_sld (v := nI s0) (n := 260) hC hX hb0 hbA hL (i + 1) rfl (by omega) he1 dL_law_259 rfl ?_
  refine z_aload_n (n := 261) hC dL_law_260 rfl 1 rfl rfl ?_
  refine z_iload (n := 263) hC dL_law_261 5 rfl rfl ?_
  refine z_iconst (v := nI 2) (n := 264) hC dL_law_263 (by decide) rfl ?_
  refine z_iadd (v := nI (i + 2)) (n := 265) hC dL_law_264 (nI_add i 2) rfl ?_
  refine z_sld (v := xs (i + 2)) (n := 266) hC hX hb0 hbA hL (i + 2) rfl (by omega) rfl dL_law_265 rfl ?_
  refine z_aload_n (n := 267) hC dL_law_266 rfl 1 rfl rfl ?_
  refine z_iload (n := 269) hC dL_law_267 5 rfl rfl ?_
  refine z_iconst (v := nI 3) (n := 270) hC dL_law_269 (by decide) rfl ?_
  refine z_iadd (v := nI (i + 3)) (n := 271) hC dL_law_270 (nI_add i 3) rfl ?_
  refine z_sld (v := xs (i + 3)) (n := 272) hC hX hb0 hbA hL (i + 3) rfl (by omega) rfl dL_law_271 rfl ?_
  refine z_calli (R := room_1) (cells := 30 + 7 * j + 1) (slots := 211 + 66 * j + 6) (ws := (wH h ta sa ua T) ++ (wT ta cI b r) ++ (wS sa cI cZ sw st fa sc fi mi lf hi n) ++ (wS ua cI cZ sw2 st2 fa2 sc2 fi2 mi2 lf2 hi2 n2) ++ (wN ma cI th n sw st b r T sc fi mi fa K) ++ (wO o cJ ov)) (n := 275) (As := [.int (nI s0), .int (xs (i + 2)), .int (xs (i + 3))]) (rest := []) hC (k_X3_setTrap_xc l G cI cZ cJ ma th n sw st b r T sc fi mi fa K s0 (xs (i + 2)) (xs (i + 3)) (by omega) (by omega) hs hx1 hx2 hb) kg_L_95 kd_yX3_setTrap dL_law_272 ⟨Nat.le_of_ble_eq_true rfl, Nat.le_of_ble_eq_true rfl⟩ 0 rfl rfl rfl [22, 23, 24, 25, 26, 27, 28] rfl (by decide) rfl (Nat.le_of_ble_eq_true rfl) ⟨by show _ ≤ 1080188; omega, by show _ ≤ 5855541; omega⟩ (ws2 := fun u4 => (wH h ta sa ua T) ++ (wT ta cI b r) ++ (wS sa cI cZ sw st fa sc fi mi lf hi n) ++ (wS ua cI cZ sw2 st2 fa2 sc2 fi2 mi2 lf2 hi2 n2) ++ (wN ma cI (nI 2) n sw st b r T sc fi mi fa K) ++ (wO o cJ ov)) [0, 1, 2, 3, 4, 5, 6, 7, 8, 9, 10, 11, 12, 13, 14, 15, 16, 17, 18, 19, 20, 21, 29] (fun _ => rfl) ((wH h ta sa ua T) ++ (wT ta cI b r) ++ (wS sa cI cZ sw st fa sc fi mi lf hi n) ++ (wS ua cI cZ sw2 st2 fa2 sc2 fi2 mi2 lf2 hi2 n2) ++ (wO o cJ ov)) (fun _ => rfl) rfl (cv_of 30 (by decide +kernel) (fun _ => rfl)) [ma 0, ma 1, ma 2, ma 3, ma 4, ma 5, ma 6] (fun _ => rfl) rfl rfl rfl (fun r5 u4 h6 => ?_)
  subst h6
  refine z_istore (lv' := [(6, .int (nI 0)), (5, .int (nI 2)), (0, .ref b0), (1, .ref h), (2, .ref (ma 0)), (3, .ref o), (4, .int (nI i))]) (n := 277) hC dL_law_275 (by decide) rfl rfl ?_
  refine z_aload_n (n := 278) hC dL_law_277 rfl 4 rfl rfl ?_
  refine z_calli (R := room_1) (cells := 30 + 7 * j + 1) (slots := 211 + 66 * j + 6) (ws := (wH h ta sa ua T) ++ (wT ta cI b r) ++ (wS sa cI cZ sw st fa sc fi mi lf hi n) ++ (wS ua cI cZ sw2 st2 fa2 sc2 fi2 mi2 lf2 hi2 n2) ++ (wN ma cI (nI 2) n sw st b r T sc fi mi fa K) ++ (wO o cJ ov)) (n := 281) (As := []) (rest := []) hC (k_X3_thrown l G cI cZ cJ ma (nI 2) n sw st b r T sc fi mi fa K (by omega) (by omega)) kg_L_89 kd_yX3_thrown dL_law_278 ⟨Nat.le_of_ble_eq_true rfl, Nat.le_of_ble_eq_true rfl⟩ 0 rfl rfl rfl [22, 23, 24, 25, 26, 27, 28] rfl (by decide) rfl (Nat.le_of_ble_eq_true rfl) ⟨by show _ ≤ 1080188; omega, by show _ ≤ 5855541; omega⟩ (ws2 := fun u7 => (wH h ta sa ua T) ++ (wT ta cI b r) ++ (wS sa cI cZ sw st fa sc fi mi lf hi n) ++ (wS ua cI cZ sw2 st2 fa2 sc2 fi2 mi2 lf2 hi2 n2) ++ (wN ma cI (nI 2) n sw st b r T sc fi mi fa K) ++ (wO o cJ ov)) [0, 1, 2, 3, 4, 5, 6, 7, 8, 9, 10, 11, 12, 13, 14, 15, 16, 17, 18, 19, 20, 21, 29] (fun _ => rfl) ((wH h ta sa ua T) ++ (wT ta cI b r) ++ (wS sa cI cZ sw st fa sc fi mi lf hi n) ++ (wS ua cI cZ sw2 st2 fa2 sc2 fi2 mi2 lf2 hi2 n2) ++ (wO o cJ ov)) (fun _ => rfl) rfl (cv_of 30 (by decide +kernel) (fun _ => rfl)) [ma 0, ma 1, ma 2, ma 3, ma 4, ma 5, ma 6] (fun _ => rfl) rfl rfl rfl (fun r8 u7 h9 => ?_)
  subst h9
  refine z_iload (n := 283) hC dL_law_281 1 rfl rfl ?_
  refine z_icmp_eq_n (tgt := 288) (n := 286) hC 2 2 rfl rfl (by omega) (by omega) dL_law_283 (by decide) rfl (fun c10 => ?_) (fun c10 => absurd rfl c10)
  refine z_iload (n := 290) hC dL_law_288 1 rfl rfl ?_
  refine z_if_ne (tgt := 305) (n := 293) hC dL_law_290 (by decide) rfl (fun c11 => ?_) (fun c11 => absurd c11 (by decide))
  refine z_goto (n := 1448) hC dL_law_305 (by decide) ?_
  refine z_iinc (k0 := 6) (v := nI (i + 4)) (lv' := [(4, .int (nI (i + 4))), (6, .int (nI 0)), (5, .int (nI 2)), (0, .ref b0), (1, .ref h), (2, .ref (ma 0)), (3, .ref o)]) (n := 1451) hC dL_law_1448 rfl (nI_add i 4) (by decide) rfl rfl ?_
  refine z_goto (n := 23) hC dL_law_1451 (by decide) ?_
  refine z_lv [3, 4, 5, 6, 0] (lv' := [(0, .ref b0), (1, .ref h), (2, .ref (ma 0)), (3, .ref o), (4, .int (nI (i + 4)))]) rfl ?_
  refine z_wid (k1 := 30 + 7 * (j + 1)) (k2 := 211 + 66 * (j + 1)) (by omega) (by omega) ?_
  exact ih (i + 4) T b r sw st fa sc fi mi lf hi n sw2 st2 fa2 sc2 fi2 mi2 lf2 hi2 n2 (nI 2) K ov (by omega) (iv_same hI)

set_option maxRecDepth 100000 in
set_option maxHeartbeats 4000000 in
theorem c_rest (p : Program) (l : Launch) (e : Env) (s : State) (m : MethodId) (args : Array Value) (below : List Frame) (meth : Method) (c : Code) (G : va_G) (A : Nat → Prop) (Q : State → Prop) (cI cZ cJ : ClassId) (b0 h o : Nat) (ta sa ua ma : Nat → Nat) (L : Nat) (xs : Nat → Int32) (i j : Nat) (T : Nat) (b r sw st fa sc fi mi : Nat → Int32) (lf hi : Nat → Bool) (n : Nat) (sw2 st2 fa2 sc2 fi2 mi2 : Nat → Int32) (lf2 hi2 : Nat → Bool) (n2 : Nat) (th : Int32) (K : Nat → Int32) (ov : Nat → Int64) (g : Nat) (hW : LX p l s m args c G A cI cZ cJ b0 L xs) (hI : iv j T n b r st fa mi) (hi0 : i = 4 * j) (hiL : i + 4 ≤ L) (he1 : xs (i + 1) = nI g) (hg : g < n) (ih : LPj p l e s m args below meth c G A Q cI cZ cJ b0 h o ta sa ua ma (j + 1)) : LZ p l e s m args below meth c G A Q cI cZ cJ b0 h o ta sa ua ma (30 + 7 * j) (211 + 66 * j) i 308 T b r sw st fa sc fi mi lf hi n sw2 st2 fa2 sc2 fi2 mi2 lf2 hi2 n2 th K ov := by
  obtain ⟨hC, hl, hz, hX, hb0, hbA, hL⟩ := hW
  have hj : j ≤ 511 := by omega
  obtain ⟨hn, hT0, hst, hfa0, hmi0, hb9, hr9⟩ := id hI
  have hT : T < 2 ^ 29 := by omega
  have hfa : ∀ g : Nat, inN (fa g) (2 ^ 28) := fun g => inN_mono (hfa0 g) (by omega)
  have hmi : ∀ g : Nat, inN (mi g) (2 ^ 30) := fun g => inN_mono (hmi0 g) (by omega)
  have ham : ∀ (g zt : Nat), inN (amF b r zt g) 1000 := fun g zt => am_in hb9 hr9 zt g
  unfold LZ
  refine z_aload_n (n := 309) hC dL_law_308 rfl 1 rfl rfl ?_
  refine z_aload_n (n := 310) hC dL_law_309 rfl 0 rfl rfl ?_
  refine z_iload (n := 312) hC dL_law_310 4 rfl rfl ?_
  refine z_iconst (v := nI 1) (n := 313) hC dL_law_312 (by decide) rfl ?_
  refine z_iadd (v := nI (i + 1)) (n := 314) hC dL_law_313 (nI_add i 1) rfl ?_
  refine z_sld (v := nI g) (n := 315) hC hX hb0 hbA hL (i + 1) rfl (by omega) he1 dL_law_314 rfl ?_
  refine z_aload_n (n := 316) hC dL_law_315 rfl 3 rfl rfl ?_
  refine z_callsiH (R := room_1) (cells := 30 + 7 * j) (slots := 211 + 66 * j) (ws := (wH h ta sa ua T) ++ (wT ta cI b r) ++ (wS sa cI cZ sw st fa sc fi mi lf hi n) ++ (wS ua cI cZ sw2 st2 fa2 sc2 fi2 mi2 lf2 hi2 n2) ++ (wN ma cI th n sw st b r T sc fi mi fa K) ++ (wO o cJ ov)) (n := 319) (As := [.ref h, .int (nI g), .ref o]) (rest := []) hC hz (k_L_rest l G cI cZ cJ h ta sa ua T b r sw st fa sc fi mi lf hi n sw2 st2 fa2 sc2 fi2 mi2 lf2 hi2 n2 o ov g (by omega) (by omega) hg) kg_L_96 kd_yL_rest dL_law_316 ⟨Nat.le_of_ble_eq_true rfl, Nat.le_of_ble_eq_true rfl⟩ [0, 1, 2, 3, 4, 5, 6, 7, 8, 9, 10, 11, 12, 13, 14, 15, 16, 17, 18, 19, 20, 21, 29] rfl (by decide) rfl (Nat.le_of_ble_eq_true rfl) ⟨by show _ ≤ 1080188; omega, by show _ ≤ 5855541; omega⟩ (ws2 := fun u1 => (wH h ta sa ua T) ++ (wT ta cI b r) ++ (wS sa cI cZ sw st (upd fa g (nI 0)) sc fi mi lf hi n) ++ (wS ua cI cZ sw2 st2 fa2 sc2 fi2 mi2 lf2 hi2 n2) ++ (wN ma cI th n sw st b r T sc fi mi fa K) ++ (wO o cJ (vp_updL ov 0 ((fa g).toInt64)))) [22, 23, 24, 25, 26, 27, 28] (fun _ => rfl) (wN ma cI th n sw st b r T sc fi mi fa K) (fun _ => rfl) rfl (cv_of 30 (by decide +kernel) (fun _ => rfl)) [h, ta 0, ta 1, ta 2, sa 0, sa 1, sa 2, sa 3, sa 4, sa 5, sa 6, sa 7, sa 8, ua 0, ua 1, ua 2, ua 3, ua 4, ua 5, ua 6, ua 7, ua 8, o] (fun _ => rfl) rfl rfl rfl (fun r2 u1 h3 => ?_)
  subst h3
  refine z_istore (lv' := [(5, .int (nI 0)), (0, .ref b0), (1, .ref h), (2, .ref (ma 0)), (3, .ref o), (4, .int (nI i))]) (n := 321) hC dL_law_319 (by decide) rfl rfl ?_
  refine z_aload_n (n := 322) hC dL_law_321 rfl 3 rfl rfl ?_
  refine z_aload_n (n := 323) hC dL_law_322 rfl 1 rfl rfl ?_
  refine z_iload (n := 325) hC dL_law_323 5 rfl rfl ?_
  refine z_iconst (v := nI 1) (n := 326) hC dL_law_325 (by decide) rfl ?_
  refine z_iadd (v := nI (i + 1)) (n := 327) hC dL_law_326 (nI_add i 1) rfl ?_
  refine z_sld (v := nI g) (n := 328) hC hX hb0 hbA hL (i + 1) rfl (by omega) he1 dL_law_327 rfl ?_
  refine z_calli (R := room_1) (cells := 30 + 7 * j) (slots := 211 + 66 * j) (ws := (wH h ta sa ua T) ++ (wT ta cI b r) ++ (wS sa cI cZ sw st (upd fa g (nI 0)) sc fi mi lf hi n) ++ (wS ua cI cZ sw2 st2 fa2 sc2 fi2 mi2 lf2 hi2 n2) ++ (wN ma cI th n sw st b r T sc fi mi fa K) ++ (wO o cJ (vp_updL ov 0 ((fa g).toInt64)))) (n := 331) (As := [.int (nI g)]) (rest := []) hC (k_X3_rest l G cI cZ cJ ma th n sw st b r T sc fi mi fa K g (by omega) (by omega) hg) kg_L_99 kd_yX3_rest dL_law_328 ⟨Nat.le_of_ble_eq_true rfl, Nat.le_of_ble_eq_true rfl⟩ 0 rfl rfl rfl [22, 23, 24, 25, 26, 27, 28] rfl (by decide) rfl (Nat.le_of_ble_eq_true rfl) ⟨by show _ ≤ 1080188; omega, by show _ ≤ 5855541; omega⟩ (ws2 := fun u4 => (wH h ta sa ua T) ++ (wT ta cI b r) ++ (wS sa cI cZ sw st (upd fa g (nI 0)) sc fi mi lf hi n) ++ (wS ua cI cZ sw2 st2 fa2 sc2 fi2 mi2 lf2 hi2 n2) ++ (wN ma cI (nI 0) n sw st b r T sc fi mi (upd fa g (nI 0)) K) ++ (wO o cJ (vp_updL ov 0 ((fa g).toInt64)))) [0, 1, 2, 3, 4, 5, 6, 7, 8, 9, 10, 11, 12, 13, 14, 15, 16, 17, 18, 19, 20, 21, 29] (fun _ => rfl) ((wH h ta sa ua T) ++ (wT ta cI b r) ++ (wS sa cI cZ sw st (upd fa g (nI 0)) sc fi mi lf hi n) ++ (wS ua cI cZ sw2 st2 fa2 sc2 fi2 mi2 lf2 hi2 n2) ++ (wO o cJ (vp_updL ov 0 ((fa g).toInt64)))) (fun _ => rfl) rfl (cv_of 30 (by decide +kernel) (fun _ => rfl)) [ma 0, ma 1, ma 2, ma 3, ma 4, ma 5, ma 6] (fun _ => rfl) rfl rfl rfl (fun r5 u4 h6 => ?_)
  subst h6
  refine z_istore (lv' := [(6, .int (fa g)), (5, .int (nI 0)), (0, .ref b0), (1, .ref h), (2, .ref (ma 0)), (3, .ref o), (4, .int (nI i))]) (n := 333) hC dL_law_331 (by decide) rfl rfl ?_
  refine z_aload_n (n := 334) hC dL_law_333 rfl 4 rfl rfl ?_
  refine z_calli (R := room_1) (cells := 30 + 7 * j) (slots := 211 + 66 * j) (ws := (wH h ta sa ua T) ++ (wT ta cI b r) ++ (wS sa cI cZ sw st (upd fa g (nI 0)) sc fi mi lf hi n) ++ (wS ua cI cZ sw2 st2 fa2 sc2 fi2 mi2 lf2 hi2 n2) ++ (wN ma cI (nI 0) n sw st b r T sc fi mi (upd fa g (nI 0)) K) ++ (wO o cJ (vp_updL ov 0 ((fa g).toInt64)))) (n := 337) (As := []) (rest := []) hC (k_X3_thrown l G cI cZ cJ ma (nI 0) n sw st b r T sc fi mi (upd fa g (nI 0)) K (by omega) (by omega)) kg_L_89 kd_yX3_thrown dL_law_334 ⟨Nat.le_of_ble_eq_true rfl, Nat.le_of_ble_eq_true rfl⟩ 0 rfl rfl rfl [22, 23, 24, 25, 26, 27, 28] rfl (by decide) rfl (Nat.le_of_ble_eq_true rfl) ⟨by show _ ≤ 1080188; omega, by show _ ≤ 5855541; omega⟩ (ws2 := fun u7 => (wH h ta sa ua T) ++ (wT ta cI b r) ++ (wS sa cI cZ sw st (upd fa g (nI 0)) sc fi mi lf hi n) ++ (wS ua cI cZ sw2 st2 fa2 sc2 fi2 mi2 lf2 hi2 n2) ++ (wN ma cI (nI 0) n sw st b r T sc fi mi (upd fa g (nI 0)) K) ++ (wO o cJ (vp_updL ov 0 ((fa g).toInt64)))) [0, 1, 2, 3, 4, 5, 6, 7, 8, 9, 10, 11, 12, 13, 14, 15, 16, 17, 18, 19, 20, 21, 29] (fun _ => rfl) ((wH h ta sa ua T) ++ (wT ta cI b r) ++ (wS sa cI cZ sw st (upd fa g (nI 0)) sc fi mi lf hi n) ++ (wS ua cI cZ sw2 st2 fa2 sc2 fi2 mi2 lf2 hi2 n2) ++ (wO o cJ (vp_updL ov 0 ((fa g).toInt64)))) (fun _ => rfl) rfl (cv_of 30 (by decide +kernel) (fun _ => rfl)) [ma 0, ma 1, ma 2, ma 3, ma 4, ma 5, ma 6] (fun _ => rfl) rfl rfl rfl (fun r8 u7 h9 => ?_)
  subst h9
  refine z_iload (n := 339) hC dL_law_337 1 rfl rfl ?_
  refine z_icmp_eq_n (tgt := 344) (n := 342) hC 0 0 rfl rfl (by omega) (by omega) dL_law_339 (by decide) rfl (fun c10 => ?_) (fun c10 => absurd rfl c10)
  refine z_iload (n := 346) hC dL_law_344 1 rfl rfl ?_
  refine z_if_ne (tgt := 361) (n := 349) hC dL_law_346 (by decide) rfl (fun c11 => absurd (nI_0) c11) (fun c11 => ?_)
  refine z_aload_n (n := 350) hC dL_law_349 rfl 5 rfl rfl ?_
  refine z_iconst (v := nI 0) (n := 351) hC dL_law_350 (by decide) rfl ?_
  refine z_lald (v := (fa g).toInt64) (n := 352) hC 29 2 0 rfl rfl rfl (by omega) (by decide) dL_law_351 updL_at rfl ?_
  refine z_iload (n := 354) hC dL_law_352 0 rfl rfl ?_
  refine z_i2l (v := (fa g).toInt64) (n := 355) hC dL_law_354 rfl rfl ?_
  refine z_lcmp (n := 356) hC dL_law_355 rfl ?_
  refine z_if_eq (tgt := 361) (n := 359) hC dL_law_356 (by decide) rfl (fun c12 => ?_) (fun c12 => absurd (lg_self _) c12)
  refine z_goto (n := 1448) hC dL_law_361 (by decide) ?_
  refine z_iinc (k0 := 6) (v := nI (i + 4)) (lv' := [(4, .int (nI (i + 4))), (6, .int (fa g)), (5, .int (nI 0)), (0, .ref b0), (1, .ref h), (2, .ref (ma 0)), (3, .ref o)]) (n := 1451) hC dL_law_1448 rfl (nI_add i 4) (by decide) rfl rfl ?_
  refine z_goto (n := 23) hC dL_law_1451 (by decide) ?_
  refine z_lv [3, 4, 5, 6, 0] (lv' := [(0, .ref b0), (1, .ref h), (2, .ref (ma 0)), (3, .ref o), (4, .int (nI (i + 4)))]) rfl ?_
  refine z_wid (k1 := 30 + 7 * (j + 1)) (k2 := 211 + 66 * (j + 1)) (by omega) (by omega) ?_
  exact ih (i + 4) T b r sw st (upd fa g (nI 0)) sc fi mi lf hi n sw2 st2 fa2 sc2 fi2 mi2 lf2 hi2 n2 (nI 0) K (vp_updL ov 0 ((fa g).toInt64)) (by omega) (iv_rest hI)

set_option maxRecDepth 100000 in
set_option maxHeartbeats 4000000 in
theorem c_rest_x (p : Program) (l : Launch) (e : Env) (s : State) (m : MethodId) (args : Array Value) (below : List Frame) (meth : Method) (c : Code) (G : va_G) (A : Nat → Prop) (Q : State → Prop) (cI cZ cJ : ClassId) (b0 h o : Nat) (ta sa ua ma : Nat → Nat) (L : Nat) (xs : Nat → Int32) (i j : Nat) (T : Nat) (b r sw st fa sc fi mi : Nat → Int32) (lf hi : Nat → Bool) (n : Nat) (sw2 st2 fa2 sc2 fi2 mi2 : Nat → Int32) (lf2 hi2 : Nat → Bool) (n2 : Nat) (th : Int32) (K : Nat → Int32) (ov : Nat → Int64)  (hW : LX p l s m args c G A cI cZ cJ b0 L xs) (hI : iv j T n b r st fa mi) (hi0 : i = 4 * j) (hiL : i + 4 ≤ L) (hb : xs (i + 1) < 0 ∨ nI n ≤ xs (i + 1)) (ih : LPj p l e s m args below meth c G A Q cI cZ cJ b0 h o ta sa ua ma (j + 1)) : LZ p l e s m args below meth c G A Q cI cZ cJ b0 h o ta sa ua ma (30 + 7 * j) (211 + 66 * j) i 308 T b r sw st fa sc fi mi lf hi n sw2 st2 fa2 sc2 fi2 mi2 lf2 hi2 n2 th K ov := by
  obtain ⟨hC, hl, hz, hX, hb0, hbA, hL⟩ := hW
  have hj : j ≤ 511 := by omega
  obtain ⟨hn, hT0, hst, hfa0, hmi0, hb9, hr9⟩ := id hI
  have hT : T < 2 ^ 29 := by omega
  have hfa : ∀ g : Nat, inN (fa g) (2 ^ 28) := fun g => inN_mono (hfa0 g) (by omega)
  have hmi : ∀ g : Nat, inN (mi g) (2 ^ 30) := fun g => inN_mono (hmi0 g) (by omega)
  have ham : ∀ (g zt : Nat), inN (amF b r zt g) 1000 := fun g zt => am_in hb9 hr9 zt g
  unfold LZ
  refine z_aload_n (n := 309) hC dL_law_308 rfl 1 rfl rfl ?_
  refine z_aload_n (n := 310) hC dL_law_309 rfl 0 rfl rfl ?_
  refine z_iload (n := 312) hC dL_law_310 4 rfl rfl ?_
  refine z_iconst (v := nI 1) (n := 313) hC dL_law_312 (by decide) rfl ?_
  refine z_iadd (v := nI (i + 1)) (n := 314) hC dL_law_313 (nI_add i 1) rfl ?_
  refine z_sld (v := xs (i + 1)) (n := 315) hC hX hb0 hbA hL (i + 1) rfl (by omega) rfl dL_law_314 rfl ?_
  refine z_aload_n (n := 316) hC dL_law_315 rfl 3 rfl rfl ?_
  refine z_callsiH (R := room_1) (cells := 30 + 7 * j) (slots := 211 + 66 * j) (ws := (wH h ta sa ua T) ++ (wT ta cI b r) ++ (wS sa cI cZ sw st fa sc fi mi lf hi n) ++ (wS ua cI cZ sw2 st2 fa2 sc2 fi2 mi2 lf2 hi2 n2) ++ (wN ma cI th n sw st b r T sc fi mi fa K) ++ (wO o cJ ov)) (n := 319) (As := [.ref h, .int (xs (i + 1)), .ref o]) (rest := []) hC hz (kx_L_rest_x l G cI cZ cJ h ta sa ua T b r sw st fa sc fi mi lf hi n sw2 st2 fa2 sc2 fi2 mi2 lf2 hi2 n2 o ov (xs (i + 1)) hl (by omega) (by omega) hb) kg_L_96 kd_yL_rest dL_law_316 ⟨Nat.le_of_ble_eq_true rfl, Nat.le_of_ble_eq_true rfl⟩ [0, 1, 2, 3, 4, 5, 6, 7, 8, 9, 10, 11, 12, 13, 14, 15, 16, 17, 18, 19, 20, 21, 29] rfl (by decide) rfl (Nat.le_of_ble_eq_true rfl) ⟨by show _ ≤ 1080188; omega, by show _ ≤ 5855541; omega⟩ (ws2 := fun u1 => (wH h ta sa ua T) ++ (wT ta cI b r) ++ (wS sa cI cZ sw st fa sc fi mi lf hi n) ++ (wS ua cI cZ sw2 st2 fa2 sc2 fi2 mi2 lf2 hi2 n2) ++ (wN ma cI th n sw st b r T sc fi mi fa K) ++ (wO o cJ ov)) [22, 23, 24, 25, 26, 27, 28] (fun _ => rfl) (wN ma cI th n sw st b r T sc fi mi fa K) (fun _ => rfl) rfl (cv_of 30 (by decide +kernel) (fun _ => rfl)) [h, ta 0, ta 1, ta 2, sa 0, sa 1, sa 2, sa 3, sa 4, sa 5, sa 6, sa 7, sa 8, ua 0, ua 1, ua 2, ua 3, ua 4, ua 5, ua 6, ua 7, ua 8, o] (fun _ => rfl) rfl rfl rfl (fun r2 u1 h3 => ?_)
  subst h3
  refine z_istore (lv' := [(5, .int (nI 1)), (0, .ref b0), (1, .ref h), (2, .ref (ma 0)), (3, .ref o), (4, .int (nI i))]) (n := 321) hC dL_law_319 (by decide) rfl rfl ?_
  refine z_aload_n (n := 322) hC dL_law_321 rfl 3 rfl rfl ?_
  refine z_aload_n (n := 323) hC dL_law_322 rfl 1 rfl rfl ?_
  refine z_iload (n := 325) hC dL_law_323 5 rfl rfl ?_
  refine z_iconst (v := nI 1) (n := 326) hC dL_law_325 (by decide) rfl ?_
  refine z_iadd (v := nI (i + 1)) (n := 327) hC dL_law_326 (nI_add i 1) rfl ?_
  refine z_sld (v := xs (i + 1)) (n := 328) hC hX hb0 hbA hL (i + 1) rfl (by omega) rfl dL_law_327 rfl ?_
  refine z_calli (R := room_1) (cells := 30 + 7 * j + 1) (slots := 211 + 66 * j + 6) (ws := (wH h ta sa ua T) ++ (wT ta cI b r) ++ (wS sa cI cZ sw st fa sc fi mi lf hi n) ++ (wS ua cI cZ sw2 st2 fa2 sc2 fi2 mi2 lf2 hi2 n2) ++ (wN ma cI th n sw st b r T sc fi mi fa K) ++ (wO o cJ ov)) (n := 331) (As := [.int (xs (i + 1))]) (rest := []) hC (k_X3_rest_x l G cI cZ cJ ma th n sw st b r T sc fi mi fa K (xs (i + 1)) (by omega) (by omega) hb) kg_L_99 kd_yX3_rest dL_law_328 ⟨Nat.le_of_ble_eq_true rfl, Nat.le_of_ble_eq_true rfl⟩ 0 rfl rfl rfl [22, 23, 24, 25, 26, 27, 28] rfl (by decide) rfl (Nat.le_of_ble_eq_true rfl) ⟨by show _ ≤ 1080188; omega, by show _ ≤ 5855541; omega⟩ (ws2 := fun u4 => (wH h ta sa ua T) ++ (wT ta cI b r) ++ (wS sa cI cZ sw st fa sc fi mi lf hi n) ++ (wS ua cI cZ sw2 st2 fa2 sc2 fi2 mi2 lf2 hi2 n2) ++ (wN ma cI (nI 1) n sw st b r T sc fi mi fa K) ++ (wO o cJ ov)) [0, 1, 2, 3, 4, 5, 6, 7, 8, 9, 10, 11, 12, 13, 14, 15, 16, 17, 18, 19, 20, 21, 29] (fun _ => rfl) ((wH h ta sa ua T) ++ (wT ta cI b r) ++ (wS sa cI cZ sw st fa sc fi mi lf hi n) ++ (wS ua cI cZ sw2 st2 fa2 sc2 fi2 mi2 lf2 hi2 n2) ++ (wO o cJ ov)) (fun _ => rfl) rfl (cv_of 30 (by decide +kernel) (fun _ => rfl)) [ma 0, ma 1, ma 2, ma 3, ma 4, ma 5, ma 6] (fun _ => rfl) rfl rfl rfl (fun r5 u4 h6 => ?_)
  subst h6
  refine z_istore (lv' := [(6, .int (nI 0)), (5, .int (nI 1)), (0, .ref b0), (1, .ref h), (2, .ref (ma 0)), (3, .ref o), (4, .int (nI i))]) (n := 333) hC dL_law_331 (by decide) rfl rfl ?_
  refine z_aload_n (n := 334) hC dL_law_333 rfl 4 rfl rfl ?_
  refine z_calli (R := room_1) (cells := 30 + 7 * j + 1) (slots := 211 + 66 * j + 6) (ws := (wH h ta sa ua T) ++ (wT ta cI b r) ++ (wS sa cI cZ sw st fa sc fi mi lf hi n) ++ (wS ua cI cZ sw2 st2 fa2 sc2 fi2 mi2 lf2 hi2 n2) ++ (wN ma cI (nI 1) n sw st b r T sc fi mi fa K) ++ (wO o cJ ov)) (n := 337) (As := []) (rest := []) hC (k_X3_thrown l G cI cZ cJ ma (nI 1) n sw st b r T sc fi mi fa K (by omega) (by omega)) kg_L_89 kd_yX3_thrown dL_law_334 ⟨Nat.le_of_ble_eq_true rfl, Nat.le_of_ble_eq_true rfl⟩ 0 rfl rfl rfl [22, 23, 24, 25, 26, 27, 28] rfl (by decide) rfl (Nat.le_of_ble_eq_true rfl) ⟨by show _ ≤ 1080188; omega, by show _ ≤ 5855541; omega⟩ (ws2 := fun u7 => (wH h ta sa ua T) ++ (wT ta cI b r) ++ (wS sa cI cZ sw st fa sc fi mi lf hi n) ++ (wS ua cI cZ sw2 st2 fa2 sc2 fi2 mi2 lf2 hi2 n2) ++ (wN ma cI (nI 1) n sw st b r T sc fi mi fa K) ++ (wO o cJ ov)) [0, 1, 2, 3, 4, 5, 6, 7, 8, 9, 10, 11, 12, 13, 14, 15, 16, 17, 18, 19, 20, 21, 29] (fun _ => rfl) ((wH h ta sa ua T) ++ (wT ta cI b r) ++ (wS sa cI cZ sw st fa sc fi mi lf hi n) ++ (wS ua cI cZ sw2 st2 fa2 sc2 fi2 mi2 lf2 hi2 n2) ++ (wO o cJ ov)) (fun _ => rfl) rfl (cv_of 30 (by decide +kernel) (fun _ => rfl)) [ma 0, ma 1, ma 2, ma 3, ma 4, ma 5, ma 6] (fun _ => rfl) rfl rfl rfl (fun r8 u7 h9 => ?_)
  subst h9
  refine z_iload (n := 339) hC dL_law_337 1 rfl rfl ?_
  refine z_icmp_eq_n (tgt := 344) (n := 342) hC 1 1 rfl rfl (by omega) (by omega) dL_law_339 (by decide) rfl (fun c10 => ?_) (fun c10 => absurd rfl c10)
  refine z_iload (n := 346) hC dL_law_344 1 rfl rfl ?_
  refine z_if_ne (tgt := 361) (n := 349) hC dL_law_346 (by decide) rfl (fun c11 => ?_) (fun c11 => absurd c11 (by decide))
  refine z_goto (n := 1448) hC dL_law_361 (by decide) ?_
  refine z_iinc (k0 := 6) (v := nI (i + 4)) (lv' := [(4, .int (nI (i + 4))), (6, .int (nI 0)), (5, .int (nI 1)), (0, .ref b0), (1, .ref h), (2, .ref (ma 0)), (3, .ref o)]) (n := 1451) hC dL_law_1448 rfl (nI_add i 4) (by decide) rfl rfl ?_
  refine z_goto (n := 23) hC dL_law_1451 (by decide) ?_
  refine z_lv [3, 4, 5, 6, 0] (lv' := [(0, .ref b0), (1, .ref h), (2, .ref (ma 0)), (3, .ref o), (4, .int (nI (i + 4)))]) rfl ?_
  refine z_wid (k1 := 30 + 7 * (j + 1)) (k2 := 211 + 66 * (j + 1)) (by omega) (by omega) ?_
  exact ih (i + 4) T b r sw st fa sc fi mi lf hi n sw2 st2 fa2 sc2 fi2 mi2 lf2 hi2 n2 (nI 1) K ov (by omega) (iv_same hI)

set_option maxRecDepth 100000 in
set_option maxHeartbeats 4000000 in
theorem c_pass (p : Program) (l : Launch) (e : Env) (s : State) (m : MethodId) (args : Array Value) (below : List Frame) (meth : Method) (c : Code) (G : va_G) (A : Nat → Prop) (Q : State → Prop) (cI cZ cJ : ClassId) (b0 h o : Nat) (ta sa ua ma : Nat → Nat) (L : Nat) (xs : Nat → Int32) (i j : Nat) (T : Nat) (b r sw st fa sc fi mi : Nat → Int32) (lf hi : Nat → Bool) (n : Nat) (sw2 st2 fa2 sc2 fi2 mi2 : Nat → Int32) (lf2 hi2 : Nat → Bool) (n2 : Nat) (th : Int32) (K : Nat → Int32) (ov : Nat → Int64) (k : Nat) (hW : LX p l s m args c G A cI cZ cJ b0 L xs) (hI : iv j T n b r st fa mi) (hi0 : i = 4 * j) (hiL : i + 4 ≤ L) (he1 : xs (i + 1) = nI k) (hk1 : 1 ≤ k) (hk2 : k ≤ 50) (ih : LPj p l e s m args below meth c G A Q cI cZ cJ b0 h o ta sa ua ma (j + 1)) : LZ p l e s m args below meth c G A Q cI cZ cJ b0 h o ta sa ua ma (30 + 7 * j) (211 + 66 * j) i 364 T b r sw st fa sc fi mi lf hi n sw2 st2 fa2 sc2 fi2 mi2 lf2 hi2 n2 th K ov := by
  obtain ⟨hC, hl, hz, hX, hb0, hbA, hL⟩ := hW
  have hj : j ≤ 511 := by omega
  obtain ⟨hn, hT0, hst, hfa0, hmi0, hb9, hr9⟩ := id hI
  have hT : T < 2 ^ 29 := by omega
  have hfa : ∀ g : Nat, inN (fa g) (2 ^ 28) := fun g => inN_mono (hfa0 g) (by omega)
  have hmi : ∀ g : Nat, inN (mi g) (2 ^ 30) := fun g => inN_mono (hmi0 g) (by omega)
  have ham : ∀ (g zt : Nat), inN (amF b r zt g) 1000 := fun g zt => am_in hb9 hr9 zt g
  unfold LZ
  refine z_aload_n (n := 365) hC dL_law_364 rfl 1 rfl rfl ?_
  refine z_aload_n (n := 366) hC dL_law_365 rfl 0 rfl rfl ?_
  refine z_iload (n := 368) hC dL_law_366 4 rfl rfl ?_
  refine z_iconst (v := nI 1) (n := 369) hC dL_law_368 (by decide) rfl ?_
  refine z_iadd (v := nI (i + 1)) (n := 370) hC dL_law_369 (nI_add i 1) rfl ?_
  refine z_sld (v := nI k) (n := 371) hC hX hb0 hbA hL (i + 1) rfl (by omega) he1 dL_law_370 rfl ?_
  refine z_aload_n (n := 372) hC dL_law_371 rfl 3 rfl rfl ?_
  refine z_callsiH (R := room_1) (cells := 30 + 7 * j) (slots := 211 + 66 * j) (ws := (wH h ta sa ua T) ++ (wT ta cI b r) ++ (wS sa cI cZ sw st fa sc fi mi lf hi n) ++ (wS ua cI cZ sw2 st2 fa2 sc2 fi2 mi2 lf2 hi2 n2) ++ (wN ma cI th n sw st b r T sc fi mi fa K) ++ (wO o cJ ov)) (n := 375) (As := [.ref h, .int (nI k), .ref o]) (rest := []) hC hz (k_L_pass l G cI cZ cJ h ta sa ua T b r sw st fa sc fi mi lf hi n sw2 st2 fa2 sc2 fi2 mi2 lf2 hi2 n2 o ov k (by omega) (by omega) hk1 hk2) kg_L_100 kd_yL_pass dL_law_372 ⟨Nat.le_of_ble_eq_true rfl, Nat.le_of_ble_eq_true rfl⟩ [0, 1, 2, 3, 4, 5, 6, 7, 8, 9, 10, 11, 12, 13, 14, 15, 16, 17, 18, 19, 20, 21, 29] rfl (by decide) rfl (Nat.le_of_ble_eq_true rfl) ⟨by show _ ≤ 1080188; omega, by show _ ≤ 5855541; omega⟩ (ws2 := fun u1 => (wH h ta sa ua (T + k)) ++ (wT ta cI b r) ++ (wS sa cI cZ sw st (pwF fa (plA sw st b r sc fi mi fa T k) n) (pwF sc (plS sw st b r sc fi mi fa T k) n) (pwF fi (plF sw st b r sc fi mi fa T k) n) (pwF mi (plM sw st b r sc fi mi fa T k) n) lf hi n) ++ (wS ua cI cZ sw2 st2 fa2 sc2 fi2 mi2 lf2 hi2 n2) ++ (wN ma cI th n sw st b r T sc fi mi fa K) ++ (wO o cJ (vp_updL ov 0 ((smF (fun zj => plM sw st b r sc fi mi fa T k zj - mi zj) n).toInt64)))) [22, 23, 24, 25, 26, 27, 28] (fun _ => rfl) (wN ma cI th n sw st b r T sc fi mi fa K) (fun _ => rfl) rfl (cv_of 30 (by decide +kernel) (fun _ => rfl)) [h, ta 0, ta 1, ta 2, sa 0, sa 1, sa 2, sa 3, sa 4, sa 5, sa 6, sa 7, sa 8, ua 0, ua 1, ua 2, ua 3, ua 4, ua 5, ua 6, ua 7, ua 8, o] (fun _ => rfl) rfl rfl rfl (fun r2 u1 h3 => ?_)
  subst h3
  refine z_istore (lv' := [(5, .int (nI 0)), (0, .ref b0), (1, .ref h), (2, .ref (ma 0)), (3, .ref o), (4, .int (nI i))]) (n := 377) hC dL_law_375 (by decide) rfl rfl ?_
  refine z_aload_n (n := 378) hC dL_law_377 rfl 3 rfl rfl ?_
  refine z_aload_n (n := 379) hC dL_law_378 rfl 1 rfl rfl ?_
  refine z_iload (n := 381) hC dL_law_379 5 rfl rfl ?_
  refine z_iconst (v := nI 1) (n := 382) hC dL_law_381 (by decide) rfl ?_
  refine z_iadd (v := nI (i + 1)) (n := 383) hC dL_law_382 (nI_add i 1) rfl ?_
  refine z_sld (v := nI k) (n := 384) hC hX hb0 hbA hL (i + 1) rfl (by omega) he1 dL_law_383 rfl ?_
  refine z_calli (R := room_1) (cells := 30 + 7 * j) (slots := 211 + 66 * j) (ws := (wH h ta sa ua (T + k)) ++ (wT ta cI b r) ++ (wS sa cI cZ sw st (pwF fa (plA sw st b r sc fi mi fa T k) n) (pwF sc (plS sw st b r sc fi mi fa T k) n) (pwF fi (plF sw st b r sc fi mi fa T k) n) (pwF mi (plM sw st b r sc fi mi fa T k) n) lf hi n) ++ (wS ua cI cZ sw2 st2 fa2 sc2 fi2 mi2 lf2 hi2 n2) ++ (wN ma cI th n sw st b r T sc fi mi fa K) ++ (wO o cJ (vp_updL ov 0 ((smF (fun zj => plM sw st b r sc fi mi fa T k zj - mi zj) n).toInt64)))) (n := 387) (As := [.int (nI k)]) (rest := []) hC (k_X3_pass l G cI cZ cJ ma th n sw st b r T sc fi mi fa K k (by omega) (by omega) hk1 hk2 hst) kg_L_102 kd_yX3_pass dL_law_384 ⟨Nat.le_of_ble_eq_true rfl, Nat.le_of_ble_eq_true rfl⟩ 0 rfl rfl rfl [22, 23, 24, 25, 26, 27, 28] rfl (by decide) rfl (Nat.le_of_ble_eq_true rfl) ⟨by show _ ≤ 1080188; omega, by show _ ≤ 5855541; omega⟩ (ws2 := fun u4 => (wH h ta sa ua (T + k)) ++ (wT ta cI b r) ++ (wS sa cI cZ sw st (pwF fa (plA sw st b r sc fi mi fa T k) n) (pwF sc (plS sw st b r sc fi mi fa T k) n) (pwF fi (plF sw st b r sc fi mi fa T k) n) (pwF mi (plM sw st b r sc fi mi fa T k) n) lf hi n) ++ (wS ua cI cZ sw2 st2 fa2 sc2 fi2 mi2 lf2 hi2 n2) ++ (wN ma cI (nI 0) n sw st b r (T + k) (pwF sc (plS sw st b r sc fi mi fa T k) n) (pwF fi (plF sw st b r sc fi mi fa T k) n) (pwF mi (plM sw st b r sc fi mi fa T k) n) (pwF fa (plA sw st b r sc fi mi fa T k) n) K) ++ (wO o cJ (vp_updL ov 0 ((smF (fun zj => plM sw st b r sc fi mi fa T k zj - mi zj) n).toInt64)))) [0, 1, 2, 3, 4, 5, 6, 7, 8, 9, 10, 11, 12, 13, 14, 15, 16, 17, 18, 19, 20, 21, 29] (fun _ => rfl) ((wH h ta sa ua (T + k)) ++ (wT ta cI b r) ++ (wS sa cI cZ sw st (pwF fa (plA sw st b r sc fi mi fa T k) n) (pwF sc (plS sw st b r sc fi mi fa T k) n) (pwF fi (plF sw st b r sc fi mi fa T k) n) (pwF mi (plM sw st b r sc fi mi fa T k) n) lf hi n) ++ (wS ua cI cZ sw2 st2 fa2 sc2 fi2 mi2 lf2 hi2 n2) ++ (wO o cJ (vp_updL ov 0 ((smF (fun zj => plM sw st b r sc fi mi fa T k zj - mi zj) n).toInt64)))) (fun _ => rfl) rfl (cv_of 30 (by decide +kernel) (fun _ => rfl)) [ma 0, ma 1, ma 2, ma 3, ma 4, ma 5, ma 6] (fun _ => rfl) rfl rfl rfl (fun r5 u4 h6 => ?_)
  subst h6
  refine z_istore (lv' := [(6, .int (smF (fun zj => plM sw st b r sc fi mi fa T k zj - mi zj) n)), (5, .int (nI 0)), (0, .ref b0), (1, .ref h), (2, .ref (ma 0)), (3, .ref o), (4, .int (nI i))]) (n := 389) hC dL_law_387 (by decide) rfl rfl ?_
  refine z_aload_n (n := 390) hC dL_law_389 rfl 4 rfl rfl ?_
  refine z_calli (R := room_1) (cells := 30 + 7 * j) (slots := 211 + 66 * j) (ws := (wH h ta sa ua (T + k)) ++ (wT ta cI b r) ++ (wS sa cI cZ sw st (pwF fa (plA sw st b r sc fi mi fa T k) n) (pwF sc (plS sw st b r sc fi mi fa T k) n) (pwF fi (plF sw st b r sc fi mi fa T k) n) (pwF mi (plM sw st b r sc fi mi fa T k) n) lf hi n) ++ (wS ua cI cZ sw2 st2 fa2 sc2 fi2 mi2 lf2 hi2 n2) ++ (wN ma cI (nI 0) n sw st b r (T + k) (pwF sc (plS sw st b r sc fi mi fa T k) n) (pwF fi (plF sw st b r sc fi mi fa T k) n) (pwF mi (plM sw st b r sc fi mi fa T k) n) (pwF fa (plA sw st b r sc fi mi fa T k) n) K) ++ (wO o cJ (vp_updL ov 0 ((smF (fun zj => plM sw st b r sc fi mi fa T k zj - mi zj) n).toInt64)))) (n := 393) (As := []) (rest := []) hC (k_X3_thrown l G cI cZ cJ ma (nI 0) n sw st b r (T + k) (pwF sc (plS sw st b r sc fi mi fa T k) n) (pwF fi (plF sw st b r sc fi mi fa T k) n) (pwF mi (plM sw st b r sc fi mi fa T k) n) (pwF fa (plA sw st b r sc fi mi fa T k) n) K (by omega) (by omega)) kg_L_89 kd_yX3_thrown dL_law_390 ⟨Nat.le_of_ble_eq_true rfl, Nat.le_of_ble_eq_true rfl⟩ 0 rfl rfl rfl [22, 23, 24, 25, 26, 27, 28] rfl (by decide) rfl (Nat.le_of_ble_eq_true rfl) ⟨by show _ ≤ 1080188; omega, by show _ ≤ 5855541; omega⟩ (ws2 := fun u7 => (wH h ta sa ua (T + k)) ++ (wT ta cI b r) ++ (wS sa cI cZ sw st (pwF fa (plA sw st b r sc fi mi fa T k) n) (pwF sc (plS sw st b r sc fi mi fa T k) n) (pwF fi (plF sw st b r sc fi mi fa T k) n) (pwF mi (plM sw st b r sc fi mi fa T k) n) lf hi n) ++ (wS ua cI cZ sw2 st2 fa2 sc2 fi2 mi2 lf2 hi2 n2) ++ (wN ma cI (nI 0) n sw st b r (T + k) (pwF sc (plS sw st b r sc fi mi fa T k) n) (pwF fi (plF sw st b r sc fi mi fa T k) n) (pwF mi (plM sw st b r sc fi mi fa T k) n) (pwF fa (plA sw st b r sc fi mi fa T k) n) K) ++ (wO o cJ (vp_updL ov 0 ((smF (fun zj => plM sw st b r sc fi mi fa T k zj - mi zj) n).toInt64)))) [0, 1, 2, 3, 4, 5, 6, 7, 8, 9, 10, 11, 12, 13, 14, 15, 16, 17, 18, 19, 20, 21, 29] (fun _ => rfl) ((wH h ta sa ua (T + k)) ++ (wT ta cI b r) ++ (wS sa cI cZ sw st (pwF fa (plA sw st b r sc fi mi fa T k) n) (pwF sc (plS sw st b r sc fi mi fa T k) n) (pwF fi (plF sw st b r sc fi mi fa T k) n) (pwF mi (plM sw st b r sc fi mi fa T k) n) lf hi n) ++ (wS ua cI cZ sw2 st2 fa2 sc2 fi2 mi2 lf2 hi2 n2) ++ (wO o cJ (vp_updL ov 0 ((smF (fun zj => plM sw st b r sc fi mi fa T k zj - mi zj) n).toInt64)))) (fun _ => rfl) rfl (cv_of 30 (by decide +kernel) (fun _ => rfl)) [ma 0, ma 1, ma 2, ma 3, ma 4, ma 5, ma 6] (fun _ => rfl) rfl rfl rfl (fun r8 u7 h9 => ?_)
  subst h9
  refine z_iload (n := 395) hC dL_law_393 1 rfl rfl ?_
  refine z_icmp_eq_n (tgt := 400) (n := 398) hC 0 0 rfl rfl (by omega) (by omega) dL_law_395 (by decide) rfl (fun c10 => ?_) (fun c10 => absurd rfl c10)
  refine z_iload (n := 402) hC dL_law_400 1 rfl rfl ?_
  refine z_if_ne (tgt := 417) (n := 405) hC dL_law_402 (by decide) rfl (fun c11 => absurd (nI_0) c11) (fun c11 => ?_)
  refine z_aload_n (n := 406) hC dL_law_405 rfl 5 rfl rfl ?_
  refine z_iconst (v := nI 0) (n := 407) hC dL_law_406 (by decide) rfl ?_
  refine z_lald (v := (smF (fun zj => plM sw st b r sc fi mi fa T k zj - mi zj) n).toInt64) (n := 408) hC 29 2 0 rfl rfl rfl (by omega) (by decide) dL_law_407 updL_at rfl ?_
  refine z_iload (n := 410) hC dL_law_408 0 rfl rfl ?_
  refine z_i2l (v := (smF (fun zj => plM sw st b r sc fi mi fa T k zj - mi zj) n).toInt64) (n := 411) hC dL_law_410 rfl rfl ?_
  refine z_lcmp (n := 412) hC dL_law_411 rfl ?_
  refine z_if_eq (tgt := 417) (n := 415) hC dL_law_412 (by decide) rfl (fun c12 => ?_) (fun c12 => absurd (lg_self _) c12)
  refine z_goto (n := 1448) hC dL_law_417 (by decide) ?_
  refine z_iinc (k0 := 6) (v := nI (i + 4)) (lv' := [(4, .int (nI (i + 4))), (6, .int (smF (fun zj => plM sw st b r sc fi mi fa T k zj - mi zj) n)), (5, .int (nI 0)), (0, .ref b0), (1, .ref h), (2, .ref (ma 0)), (3, .ref o)]) (n := 1451) hC dL_law_1448 rfl (nI_add i 4) (by decide) rfl rfl ?_
  refine z_goto (n := 23) hC dL_law_1451 (by decide) ?_
  refine z_lv [3, 4, 5, 6, 0] (lv' := [(0, .ref b0), (1, .ref h), (2, .ref (ma 0)), (3, .ref o), (4, .int (nI (i + 4)))]) rfl ?_
  refine z_wid (k1 := 30 + 7 * (j + 1)) (k2 := 211 + 66 * (j + 1)) (by omega) (by omega) ?_
  exact ih (i + 4) (T + k) b r sw st (pwF fa (plA sw st b r sc fi mi fa T k) n) (pwF sc (plS sw st b r sc fi mi fa T k) n) (pwF fi (plF sw st b r sc fi mi fa T k) n) (pwF mi (plM sw st b r sc fi mi fa T k) n) lf hi n sw2 st2 fa2 sc2 fi2 mi2 lf2 hi2 n2 (nI 0) K (vp_updL ov 0 ((smF (fun zj => plM sw st b r sc fi mi fa T k zj - mi zj) n).toInt64)) (by omega) (iv_pass hI (by omega) hk2)

set_option maxRecDepth 100000 in
set_option maxHeartbeats 4000000 in
theorem c_pass_x (p : Program) (l : Launch) (e : Env) (s : State) (m : MethodId) (args : Array Value) (below : List Frame) (meth : Method) (c : Code) (G : va_G) (A : Nat → Prop) (Q : State → Prop) (cI cZ cJ : ClassId) (b0 h o : Nat) (ta sa ua ma : Nat → Nat) (L : Nat) (xs : Nat → Int32) (i j : Nat) (T : Nat) (b r sw st fa sc fi mi : Nat → Int32) (lf hi : Nat → Bool) (n : Nat) (sw2 st2 fa2 sc2 fi2 mi2 : Nat → Int32) (lf2 hi2 : Nat → Bool) (n2 : Nat) (th : Int32) (K : Nat → Int32) (ov : Nat → Int64)  (hW : LX p l s m args c G A cI cZ cJ b0 L xs) (hI : iv j T n b r st fa mi) (hi0 : i = 4 * j) (hiL : i + 4 ≤ L) (hb : xs (i + 1) < nI 1 ∨ nI 50 < xs (i + 1)) (ih : LPj p l e s m args below meth c G A Q cI cZ cJ b0 h o ta sa ua ma (j + 1)) : LZ p l e s m args below meth c G A Q cI cZ cJ b0 h o ta sa ua ma (30 + 7 * j) (211 + 66 * j) i 364 T b r sw st fa sc fi mi lf hi n sw2 st2 fa2 sc2 fi2 mi2 lf2 hi2 n2 th K ov := by
  obtain ⟨hC, hl, hz, hX, hb0, hbA, hL⟩ := hW
  have hj : j ≤ 511 := by omega
  obtain ⟨hn, hT0, hst, hfa0, hmi0, hb9, hr9⟩ := id hI
  have hT : T < 2 ^ 29 := by omega
  have hfa : ∀ g : Nat, inN (fa g) (2 ^ 28) := fun g => inN_mono (hfa0 g) (by omega)
  have hmi : ∀ g : Nat, inN (mi g) (2 ^ 30) := fun g => inN_mono (hmi0 g) (by omega)
  have ham : ∀ (g zt : Nat), inN (amF b r zt g) 1000 := fun g zt => am_in hb9 hr9 zt g
  unfold LZ
  refine z_aload_n (n := 365) hC dL_law_364 rfl 1 rfl rfl ?_
  refine z_aload_n (n := 366) hC dL_law_365 rfl 0 rfl rfl ?_
  refine z_iload (n := 368) hC dL_law_366 4 rfl rfl ?_
  refine z_iconst (v := nI 1) (n := 369) hC dL_law_368 (by decide) rfl ?_
  refine z_iadd (v := nI (i + 1)) (n := 370) hC dL_law_369 (nI_add i 1) rfl ?_
  refine z_sld (v := xs (i + 1)) (n := 371) hC hX hb0 hbA hL (i + 1) rfl (by omega) rfl dL_law_370 rfl ?_
  refine z_aload_n (n := 372) hC dL_law_371 rfl 3 rfl rfl ?_
  refine z_callsiH (R := room_1) (cells := 30 + 7 * j) (slots := 211 + 66 * j) (ws := (wH h ta sa ua T) ++ (wT ta cI b r) ++ (wS sa cI cZ sw st fa sc fi mi lf hi n) ++ (wS ua cI cZ sw2 st2 fa2 sc2 fi2 mi2 lf2 hi2 n2) ++ (wN ma cI th n sw st b r T sc fi mi fa K) ++ (wO o cJ ov)) (n := 375) (As := [.ref h, .int (xs (i + 1)), .ref o]) (rest := []) hC hz (kx_L_pass_x l G cI cZ cJ h ta sa ua T b r sw st fa sc fi mi lf hi n sw2 st2 fa2 sc2 fi2 mi2 lf2 hi2 n2 o ov (xs (i + 1)) hl (by omega) (by omega) hb) kg_L_100 kd_yL_pass dL_law_372 ⟨Nat.le_of_ble_eq_true rfl, Nat.le_of_ble_eq_true rfl⟩ [0, 1, 2, 3, 4, 5, 6, 7, 8, 9, 10, 11, 12, 13, 14, 15, 16, 17, 18, 19, 20, 21, 29] rfl (by decide) rfl (Nat.le_of_ble_eq_true rfl) ⟨by show _ ≤ 1080188; omega, by show _ ≤ 5855541; omega⟩ (ws2 := fun u1 => (wH h ta sa ua T) ++ (wT ta cI b r) ++ (wS sa cI cZ sw st fa sc fi mi lf hi n) ++ (wS ua cI cZ sw2 st2 fa2 sc2 fi2 mi2 lf2 hi2 n2) ++ (wN ma cI th n sw st b r T sc fi mi fa K) ++ (wO o cJ ov)) [22, 23, 24, 25, 26, 27, 28] (fun _ => rfl) (wN ma cI th n sw st b r T sc fi mi fa K) (fun _ => rfl) rfl (cv_of 30 (by decide +kernel) (fun _ => rfl)) [h, ta 0, ta 1, ta 2, sa 0, sa 1, sa 2, sa 3, sa 4, sa 5, sa 6, sa 7, sa 8, ua 0, ua 1, ua 2, ua 3, ua 4, ua 5, ua 6, ua 7, ua 8, o] (fun _ => rfl) rfl rfl rfl (fun r2 u1 h3 => ?_)
  subst h3
  refine z_istore (lv' := [(5, .int (nI 1)), (0, .ref b0), (1, .ref h), (2, .ref (ma 0)), (3, .ref o), (4, .int (nI i))]) (n := 377) hC dL_law_375 (by decide) rfl rfl ?_
  refine z_aload_n (n := 378) hC dL_law_377 rfl 3 rfl rfl ?_
  refine z_aload_n (n := 379) hC dL_law_378 rfl 1 rfl rfl ?_
  refine z_iload (n := 381) hC dL_law_379 5 rfl rfl ?_
  refine z_iconst (v := nI 1) (n := 382) hC dL_law_381 (by decide) rfl ?_
  refine z_iadd (v := nI (i + 1)) (n := 383) hC dL_law_382 (nI_add i 1) rfl ?_
  refine z_sld (v := xs (i + 1)) (n := 384) hC hX hb0 hbA hL (i + 1) rfl (by omega) rfl dL_law_383 rfl ?_
  refine z_calli (R := room_1) (cells := 30 + 7 * j + 1) (slots := 211 + 66 * j + 6) (ws := (wH h ta sa ua T) ++ (wT ta cI b r) ++ (wS sa cI cZ sw st fa sc fi mi lf hi n) ++ (wS ua cI cZ sw2 st2 fa2 sc2 fi2 mi2 lf2 hi2 n2) ++ (wN ma cI th n sw st b r T sc fi mi fa K) ++ (wO o cJ ov)) (n := 387) (As := [.int (xs (i + 1))]) (rest := []) hC (k_X3_pass_x l G cI cZ cJ ma th n sw st b r T sc fi mi fa K (xs (i + 1)) (by omega) (by omega) hb) kg_L_102 kd_yX3_pass dL_law_384 ⟨Nat.le_of_ble_eq_true rfl, Nat.le_of_ble_eq_true rfl⟩ 0 rfl rfl rfl [22, 23, 24, 25, 26, 27, 28] rfl (by decide) rfl (Nat.le_of_ble_eq_true rfl) ⟨by show _ ≤ 1080188; omega, by show _ ≤ 5855541; omega⟩ (ws2 := fun u4 => (wH h ta sa ua T) ++ (wT ta cI b r) ++ (wS sa cI cZ sw st fa sc fi mi lf hi n) ++ (wS ua cI cZ sw2 st2 fa2 sc2 fi2 mi2 lf2 hi2 n2) ++ (wN ma cI (nI 1) n sw st b r T sc fi mi fa K) ++ (wO o cJ ov)) [0, 1, 2, 3, 4, 5, 6, 7, 8, 9, 10, 11, 12, 13, 14, 15, 16, 17, 18, 19, 20, 21, 29] (fun _ => rfl) ((wH h ta sa ua T) ++ (wT ta cI b r) ++ (wS sa cI cZ sw st fa sc fi mi lf hi n) ++ (wS ua cI cZ sw2 st2 fa2 sc2 fi2 mi2 lf2 hi2 n2) ++ (wO o cJ ov)) (fun _ => rfl) rfl (cv_of 30 (by decide +kernel) (fun _ => rfl)) [ma 0, ma 1, ma 2, ma 3, ma 4, ma 5, ma 6] (fun _ => rfl) rfl rfl rfl (fun r5 u4 h6 => ?_)
  subst h6
  refine z_istore (lv' := [(6, .int (nI 0)), (5, .int (nI 1)), (0, .ref b0), (1, .ref h), (2, .ref (ma 0)), (3, .ref o), (4, .int (nI i))]) (n := 389) hC dL_law_387 (by decide) rfl rfl ?_
  refine z_aload_n (n := 390) hC dL_law_389 rfl 4 rfl rfl ?_
  refine z_calli (R := room_1) (cells := 30 + 7 * j + 1) (slots := 211 + 66 * j + 6) (ws := (wH h ta sa ua T) ++ (wT ta cI b r) ++ (wS sa cI cZ sw st fa sc fi mi lf hi n) ++ (wS ua cI cZ sw2 st2 fa2 sc2 fi2 mi2 lf2 hi2 n2) ++ (wN ma cI (nI 1) n sw st b r T sc fi mi fa K) ++ (wO o cJ ov)) (n := 393) (As := []) (rest := []) hC (k_X3_thrown l G cI cZ cJ ma (nI 1) n sw st b r T sc fi mi fa K (by omega) (by omega)) kg_L_89 kd_yX3_thrown dL_law_390 ⟨Nat.le_of_ble_eq_true rfl, Nat.le_of_ble_eq_true rfl⟩ 0 rfl rfl rfl [22, 23, 24, 25, 26, 27, 28] rfl (by decide) rfl (Nat.le_of_ble_eq_true rfl) ⟨by show _ ≤ 1080188; omega, by show _ ≤ 5855541; omega⟩ (ws2 := fun u7 => (wH h ta sa ua T) ++ (wT ta cI b r) ++ (wS sa cI cZ sw st fa sc fi mi lf hi n) ++ (wS ua cI cZ sw2 st2 fa2 sc2 fi2 mi2 lf2 hi2 n2) ++ (wN ma cI (nI 1) n sw st b r T sc fi mi fa K) ++ (wO o cJ ov)) [0, 1, 2, 3, 4, 5, 6, 7, 8, 9, 10, 11, 12, 13, 14, 15, 16, 17, 18, 19, 20, 21, 29] (fun _ => rfl) ((wH h ta sa ua T) ++ (wT ta cI b r) ++ (wS sa cI cZ sw st fa sc fi mi lf hi n) ++ (wS ua cI cZ sw2 st2 fa2 sc2 fi2 mi2 lf2 hi2 n2) ++ (wO o cJ ov)) (fun _ => rfl) rfl (cv_of 30 (by decide +kernel) (fun _ => rfl)) [ma 0, ma 1, ma 2, ma 3, ma 4, ma 5, ma 6] (fun _ => rfl) rfl rfl rfl (fun r8 u7 h9 => ?_)
  subst h9
  refine z_iload (n := 395) hC dL_law_393 1 rfl rfl ?_
  refine z_icmp_eq_n (tgt := 400) (n := 398) hC 1 1 rfl rfl (by omega) (by omega) dL_law_395 (by decide) rfl (fun c10 => ?_) (fun c10 => absurd rfl c10)
  refine z_iload (n := 402) hC dL_law_400 1 rfl rfl ?_
  refine z_if_ne (tgt := 417) (n := 405) hC dL_law_402 (by decide) rfl (fun c11 => ?_) (fun c11 => absurd c11 (by decide))
  refine z_goto (n := 1448) hC dL_law_417 (by decide) ?_
  refine z_iinc (k0 := 6) (v := nI (i + 4)) (lv' := [(4, .int (nI (i + 4))), (6, .int (nI 0)), (5, .int (nI 1)), (0, .ref b0), (1, .ref h), (2, .ref (ma 0)), (3, .ref o)]) (n := 1451) hC dL_law_1448 rfl (nI_add i 4) (by decide) rfl rfl ?_
  refine z_goto (n := 23) hC dL_law_1451 (by decide) ?_
  refine z_lv [3, 4, 5, 6, 0] (lv' := [(0, .ref b0), (1, .ref h), (2, .ref (ma 0)), (3, .ref o), (4, .int (nI (i + 4)))]) rfl ?_
  refine z_wid (k1 := 30 + 7 * (j + 1)) (k2 := 211 + 66 * (j + 1)) (by omega) (by omega) ?_
  exact ih (i + 4) T b r sw st fa sc fi mi lf hi n sw2 st2 fa2 sc2 fi2 mi2 lf2 hi2 n2 (nI 1) K ov (by omega) (iv_same hI)

set_option maxRecDepth 100000 in
set_option maxHeartbeats 4000000 in
theorem c_shootOff (p : Program) (l : Launch) (e : Env) (s : State) (m : MethodId) (args : Array Value) (below : List Frame) (meth : Method) (c : Code) (G : va_G) (A : Nat → Prop) (Q : State → Prop) (cI cZ cJ : ClassId) (b0 h o : Nat) (ta sa ua ma : Nat → Nat) (L : Nat) (xs : Nat → Int32) (i j : Nat) (T : Nat) (b r sw st fa sc fi mi : Nat → Int32) (lf hi : Nat → Bool) (n : Nat) (sw2 st2 fa2 sc2 fi2 mi2 : Nat → Int32) (lf2 hi2 : Nat → Bool) (n2 : Nat) (th : Int32) (K : Nat → Int32) (ov : Nat → Int64)  (hW : LX p l s m args c G A cI cZ cJ b0 L xs) (hI : iv j T n b r st fa mi) (hi0 : i = 4 * j) (hiL : i + 4 ≤ L) (hn0 : 0 < n) (ih : LPj p l e s m args below meth c G A Q cI cZ cJ b0 h o ta sa ua ma (j + 1)) : LZ p l e s m args below meth c G A Q cI cZ cJ b0 h o ta sa ua ma (30 + 7 * j) (211 + 66 * j) i 420 T b r sw st fa sc fi mi lf hi n sw2 st2 fa2 sc2 fi2 mi2 lf2 hi2 n2 th K ov := by
  obtain ⟨hC, hl, hz, hX, hb0, hbA, hL⟩ := hW
  have hj : j ≤ 511 := by omega
  obtain ⟨hn, hT0, hst, hfa0, hmi0, hb9, hr9⟩ := id hI
  have hT : T < 2 ^ 29 := by omega
  have hfa : ∀ g : Nat, inN (fa g) (2 ^ 28) := fun g => inN_mono (hfa0 g) (by omega)
  have hmi : ∀ g : Nat, inN (mi g) (2 ^ 30) := fun g => inN_mono (hmi0 g) (by omega)
  have ham : ∀ (g zt : Nat), inN (amF b r zt g) 1000 := fun g zt => am_in hb9 hr9 zt g
  unfold LZ
  refine z_aload_n (n := 421) hC dL_law_420 rfl 1 rfl rfl ?_
  refine z_aload_n (n := 422) hC dL_law_421 rfl 3 rfl rfl ?_
  refine z_callsiH (R := room_1) (cells := 30 + 7 * j) (slots := 211 + 66 * j) (ws := (wH h ta sa ua T) ++ (wT ta cI b r) ++ (wS sa cI cZ sw st fa sc fi mi lf hi n) ++ (wS ua cI cZ sw2 st2 fa2 sc2 fi2 mi2 lf2 hi2 n2) ++ (wN ma cI th n sw st b r T sc fi mi fa K) ++ (wO o cJ ov)) (n := 425) (As := [.ref h, .ref o]) (rest := []) hC hz (k_L_shootOff l G cI cZ cJ h ta sa ua T b r sw st fa sc fi mi lf hi n sw2 st2 fa2 sc2 fi2 mi2 lf2 hi2 n2 o ov (by omega) (by omega) hn0) kg_L_103 kd_yL_shootOff dL_law_422 ⟨Nat.le_of_ble_eq_true rfl, Nat.le_of_ble_eq_true rfl⟩ [0, 1, 2, 3, 4, 5, 6, 7, 8, 9, 10, 11, 12, 13, 14, 15, 16, 17, 18, 19, 20, 21, 29] rfl (by decide) rfl (Nat.le_of_ble_eq_true rfl) ⟨by show _ ≤ 1080188; omega, by show _ ≤ 5855541; omega⟩ (ws2 := fun u1 => (wH h ta sa ua T) ++ (wT ta cI b r) ++ (wS sa cI cZ sw st (waF sw st sc fa n) (upd sc (wnF sw st sc fa n) (sc (wnF sw st sc fa n) + nI 1)) fi mi u1.1 u1.2 n) ++ (wS ua cI cZ sw2 st2 fa2 sc2 fi2 mi2 lf2 hi2 n2) ++ (wN ma cI th n sw st b r T sc fi mi fa K) ++ (wO o cJ (vp_updL ov 0 ((nI (wnF sw st sc fa n)).toInt64)))) [22, 23, 24, 25, 26, 27, 28] (fun _ => rfl) (wN ma cI th n sw st b r T sc fi mi fa K) (fun _ => rfl) rfl (cv_of 30 (by decide +kernel) (fun _ => rfl)) [h, ta 0, ta 1, ta 2, sa 0, sa 1, sa 2, sa 3, sa 4, sa 5, sa 6, sa 7, sa 8, ua 0, ua 1, ua 2, ua 3, ua 4, ua 5, ua 6, ua 7, ua 8, o] (fun _ => rfl) rfl rfl rfl (fun r2 u1 h3 => ?_)
  subst h3
  refine z_istore (lv' := [(5, .int (nI 0)), (0, .ref b0), (1, .ref h), (2, .ref (ma 0)), (3, .ref o), (4, .int (nI i))]) (n := 427) hC dL_law_425 (by decide) rfl rfl ?_
  refine z_aload_n (n := 428) hC dL_law_427 rfl 3 rfl rfl ?_
  refine z_calli (R := room_1) (cells := 30 + 7 * j) (slots := 211 + 66 * j) (ws := (wH h ta sa ua T) ++ (wT ta cI b r) ++ (wS sa cI cZ sw st (waF sw st sc fa n) (upd sc (wnF sw st sc fa n) (sc (wnF sw st sc fa n) + nI 1)) fi mi u1.1 u1.2 n) ++ (wS ua cI cZ sw2 st2 fa2 sc2 fi2 mi2 lf2 hi2 n2) ++ (wN ma cI th n sw st b r T sc fi mi fa K) ++ (wO o cJ (vp_updL ov 0 ((nI (wnF sw st sc fa n)).toInt64)))) (n := 431) (As := []) (rest := []) hC (k_X3_shootOff l G cI cZ cJ ma th n sw st b r T sc fi mi fa K (by omega) (by omega) hn0 hst) kg_L_106 kd_yX3_shootOff dL_law_428 ⟨Nat.le_of_ble_eq_true rfl, Nat.le_of_ble_eq_true rfl⟩ 0 rfl rfl rfl [22, 23, 24, 25, 26, 27, 28] rfl (by decide) rfl (Nat.le_of_ble_eq_true rfl) ⟨by show _ ≤ 1080188; omega, by show _ ≤ 5855541; omega⟩ (ws2 := fun u4 => (wH h ta sa ua T) ++ (wT ta cI b r) ++ (wS sa cI cZ sw st (waF sw st sc fa n) (upd sc (wnF sw st sc fa n) (sc (wnF sw st sc fa n) + nI 1)) fi mi u1.1 u1.2 n) ++ (wS ua cI cZ sw2 st2 fa2 sc2 fi2 mi2 lf2 hi2 n2) ++ (wN ma cI (nI 0) n sw st b r T (upd sc (wnF sw st sc fa n) (sc (wnF sw st sc fa n) + nI 1)) fi mi (waF sw st sc fa n) K) ++ (wO o cJ (vp_updL ov 0 ((nI (wnF sw st sc fa n)).toInt64)))) [0, 1, 2, 3, 4, 5, 6, 7, 8, 9, 10, 11, 12, 13, 14, 15, 16, 17, 18, 19, 20, 21, 29] (fun _ => rfl) ((wH h ta sa ua T) ++ (wT ta cI b r) ++ (wS sa cI cZ sw st (waF sw st sc fa n) (upd sc (wnF sw st sc fa n) (sc (wnF sw st sc fa n) + nI 1)) fi mi u1.1 u1.2 n) ++ (wS ua cI cZ sw2 st2 fa2 sc2 fi2 mi2 lf2 hi2 n2) ++ (wO o cJ (vp_updL ov 0 ((nI (wnF sw st sc fa n)).toInt64)))) (fun _ => rfl) rfl (cv_of 30 (by decide +kernel) (fun _ => rfl)) [ma 0, ma 1, ma 2, ma 3, ma 4, ma 5, ma 6] (fun _ => rfl) rfl rfl rfl (fun r5 u4 h6 => ?_)
  subst h6
  refine z_istore (lv' := [(6, .int (nI (wnF sw st sc fa n))), (5, .int (nI 0)), (0, .ref b0), (1, .ref h), (2, .ref (ma 0)), (3, .ref o), (4, .int (nI i))]) (n := 433) hC dL_law_431 (by decide) rfl rfl ?_
  refine z_aload_n (n := 434) hC dL_law_433 rfl 4 rfl rfl ?_
  refine z_calli (R := room_1) (cells := 30 + 7 * j) (slots := 211 + 66 * j) (ws := (wH h ta sa ua T) ++ (wT ta cI b r) ++ (wS sa cI cZ sw st (waF sw st sc fa n) (upd sc (wnF sw st sc fa n) (sc (wnF sw st sc fa n) + nI 1)) fi mi u1.1 u1.2 n) ++ (wS ua cI cZ sw2 st2 fa2 sc2 fi2 mi2 lf2 hi2 n2) ++ (wN ma cI (nI 0) n sw st b r T (upd sc (wnF sw st sc fa n) (sc (wnF sw st sc fa n) + nI 1)) fi mi (waF sw st sc fa n) K) ++ (wO o cJ (vp_updL ov 0 ((nI (wnF sw st sc fa n)).toInt64)))) (n := 437) (As := []) (rest := []) hC (k_X3_thrown l G cI cZ cJ ma (nI 0) n sw st b r T (upd sc (wnF sw st sc fa n) (sc (wnF sw st sc fa n) + nI 1)) fi mi (waF sw st sc fa n) K (by omega) (by omega)) kg_L_89 kd_yX3_thrown dL_law_434 ⟨Nat.le_of_ble_eq_true rfl, Nat.le_of_ble_eq_true rfl⟩ 0 rfl rfl rfl [22, 23, 24, 25, 26, 27, 28] rfl (by decide) rfl (Nat.le_of_ble_eq_true rfl) ⟨by show _ ≤ 1080188; omega, by show _ ≤ 5855541; omega⟩ (ws2 := fun u7 => (wH h ta sa ua T) ++ (wT ta cI b r) ++ (wS sa cI cZ sw st (waF sw st sc fa n) (upd sc (wnF sw st sc fa n) (sc (wnF sw st sc fa n) + nI 1)) fi mi u1.1 u1.2 n) ++ (wS ua cI cZ sw2 st2 fa2 sc2 fi2 mi2 lf2 hi2 n2) ++ (wN ma cI (nI 0) n sw st b r T (upd sc (wnF sw st sc fa n) (sc (wnF sw st sc fa n) + nI 1)) fi mi (waF sw st sc fa n) K) ++ (wO o cJ (vp_updL ov 0 ((nI (wnF sw st sc fa n)).toInt64)))) [0, 1, 2, 3, 4, 5, 6, 7, 8, 9, 10, 11, 12, 13, 14, 15, 16, 17, 18, 19, 20, 21, 29] (fun _ => rfl) ((wH h ta sa ua T) ++ (wT ta cI b r) ++ (wS sa cI cZ sw st (waF sw st sc fa n) (upd sc (wnF sw st sc fa n) (sc (wnF sw st sc fa n) + nI 1)) fi mi u1.1 u1.2 n) ++ (wS ua cI cZ sw2 st2 fa2 sc2 fi2 mi2 lf2 hi2 n2) ++ (wO o cJ (vp_updL ov 0 ((nI (wnF sw st sc fa n)).toInt64)))) (fun _ => rfl) rfl (cv_of 30 (by decide +kernel) (fun _ => rfl)) [ma 0, ma 1, ma 2, ma 3, ma 4, ma 5, ma 6] (fun _ => rfl) rfl rfl rfl (fun r8 u7 h9 => ?_)
  subst h9
  refine z_iload (n := 439) hC dL_law_437 1 rfl rfl ?_
  refine z_icmp_eq_n (tgt := 444) (n := 442) hC 0 0 rfl rfl (by omega) (by omega) dL_law_439 (by decide) rfl (fun c10 => ?_) (fun c10 => absurd rfl c10)
  refine z_iload (n := 446) hC dL_law_444 1 rfl rfl ?_
  refine z_if_ne (tgt := 461) (n := 449) hC dL_law_446 (by decide) rfl (fun c11 => absurd (nI_0) c11) (fun c11 => ?_)
  refine z_aload_n (n := 450) hC dL_law_449 rfl 5 rfl rfl ?_
  refine z_iconst (v := nI 0) (n := 451) hC dL_law_450 (by decide) rfl ?_
  refine z_lald (v := (nI (wnF sw st sc fa n)).toInt64) (n := 452) hC 29 2 0 rfl rfl rfl (by omega) (by decide) dL_law_451 updL_at rfl ?_
  refine z_iload (n := 454) hC dL_law_452 0 rfl rfl ?_
  refine z_i2l (v := (nI (wnF sw st sc fa n)).toInt64) (n := 455) hC dL_law_454 rfl rfl ?_
  refine z_lcmp (n := 456) hC dL_law_455 rfl ?_
  refine z_if_eq (tgt := 461) (n := 459) hC dL_law_456 (by decide) rfl (fun c12 => ?_) (fun c12 => absurd (lg_self _) c12)
  refine z_goto (n := 1448) hC dL_law_461 (by decide) ?_
  refine z_iinc (k0 := 6) (v := nI (i + 4)) (lv' := [(4, .int (nI (i + 4))), (6, .int (nI (wnF sw st sc fa n))), (5, .int (nI 0)), (0, .ref b0), (1, .ref h), (2, .ref (ma 0)), (3, .ref o)]) (n := 1451) hC dL_law_1448 rfl (nI_add i 4) (by decide) rfl rfl ?_
  refine z_goto (n := 23) hC dL_law_1451 (by decide) ?_
  refine z_lv [3, 4, 5, 6, 0] (lv' := [(0, .ref b0), (1, .ref h), (2, .ref (ma 0)), (3, .ref o), (4, .int (nI (i + 4)))]) rfl ?_
  refine z_wid (k1 := 30 + 7 * (j + 1)) (k2 := 211 + 66 * (j + 1)) (by omega) (by omega) ?_
  exact ih (i + 4) T b r sw st (waF sw st sc fa n) (upd sc (wnF sw st sc fa n) (sc (wnF sw st sc fa n) + nI 1)) fi mi u1.1 u1.2 n sw2 st2 fa2 sc2 fi2 mi2 lf2 hi2 n2 (nI 0) K (vp_updL ov 0 ((nI (wnF sw st sc fa n)).toInt64)) (by omega) (iv_shoot hI (by omega))

set_option maxRecDepth 100000 in
set_option maxHeartbeats 4000000 in
theorem c_shootOff_x (p : Program) (l : Launch) (e : Env) (s : State) (m : MethodId) (args : Array Value) (below : List Frame) (meth : Method) (c : Code) (G : va_G) (A : Nat → Prop) (Q : State → Prop) (cI cZ cJ : ClassId) (b0 h o : Nat) (ta sa ua ma : Nat → Nat) (L : Nat) (xs : Nat → Int32) (i j : Nat) (T : Nat) (b r sw st fa sc fi mi : Nat → Int32) (lf hi : Nat → Bool) (n : Nat) (sw2 st2 fa2 sc2 fi2 mi2 : Nat → Int32) (lf2 hi2 : Nat → Bool) (n2 : Nat) (th : Int32) (K : Nat → Int32) (ov : Nat → Int64)  (hW : LX p l s m args c G A cI cZ cJ b0 L xs) (hI : iv j T n b r st fa mi) (hi0 : i = 4 * j) (hiL : i + 4 ≤ L) (hn0 : n = 0) (ih : LPj p l e s m args below meth c G A Q cI cZ cJ b0 h o ta sa ua ma (j + 1)) : LZ p l e s m args below meth c G A Q cI cZ cJ b0 h o ta sa ua ma (30 + 7 * j) (211 + 66 * j) i 420 T b r sw st fa sc fi mi lf hi n sw2 st2 fa2 sc2 fi2 mi2 lf2 hi2 n2 th K ov := by
  obtain ⟨hC, hl, hz, hX, hb0, hbA, hL⟩ := hW
  have hj : j ≤ 511 := by omega
  obtain ⟨hn, hT0, hst, hfa0, hmi0, hb9, hr9⟩ := id hI
  have hT : T < 2 ^ 29 := by omega
  have hfa : ∀ g : Nat, inN (fa g) (2 ^ 28) := fun g => inN_mono (hfa0 g) (by omega)
  have hmi : ∀ g : Nat, inN (mi g) (2 ^ 30) := fun g => inN_mono (hmi0 g) (by omega)
  have ham : ∀ (g zt : Nat), inN (amF b r zt g) 1000 := fun g zt => am_in hb9 hr9 zt g
  unfold LZ
  refine z_aload_n (n := 421) hC dL_law_420 rfl 1 rfl rfl ?_
  refine z_aload_n (n := 422) hC dL_law_421 rfl 3 rfl rfl ?_
  refine z_callsiH (R := room_1) (cells := 30 + 7 * j) (slots := 211 + 66 * j) (ws := (wH h ta sa ua T) ++ (wT ta cI b r) ++ (wS sa cI cZ sw st fa sc fi mi lf hi n) ++ (wS ua cI cZ sw2 st2 fa2 sc2 fi2 mi2 lf2 hi2 n2) ++ (wN ma cI th n sw st b r T sc fi mi fa K) ++ (wO o cJ ov)) (n := 425) (As := [.ref h, .ref o]) (rest := []) hC hz (kx_L_shootOff_x l G cI cZ cJ h ta sa ua T b r sw st fa sc fi mi lf hi n sw2 st2 fa2 sc2 fi2 mi2 lf2 hi2 n2 o ov hl (by omega) (by omega) hn0) kg_L_103 kd_yL_shootOff dL_law_422 ⟨Nat.le_of_ble_eq_true rfl, Nat.le_of_ble_eq_true rfl⟩ [0, 1, 2, 3, 4, 5, 6, 7, 8, 9, 10, 11, 12, 13, 14, 15, 16, 17, 18, 19, 20, 21, 29] rfl (by decide) rfl (Nat.le_of_ble_eq_true rfl) ⟨by show _ ≤ 1080188; omega, by show _ ≤ 5855541; omega⟩ (ws2 := fun u1 => (wH h ta sa ua T) ++ (wT ta cI b r) ++ (wS sa cI cZ sw st fa sc fi mi lf hi n) ++ (wS ua cI cZ sw2 st2 fa2 sc2 fi2 mi2 lf2 hi2 n2) ++ (wN ma cI th n sw st b r T sc fi mi fa K) ++ (wO o cJ ov)) [22, 23, 24, 25, 26, 27, 28] (fun _ => rfl) (wN ma cI th n sw st b r T sc fi mi fa K) (fun _ => rfl) rfl (cv_of 30 (by decide +kernel) (fun _ => rfl)) [h, ta 0, ta 1, ta 2, sa 0, sa 1, sa 2, sa 3, sa 4, sa 5, sa 6, sa 7, sa 8, ua 0, ua 1, ua 2, ua 3, ua 4, ua 5, ua 6, ua 7, ua 8, o] (fun _ => rfl) rfl rfl rfl (fun r2 u1 h3 => ?_)
  subst h3
  refine z_istore (lv' := [(5, .int (nI 1)), (0, .ref b0), (1, .ref h), (2, .ref (ma 0)), (3, .ref o), (4, .int (nI i))]) (n := 427) hC dL_law_425 (by decide) rfl rfl ?_
  refine z_aload_n (n := 428) hC dL_law_427 rfl 3 rfl rfl ?_
  refine z_calli (R := room_1) (cells := 30 + 7 * j + 1) (slots := 211 + 66 * j + 6) (ws := (wH h ta sa ua T) ++ (wT ta cI b r) ++ (wS sa cI cZ sw st fa sc fi mi lf hi n) ++ (wS ua cI cZ sw2 st2 fa2 sc2 fi2 mi2 lf2 hi2 n2) ++ (wN ma cI th n sw st b r T sc fi mi fa K) ++ (wO o cJ ov)) (n := 431) (As := []) (rest := []) hC (k_X3_shootOff_x l G cI cZ cJ ma th n sw st b r T sc fi mi fa K (by omega) (by omega) hn0) kg_L_106 kd_yX3_shootOff dL_law_428 ⟨Nat.le_of_ble_eq_true rfl, Nat.le_of_ble_eq_true rfl⟩ 0 rfl rfl rfl [22, 23, 24, 25, 26, 27, 28] rfl (by decide) rfl (Nat.le_of_ble_eq_true rfl) ⟨by show _ ≤ 1080188; omega, by show _ ≤ 5855541; omega⟩ (ws2 := fun u4 => (wH h ta sa ua T) ++ (wT ta cI b r) ++ (wS sa cI cZ sw st fa sc fi mi lf hi n) ++ (wS ua cI cZ sw2 st2 fa2 sc2 fi2 mi2 lf2 hi2 n2) ++ (wN ma cI (nI 1) n sw st b r T sc fi mi fa K) ++ (wO o cJ ov)) [0, 1, 2, 3, 4, 5, 6, 7, 8, 9, 10, 11, 12, 13, 14, 15, 16, 17, 18, 19, 20, 21, 29] (fun _ => rfl) ((wH h ta sa ua T) ++ (wT ta cI b r) ++ (wS sa cI cZ sw st fa sc fi mi lf hi n) ++ (wS ua cI cZ sw2 st2 fa2 sc2 fi2 mi2 lf2 hi2 n2) ++ (wO o cJ ov)) (fun _ => rfl) rfl (cv_of 30 (by decide +kernel) (fun _ => rfl)) [ma 0, ma 1, ma 2, ma 3, ma 4, ma 5, ma 6] (fun _ => rfl) rfl rfl rfl (fun r5 u4 h6 => ?_)
  subst h6
  refine z_istore (lv' := [(6, .int (nI 0)), (5, .int (nI 1)), (0, .ref b0), (1, .ref h), (2, .ref (ma 0)), (3, .ref o), (4, .int (nI i))]) (n := 433) hC dL_law_431 (by decide) rfl rfl ?_
  refine z_aload_n (n := 434) hC dL_law_433 rfl 4 rfl rfl ?_
  refine z_calli (R := room_1) (cells := 30 + 7 * j + 1) (slots := 211 + 66 * j + 6) (ws := (wH h ta sa ua T) ++ (wT ta cI b r) ++ (wS sa cI cZ sw st fa sc fi mi lf hi n) ++ (wS ua cI cZ sw2 st2 fa2 sc2 fi2 mi2 lf2 hi2 n2) ++ (wN ma cI (nI 1) n sw st b r T sc fi mi fa K) ++ (wO o cJ ov)) (n := 437) (As := []) (rest := []) hC (k_X3_thrown l G cI cZ cJ ma (nI 1) n sw st b r T sc fi mi fa K (by omega) (by omega)) kg_L_89 kd_yX3_thrown dL_law_434 ⟨Nat.le_of_ble_eq_true rfl, Nat.le_of_ble_eq_true rfl⟩ 0 rfl rfl rfl [22, 23, 24, 25, 26, 27, 28] rfl (by decide) rfl (Nat.le_of_ble_eq_true rfl) ⟨by show _ ≤ 1080188; omega, by show _ ≤ 5855541; omega⟩ (ws2 := fun u7 => (wH h ta sa ua T) ++ (wT ta cI b r) ++ (wS sa cI cZ sw st fa sc fi mi lf hi n) ++ (wS ua cI cZ sw2 st2 fa2 sc2 fi2 mi2 lf2 hi2 n2) ++ (wN ma cI (nI 1) n sw st b r T sc fi mi fa K) ++ (wO o cJ ov)) [0, 1, 2, 3, 4, 5, 6, 7, 8, 9, 10, 11, 12, 13, 14, 15, 16, 17, 18, 19, 20, 21, 29] (fun _ => rfl) ((wH h ta sa ua T) ++ (wT ta cI b r) ++ (wS sa cI cZ sw st fa sc fi mi lf hi n) ++ (wS ua cI cZ sw2 st2 fa2 sc2 fi2 mi2 lf2 hi2 n2) ++ (wO o cJ ov)) (fun _ => rfl) rfl (cv_of 30 (by decide +kernel) (fun _ => rfl)) [ma 0, ma 1, ma 2, ma 3, ma 4, ma 5, ma 6] (fun _ => rfl) rfl rfl rfl (fun r8 u7 h9 => ?_)
  subst h9
  refine z_iload (n := 439) hC dL_law_437 1 rfl rfl ?_
  refine z_icmp_eq_n (tgt := 444) (n := 442) hC 1 1 rfl rfl (by omega) (by omega) dL_law_439 (by decide) rfl (fun c10 => ?_) (fun c10 => absurd rfl c10)
  refine z_iload (n := 446) hC dL_law_444 1 rfl rfl ?_
  refine z_if_ne (tgt := 461) (n := 449) hC dL_law_446 (by decide) rfl (fun c11 => ?_) (fun c11 => absurd c11 (by decide))
  refine z_goto (n := 1448) hC dL_law_461 (by decide) ?_
  refine z_iinc (k0 := 6) (v := nI (i + 4)) (lv' := [(4, .int (nI (i + 4))), (6, .int (nI 0)), (5, .int (nI 1)), (0, .ref b0), (1, .ref h), (2, .ref (ma 0)), (3, .ref o)]) (n := 1451) hC dL_law_1448 rfl (nI_add i 4) (by decide) rfl rfl ?_
  refine z_goto (n := 23) hC dL_law_1451 (by decide) ?_
  refine z_lv [3, 4, 5, 6, 0] (lv' := [(0, .ref b0), (1, .ref h), (2, .ref (ma 0)), (3, .ref o), (4, .int (nI (i + 4)))]) rfl ?_
  refine z_wid (k1 := 30 + 7 * (j + 1)) (k2 := 211 + 66 * (j + 1)) (by omega) (by omega) ?_
  exact ih (i + 4) T b r sw st fa sc fi mi lf hi n sw2 st2 fa2 sc2 fi2 mi2 lf2 hi2 n2 (nI 1) K ov (by omega) (iv_same hI)

set_option maxRecDepth 100000 in
set_option maxHeartbeats 4000000 in
theorem c_turn (p : Program) (l : Launch) (e : Env) (s : State) (m : MethodId) (args : Array Value) (below : List Frame) (meth : Method) (c : Code) (G : va_G) (A : Nat → Prop) (Q : State → Prop) (cI cZ cJ : ClassId) (b0 h o : Nat) (ta sa ua ma : Nat → Nat) (L : Nat) (xs : Nat → Int32) (i j : Nat) (T : Nat) (b r sw st fa sc fi mi : Nat → Int32) (lf hi : Nat → Bool) (n : Nat) (sw2 st2 fa2 sc2 fi2 mi2 : Nat → Int32) (lf2 hi2 : Nat → Bool) (n2 : Nat) (th : Int32) (K : Nat → Int32) (ov : Nat → Int64)  (hW : LX p l s m args c G A cI cZ cJ b0 L xs) (hI : iv j T n b r st fa mi) (hi0 : i = 4 * j) (hiL : i + 4 ≤ L)  (ih : LPj p l e s m args below meth c G A Q cI cZ cJ b0 h o ta sa ua ma (j + 1)) : LZ p l e s m args below meth c G A Q cI cZ cJ b0 h o ta sa ua ma (30 + 7 * j) (211 + 66 * j) i 464 T b r sw st fa sc fi mi lf hi n sw2 st2 fa2 sc2 fi2 mi2 lf2 hi2 n2 th K ov := by
  obtain ⟨hC, hl, hz, hX, hb0, hbA, hL⟩ := hW
  have hj : j ≤ 511 := by omega
  obtain ⟨hn, hT0, hst, hfa0, hmi0, hb9, hr9⟩ := id hI
  have hT : T < 2 ^ 29 := by omega
  have hfa : ∀ g : Nat, inN (fa g) (2 ^ 28) := fun g => inN_mono (hfa0 g) (by omega)
  have hmi : ∀ g : Nat, inN (mi g) (2 ^ 30) := fun g => inN_mono (hmi0 g) (by omega)
  have ham : ∀ (g zt : Nat), inN (amF b r zt g) 1000 := fun g zt => am_in hb9 hr9 zt g
  unfold LZ
  refine z_aload_n (n := 465) hC dL_law_464 rfl 1 rfl rfl ?_
  refine z_calli (R := room_1) (cells := 30 + 7 * j) (slots := 211 + 66 * j) (ws := (wH h ta sa ua T) ++ (wT ta cI b r) ++ (wS sa cI cZ sw st fa sc fi mi lf hi n) ++ (wS ua cI cZ sw2 st2 fa2 sc2 fi2 mi2 lf2 hi2 n2) ++ (wN ma cI th n sw st b r T sc fi mi fa K) ++ (wO o cJ ov)) (n := 468) (As := []) (rest := []) hC (k_X2_turn l G cI cZ cJ h ta sa ua T b r sw st fa sc fi mi lf hi n sw2 st2 fa2 sc2 fi2 mi2 lf2 hi2 n2 (by omega) (by omega)) kg_L_107 kd_yX2_turn dL_law_465 ⟨Nat.le_of_ble_eq_true rfl, Nat.le_of_ble_eq_true rfl⟩ 0 rfl rfl rfl [0, 1, 2, 3, 4, 5, 6, 7, 8, 9, 10, 11, 12, 13, 14, 15, 16, 17, 18, 19, 20, 21] rfl (by decide) rfl (Nat.le_of_ble_eq_true rfl) ⟨by show _ ≤ 1080188; omega, by show _ ≤ 5855541; omega⟩ (ws2 := fun u1 => (wH h ta sa ua T) ++ (wT ta cI b r) ++ (wS sa cI cZ sw st fa sc fi mi lf hi n) ++ (wS ua cI cZ sw2 st2 fa2 sc2 fi2 mi2 lf2 hi2 n2) ++ (wN ma cI th n sw st b r T sc fi mi fa K) ++ (wO o cJ ov)) [22, 23, 24, 25, 26, 27, 28, 29] (fun _ => rfl) ((wN ma cI th n sw st b r T sc fi mi fa K) ++ (wO o cJ ov)) (fun _ => rfl) rfl (cv_of 30 (by decide +kernel) (fun _ => rfl)) [h, ta 0, ta 1, ta 2, sa 0, sa 1, sa 2, sa 3, sa 4, sa 5, sa 6, sa 7, sa 8, ua 0, ua 1, ua 2, ua 3, ua 4, ua 5, ua 6, ua 7, ua 8] (fun _ => rfl) rfl rfl rfl (fun r2 u1 h3 => ?_)
  subst h3
  refine z_aload_n (n := 469) hC dL_law_468 rfl 2 rfl rfl ?_
  refine z_calli (R := room_1) (cells := 30 + 7 * j) (slots := 211 + 66 * j) (ws := (wH h ta sa ua T) ++ (wT ta cI b r) ++ (wS sa cI cZ sw st fa sc fi mi lf hi n) ++ (wS ua cI cZ sw2 st2 fa2 sc2 fi2 mi2 lf2 hi2 n2) ++ (wN ma cI th n sw st b r T sc fi mi fa K) ++ (wO o cJ ov)) (n := 472) (As := []) (rest := [.int (nI T)]) hC (k_X3_turn l G cI cZ cJ ma th n sw st b r T sc fi mi fa K (by omega) (by omega)) kg_L_110 kd_yX3_turn dL_law_469 ⟨Nat.le_of_ble_eq_true rfl, Nat.le_of_ble_eq_true rfl⟩ 0 rfl rfl rfl [22, 23, 24, 25, 26, 27, 28] rfl (by decide) rfl (Nat.le_of_ble_eq_true rfl) ⟨by show _ ≤ 1080188; omega, by show _ ≤ 5855541; omega⟩ (ws2 := fun u4 => (wH h ta sa ua T) ++ (wT ta cI b r) ++ (wS sa cI cZ sw st fa sc fi mi lf hi n) ++ (wS ua cI cZ sw2 st2 fa2 sc2 fi2 mi2 lf2 hi2 n2) ++ (wN ma cI (nI 0) n sw st b r T sc fi mi fa K) ++ (wO o cJ ov)) [0, 1, 2, 3, 4, 5, 6, 7, 8, 9, 10, 11, 12, 13, 14, 15, 16, 17, 18, 19, 20, 21, 29] (fun _ => rfl) ((wH h ta sa ua T) ++ (wT ta cI b r) ++ (wS sa cI cZ sw st fa sc fi mi lf hi n) ++ (wS ua cI cZ sw2 st2 fa2 sc2 fi2 mi2 lf2 hi2 n2) ++ (wO o cJ ov)) (fun _ => rfl) rfl (cv_of 30 (by decide +kernel) (fun _ => rfl)) [ma 0, ma 1, ma 2, ma 3, ma 4, ma 5, ma 6] (fun _ => rfl) rfl rfl rfl (fun r5 u4 h6 => ?_)
  subst h6
  refine z_icmp_eq (tgt := 1448) (n := 475) hC dL_law_472 (by decide) rfl (fun c7 => ?_) (fun c7 => absurd rfl c7)
  refine z_iinc (k0 := 4) (v := nI (i + 4)) (lv' := [(4, .int (nI (i + 4))), (0, .ref b0), (1, .ref h), (2, .ref (ma 0)), (3, .ref o)]) (n := 1451) hC dL_law_1448 rfl (nI_add i 4) (by decide) rfl rfl ?_
  refine z_goto (n := 23) hC dL_law_1451 (by decide) ?_
  refine z_lv [1, 2, 3, 4, 0] (lv' := [(0, .ref b0), (1, .ref h), (2, .ref (ma 0)), (3, .ref o), (4, .int (nI (i + 4)))]) rfl ?_
  refine z_wid (k1 := 30 + 7 * (j + 1)) (k2 := 211 + 66 * (j + 1)) (by omega) (by omega) ?_
  exact ih (i + 4) T b r sw st fa sc fi mi lf hi n sw2 st2 fa2 sc2 fi2 mi2 lf2 hi2 n2 (nI 0) K ov (by omega) (iv_same hI)
